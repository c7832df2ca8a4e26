theorem dX3_init_0 : decode cX3_init 0 = .ok (.aload_n 0, 1) := by decide +kernel
theorem dX3_init_1 : decode cX3_init 1 = .ok (.invokespecial 3, 3) := by decide +kernel
theorem dX3_init_4 : decode cX3_init 4 = .ok (.aload_n 0, 1) := by decide +kernel
theorem dX3_init_5 : decode cX3_init 5 = .ok (.bipush 8, 2) := by decide +kernel
theorem dX3_init_7 : decode cX3_init 7 = .ok (.anewarray 9, 3) := by decide +kernel
theorem dX3_init_10 : decode cX3_init 10 = .ok (.putfield 11, 3) := by decide +kernel
theorem dX3_init_13 : decode cX3_init 13 = .ok (.aload_n 0, 1) := by decide +kernel
theorem dX3_init_14 : decode cX3_init 14 = .ok (.bipush 20, 2) := by decide +kernel
theorem dX3_init_16 : decode cX3_init 16 = .ok (.anewarray 15, 3) := by decide +kernel
theorem dX3_init_19 : decode cX3_init 19 = .ok (.putfield 17, 3) := by decide +kernel
theorem dX3_init_22 : decode cX3_init 22 = .ok (.aload_n 0, 1) := by decide +kernel
theorem dX3_init_23 : decode cX3_init 23 = .ok (.iconst 3, 1) := by decide +kernel
theorem dX3_init_24 : decode cX3_init 24 = .ok (.newarray .int, 2) := by decide +kernel
theorem dX3_init_26 : decode cX3_init 26 = .ok (.dup, 1) := by decide +kernel
theorem dX3_init_27 : decode cX3_init 27 = .ok (.iconst 0, 1) := by decide +kernel
theorem dX3_init_28 : decode cX3_init 28 = .ok (.sipush 250, 3) := by decide +kernel
theorem dX3_init_31 : decode cX3_init 31 = .ok (.iastore, 1) := by decide +kernel
theorem dX3_init_32 : decode cX3_init 32 = .ok (.dup, 1) := by decide +kernel
theorem dX3_init_33 : decode cX3_init 33 = .ok (.iconst 1, 1) := by decide +kernel
theorem dX3_init_34 : decode cX3_init 34 = .ok (.sipush 400, 3) := by decide +kernel
theorem dX3_init_37 : decode cX3_init 37 = .ok (.iastore, 1) := by decide +kernel
theorem dX3_init_38 : decode cX3_init 38 = .ok (.dup, 1) := by decide +kernel
theorem dX3_init_39 : decode cX3_init 39 = .ok (.iconst 2, 1) := by decide +kernel
theorem dX3_init_40 : decode cX3_init 40 = .ok (.sipush 600, 3) := by decide +kernel
theorem dX3_init_43 : decode cX3_init 43 = .ok (.iastore, 1) := by decide +kernel
theorem dX3_init_44 : decode cX3_init 44 = .ok (.putfield 21, 3) := by decide +kernel
theorem dX3_init_47 : decode cX3_init 47 = .ok (.aload_n 0, 1) := by decide +kernel
theorem dX3_init_48 : decode cX3_init 48 = .ok (.bipush 121, 2) := by decide +kernel
theorem dX3_init_50 : decode cX3_init 50 = .ok (.newarray .long, 2) := by decide +kernel
theorem dX3_init_52 : decode cX3_init 52 = .ok (.putfield 25, 3) := by decide +kernel
theorem dX3_init_55 : decode cX3_init 55 = .ok (.aload_n 0, 1) := by decide +kernel
theorem dX3_init_56 : decode cX3_init 56 = .ok (.new 29, 3) := by decide +kernel
theorem dX3_init_59 : decode cX3_init 59 = .ok (.dup, 1) := by decide +kernel
theorem dX3_init_60 : decode cX3_init 60 = .ok (.invokespecial 31, 3) := by decide +kernel
theorem dX3_init_63 : decode cX3_init 63 = .ok (.putfield 32, 3) := by decide +kernel
theorem dX3_init_66 : decode cX3_init 66 = .ok (.aload_n 0, 1) := by decide +kernel
theorem dX3_init_67 : decode cX3_init 67 = .ok (.iconst 0, 1) := by decide +kernel
theorem dX3_init_68 : decode cX3_init 68 = .ok (.putfield 36, 3) := by decide +kernel
theorem dX3_init_71 : decode cX3_init 71 = .ok (.aload_n 0, 1) := by decide +kernel
theorem dX3_init_72 : decode cX3_init 72 = .ok (.iconst 0, 1) := by decide +kernel
theorem dX3_init_73 : decode cX3_init 73 = .ok (.putfield 40, 3) := by decide +kernel
theorem dX3_init_76 : decode cX3_init 76 = .ok (.aload_n 0, 1) := by decide +kernel
theorem dX3_init_77 : decode cX3_init 77 = .ok (.bipush 45, 2) := by decide +kernel
theorem dX3_init_79 : decode cX3_init 79 = .ok (.putfield 43, 3) := by decide +kernel
theorem dX3_init_82 : decode cX3_init 82 = .ok (.return_, 1) := by decide +kernel
theorem dX3_flight_0 : decode cX3_flight 0 = .ok (.aload_n 0, 1) := by decide +kernel
theorem dX3_flight_1 : decode cX3_flight 1 = .ok (.getfield 36, 3) := by decide +kernel
theorem dX3_flight_4 : decode cX3_flight 4 = .ok (.bipush 8, 2) := by decide +kernel
theorem dX3_flight_6 : decode cX3_flight 6 = .ok (.if_icmp .lt 5, 3) := by decide +kernel
theorem dX3_flight_9 : decode cX3_flight 9 = .ok (.iconst (-1), 1) := by decide +kernel
theorem dX3_flight_10 : decode cX3_flight 10 = .ok (.ireturn, 1) := by decide +kernel
theorem dX3_flight_11 : decode cX3_flight 11 = .ok (.iload_n 1, 1) := by decide +kernel
theorem dX3_flight_12 : decode cX3_flight 12 = .ok (.iconst 0, 1) := by decide +kernel
theorem dX3_flight_13 : decode cX3_flight 13 = .ok (.bipush 7, 2) := by decide +kernel
theorem dX3_flight_15 : decode cX3_flight 15 = .ok (.invokestatic 46, 3) := by decide +kernel
theorem dX3_flight_18 : decode cX3_flight 18 = .ok (.ifCond .eq 18, 3) := by decide +kernel
theorem dX3_flight_21 : decode cX3_flight 21 = .ok (.iload_n 2, 1) := by decide +kernel
theorem dX3_flight_22 : decode cX3_flight 22 = .ok (.iconst 0, 1) := by decide +kernel
theorem dX3_flight_23 : decode cX3_flight 23 = .ok (.bipush 7, 2) := by decide +kernel
theorem dX3_flight_25 : decode cX3_flight 25 = .ok (.invokestatic 46, 3) := by decide +kernel
theorem dX3_flight_28 : decode cX3_flight 28 = .ok (.ifCond .eq 8, 3) := by decide +kernel
theorem dX3_flight_31 : decode cX3_flight 31 = .ok (.iload_n 1, 1) := by decide +kernel
theorem dX3_flight_32 : decode cX3_flight 32 = .ok (.iload_n 2, 1) := by decide +kernel
theorem dX3_flight_33 : decode cX3_flight 33 = .ok (.if_icmp .ne 5, 3) := by decide +kernel
theorem dX3_flight_36 : decode cX3_flight 36 = .ok (.iconst (-1), 1) := by decide +kernel
theorem dX3_flight_37 : decode cX3_flight 37 = .ok (.ireturn, 1) := by decide +kernel
theorem dX3_flight_38 : decode cX3_flight 38 = .ok (.iload_n 3, 1) := by decide +kernel
theorem dX3_flight_39 : decode cX3_flight 39 = .ok (.ifCond .lt 17, 3) := by decide +kernel
theorem dX3_flight_42 : decode cX3_flight 42 = .ok (.iload_n 3, 1) := by decide +kernel
theorem dX3_flight_43 : decode cX3_flight 43 = .ok (.iload 4, 2) := by decide +kernel
theorem dX3_flight_45 : decode cX3_flight 45 = .ok (.if_icmp .ge 11, 3) := by decide +kernel
theorem dX3_flight_48 : decode cX3_flight 48 = .ok (.iload 4, 2) := by decide +kernel
theorem dX3_flight_50 : decode cX3_flight 50 = .ok (.sipush 9999, 3) := by decide +kernel
theorem dX3_flight_53 : decode cX3_flight 53 = .ok (.if_icmp .le 5, 3) := by decide +kernel
theorem dX3_flight_56 : decode cX3_flight 56 = .ok (.iconst (-1), 1) := by decide +kernel
theorem dX3_flight_57 : decode cX3_flight 57 = .ok (.ireturn, 1) := by decide +kernel
theorem dX3_flight_58 : decode cX3_flight 58 = .ok (.iload 5, 2) := by decide +kernel
theorem dX3_flight_60 : decode cX3_flight 60 = .ok (.iconst 1, 1) := by decide +kernel
theorem dX3_flight_61 : decode cX3_flight 61 = .ok (.bipush 40, 2) := by decide +kernel
theorem dX3_flight_63 : decode cX3_flight 63 = .ok (.invokestatic 46, 3) := by decide +kernel
theorem dX3_flight_66 : decode cX3_flight 66 = .ok (.ifCond .eq 15, 3) := by decide +kernel
theorem dX3_flight_69 : decode cX3_flight 69 = .ok (.iload 6, 2) := by decide +kernel
theorem dX3_flight_71 : decode cX3_flight 71 = .ok (.iconst 1, 1) := by decide +kernel
theorem dX3_flight_72 : decode cX3_flight 72 = .ok (.sipush 9999, 3) := by decide +kernel
theorem dX3_flight_75 : decode cX3_flight 75 = .ok (.invokestatic 46, 3) := by decide +kernel
theorem dX3_flight_78 : decode cX3_flight 78 = .ok (.ifCond .ne 5, 3) := by decide +kernel
theorem dX3_flight_81 : decode cX3_flight 81 = .ok (.iconst (-1), 1) := by decide +kernel
theorem dX3_flight_82 : decode cX3_flight 82 = .ok (.ireturn, 1) := by decide +kernel
theorem dX3_flight_83 : decode cX3_flight 83 = .ok (.aload_n 0, 1) := by decide +kernel
theorem dX3_flight_84 : decode cX3_flight 84 = .ok (.getfield 36, 3) := by decide +kernel
theorem dX3_flight_87 : decode cX3_flight 87 = .ok (.istore 7, 2) := by decide +kernel
theorem dX3_flight_89 : decode cX3_flight 89 = .ok (.aload_n 0, 1) := by decide +kernel
theorem dX3_flight_90 : decode cX3_flight 90 = .ok (.getfield 11, 3) := by decide +kernel
theorem dX3_flight_93 : decode cX3_flight 93 = .ok (.iload 7, 2) := by decide +kernel
theorem dX3_flight_95 : decode cX3_flight 95 = .ok (.new 9, 3) := by decide +kernel
theorem dX3_flight_98 : decode cX3_flight 98 = .ok (.dup, 1) := by decide +kernel
theorem dX3_flight_99 : decode cX3_flight 99 = .ok (.iload 7, 2) := by decide +kernel
theorem dX3_flight_101 : decode cX3_flight 101 = .ok (.iload_n 1, 1) := by decide +kernel
theorem dX3_flight_102 : decode cX3_flight 102 = .ok (.iload_n 2, 1) := by decide +kernel
theorem dX3_flight_103 : decode cX3_flight 103 = .ok (.iload_n 3, 1) := by decide +kernel
theorem dX3_flight_104 : decode cX3_flight 104 = .ok (.iload 4, 2) := by decide +kernel
theorem dX3_flight_106 : decode cX3_flight 106 = .ok (.iload 5, 2) := by decide +kernel
theorem dX3_flight_108 : decode cX3_flight 108 = .ok (.iload 6, 2) := by decide +kernel
theorem dX3_flight_110 : decode cX3_flight 110 = .ok (.invokespecial 50, 3) := by decide +kernel
theorem dX3_flight_113 : decode cX3_flight 113 = .ok (.aastore, 1) := by decide +kernel
theorem dX3_flight_114 : decode cX3_flight 114 = .ok (.aload_n 0, 1) := by decide +kernel
theorem dX3_flight_115 : decode cX3_flight 115 = .ok (.dup, 1) := by decide +kernel
theorem dX3_flight_116 : decode cX3_flight 116 = .ok (.getfield 36, 3) := by decide +kernel
theorem dX3_flight_119 : decode cX3_flight 119 = .ok (.iconst 1, 1) := by decide +kernel
theorem dX3_flight_120 : decode cX3_flight 120 = .ok (.iadd, 1) := by decide +kernel
theorem dX3_flight_121 : decode cX3_flight 121 = .ok (.putfield 36, 3) := by decide +kernel
theorem dX3_flight_124 : decode cX3_flight 124 = .ok (.iload 7, 2) := by decide +kernel
theorem dX3_flight_126 : decode cX3_flight 126 = .ok (.ireturn, 1) := by decide +kernel
theorem dX3_off_0 : decode cX3_off 0 = .ok (.aload_n 0, 1) := by decide +kernel
theorem dX3_off_1 : decode cX3_off 1 = .ok (.iload_n 1, 1) := by decide +kernel
theorem dX3_off_2 : decode cX3_off 2 = .ok (.invokevirtual 53, 3) := by decide +kernel
theorem dX3_off_5 : decode cX3_off 5 = .ok (.astore_n 3, 1) := by decide +kernel
theorem dX3_off_6 : decode cX3_off 6 = .ok (.aload_n 3, 1) := by decide +kernel
theorem dX3_off_7 : decode cX3_off 7 = .ok (.ifnonnull 5, 3) := by decide +kernel
theorem dX3_off_10 : decode cX3_off 10 = .ok (.iconst 0, 1) := by decide +kernel
theorem dX3_off_11 : decode cX3_off 11 = .ok (.ireturn, 1) := by decide +kernel
theorem dX3_off_12 : decode cX3_off 12 = .ok (.aload_n 3, 1) := by decide +kernel
theorem dX3_off_13 : decode cX3_off 13 = .ok (.iload_n 2, 1) := by decide +kernel
theorem dX3_off_14 : decode cX3_off 14 = .ok (.putfield 57, 3) := by decide +kernel
theorem dX3_off_17 : decode cX3_off 17 = .ok (.iconst 1, 1) := by decide +kernel
theorem dX3_off_18 : decode cX3_off 18 = .ok (.ireturn, 1) := by decide +kernel
theorem dX3_party_0 : decode cX3_party 0 = .ok (.aload_n 0, 1) := by decide +kernel
theorem dX3_party_1 : decode cX3_party 1 = .ok (.iload_n 1, 1) := by decide +kernel
theorem dX3_party_2 : decode cX3_party 2 = .ok (.invokevirtual 53, 3) := by decide +kernel
theorem dX3_party_5 : decode cX3_party 5 = .ok (.astore 6, 2) := by decide +kernel
theorem dX3_party_7 : decode cX3_party 7 = .ok (.aload 6, 2) := by decide +kernel
theorem dX3_party_9 : decode cX3_party 9 = .ok (.ifnull 12, 3) := by decide +kernel
theorem dX3_party_12 : decode cX3_party 12 = .ok (.aload_n 0, 1) := by decide +kernel
theorem dX3_party_13 : decode cX3_party 13 = .ok (.getfield 40, 3) := by decide +kernel
theorem dX3_party_16 : decode cX3_party 16 = .ok (.bipush 20, 2) := by decide +kernel
theorem dX3_party_18 : decode cX3_party 18 = .ok (.if_icmp .lt 5, 3) := by decide +kernel
theorem dX3_party_21 : decode cX3_party 21 = .ok (.iconst (-1), 1) := by decide +kernel
theorem dX3_party_22 : decode cX3_party 22 = .ok (.ireturn, 1) := by decide +kernel
theorem dX3_party_23 : decode cX3_party 23 = .ok (.iload_n 2, 1) := by decide +kernel
theorem dX3_party_24 : decode cX3_party 24 = .ok (.iconst 1, 1) := by decide +kernel
theorem dX3_party_25 : decode cX3_party 25 = .ok (.bipush 6, 2) := by decide +kernel
theorem dX3_party_27 : decode cX3_party 27 = .ok (.invokestatic 46, 3) := by decide +kernel
theorem dX3_party_30 : decode cX3_party 30 = .ok (.ifCond .eq 25, 3) := by decide +kernel
theorem dX3_party_33 : decode cX3_party 33 = .ok (.iload_n 3, 1) := by decide +kernel
theorem dX3_party_34 : decode cX3_party 34 = .ok (.iconst 0, 1) := by decide +kernel
theorem dX3_party_35 : decode cX3_party 35 = .ok (.bipush 9, 2) := by decide +kernel
theorem dX3_party_37 : decode cX3_party 37 = .ok (.invokestatic 46, 3) := by decide +kernel
theorem dX3_party_40 : decode cX3_party 40 = .ok (.ifCond .eq 15, 3) := by decide +kernel
theorem dX3_party_43 : decode cX3_party 43 = .ok (.iload 4, 2) := by decide +kernel
theorem dX3_party_45 : decode cX3_party 45 = .ok (.iconst (-1), 1) := by decide +kernel
theorem dX3_party_46 : decode cX3_party 46 = .ok (.sipush 999, 3) := by decide +kernel
theorem dX3_party_49 : decode cX3_party 49 = .ok (.invokestatic 46, 3) := by decide +kernel
theorem dX3_party_52 : decode cX3_party 52 = .ok (.ifCond .ne 5, 3) := by decide +kernel
theorem dX3_party_55 : decode cX3_party 55 = .ok (.iconst (-1), 1) := by decide +kernel
theorem dX3_party_56 : decode cX3_party 56 = .ok (.ireturn, 1) := by decide +kernel
theorem dX3_party_57 : decode cX3_party 57 = .ok (.aload_n 0, 1) := by decide +kernel
theorem dX3_party_58 : decode cX3_party 58 = .ok (.getfield 40, 3) := by decide +kernel
theorem dX3_party_61 : decode cX3_party 61 = .ok (.istore 7, 2) := by decide +kernel
theorem dX3_party_63 : decode cX3_party 63 = .ok (.aload_n 0, 1) := by decide +kernel
theorem dX3_party_64 : decode cX3_party 64 = .ok (.getfield 17, 3) := by decide +kernel
theorem dX3_party_67 : decode cX3_party 67 = .ok (.iload 7, 2) := by decide +kernel
theorem dX3_party_69 : decode cX3_party 69 = .ok (.new 15, 3) := by decide +kernel
theorem dX3_party_72 : decode cX3_party 72 = .ok (.dup, 1) := by decide +kernel
theorem dX3_party_73 : decode cX3_party 73 = .ok (.aload 6, 2) := by decide +kernel
theorem dX3_party_75 : decode cX3_party 75 = .ok (.iload_n 2, 1) := by decide +kernel
theorem dX3_party_76 : decode cX3_party 76 = .ok (.iload_n 3, 1) := by decide +kernel
theorem dX3_party_77 : decode cX3_party 77 = .ok (.iload 4, 2) := by decide +kernel
theorem dX3_party_79 : decode cX3_party 79 = .ok (.iload 5, 2) := by decide +kernel
theorem dX3_party_81 : decode cX3_party 81 = .ok (.invokespecial 61, 3) := by decide +kernel
theorem dX3_party_84 : decode cX3_party 84 = .ok (.aastore, 1) := by decide +kernel
theorem dX3_party_85 : decode cX3_party 85 = .ok (.aload_n 0, 1) := by decide +kernel
theorem dX3_party_86 : decode cX3_party 86 = .ok (.dup, 1) := by decide +kernel
theorem dX3_party_87 : decode cX3_party 87 = .ok (.getfield 40, 3) := by decide +kernel
theorem dX3_party_90 : decode cX3_party 90 = .ok (.iconst 1, 1) := by decide +kernel
theorem dX3_party_91 : decode cX3_party 91 = .ok (.iadd, 1) := by decide +kernel
theorem dX3_party_92 : decode cX3_party 92 = .ok (.putfield 40, 3) := by decide +kernel
theorem dX3_party_95 : decode cX3_party 95 = .ok (.iload 7, 2) := by decide +kernel
theorem dX3_party_97 : decode cX3_party 97 = .ok (.ireturn, 1) := by decide +kernel
theorem dX3_set_0 : decode cX3_set 0 = .ok (.iload_n 1, 1) := by decide +kernel
theorem dX3_set_1 : decode cX3_set 1 = .ok (.ifCond .ne 9, 3) := by decide +kernel
theorem dX3_set_4 : decode cX3_set 4 = .ok (.aload_n 0, 1) := by decide +kernel
theorem dX3_set_5 : decode cX3_set 5 = .ok (.iload_n 2, 1) := by decide +kernel
theorem dX3_set_6 : decode cX3_set 6 = .ok (.invokevirtual 64, 3) := by decide +kernel
theorem dX3_set_9 : decode cX3_set 9 = .ok (.ireturn, 1) := by decide +kernel
theorem dX3_set_10 : decode cX3_set 10 = .ok (.iload_n 1, 1) := by decide +kernel
theorem dX3_set_11 : decode cX3_set 11 = .ok (.iconst 1, 1) := by decide +kernel
theorem dX3_set_12 : decode cX3_set 12 = .ok (.isub, 1) := by decide +kernel
theorem dX3_set_13 : decode cX3_set 13 = .ok (.istore_n 3, 1) := by decide +kernel
theorem dX3_set_14 : decode cX3_set 14 = .ok (.iload_n 3, 1) := by decide +kernel
theorem dX3_set_15 : decode cX3_set 15 = .ok (.ifCond .lt 23, 3) := by decide +kernel
theorem dX3_set_18 : decode cX3_set 18 = .ok (.iload_n 3, 1) := by decide +kernel
theorem dX3_set_19 : decode cX3_set 19 = .ok (.aload_n 0, 1) := by decide +kernel
theorem dX3_set_20 : decode cX3_set 20 = .ok (.getfield 21, 3) := by decide +kernel
theorem dX3_set_23 : decode cX3_set 23 = .ok (.arraylength, 1) := by decide +kernel
theorem dX3_set_24 : decode cX3_set 24 = .ok (.if_icmp .ge 14, 3) := by decide +kernel
theorem dX3_set_27 : decode cX3_set 27 = .ok (.iload_n 2, 1) := by decide +kernel
theorem dX3_set_28 : decode cX3_set 28 = .ok (.iconst 0, 1) := by decide +kernel
theorem dX3_set_29 : decode cX3_set 29 = .ok (.sipush 9999, 3) := by decide +kernel
theorem dX3_set_32 : decode cX3_set 32 = .ok (.invokestatic 46, 3) := by decide +kernel
theorem dX3_set_35 : decode cX3_set 35 = .ok (.ifCond .ne 5, 3) := by decide +kernel
theorem dX3_set_38 : decode cX3_set 38 = .ok (.iconst (-1), 1) := by decide +kernel
theorem dX3_set_39 : decode cX3_set 39 = .ok (.ireturn, 1) := by decide +kernel
theorem dX3_set_40 : decode cX3_set 40 = .ok (.aload_n 0, 1) := by decide +kernel
theorem dX3_set_41 : decode cX3_set 41 = .ok (.getfield 21, 3) := by decide +kernel
theorem dX3_set_44 : decode cX3_set 44 = .ok (.iload_n 3, 1) := by decide +kernel
theorem dX3_set_45 : decode cX3_set 45 = .ok (.iaload, 1) := by decide +kernel
theorem dX3_set_46 : decode cX3_set 46 = .ok (.istore 4, 2) := by decide +kernel
theorem dX3_set_48 : decode cX3_set 48 = .ok (.aload_n 0, 1) := by decide +kernel
theorem dX3_set_49 : decode cX3_set 49 = .ok (.getfield 21, 3) := by decide +kernel
theorem dX3_set_52 : decode cX3_set 52 = .ok (.iload_n 3, 1) := by decide +kernel
theorem dX3_set_53 : decode cX3_set 53 = .ok (.iload_n 2, 1) := by decide +kernel
theorem dX3_set_54 : decode cX3_set 54 = .ok (.iastore, 1) := by decide +kernel
theorem dX3_set_55 : decode cX3_set 55 = .ok (.iload 4, 2) := by decide +kernel
theorem dX3_set_57 : decode cX3_set 57 = .ok (.ireturn, 1) := by decide +kernel
theorem dX3_told_0 : decode cX3_told 0 = .ok (.aload_n 0, 1) := by decide +kernel
theorem dX3_told_1 : decode cX3_told 1 = .ok (.iload_n 1, 1) := by decide +kernel
theorem dX3_told_2 : decode cX3_told 2 = .ok (.invokevirtual 53, 3) := by decide +kernel
theorem dX3_told_5 : decode cX3_told 5 = .ok (.astore_n 3, 1) := by decide +kernel
theorem dX3_told_6 : decode cX3_told 6 = .ok (.aload_n 3, 1) := by decide +kernel
theorem dX3_told_7 : decode cX3_told 7 = .ok (.ifnonnull 5, 3) := by decide +kernel
theorem dX3_told_10 : decode cX3_told 10 = .ok (.iconst (-1), 1) := by decide +kernel
theorem dX3_told_11 : decode cX3_told 11 = .ok (.ireturn, 1) := by decide +kernel
theorem dX3_told_12 : decode cX3_told 12 = .ok (.iload_n 2, 1) := by decide +kernel
theorem dX3_told_13 : decode cX3_told 13 = .ok (.tableswitch 71 0 4 #[35, 41, 47, 52, 65], 35) := by decide +kernel
theorem dX3_told_48 : decode cX3_told 48 = .ok (.aload_n 0, 1) := by decide +kernel
theorem dX3_told_49 : decode cX3_told 49 = .ok (.aload_n 3, 1) := by decide +kernel
theorem dX3_told_50 : decode cX3_told 50 = .ok (.invokevirtual 68, 3) := by decide +kernel
theorem dX3_told_53 : decode cX3_told 53 = .ok (.ireturn, 1) := by decide +kernel
theorem dX3_told_54 : decode cX3_told 54 = .ok (.aload_n 0, 1) := by decide +kernel
theorem dX3_told_55 : decode cX3_told 55 = .ok (.aload_n 3, 1) := by decide +kernel
theorem dX3_told_56 : decode cX3_told 56 = .ok (.invokevirtual 72, 3) := by decide +kernel
theorem dX3_told_59 : decode cX3_told 59 = .ok (.ireturn, 1) := by decide +kernel
theorem dX3_told_60 : decode cX3_told 60 = .ok (.aload_n 3, 1) := by decide +kernel
theorem dX3_told_61 : decode cX3_told 61 = .ok (.getfield 75, 3) := by decide +kernel
theorem dX3_told_64 : decode cX3_told 64 = .ok (.ireturn, 1) := by decide +kernel
theorem dX3_told_65 : decode cX3_told 65 = .ok (.aload_n 3, 1) := by decide +kernel
theorem dX3_told_66 : decode cX3_told 66 = .ok (.getfield 57, 3) := by decide +kernel
theorem dX3_told_69 : decode cX3_told 69 = .ok (.ifCond .eq 7, 3) := by decide +kernel
theorem dX3_told_72 : decode cX3_told 72 = .ok (.iconst 1, 1) := by decide +kernel
theorem dX3_told_73 : decode cX3_told 73 = .ok (.goto 4, 3) := by decide +kernel
theorem dX3_told_76 : decode cX3_told 76 = .ok (.iconst 0, 1) := by decide +kernel
theorem dX3_told_77 : decode cX3_told 77 = .ok (.ireturn, 1) := by decide +kernel
theorem dX3_told_78 : decode cX3_told 78 = .ok (.aload_n 0, 1) := by decide +kernel
theorem dX3_told_79 : decode cX3_told 79 = .ok (.aload_n 3, 1) := by decide +kernel
theorem dX3_told_80 : decode cX3_told 80 = .ok (.invokevirtual 78, 3) := by decide +kernel
theorem dX3_told_83 : decode cX3_told 83 = .ok (.ireturn, 1) := by decide +kernel
theorem dX3_told_84 : decode cX3_told 84 = .ok (.iconst (-1), 1) := by decide +kernel
theorem dX3_told_85 : decode cX3_told 85 = .ok (.ireturn, 1) := by decide +kernel
theorem dX3_of_0 : decode cX3_of 0 = .ok (.aload_n 0, 1) := by decide +kernel
theorem dX3_of_1 : decode cX3_of 1 = .ok (.iload_n 1, 1) := by decide +kernel
theorem dX3_of_2 : decode cX3_of 2 = .ok (.invokevirtual 81, 3) := by decide +kernel
theorem dX3_of_5 : decode cX3_of 5 = .ok (.astore_n 3, 1) := by decide +kernel
theorem dX3_of_6 : decode cX3_of 6 = .ok (.aload_n 3, 1) := by decide +kernel
theorem dX3_of_7 : decode cX3_of 7 = .ok (.ifnonnull 13, 3) := by decide +kernel
theorem dX3_of_10 : decode cX3_of 10 = .ok (.new 85, 3) := by decide +kernel
theorem dX3_of_13 : decode cX3_of 13 = .ok (.dup, 1) := by decide +kernel
theorem dX3_of_14 : decode cX3_of 14 = .ok (.ldc 87, 2) := by decide +kernel
theorem dX3_of_16 : decode cX3_of 16 = .ok (.invokespecial 89, 3) := by decide +kernel
theorem dX3_of_19 : decode cX3_of 19 = .ok (.athrow, 1) := by decide +kernel
theorem dX3_of_20 : decode cX3_of 20 = .ok (.iload_n 2, 1) := by decide +kernel
theorem dX3_of_21 : decode cX3_of 21 = .ok (.tableswitch 97 0 7 #[47, 52, 60, 65, 70, 78, 86, 91], 47) := by decide +kernel
theorem dX3_of_68 : decode cX3_of 68 = .ok (.aload_n 3, 1) := by decide +kernel
theorem dX3_of_69 : decode cX3_of 69 = .ok (.getfield 92, 3) := by decide +kernel
theorem dX3_of_72 : decode cX3_of 72 = .ok (.ireturn, 1) := by decide +kernel
theorem dX3_of_73 : decode cX3_of 73 = .ok (.aload_n 3, 1) := by decide +kernel
theorem dX3_of_74 : decode cX3_of 74 = .ok (.getfield 95, 3) := by decide +kernel
theorem dX3_of_77 : decode cX3_of 77 = .ok (.getfield 99, 3) := by decide +kernel
theorem dX3_of_80 : decode cX3_of 80 = .ok (.ireturn, 1) := by decide +kernel
theorem dX3_of_81 : decode cX3_of 81 = .ok (.aload_n 3, 1) := by decide +kernel
theorem dX3_of_82 : decode cX3_of 82 = .ok (.getfield 102, 3) := by decide +kernel
theorem dX3_of_85 : decode cX3_of 85 = .ok (.ireturn, 1) := by decide +kernel
theorem dX3_of_86 : decode cX3_of 86 = .ok (.aload_n 3, 1) := by decide +kernel
theorem dX3_of_87 : decode cX3_of 87 = .ok (.getfield 105, 3) := by decide +kernel
theorem dX3_of_90 : decode cX3_of 90 = .ok (.ireturn, 1) := by decide +kernel
theorem dX3_of_91 : decode cX3_of 91 = .ok (.aload_n 3, 1) := by decide +kernel
theorem dX3_of_92 : decode cX3_of 92 = .ok (.getfield 108, 3) := by decide +kernel
theorem dX3_of_95 : decode cX3_of 95 = .ok (.invokestatic 111, 3) := by decide +kernel
theorem dX3_of_98 : decode cX3_of 98 = .ok (.ireturn, 1) := by decide +kernel
theorem dX3_of_99 : decode cX3_of 99 = .ok (.aload_n 3, 1) := by decide +kernel
theorem dX3_of_100 : decode cX3_of 100 = .ok (.getfield 114, 3) := by decide +kernel
theorem dX3_of_103 : decode cX3_of 103 = .ok (.invokestatic 111, 3) := by decide +kernel
theorem dX3_of_106 : decode cX3_of 106 = .ok (.ireturn, 1) := by decide +kernel
theorem dX3_of_107 : decode cX3_of 107 = .ok (.aload_n 3, 1) := by decide +kernel
theorem dX3_of_108 : decode cX3_of 108 = .ok (.invokevirtual 117, 3) := by decide +kernel
theorem dX3_of_111 : decode cX3_of 111 = .ok (.ireturn, 1) := by decide +kernel
theorem dX3_of_112 : decode cX3_of 112 = .ok (.aload_n 0, 1) := by decide +kernel
theorem dX3_of_113 : decode cX3_of 113 = .ok (.aload_n 3, 1) := by decide +kernel
theorem dX3_of_114 : decode cX3_of 114 = .ok (.invokevirtual 121, 3) := by decide +kernel
theorem dX3_of_117 : decode cX3_of 117 = .ok (.ireturn, 1) := by decide +kernel
theorem dX3_of_118 : decode cX3_of 118 = .ok (.new 85, 3) := by decide +kernel
theorem dX3_of_121 : decode cX3_of 121 = .ok (.dup, 1) := by decide +kernel
theorem dX3_of_122 : decode cX3_of 122 = .ok (.ldc 125, 2) := by decide +kernel
theorem dX3_of_124 : decode cX3_of 124 = .ok (.invokespecial 89, 3) := by decide +kernel
theorem dX3_of_127 : decode cX3_of 127 = .ok (.athrow, 1) := by decide +kernel
theorem dX3_count_0 : decode cX3_count 0 = .ok (.iload_n 1, 1) := by decide +kernel
theorem dX3_count_1 : decode cX3_count 1 = .ok (.tableswitch 80 0 6 #[43, 48, 53, 58, 64, 70, 75], 43) := by decide +kernel
theorem dX3_count_44 : decode cX3_count 44 = .ok (.aload_n 0, 1) := by decide +kernel
theorem dX3_count_45 : decode cX3_count 45 = .ok (.getfield 36, 3) := by decide +kernel
theorem dX3_count_48 : decode cX3_count 48 = .ok (.ireturn, 1) := by decide +kernel
theorem dX3_count_49 : decode cX3_count 49 = .ok (.aload_n 0, 1) := by decide +kernel
theorem dX3_count_50 : decode cX3_count 50 = .ok (.getfield 40, 3) := by decide +kernel
theorem dX3_count_53 : decode cX3_count 53 = .ok (.ireturn, 1) := by decide +kernel
theorem dX3_count_54 : decode cX3_count 54 = .ok (.aload_n 0, 1) := by decide +kernel
theorem dX3_count_55 : decode cX3_count 55 = .ok (.invokevirtual 127, 3) := by decide +kernel
theorem dX3_count_58 : decode cX3_count 58 = .ok (.ireturn, 1) := by decide +kernel
theorem dX3_count_59 : decode cX3_count 59 = .ok (.aload_n 0, 1) := by decide +kernel
theorem dX3_count_60 : decode cX3_count 60 = .ok (.iconst 1, 1) := by decide +kernel
theorem dX3_count_61 : decode cX3_count 61 = .ok (.invokevirtual 130, 3) := by decide +kernel
theorem dX3_count_64 : decode cX3_count 64 = .ok (.ireturn, 1) := by decide +kernel
theorem dX3_count_65 : decode cX3_count 65 = .ok (.aload_n 0, 1) := by decide +kernel
theorem dX3_count_66 : decode cX3_count 66 = .ok (.iconst 2, 1) := by decide +kernel
theorem dX3_count_67 : decode cX3_count 67 = .ok (.invokevirtual 130, 3) := by decide +kernel
theorem dX3_count_70 : decode cX3_count 70 = .ok (.ireturn, 1) := by decide +kernel
theorem dX3_count_71 : decode cX3_count 71 = .ok (.aload_n 0, 1) := by decide +kernel
theorem dX3_count_72 : decode cX3_count 72 = .ok (.invokevirtual 133, 3) := by decide +kernel
theorem dX3_count_75 : decode cX3_count 75 = .ok (.ireturn, 1) := by decide +kernel
theorem dX3_count_76 : decode cX3_count 76 = .ok (.aload_n 0, 1) := by decide +kernel
theorem dX3_count_77 : decode cX3_count 77 = .ok (.invokevirtual 136, 3) := by decide +kernel
theorem dX3_count_80 : decode cX3_count 80 = .ok (.ireturn, 1) := by decide +kernel
theorem dX3_count_81 : decode cX3_count 81 = .ok (.iconst (-1), 1) := by decide +kernel
theorem dX3_count_82 : decode cX3_count 82 = .ok (.ireturn, 1) := by decide +kernel
theorem dX3_cost_0 : decode cX3_cost 0 = .ok (.aload_n 0, 1) := by decide +kernel
theorem dX3_cost_1 : decode cX3_cost 1 = .ok (.iload_n 1, 1) := by decide +kernel
theorem dX3_cost_2 : decode cX3_cost 2 = .ok (.invokevirtual 53, 3) := by decide +kernel
theorem dX3_cost_5 : decode cX3_cost 5 = .ok (.astore_n 2, 1) := by decide +kernel
theorem dX3_cost_6 : decode cX3_cost 6 = .ok (.aload_n 2, 1) := by decide +kernel
theorem dX3_cost_7 : decode cX3_cost 7 = .ok (.ifnonnull 5, 3) := by decide +kernel
theorem dX3_cost_10 : decode cX3_cost 10 = .ok (.iconst (-1), 1) := by decide +kernel
theorem dX3_cost_11 : decode cX3_cost 11 = .ok (.ireturn, 1) := by decide +kernel
theorem dX3_cost_12 : decode cX3_cost 12 = .ok (.aload_n 0, 1) := by decide +kernel
theorem dX3_cost_13 : decode cX3_cost 13 = .ok (.aload_n 2, 1) := by decide +kernel
theorem dX3_cost_14 : decode cX3_cost 14 = .ok (.aload_n 0, 1) := by decide +kernel
theorem dX3_cost_15 : decode cX3_cost 15 = .ok (.aload_n 2, 1) := by decide +kernel
theorem dX3_cost_16 : decode cX3_cost 16 = .ok (.invokevirtual 72, 3) := by decide +kernel
theorem dX3_cost_19 : decode cX3_cost 19 = .ok (.invokevirtual 139, 3) := by decide +kernel
theorem dX3_cost_22 : decode cX3_cost 22 = .ok (.lstore_n 3, 1) := by decide +kernel
theorem dX3_cost_23 : decode cX3_cost 23 = .ok (.lload_n 3, 1) := by decide +kernel
theorem dX3_cost_24 : decode cX3_cost 24 = .ok (.lconst 0, 1) := by decide +kernel
theorem dX3_cost_25 : decode cX3_cost 25 = .ok (.lcmp, 1) := by decide +kernel
theorem dX3_cost_26 : decode cX3_cost 26 = .ok (.ifCond .ge 8, 3) := by decide +kernel
theorem dX3_cost_29 : decode cX3_cost 29 = .ok (.bipush (-2), 2) := by decide +kernel
theorem dX3_cost_31 : decode cX3_cost 31 = .ok (.goto 7, 3) := by decide +kernel
theorem dX3_cost_34 : decode cX3_cost 34 = .ok (.lload_n 3, 1) := by decide +kernel
theorem dX3_cost_35 : decode cX3_cost 35 = .ok (.invokestatic 143, 3) := by decide +kernel
theorem dX3_cost_38 : decode cX3_cost 38 = .ok (.ireturn, 1) := by decide +kernel
theorem dX3_buy_0 : decode cX3_buy 0 = .ok (.aload_n 0, 1) := by decide +kernel
theorem dX3_buy_1 : decode cX3_buy 1 = .ok (.iload_n 1, 1) := by decide +kernel
theorem dX3_buy_2 : decode cX3_buy 2 = .ok (.invokevirtual 53, 3) := by decide +kernel
theorem dX3_buy_5 : decode cX3_buy 5 = .ok (.astore_n 2, 1) := by decide +kernel
theorem dX3_buy_6 : decode cX3_buy 6 = .ok (.aload_n 2, 1) := by decide +kernel
theorem dX3_buy_7 : decode cX3_buy 7 = .ok (.ifnonnull 5, 3) := by decide +kernel
theorem dX3_buy_10 : decode cX3_buy 10 = .ok (.iconst (-1), 1) := by decide +kernel
theorem dX3_buy_11 : decode cX3_buy 11 = .ok (.ireturn, 1) := by decide +kernel
theorem dX3_buy_12 : decode cX3_buy 12 = .ok (.aload_n 0, 1) := by decide +kernel
theorem dX3_buy_13 : decode cX3_buy 13 = .ok (.aload_n 2, 1) := by decide +kernel
theorem dX3_buy_14 : decode cX3_buy 14 = .ok (.aload_n 0, 1) := by decide +kernel
theorem dX3_buy_15 : decode cX3_buy 15 = .ok (.aload_n 2, 1) := by decide +kernel
theorem dX3_buy_16 : decode cX3_buy 16 = .ok (.invokevirtual 72, 3) := by decide +kernel
theorem dX3_buy_19 : decode cX3_buy 19 = .ok (.invokevirtual 139, 3) := by decide +kernel
theorem dX3_buy_22 : decode cX3_buy 22 = .ok (.lstore_n 3, 1) := by decide +kernel
theorem dX3_buy_23 : decode cX3_buy 23 = .ok (.lload_n 3, 1) := by decide +kernel
theorem dX3_buy_24 : decode cX3_buy 24 = .ok (.lconst 0, 1) := by decide +kernel
theorem dX3_buy_25 : decode cX3_buy 25 = .ok (.lcmp, 1) := by decide +kernel
theorem dX3_buy_26 : decode cX3_buy 26 = .ok (.ifCond .ge 6, 3) := by decide +kernel
theorem dX3_buy_29 : decode cX3_buy 29 = .ok (.bipush (-2), 2) := by decide +kernel
theorem dX3_buy_31 : decode cX3_buy 31 = .ok (.ireturn, 1) := by decide +kernel
theorem dX3_buy_32 : decode cX3_buy 32 = .ok (.iconst 0, 1) := by decide +kernel
theorem dX3_buy_33 : decode cX3_buy 33 = .ok (.istore 5, 2) := by decide +kernel
theorem dX3_buy_35 : decode cX3_buy 35 = .ok (.iload 5, 2) := by decide +kernel
theorem dX3_buy_37 : decode cX3_buy 37 = .ok (.aload_n 0, 1) := by decide +kernel
theorem dX3_buy_38 : decode cX3_buy 38 = .ok (.getfield 40, 3) := by decide +kernel
theorem dX3_buy_41 : decode cX3_buy 41 = .ok (.if_icmp .ge 39, 3) := by decide +kernel
theorem dX3_buy_44 : decode cX3_buy 44 = .ok (.lload_n 3, 1) := by decide +kernel
theorem dX3_buy_45 : decode cX3_buy 45 = .ok (.iload 5, 2) := by decide +kernel
theorem dX3_buy_47 : decode cX3_buy 47 = .ok (.invokestatic 147, 3) := by decide +kernel
theorem dX3_buy_50 : decode cX3_buy 50 = .ok (.ifCond .eq 24, 3) := by decide +kernel
theorem dX3_buy_53 : decode cX3_buy 53 = .ok (.aload_n 0, 1) := by decide +kernel
theorem dX3_buy_54 : decode cX3_buy 54 = .ok (.getfield 17, 3) := by decide +kernel
theorem dX3_buy_57 : decode cX3_buy 57 = .ok (.iload 5, 2) := by decide +kernel
theorem dX3_buy_59 : decode cX3_buy 59 = .ok (.aaload, 1) := by decide +kernel
theorem dX3_buy_60 : decode cX3_buy 60 = .ok (.iconst 1, 1) := by decide +kernel
theorem dX3_buy_61 : decode cX3_buy 61 = .ok (.aload_n 0, 1) := by decide +kernel
theorem dX3_buy_62 : decode cX3_buy 62 = .ok (.getfield 17, 3) := by decide +kernel
theorem dX3_buy_65 : decode cX3_buy 65 = .ok (.iload 5, 2) := by decide +kernel
theorem dX3_buy_67 : decode cX3_buy 67 = .ok (.aaload, 1) := by decide +kernel
theorem dX3_buy_68 : decode cX3_buy 68 = .ok (.getfield 151, 3) := by decide +kernel
theorem dX3_buy_71 : decode cX3_buy 71 = .ok (.invokevirtual 154, 3) := by decide +kernel
theorem dX3_buy_74 : decode cX3_buy 74 = .ok (.iinc 5 1, 3) := by decide +kernel
theorem dX3_buy_77 : decode cX3_buy 77 = .ok (.goto (-42), 3) := by decide +kernel
theorem dX3_buy_80 : decode cX3_buy 80 = .ok (.lload_n 3, 1) := by decide +kernel
theorem dX3_buy_81 : decode cX3_buy 81 = .ok (.invokestatic 143, 3) := by decide +kernel
theorem dX3_buy_84 : decode cX3_buy 84 = .ok (.ireturn, 1) := by decide +kernel
theorem dX3_rounds_0 : decode cX3_rounds 0 = .ok (.aload_n 0, 1) := by decide +kernel
theorem dX3_rounds_1 : decode cX3_rounds 1 = .ok (.iload_n 1, 1) := by decide +kernel
theorem dX3_rounds_2 : decode cX3_rounds 2 = .ok (.invokevirtual 53, 3) := by decide +kernel
theorem dX3_rounds_5 : decode cX3_rounds 5 = .ok (.astore 4, 2) := by decide +kernel
theorem dX3_rounds_7 : decode cX3_rounds 7 = .ok (.aload 4, 2) := by decide +kernel
theorem dX3_rounds_9 : decode cX3_rounds 9 = .ok (.ifnull 25, 3) := by decide +kernel
theorem dX3_rounds_12 : decode cX3_rounds 12 = .ok (.iload_n 2, 1) := by decide +kernel
theorem dX3_rounds_13 : decode cX3_rounds 13 = .ok (.iconst 0, 1) := by decide +kernel
theorem dX3_rounds_14 : decode cX3_rounds 14 = .ok (.sipush 999, 3) := by decide +kernel
theorem dX3_rounds_17 : decode cX3_rounds 17 = .ok (.invokestatic 46, 3) := by decide +kernel
theorem dX3_rounds_20 : decode cX3_rounds 20 = .ok (.ifCond .eq 14, 3) := by decide +kernel
theorem dX3_rounds_23 : decode cX3_rounds 23 = .ok (.iload_n 3, 1) := by decide +kernel
theorem dX3_rounds_24 : decode cX3_rounds 24 = .ok (.iconst 1, 1) := by decide +kernel
theorem dX3_rounds_25 : decode cX3_rounds 25 = .ok (.sipush 999, 3) := by decide +kernel
theorem dX3_rounds_28 : decode cX3_rounds 28 = .ok (.invokestatic 46, 3) := by decide +kernel
theorem dX3_rounds_31 : decode cX3_rounds 31 = .ok (.ifCond .ne 5, 3) := by decide +kernel
theorem dX3_rounds_34 : decode cX3_rounds 34 = .ok (.iconst (-1), 1) := by decide +kernel
theorem dX3_rounds_35 : decode cX3_rounds 35 = .ok (.ireturn, 1) := by decide +kernel
theorem dX3_rounds_36 : decode cX3_rounds 36 = .ok (.aload_n 0, 1) := by decide +kernel
theorem dX3_rounds_37 : decode cX3_rounds 37 = .ok (.aload 4, 2) := by decide +kernel
theorem dX3_rounds_39 : decode cX3_rounds 39 = .ok (.invokevirtual 72, 3) := by decide +kernel
theorem dX3_rounds_42 : decode cX3_rounds 42 = .ok (.istore 5, 2) := by decide +kernel
theorem dX3_rounds_44 : decode cX3_rounds 44 = .ok (.iload 5, 2) := by decide +kernel
theorem dX3_rounds_46 : decode cX3_rounds 46 = .ok (.ifCond .ne 5, 3) := by decide +kernel
theorem dX3_rounds_49 : decode cX3_rounds 49 = .ok (.iload_n 2, 1) := by decide +kernel
theorem dX3_rounds_50 : decode cX3_rounds 50 = .ok (.ireturn, 1) := by decide +kernel
theorem dX3_rounds_51 : decode cX3_rounds 51 = .ok (.aload_n 0, 1) := by decide +kernel
theorem dX3_rounds_52 : decode cX3_rounds 52 = .ok (.aload 4, 2) := by decide +kernel
theorem dX3_rounds_54 : decode cX3_rounds 54 = .ok (.iload 5, 2) := by decide +kernel
theorem dX3_rounds_56 : decode cX3_rounds 56 = .ok (.invokevirtual 158, 3) := by decide +kernel
theorem dX3_rounds_59 : decode cX3_rounds 59 = .ok (.istore 6, 2) := by decide +kernel
theorem dX3_rounds_61 : decode cX3_rounds 61 = .ok (.iload 6, 2) := by decide +kernel
theorem dX3_rounds_63 : decode cX3_rounds 63 = .ok (.ifCond .ne 6, 3) := by decide +kernel
theorem dX3_rounds_66 : decode cX3_rounds 66 = .ok (.bipush (-2), 2) := by decide +kernel
theorem dX3_rounds_68 : decode cX3_rounds 68 = .ok (.ireturn, 1) := by decide +kernel
theorem dX3_rounds_69 : decode cX3_rounds 69 = .ok (.aload_n 0, 1) := by decide +kernel
theorem dX3_rounds_70 : decode cX3_rounds 70 = .ok (.iload 6, 2) := by decide +kernel
theorem dX3_rounds_72 : decode cX3_rounds 72 = .ok (.invokevirtual 162, 3) := by decide +kernel
theorem dX3_rounds_75 : decode cX3_rounds 75 = .ok (.iload_n 2, 1) := by decide +kernel
theorem dX3_rounds_76 : decode cX3_rounds 76 = .ok (.iload_n 3, 1) := by decide +kernel
theorem dX3_rounds_77 : decode cX3_rounds 77 = .ok (.invokestatic 165, 3) := by decide +kernel
theorem dX3_rounds_80 : decode cX3_rounds 80 = .ok (.istore 7, 2) := by decide +kernel
theorem dX3_rounds_82 : decode cX3_rounds 82 = .ok (.iload 7, 2) := by decide +kernel
theorem dX3_rounds_84 : decode cX3_rounds 84 = .ok (.sipush 999, 3) := by decide +kernel
theorem dX3_rounds_87 : decode cX3_rounds 87 = .ok (.if_icmp .le 6, 3) := by decide +kernel
theorem dX3_rounds_90 : decode cX3_rounds 90 = .ok (.bipush (-2), 2) := by decide +kernel
theorem dX3_rounds_92 : decode cX3_rounds 92 = .ok (.ireturn, 1) := by decide +kernel
theorem dX3_rounds_93 : decode cX3_rounds 93 = .ok (.iconst 0, 1) := by decide +kernel
theorem dX3_rounds_94 : decode cX3_rounds 94 = .ok (.istore 8, 2) := by decide +kernel
theorem dX3_rounds_96 : decode cX3_rounds 96 = .ok (.iload 8, 2) := by decide +kernel
theorem dX3_rounds_98 : decode cX3_rounds 98 = .ok (.aload_n 0, 1) := by decide +kernel
theorem dX3_rounds_99 : decode cX3_rounds 99 = .ok (.getfield 40, 3) := by decide +kernel
theorem dX3_rounds_102 : decode cX3_rounds 102 = .ok (.if_icmp .ge 33, 3) := by decide +kernel
theorem dX3_rounds_105 : decode cX3_rounds 105 = .ok (.iload 6, 2) := by decide +kernel
theorem dX3_rounds_107 : decode cX3_rounds 107 = .ok (.i2l, 1) := by decide +kernel
theorem dX3_rounds_108 : decode cX3_rounds 108 = .ok (.iload 8, 2) := by decide +kernel
theorem dX3_rounds_110 : decode cX3_rounds 110 = .ok (.invokestatic 147, 3) := by decide +kernel
theorem dX3_rounds_113 : decode cX3_rounds 113 = .ok (.ifCond .eq 16, 3) := by decide +kernel
theorem dX3_rounds_116 : decode cX3_rounds 116 = .ok (.aload_n 0, 1) := by decide +kernel
theorem dX3_rounds_117 : decode cX3_rounds 117 = .ok (.getfield 17, 3) := by decide +kernel
theorem dX3_rounds_120 : decode cX3_rounds 120 = .ok (.iload 8, 2) := by decide +kernel
theorem dX3_rounds_122 : decode cX3_rounds 122 = .ok (.aaload, 1) := by decide +kernel
theorem dX3_rounds_123 : decode cX3_rounds 123 = .ok (.iconst 1, 1) := by decide +kernel
theorem dX3_rounds_124 : decode cX3_rounds 124 = .ok (.iload 7, 2) := by decide +kernel
theorem dX3_rounds_126 : decode cX3_rounds 126 = .ok (.invokevirtual 154, 3) := by decide +kernel
theorem dX3_rounds_129 : decode cX3_rounds 129 = .ok (.iinc 8 1, 3) := by decide +kernel
theorem dX3_rounds_132 : decode cX3_rounds 132 = .ok (.goto (-36), 3) := by decide +kernel
theorem dX3_rounds_135 : decode cX3_rounds 135 = .ok (.iload 7, 2) := by decide +kernel
theorem dX3_rounds_137 : decode cX3_rounds 137 = .ok (.ireturn, 1) := by decide +kernel
theorem dX3_leave_0 : decode cX3_leave 0 = .ok (.aload_n 0, 1) := by decide +kernel
theorem dX3_leave_1 : decode cX3_leave 1 = .ok (.iload_n 1, 1) := by decide +kernel
theorem dX3_leave_2 : decode cX3_leave 2 = .ok (.invokevirtual 53, 3) := by decide +kernel
theorem dX3_leave_5 : decode cX3_leave 5 = .ok (.astore_n 2, 1) := by decide +kernel
theorem dX3_leave_6 : decode cX3_leave 6 = .ok (.aload_n 2, 1) := by decide +kernel
theorem dX3_leave_7 : decode cX3_leave 7 = .ok (.ifnonnull 5, 3) := by decide +kernel
theorem dX3_leave_10 : decode cX3_leave 10 = .ok (.iconst (-1), 1) := by decide +kernel
theorem dX3_leave_11 : decode cX3_leave 11 = .ok (.ireturn, 1) := by decide +kernel
theorem dX3_leave_12 : decode cX3_leave 12 = .ok (.aload_n 0, 1) := by decide +kernel
theorem dX3_leave_13 : decode cX3_leave 13 = .ok (.aload_n 2, 1) := by decide +kernel
theorem dX3_leave_14 : decode cX3_leave 14 = .ok (.invokevirtual 72, 3) := by decide +kernel
theorem dX3_leave_17 : decode cX3_leave 17 = .ok (.istore_n 3, 1) := by decide +kernel
theorem dX3_leave_18 : decode cX3_leave 18 = .ok (.aload_n 0, 1) := by decide +kernel
theorem dX3_leave_19 : decode cX3_leave 19 = .ok (.aload_n 2, 1) := by decide +kernel
theorem dX3_leave_20 : decode cX3_leave 20 = .ok (.invokevirtual 169, 3) := by decide +kernel
theorem dX3_leave_23 : decode cX3_leave 23 = .ok (.iload_n 3, 1) := by decide +kernel
theorem dX3_leave_24 : decode cX3_leave 24 = .ok (.if_icmp .ge 6, 3) := by decide +kernel
theorem dX3_leave_27 : decode cX3_leave 27 = .ok (.bipush (-2), 2) := by decide +kernel
theorem dX3_leave_29 : decode cX3_leave 29 = .ok (.ireturn, 1) := by decide +kernel
theorem dX3_leave_30 : decode cX3_leave 30 = .ok (.iconst 0, 1) := by decide +kernel
theorem dX3_leave_31 : decode cX3_leave 31 = .ok (.istore 4, 2) := by decide +kernel
theorem dX3_leave_33 : decode cX3_leave 33 = .ok (.iconst 0, 1) := by decide +kernel
theorem dX3_leave_34 : decode cX3_leave 34 = .ok (.istore 5, 2) := by decide +kernel
theorem dX3_leave_36 : decode cX3_leave 36 = .ok (.iload 5, 2) := by decide +kernel
theorem dX3_leave_38 : decode cX3_leave 38 = .ok (.aload_n 0, 1) := by decide +kernel
theorem dX3_leave_39 : decode cX3_leave 39 = .ok (.getfield 40, 3) := by decide +kernel
theorem dX3_leave_42 : decode cX3_leave 42 = .ok (.if_icmp .ge 47, 3) := by decide +kernel
theorem dX3_leave_45 : decode cX3_leave 45 = .ok (.iload 4, 2) := by decide +kernel
theorem dX3_leave_47 : decode cX3_leave 47 = .ok (.iload_n 3, 1) := by decide +kernel
theorem dX3_leave_48 : decode cX3_leave 48 = .ok (.if_icmp .ge 41, 3) := by decide +kernel
theorem dX3_leave_51 : decode cX3_leave 51 = .ok (.aload_n 0, 1) := by decide +kernel
theorem dX3_leave_52 : decode cX3_leave 52 = .ok (.aload_n 2, 1) := by decide +kernel
theorem dX3_leave_53 : decode cX3_leave 53 = .ok (.invokevirtual 172, 3) := by decide +kernel
theorem dX3_leave_56 : decode cX3_leave 56 = .ok (.astore 6, 2) := by decide +kernel
theorem dX3_leave_58 : decode cX3_leave 58 = .ok (.aload 6, 2) := by decide +kernel
theorem dX3_leave_60 : decode cX3_leave 60 = .ok (.ifnonnull 6, 3) := by decide +kernel
theorem dX3_leave_63 : decode cX3_leave 63 = .ok (.goto 26, 3) := by decide +kernel
theorem dX3_leave_66 : decode cX3_leave 66 = .ok (.aload 6, 2) := by decide +kernel
theorem dX3_leave_68 : decode cX3_leave 68 = .ok (.iconst 2, 1) := by decide +kernel
theorem dX3_leave_69 : decode cX3_leave 69 = .ok (.iconst 0, 1) := by decide +kernel
theorem dX3_leave_70 : decode cX3_leave 70 = .ok (.invokevirtual 154, 3) := by decide +kernel
theorem dX3_leave_73 : decode cX3_leave 73 = .ok (.iload 4, 2) := by decide +kernel
theorem dX3_leave_75 : decode cX3_leave 75 = .ok (.aload 6, 2) := by decide +kernel
theorem dX3_leave_77 : decode cX3_leave 77 = .ok (.getfield 102, 3) := by decide +kernel
theorem dX3_leave_80 : decode cX3_leave 80 = .ok (.iadd, 1) := by decide +kernel
theorem dX3_leave_81 : decode cX3_leave 81 = .ok (.istore 4, 2) := by decide +kernel
theorem dX3_leave_83 : decode cX3_leave 83 = .ok (.iinc 5 1, 3) := by decide +kernel
theorem dX3_leave_86 : decode cX3_leave 86 = .ok (.goto (-50), 3) := by decide +kernel
theorem dX3_leave_89 : decode cX3_leave 89 = .ok (.iload 4, 2) := by decide +kernel
theorem dX3_leave_91 : decode cX3_leave 91 = .ok (.ireturn, 1) := by decide +kernel
theorem dX3_back_0 : decode cX3_back 0 = .ok (.aload_n 0, 1) := by decide +kernel
theorem dX3_back_1 : decode cX3_back 1 = .ok (.iload_n 1, 1) := by decide +kernel
theorem dX3_back_2 : decode cX3_back 2 = .ok (.invokevirtual 81, 3) := by decide +kernel
theorem dX3_back_5 : decode cX3_back 5 = .ok (.astore_n 2, 1) := by decide +kernel
theorem dX3_back_6 : decode cX3_back 6 = .ok (.aload_n 2, 1) := by decide +kernel
theorem dX3_back_7 : decode cX3_back 7 = .ok (.ifnull 10, 3) := by decide +kernel
theorem dX3_back_10 : decode cX3_back 10 = .ok (.aload_n 2, 1) := by decide +kernel
theorem dX3_back_11 : decode cX3_back 11 = .ok (.getfield 92, 3) := by decide +kernel
theorem dX3_back_14 : decode cX3_back 14 = .ok (.ifCond .ne 5, 3) := by decide +kernel
theorem dX3_back_17 : decode cX3_back 17 = .ok (.iconst 0, 1) := by decide +kernel
theorem dX3_back_18 : decode cX3_back 18 = .ok (.ireturn, 1) := by decide +kernel
theorem dX3_back_19 : decode cX3_back 19 = .ok (.aload_n 2, 1) := by decide +kernel
theorem dX3_back_20 : decode cX3_back 20 = .ok (.getfield 95, 3) := by decide +kernel
theorem dX3_back_23 : decode cX3_back 23 = .ok (.getfield 57, 3) := by decide +kernel
theorem dX3_back_26 : decode cX3_back 26 = .ok (.ifCond .ne 26, 3) := by decide +kernel
theorem dX3_back_29 : decode cX3_back 29 = .ok (.aload_n 0, 1) := by decide +kernel
theorem dX3_back_30 : decode cX3_back 30 = .ok (.aload_n 2, 1) := by decide +kernel
theorem dX3_back_31 : decode cX3_back 31 = .ok (.getfield 95, 3) := by decide +kernel
theorem dX3_back_34 : decode cX3_back 34 = .ok (.invokevirtual 68, 3) := by decide +kernel
theorem dX3_back_37 : decode cX3_back 37 = .ok (.aload_n 2, 1) := by decide +kernel
theorem dX3_back_38 : decode cX3_back 38 = .ok (.getfield 102, 3) := by decide +kernel
theorem dX3_back_41 : decode cX3_back 41 = .ok (.iadd, 1) := by decide +kernel
theorem dX3_back_42 : decode cX3_back 42 = .ok (.aload_n 2, 1) := by decide +kernel
theorem dX3_back_43 : decode cX3_back 43 = .ok (.getfield 95, 3) := by decide +kernel
theorem dX3_back_46 : decode cX3_back 46 = .ok (.getfield 75, 3) := by decide +kernel
theorem dX3_back_49 : decode cX3_back 49 = .ok (.if_icmp .le 5, 3) := by decide +kernel
theorem dX3_back_52 : decode cX3_back 52 = .ok (.iconst 0, 1) := by decide +kernel
theorem dX3_back_53 : decode cX3_back 53 = .ok (.ireturn, 1) := by decide +kernel
theorem dX3_back_54 : decode cX3_back 54 = .ok (.aload_n 2, 1) := by decide +kernel
theorem dX3_back_55 : decode cX3_back 55 = .ok (.invokevirtual 176, 3) := by decide +kernel
theorem dX3_back_58 : decode cX3_back 58 = .ok (.iconst 1, 1) := by decide +kernel
theorem dX3_back_59 : decode cX3_back 59 = .ok (.ireturn, 1) := by decide +kernel
theorem dX3_late_0 : decode cX3_late 0 = .ok (.aload_n 0, 1) := by decide +kernel
theorem dX3_late_1 : decode cX3_late 1 = .ok (.iload_n 1, 1) := by decide +kernel
theorem dX3_late_2 : decode cX3_late 2 = .ok (.invokevirtual 81, 3) := by decide +kernel
theorem dX3_late_5 : decode cX3_late 5 = .ok (.astore 4, 2) := by decide +kernel
theorem dX3_late_7 : decode cX3_late 7 = .ok (.aload_n 0, 1) := by decide +kernel
theorem dX3_late_8 : decode cX3_late 8 = .ok (.iload_n 2, 1) := by decide +kernel
theorem dX3_late_9 : decode cX3_late 9 = .ok (.invokevirtual 53, 3) := by decide +kernel
theorem dX3_late_12 : decode cX3_late 12 = .ok (.astore 5, 2) := by decide +kernel
theorem dX3_late_14 : decode cX3_late 14 = .ok (.aload_n 0, 1) := by decide +kernel
theorem dX3_late_15 : decode cX3_late 15 = .ok (.iload_n 3, 1) := by decide +kernel
theorem dX3_late_16 : decode cX3_late 16 = .ok (.invokevirtual 53, 3) := by decide +kernel
theorem dX3_late_19 : decode cX3_late 19 = .ok (.astore 6, 2) := by decide +kernel
theorem dX3_late_21 : decode cX3_late 21 = .ok (.aload 4, 2) := by decide +kernel
theorem dX3_late_23 : decode cX3_late 23 = .ok (.ifnull 18, 3) := by decide +kernel
theorem dX3_late_26 : decode cX3_late 26 = .ok (.aload 5, 2) := by decide +kernel
theorem dX3_late_28 : decode cX3_late 28 = .ok (.ifnull 13, 3) := by decide +kernel
theorem dX3_late_31 : decode cX3_late 31 = .ok (.aload 6, 2) := by decide +kernel
theorem dX3_late_33 : decode cX3_late 33 = .ok (.ifnonnull 10, 3) := by decide +kernel
theorem dX3_late_36 : decode cX3_late 36 = .ok (.iload_n 3, 1) := by decide +kernel
theorem dX3_late_37 : decode cX3_late 37 = .ok (.iconst (-1), 1) := by decide +kernel
theorem dX3_late_38 : decode cX3_late 38 = .ok (.if_icmp .eq 5, 3) := by decide +kernel
theorem dX3_late_41 : decode cX3_late 41 = .ok (.iconst (-1), 1) := by decide +kernel
theorem dX3_late_42 : decode cX3_late 42 = .ok (.ireturn, 1) := by decide +kernel
theorem dX3_late_43 : decode cX3_late 43 = .ok (.aload_n 0, 1) := by decide +kernel
theorem dX3_late_44 : decode cX3_late 44 = .ok (.aload 4, 2) := by decide +kernel
theorem dX3_late_46 : decode cX3_late 46 = .ok (.aload 5, 2) := by decide +kernel
theorem dX3_late_48 : decode cX3_late 48 = .ok (.aload 6, 2) := by decide +kernel
theorem dX3_late_50 : decode cX3_late 50 = .ok (.invokevirtual 179, 3) := by decide +kernel
theorem dX3_late_53 : decode cX3_late 53 = .ok (.ifCond .eq 15, 3) := by decide +kernel
theorem dX3_late_56 : decode cX3_late 56 = .ok (.aload 4, 2) := by decide +kernel
theorem dX3_late_58 : decode cX3_late 58 = .ok (.aload 5, 2) := by decide +kernel
theorem dX3_late_60 : decode cX3_late 60 = .ok (.aload 6, 2) := by decide +kernel
theorem dX3_late_62 : decode cX3_late 62 = .ok (.invokevirtual 183, 3) := by decide +kernel
theorem dX3_late_65 : decode cX3_late 65 = .ok (.goto 4, 3) := by decide +kernel
theorem dX3_late_68 : decode cX3_late 68 = .ok (.iconst (-1), 1) := by decide +kernel
theorem dX3_late_69 : decode cX3_late 69 = .ok (.ireturn, 1) := by decide +kernel
theorem dX3_stranded_0 : decode cX3_stranded 0 = .ok (.iconst 0, 1) := by decide +kernel
theorem dX3_stranded_1 : decode cX3_stranded 1 = .ok (.istore_n 1, 1) := by decide +kernel
theorem dX3_stranded_2 : decode cX3_stranded 2 = .ok (.iconst 0, 1) := by decide +kernel
theorem dX3_stranded_3 : decode cX3_stranded 3 = .ok (.istore_n 2, 1) := by decide +kernel
theorem dX3_stranded_4 : decode cX3_stranded 4 = .ok (.iload_n 2, 1) := by decide +kernel
theorem dX3_stranded_5 : decode cX3_stranded 5 = .ok (.aload_n 0, 1) := by decide +kernel
theorem dX3_stranded_6 : decode cX3_stranded 6 = .ok (.getfield 40, 3) := by decide +kernel
theorem dX3_stranded_9 : decode cX3_stranded 9 = .ok (.if_icmp .ge 24, 3) := by decide +kernel
theorem dX3_stranded_12 : decode cX3_stranded 12 = .ok (.aload_n 0, 1) := by decide +kernel
theorem dX3_stranded_13 : decode cX3_stranded 13 = .ok (.getfield 17, 3) := by decide +kernel
theorem dX3_stranded_16 : decode cX3_stranded 16 = .ok (.iload_n 2, 1) := by decide +kernel
theorem dX3_stranded_17 : decode cX3_stranded 17 = .ok (.aaload, 1) := by decide +kernel
theorem dX3_stranded_18 : decode cX3_stranded 18 = .ok (.invokevirtual 187, 3) := by decide +kernel
theorem dX3_stranded_21 : decode cX3_stranded 21 = .ok (.ifCond .eq 6, 3) := by decide +kernel
theorem dX3_stranded_24 : decode cX3_stranded 24 = .ok (.iinc 1 1, 3) := by decide +kernel
theorem dX3_stranded_27 : decode cX3_stranded 27 = .ok (.iinc 2 1, 3) := by decide +kernel
theorem dX3_stranded_30 : decode cX3_stranded 30 = .ok (.goto (-26), 3) := by decide +kernel
theorem dX3_stranded_33 : decode cX3_stranded 33 = .ok (.iload_n 1, 1) := by decide +kernel
theorem dX3_stranded_34 : decode cX3_stranded 34 = .ok (.ireturn, 1) := by decide +kernel
theorem dX3_move_0 : decode cX3_move 0 = .ok (.aload_n 0, 1) := by decide +kernel
theorem dX3_move_1 : decode cX3_move 1 = .ok (.invokevirtual 191, 3) := by decide +kernel
theorem dX3_move_4 : decode cX3_move 4 = .ok (.bipush 6, 2) := by decide +kernel
theorem dX3_move_6 : decode cX3_move 6 = .ok (.if_icmp .le 5, 3) := by decide +kernel
theorem dX3_move_9 : decode cX3_move 9 = .ok (.iconst (-1), 1) := by decide +kernel
theorem dX3_move_10 : decode cX3_move 10 = .ok (.ireturn, 1) := by decide +kernel
theorem dX3_move_11 : decode cX3_move 11 = .ok (.iconst 0, 1) := by decide +kernel
theorem dX3_move_12 : decode cX3_move 12 = .ok (.istore_n 1, 1) := by decide +kernel
theorem dX3_move_13 : decode cX3_move 13 = .ok (.iload_n 1, 1) := by decide +kernel
theorem dX3_move_14 : decode cX3_move 14 = .ok (.aload_n 0, 1) := by decide +kernel
theorem dX3_move_15 : decode cX3_move 15 = .ok (.getfield 36, 3) := by decide +kernel
theorem dX3_move_18 : decode cX3_move 18 = .ok (.if_icmp .ge 38, 3) := by decide +kernel
theorem dX3_move_21 : decode cX3_move 21 = .ok (.aload_n 0, 1) := by decide +kernel
theorem dX3_move_22 : decode cX3_move 22 = .ok (.getfield 11, 3) := by decide +kernel
theorem dX3_move_25 : decode cX3_move 25 = .ok (.iload_n 1, 1) := by decide +kernel
theorem dX3_move_26 : decode cX3_move 26 = .ok (.aaload, 1) := by decide +kernel
theorem dX3_move_27 : decode cX3_move 27 = .ok (.aload_n 0, 1) := by decide +kernel
theorem dX3_move_28 : decode cX3_move 28 = .ok (.getfield 11, 3) := by decide +kernel
theorem dX3_move_31 : decode cX3_move 31 = .ok (.iload_n 1, 1) := by decide +kernel
theorem dX3_move_32 : decode cX3_move 32 = .ok (.aaload, 1) := by decide +kernel
theorem dX3_move_33 : decode cX3_move 33 = .ok (.getfield 75, 3) := by decide +kernel
theorem dX3_move_36 : decode cX3_move 36 = .ok (.aload_n 0, 1) := by decide +kernel
theorem dX3_move_37 : decode cX3_move 37 = .ok (.aload_n 0, 1) := by decide +kernel
theorem dX3_move_38 : decode cX3_move 38 = .ok (.getfield 11, 3) := by decide +kernel
theorem dX3_move_41 : decode cX3_move 41 = .ok (.iload_n 1, 1) := by decide +kernel
theorem dX3_move_42 : decode cX3_move 42 = .ok (.aaload, 1) := by decide +kernel
theorem dX3_move_43 : decode cX3_move 43 = .ok (.invokevirtual 68, 3) := by decide +kernel
theorem dX3_move_46 : decode cX3_move 46 = .ok (.isub, 1) := by decide +kernel
theorem dX3_move_47 : decode cX3_move 47 = .ok (.putfield 194, 3) := by decide +kernel
theorem dX3_move_50 : decode cX3_move 50 = .ok (.iinc 1 1, 3) := by decide +kernel
theorem dX3_move_53 : decode cX3_move 53 = .ok (.goto (-40), 3) := by decide +kernel
theorem dX3_move_56 : decode cX3_move 56 = .ok (.aload_n 0, 1) := by decide +kernel
theorem dX3_move_57 : decode cX3_move 57 = .ok (.getfield 32, 3) := by decide +kernel
theorem dX3_move_60 : decode cX3_move 60 = .ok (.invokevirtual 197, 3) := by decide +kernel
theorem dX3_move_63 : decode cX3_move 63 = .ok (.bipush 6, 2) := by decide +kernel
theorem dX3_move_65 : decode cX3_move 65 = .ok (.istore_n 1, 1) := by decide +kernel
theorem dX3_move_66 : decode cX3_move 66 = .ok (.iload_n 1, 1) := by decide +kernel
theorem dX3_move_67 : decode cX3_move 67 = .ok (.iconst 1, 1) := by decide +kernel
theorem dX3_move_68 : decode cX3_move 68 = .ok (.if_icmp .lt 14, 3) := by decide +kernel
theorem dX3_move_71 : decode cX3_move 71 = .ok (.aload_n 0, 1) := by decide +kernel
theorem dX3_move_72 : decode cX3_move 72 = .ok (.iload_n 1, 1) := by decide +kernel
theorem dX3_move_73 : decode cX3_move 73 = .ok (.invokevirtual 200, 3) := by decide +kernel
theorem dX3_move_76 : decode cX3_move 76 = .ok (.iinc 1 (-1), 3) := by decide +kernel
theorem dX3_move_79 : decode cX3_move 79 = .ok (.goto (-13), 3) := by decide +kernel
theorem dX3_move_82 : decode cX3_move 82 = .ok (.aload_n 0, 1) := by decide +kernel
theorem dX3_move_83 : decode cX3_move 83 = .ok (.getfield 32, 3) := by decide +kernel
theorem dX3_move_86 : decode cX3_move 86 = .ok (.invokevirtual 204, 3) := by decide +kernel
theorem dX3_move_89 : decode cX3_move 89 = .ok (.aload_n 0, 1) := by decide +kernel
theorem dX3_move_90 : decode cX3_move 90 = .ok (.getfield 32, 3) := by decide +kernel
theorem dX3_move_93 : decode cX3_move 93 = .ok (.invokevirtual 207, 3) := by decide +kernel
theorem dX3_move_96 : decode cX3_move 96 = .ok (.ireturn, 1) := by decide +kernel
theorem dX3_undo_0 : decode cX3_undo 0 = .ok (.iconst 0, 1) := by decide +kernel
theorem dX3_undo_1 : decode cX3_undo 1 = .ok (.istore_n 1, 1) := by decide +kernel
theorem dX3_undo_2 : decode cX3_undo 2 = .ok (.iconst 0, 1) := by decide +kernel
theorem dX3_undo_3 : decode cX3_undo 3 = .ok (.istore_n 2, 1) := by decide +kernel
theorem dX3_undo_4 : decode cX3_undo 4 = .ok (.iload_n 2, 1) := by decide +kernel
theorem dX3_undo_5 : decode cX3_undo 5 = .ok (.aload_n 0, 1) := by decide +kernel
theorem dX3_undo_6 : decode cX3_undo 6 = .ok (.getfield 40, 3) := by decide +kernel
theorem dX3_undo_9 : decode cX3_undo 9 = .ok (.if_icmp .ge 45, 3) := by decide +kernel
theorem dX3_undo_12 : decode cX3_undo 12 = .ok (.aload_n 0, 1) := by decide +kernel
theorem dX3_undo_13 : decode cX3_undo 13 = .ok (.getfield 17, 3) := by decide +kernel
theorem dX3_undo_16 : decode cX3_undo 16 = .ok (.iload_n 2, 1) := by decide +kernel
theorem dX3_undo_17 : decode cX3_undo 17 = .ok (.aaload, 1) := by decide +kernel
theorem dX3_undo_18 : decode cX3_undo 18 = .ok (.astore_n 3, 1) := by decide +kernel
theorem dX3_undo_19 : decode cX3_undo 19 = .ok (.aload_n 3, 1) := by decide +kernel
theorem dX3_undo_20 : decode cX3_undo 20 = .ok (.getfield 108, 3) := by decide +kernel
theorem dX3_undo_23 : decode cX3_undo 23 = .ok (.invokestatic 210, 3) := by decide +kernel
theorem dX3_undo_26 : decode cX3_undo 26 = .ok (.ifCond .ne 13, 3) := by decide +kernel
theorem dX3_undo_29 : decode cX3_undo 29 = .ok (.aload_n 3, 1) := by decide +kernel
theorem dX3_undo_30 : decode cX3_undo 30 = .ok (.getfield 114, 3) := by decide +kernel
theorem dX3_undo_33 : decode cX3_undo 33 = .ok (.invokestatic 210, 3) := by decide +kernel
theorem dX3_undo_36 : decode cX3_undo 36 = .ok (.ifCond .eq 12, 3) := by decide +kernel
theorem dX3_undo_39 : decode cX3_undo 39 = .ok (.aload_n 3, 1) := by decide +kernel
theorem dX3_undo_40 : decode cX3_undo 40 = .ok (.aconst_null, 1) := by decide +kernel
theorem dX3_undo_41 : decode cX3_undo 41 = .ok (.aconst_null, 1) := by decide +kernel
theorem dX3_undo_42 : decode cX3_undo 42 = .ok (.invokevirtual 214, 3) := by decide +kernel
theorem dX3_undo_45 : decode cX3_undo 45 = .ok (.iinc 1 1, 3) := by decide +kernel
theorem dX3_undo_48 : decode cX3_undo 48 = .ok (.iinc 2 1, 3) := by decide +kernel
theorem dX3_undo_51 : decode cX3_undo 51 = .ok (.goto (-47), 3) := by decide +kernel
theorem dX3_undo_54 : decode cX3_undo 54 = .ok (.iload_n 1, 1) := by decide +kernel
theorem dX3_undo_55 : decode cX3_undo 55 = .ok (.ireturn, 1) := by decide +kernel
theorem dX3_within_0 : decode cX3_within 0 = .ok (.iload_n 0, 1) := by decide +kernel
theorem dX3_within_1 : decode cX3_within 1 = .ok (.iload_n 1, 1) := by decide +kernel
theorem dX3_within_2 : decode cX3_within 2 = .ok (.if_icmp .lt 12, 3) := by decide +kernel
theorem dX3_within_5 : decode cX3_within 5 = .ok (.iload_n 0, 1) := by decide +kernel
theorem dX3_within_6 : decode cX3_within 6 = .ok (.iload_n 2, 1) := by decide +kernel
theorem dX3_within_7 : decode cX3_within 7 = .ok (.if_icmp .gt 7, 3) := by decide +kernel
theorem dX3_within_10 : decode cX3_within 10 = .ok (.iconst 1, 1) := by decide +kernel
theorem dX3_within_11 : decode cX3_within 11 = .ok (.goto 4, 3) := by decide +kernel
theorem dX3_within_14 : decode cX3_within 14 = .ok (.iconst 0, 1) := by decide +kernel
theorem dX3_within_15 : decode cX3_within 15 = .ok (.ireturn, 1) := by decide +kernel
theorem dX3_has_0 : decode cX3_has 0 = .ok (.lload_n 0, 1) := by decide +kernel
theorem dX3_has_1 : decode cX3_has 1 = .ok (.iload_n 2, 1) := by decide +kernel
theorem dX3_has_2 : decode cX3_has 2 = .ok (.lshr, 1) := by decide +kernel
theorem dX3_has_3 : decode cX3_has 3 = .ok (.lconst 1, 1) := by decide +kernel
theorem dX3_has_4 : decode cX3_has 4 = .ok (.land, 1) := by decide +kernel
theorem dX3_has_5 : decode cX3_has 5 = .ok (.lconst 0, 1) := by decide +kernel
theorem dX3_has_6 : decode cX3_has 6 = .ok (.lcmp, 1) := by decide +kernel
theorem dX3_has_7 : decode cX3_has 7 = .ok (.ifCond .eq 7, 3) := by decide +kernel
theorem dX3_has_10 : decode cX3_has 10 = .ok (.iconst 1, 1) := by decide +kernel
theorem dX3_has_11 : decode cX3_has 11 = .ok (.goto 4, 3) := by decide +kernel
theorem dX3_has_14 : decode cX3_has 14 = .ok (.iconst 0, 1) := by decide +kernel
theorem dX3_has_15 : decode cX3_has 15 = .ok (.ireturn, 1) := by decide +kernel
theorem dX3_flightAt_0 : decode cX3_flightAt 0 = .ok (.iload_n 1, 1) := by decide +kernel
theorem dX3_flightAt_1 : decode cX3_flightAt 1 = .ok (.ifCond .lt 20, 3) := by decide +kernel
theorem dX3_flightAt_4 : decode cX3_flightAt 4 = .ok (.iload_n 1, 1) := by decide +kernel
theorem dX3_flightAt_5 : decode cX3_flightAt 5 = .ok (.aload_n 0, 1) := by decide +kernel
theorem dX3_flightAt_6 : decode cX3_flightAt 6 = .ok (.getfield 36, 3) := by decide +kernel
theorem dX3_flightAt_9 : decode cX3_flightAt 9 = .ok (.if_icmp .ge 12, 3) := by decide +kernel
theorem dX3_flightAt_12 : decode cX3_flightAt 12 = .ok (.aload_n 0, 1) := by decide +kernel
theorem dX3_flightAt_13 : decode cX3_flightAt 13 = .ok (.getfield 11, 3) := by decide +kernel
theorem dX3_flightAt_16 : decode cX3_flightAt 16 = .ok (.iload_n 1, 1) := by decide +kernel
theorem dX3_flightAt_17 : decode cX3_flightAt 17 = .ok (.aaload, 1) := by decide +kernel
theorem dX3_flightAt_18 : decode cX3_flightAt 18 = .ok (.goto 4, 3) := by decide +kernel
theorem dX3_flightAt_21 : decode cX3_flightAt 21 = .ok (.aconst_null, 1) := by decide +kernel
theorem dX3_flightAt_22 : decode cX3_flightAt 22 = .ok (.areturn, 1) := by decide +kernel
theorem dX3_partyAt_0 : decode cX3_partyAt 0 = .ok (.iload_n 1, 1) := by decide +kernel
theorem dX3_partyAt_1 : decode cX3_partyAt 1 = .ok (.ifCond .lt 20, 3) := by decide +kernel
theorem dX3_partyAt_4 : decode cX3_partyAt 4 = .ok (.iload_n 1, 1) := by decide +kernel
theorem dX3_partyAt_5 : decode cX3_partyAt 5 = .ok (.aload_n 0, 1) := by decide +kernel
theorem dX3_partyAt_6 : decode cX3_partyAt 6 = .ok (.getfield 40, 3) := by decide +kernel
theorem dX3_partyAt_9 : decode cX3_partyAt 9 = .ok (.if_icmp .ge 12, 3) := by decide +kernel
theorem dX3_partyAt_12 : decode cX3_partyAt 12 = .ok (.aload_n 0, 1) := by decide +kernel
theorem dX3_partyAt_13 : decode cX3_partyAt 13 = .ok (.getfield 17, 3) := by decide +kernel
theorem dX3_partyAt_16 : decode cX3_partyAt 16 = .ok (.iload_n 1, 1) := by decide +kernel
theorem dX3_partyAt_17 : decode cX3_partyAt 17 = .ok (.aaload, 1) := by decide +kernel
theorem dX3_partyAt_18 : decode cX3_partyAt 18 = .ok (.goto 4, 3) := by decide +kernel
theorem dX3_partyAt_21 : decode cX3_partyAt 21 = .ok (.aconst_null, 1) := by decide +kernel
theorem dX3_partyAt_22 : decode cX3_partyAt 22 = .ok (.areturn, 1) := by decide +kernel
theorem dX3_numberOf_0 : decode cX3_numberOf 0 = .ok (.aload_n 0, 1) := by decide +kernel
theorem dX3_numberOf_1 : decode cX3_numberOf 1 = .ok (.ifnonnull 7, 3) := by decide +kernel
theorem dX3_numberOf_4 : decode cX3_numberOf 4 = .ok (.iconst (-1), 1) := by decide +kernel
theorem dX3_numberOf_5 : decode cX3_numberOf 5 = .ok (.goto 7, 3) := by decide +kernel
theorem dX3_numberOf_8 : decode cX3_numberOf 8 = .ok (.aload_n 0, 1) := by decide +kernel
theorem dX3_numberOf_9 : decode cX3_numberOf 9 = .ok (.getfield 99, 3) := by decide +kernel
theorem dX3_numberOf_12 : decode cX3_numberOf 12 = .ok (.ireturn, 1) := by decide +kernel
theorem dX3_isOffFlight_0 : decode cX3_isOffFlight 0 = .ok (.aload_n 0, 1) := by decide +kernel
theorem dX3_isOffFlight_1 : decode cX3_isOffFlight 1 = .ok (.ifnull 14, 3) := by decide +kernel
theorem dX3_isOffFlight_4 : decode cX3_isOffFlight 4 = .ok (.aload_n 0, 1) := by decide +kernel
theorem dX3_isOffFlight_5 : decode cX3_isOffFlight 5 = .ok (.getfield 57, 3) := by decide +kernel
theorem dX3_isOffFlight_8 : decode cX3_isOffFlight 8 = .ok (.ifCond .eq 7, 3) := by decide +kernel
theorem dX3_isOffFlight_11 : decode cX3_isOffFlight 11 = .ok (.iconst 1, 1) := by decide +kernel
theorem dX3_isOffFlight_12 : decode cX3_isOffFlight 12 = .ok (.goto 4, 3) := by decide +kernel
theorem dX3_isOffFlight_15 : decode cX3_isOffFlight 15 = .ok (.iconst 0, 1) := by decide +kernel
theorem dX3_isOffFlight_16 : decode cX3_isOffFlight 16 = .ok (.ireturn, 1) := by decide +kernel
theorem dX3_setChange_0 : decode cX3_setChange 0 = .ok (.iload_n 1, 1) := by decide +kernel
theorem dX3_setChange_1 : decode cX3_setChange 1 = .ok (.iconst 0, 1) := by decide +kernel
theorem dX3_setChange_2 : decode cX3_setChange 2 = .ok (.sipush 300, 3) := by decide +kernel
theorem dX3_setChange_5 : decode cX3_setChange 5 = .ok (.invokestatic 46, 3) := by decide +kernel
theorem dX3_setChange_8 : decode cX3_setChange 8 = .ok (.ifCond .ne 5, 3) := by decide +kernel
theorem dX3_setChange_11 : decode cX3_setChange 11 = .ok (.iconst (-1), 1) := by decide +kernel
theorem dX3_setChange_12 : decode cX3_setChange 12 = .ok (.ireturn, 1) := by decide +kernel
theorem dX3_setChange_13 : decode cX3_setChange 13 = .ok (.aload_n 0, 1) := by decide +kernel
theorem dX3_setChange_14 : decode cX3_setChange 14 = .ok (.getfield 43, 3) := by decide +kernel
theorem dX3_setChange_17 : decode cX3_setChange 17 = .ok (.istore_n 2, 1) := by decide +kernel
theorem dX3_setChange_18 : decode cX3_setChange 18 = .ok (.aload_n 0, 1) := by decide +kernel
theorem dX3_setChange_19 : decode cX3_setChange 19 = .ok (.iload_n 1, 1) := by decide +kernel
theorem dX3_setChange_20 : decode cX3_setChange 20 = .ok (.putfield 43, 3) := by decide +kernel
theorem dX3_setChange_23 : decode cX3_setChange 23 = .ok (.iload_n 2, 1) := by decide +kernel
theorem dX3_setChange_24 : decode cX3_setChange 24 = .ok (.ireturn, 1) := by decide +kernel
theorem dX3_loadOf_0 : decode cX3_loadOf 0 = .ok (.iconst 0, 1) := by decide +kernel
theorem dX3_loadOf_1 : decode cX3_loadOf 1 = .ok (.istore_n 2, 1) := by decide +kernel
theorem dX3_loadOf_2 : decode cX3_loadOf 2 = .ok (.iconst 0, 1) := by decide +kernel
theorem dX3_loadOf_3 : decode cX3_loadOf 3 = .ok (.istore_n 3, 1) := by decide +kernel
theorem dX3_loadOf_4 : decode cX3_loadOf 4 = .ok (.iload_n 3, 1) := by decide +kernel
theorem dX3_loadOf_5 : decode cX3_loadOf 5 = .ok (.aload_n 0, 1) := by decide +kernel
theorem dX3_loadOf_6 : decode cX3_loadOf 6 = .ok (.getfield 40, 3) := by decide +kernel
theorem dX3_loadOf_9 : decode cX3_loadOf 9 = .ok (.if_icmp .ge 52, 3) := by decide +kernel
theorem dX3_loadOf_12 : decode cX3_loadOf 12 = .ok (.aload_n 0, 1) := by decide +kernel
theorem dX3_loadOf_13 : decode cX3_loadOf 13 = .ok (.getfield 17, 3) := by decide +kernel
theorem dX3_loadOf_16 : decode cX3_loadOf 16 = .ok (.iload_n 3, 1) := by decide +kernel
theorem dX3_loadOf_17 : decode cX3_loadOf 17 = .ok (.aaload, 1) := by decide +kernel
theorem dX3_loadOf_18 : decode cX3_loadOf 18 = .ok (.astore 4, 2) := by decide +kernel
theorem dX3_loadOf_20 : decode cX3_loadOf 20 = .ok (.aload 4, 2) := by decide +kernel
theorem dX3_loadOf_22 : decode cX3_loadOf 22 = .ok (.aload_n 1, 1) := by decide +kernel
theorem dX3_loadOf_23 : decode cX3_loadOf 23 = .ok (.invokevirtual 218, 3) := by decide +kernel
theorem dX3_loadOf_26 : decode cX3_loadOf 26 = .ok (.ifCond .ne 21, 3) := by decide +kernel
theorem dX3_loadOf_29 : decode cX3_loadOf 29 = .ok (.aload 4, 2) := by decide +kernel
theorem dX3_loadOf_31 : decode cX3_loadOf 31 = .ok (.getfield 108, 3) := by decide +kernel
theorem dX3_loadOf_34 : decode cX3_loadOf 34 = .ok (.aload_n 1, 1) := by decide +kernel
theorem dX3_loadOf_35 : decode cX3_loadOf 35 = .ok (.if_acmp .eq 12, 3) := by decide +kernel
theorem dX3_loadOf_38 : decode cX3_loadOf 38 = .ok (.aload 4, 2) := by decide +kernel
theorem dX3_loadOf_40 : decode cX3_loadOf 40 = .ok (.getfield 114, 3) := by decide +kernel
theorem dX3_loadOf_43 : decode cX3_loadOf 43 = .ok (.aload_n 1, 1) := by decide +kernel
theorem dX3_loadOf_44 : decode cX3_loadOf 44 = .ok (.if_acmp .ne 11, 3) := by decide +kernel
theorem dX3_loadOf_47 : decode cX3_loadOf 47 = .ok (.iload_n 2, 1) := by decide +kernel
theorem dX3_loadOf_48 : decode cX3_loadOf 48 = .ok (.aload 4, 2) := by decide +kernel
theorem dX3_loadOf_50 : decode cX3_loadOf 50 = .ok (.getfield 102, 3) := by decide +kernel
theorem dX3_loadOf_53 : decode cX3_loadOf 53 = .ok (.iadd, 1) := by decide +kernel
theorem dX3_loadOf_54 : decode cX3_loadOf 54 = .ok (.istore_n 2, 1) := by decide +kernel
theorem dX3_loadOf_55 : decode cX3_loadOf 55 = .ok (.iinc 3 1, 3) := by decide +kernel
theorem dX3_loadOf_58 : decode cX3_loadOf 58 = .ok (.goto (-54), 3) := by decide +kernel
theorem dX3_loadOf_61 : decode cX3_loadOf 61 = .ok (.iload_n 2, 1) := by decide +kernel
theorem dX3_loadOf_62 : decode cX3_loadOf 62 = .ok (.ireturn, 1) := by decide +kernel
theorem dX3_overOf_0 : decode cX3_overOf 0 = .ok (.aload_n 0, 1) := by decide +kernel
theorem dX3_overOf_1 : decode cX3_overOf 1 = .ok (.aload_n 1, 1) := by decide +kernel
theorem dX3_overOf_2 : decode cX3_overOf 2 = .ok (.invokevirtual 68, 3) := by decide +kernel
theorem dX3_overOf_5 : decode cX3_overOf 5 = .ok (.istore_n 2, 1) := by decide +kernel
theorem dX3_overOf_6 : decode cX3_overOf 6 = .ok (.aload_n 1, 1) := by decide +kernel
theorem dX3_overOf_7 : decode cX3_overOf 7 = .ok (.getfield 57, 3) := by decide +kernel
theorem dX3_overOf_10 : decode cX3_overOf 10 = .ok (.ifCond .eq 7, 3) := by decide +kernel
theorem dX3_overOf_13 : decode cX3_overOf 13 = .ok (.iload_n 2, 1) := by decide +kernel
theorem dX3_overOf_14 : decode cX3_overOf 14 = .ok (.goto 13, 3) := by decide +kernel
theorem dX3_overOf_17 : decode cX3_overOf 17 = .ok (.iconst 0, 1) := by decide +kernel
theorem dX3_overOf_18 : decode cX3_overOf 18 = .ok (.iload_n 2, 1) := by decide +kernel
theorem dX3_overOf_19 : decode cX3_overOf 19 = .ok (.aload_n 1, 1) := by decide +kernel
theorem dX3_overOf_20 : decode cX3_overOf 20 = .ok (.getfield 75, 3) := by decide +kernel
theorem dX3_overOf_23 : decode cX3_overOf 23 = .ok (.isub, 1) := by decide +kernel
theorem dX3_overOf_24 : decode cX3_overOf 24 = .ok (.invokestatic 221, 3) := by decide +kernel
theorem dX3_overOf_27 : decode cX3_overOf 27 = .ok (.ireturn, 1) := by decide +kernel
theorem dX3_mustPeople_0 : decode cX3_mustPeople 0 = .ok (.iconst 0, 1) := by decide +kernel
theorem dX3_mustPeople_1 : decode cX3_mustPeople 1 = .ok (.istore_n 2, 1) := by decide +kernel
theorem dX3_mustPeople_2 : decode cX3_mustPeople 2 = .ok (.iconst 0, 1) := by decide +kernel
theorem dX3_mustPeople_3 : decode cX3_mustPeople 3 = .ok (.istore_n 3, 1) := by decide +kernel
theorem dX3_mustPeople_4 : decode cX3_mustPeople 4 = .ok (.iload_n 3, 1) := by decide +kernel
theorem dX3_mustPeople_5 : decode cX3_mustPeople 5 = .ok (.aload_n 0, 1) := by decide +kernel
theorem dX3_mustPeople_6 : decode cX3_mustPeople 6 = .ok (.getfield 40, 3) := by decide +kernel
theorem dX3_mustPeople_9 : decode cX3_mustPeople 9 = .ok (.if_icmp .ge 46, 3) := by decide +kernel
theorem dX3_mustPeople_12 : decode cX3_mustPeople 12 = .ok (.aload_n 0, 1) := by decide +kernel
theorem dX3_mustPeople_13 : decode cX3_mustPeople 13 = .ok (.getfield 17, 3) := by decide +kernel
theorem dX3_mustPeople_16 : decode cX3_mustPeople 16 = .ok (.iload_n 3, 1) := by decide +kernel
theorem dX3_mustPeople_17 : decode cX3_mustPeople 17 = .ok (.aaload, 1) := by decide +kernel
theorem dX3_mustPeople_18 : decode cX3_mustPeople 18 = .ok (.getfield 227, 3) := by decide +kernel
theorem dX3_mustPeople_21 : decode cX3_mustPeople 21 = .ok (.ifCond .eq 28, 3) := by decide +kernel
theorem dX3_mustPeople_24 : decode cX3_mustPeople 24 = .ok (.aload_n 0, 1) := by decide +kernel
theorem dX3_mustPeople_25 : decode cX3_mustPeople 25 = .ok (.getfield 17, 3) := by decide +kernel
theorem dX3_mustPeople_28 : decode cX3_mustPeople 28 = .ok (.iload_n 3, 1) := by decide +kernel
theorem dX3_mustPeople_29 : decode cX3_mustPeople 29 = .ok (.aaload, 1) := by decide +kernel
theorem dX3_mustPeople_30 : decode cX3_mustPeople 30 = .ok (.aload_n 1, 1) := by decide +kernel
theorem dX3_mustPeople_31 : decode cX3_mustPeople 31 = .ok (.invokevirtual 218, 3) := by decide +kernel
theorem dX3_mustPeople_34 : decode cX3_mustPeople 34 = .ok (.ifCond .eq 15, 3) := by decide +kernel
theorem dX3_mustPeople_37 : decode cX3_mustPeople 37 = .ok (.iload_n 2, 1) := by decide +kernel
theorem dX3_mustPeople_38 : decode cX3_mustPeople 38 = .ok (.aload_n 0, 1) := by decide +kernel
theorem dX3_mustPeople_39 : decode cX3_mustPeople 39 = .ok (.getfield 17, 3) := by decide +kernel
theorem dX3_mustPeople_42 : decode cX3_mustPeople 42 = .ok (.iload_n 3, 1) := by decide +kernel
theorem dX3_mustPeople_43 : decode cX3_mustPeople 43 = .ok (.aaload, 1) := by decide +kernel
theorem dX3_mustPeople_44 : decode cX3_mustPeople 44 = .ok (.getfield 102, 3) := by decide +kernel
theorem dX3_mustPeople_47 : decode cX3_mustPeople 47 = .ok (.iadd, 1) := by decide +kernel
theorem dX3_mustPeople_48 : decode cX3_mustPeople 48 = .ok (.istore_n 2, 1) := by decide +kernel
theorem dX3_mustPeople_49 : decode cX3_mustPeople 49 = .ok (.iinc 3 1, 3) := by decide +kernel
theorem dX3_mustPeople_52 : decode cX3_mustPeople 52 = .ok (.goto (-48), 3) := by decide +kernel
theorem dX3_mustPeople_55 : decode cX3_mustPeople 55 = .ok (.iload_n 2, 1) := by decide +kernel
theorem dX3_mustPeople_56 : decode cX3_mustPeople 56 = .ok (.ireturn, 1) := by decide +kernel
theorem dX3_flyingPeople_0 : decode cX3_flyingPeople 0 = .ok (.iconst 0, 1) := by decide +kernel
theorem dX3_flyingPeople_1 : decode cX3_flyingPeople 1 = .ok (.istore_n 1, 1) := by decide +kernel
theorem dX3_flyingPeople_2 : decode cX3_flyingPeople 2 = .ok (.iconst 0, 1) := by decide +kernel
theorem dX3_flyingPeople_3 : decode cX3_flyingPeople 3 = .ok (.istore_n 2, 1) := by decide +kernel
theorem dX3_flyingPeople_4 : decode cX3_flyingPeople 4 = .ok (.iload_n 2, 1) := by decide +kernel
theorem dX3_flyingPeople_5 : decode cX3_flyingPeople 5 = .ok (.aload_n 0, 1) := by decide +kernel
theorem dX3_flyingPeople_6 : decode cX3_flyingPeople 6 = .ok (.getfield 40, 3) := by decide +kernel
theorem dX3_flyingPeople_9 : decode cX3_flyingPeople 9 = .ok (.if_icmp .ge 48, 3) := by decide +kernel
theorem dX3_flyingPeople_12 : decode cX3_flyingPeople 12 = .ok (.aload_n 0, 1) := by decide +kernel
theorem dX3_flyingPeople_13 : decode cX3_flyingPeople 13 = .ok (.getfield 17, 3) := by decide +kernel
theorem dX3_flyingPeople_16 : decode cX3_flyingPeople 16 = .ok (.iload_n 2, 1) := by decide +kernel
theorem dX3_flyingPeople_17 : decode cX3_flyingPeople 17 = .ok (.aaload, 1) := by decide +kernel
theorem dX3_flyingPeople_18 : decode cX3_flyingPeople 18 = .ok (.getfield 92, 3) := by decide +kernel
theorem dX3_flyingPeople_21 : decode cX3_flyingPeople 21 = .ok (.ifCond .ne 30, 3) := by decide +kernel
theorem dX3_flyingPeople_24 : decode cX3_flyingPeople 24 = .ok (.aload_n 0, 1) := by decide +kernel
theorem dX3_flyingPeople_25 : decode cX3_flyingPeople 25 = .ok (.getfield 17, 3) := by decide +kernel
theorem dX3_flyingPeople_28 : decode cX3_flyingPeople 28 = .ok (.iload_n 2, 1) := by decide +kernel
theorem dX3_flyingPeople_29 : decode cX3_flyingPeople 29 = .ok (.aaload, 1) := by decide +kernel
theorem dX3_flyingPeople_30 : decode cX3_flyingPeople 30 = .ok (.getfield 95, 3) := by decide +kernel
theorem dX3_flyingPeople_33 : decode cX3_flyingPeople 33 = .ok (.getfield 57, 3) := by decide +kernel
theorem dX3_flyingPeople_36 : decode cX3_flyingPeople 36 = .ok (.ifCond .ne 15, 3) := by decide +kernel
theorem dX3_flyingPeople_39 : decode cX3_flyingPeople 39 = .ok (.iload_n 1, 1) := by decide +kernel
theorem dX3_flyingPeople_40 : decode cX3_flyingPeople 40 = .ok (.aload_n 0, 1) := by decide +kernel
theorem dX3_flyingPeople_41 : decode cX3_flyingPeople 41 = .ok (.getfield 17, 3) := by decide +kernel
theorem dX3_flyingPeople_44 : decode cX3_flyingPeople 44 = .ok (.iload_n 2, 1) := by decide +kernel
theorem dX3_flyingPeople_45 : decode cX3_flyingPeople 45 = .ok (.aaload, 1) := by decide +kernel
theorem dX3_flyingPeople_46 : decode cX3_flyingPeople 46 = .ok (.getfield 102, 3) := by decide +kernel
theorem dX3_flyingPeople_49 : decode cX3_flyingPeople 49 = .ok (.iadd, 1) := by decide +kernel
theorem dX3_flyingPeople_50 : decode cX3_flyingPeople 50 = .ok (.istore_n 1, 1) := by decide +kernel
theorem dX3_flyingPeople_51 : decode cX3_flyingPeople 51 = .ok (.iinc 2 1, 3) := by decide +kernel
theorem dX3_flyingPeople_54 : decode cX3_flyingPeople 54 = .ok (.goto (-50), 3) := by decide +kernel
theorem dX3_flyingPeople_57 : decode cX3_flyingPeople 57 = .ok (.iload_n 1, 1) := by decide +kernel
theorem dX3_flyingPeople_58 : decode cX3_flyingPeople 58 = .ok (.ireturn, 1) := by decide +kernel
theorem dX3_peopleIn_0 : decode cX3_peopleIn 0 = .ok (.iconst 0, 1) := by decide +kernel
theorem dX3_peopleIn_1 : decode cX3_peopleIn 1 = .ok (.istore_n 2, 1) := by decide +kernel
theorem dX3_peopleIn_2 : decode cX3_peopleIn 2 = .ok (.iconst 0, 1) := by decide +kernel
theorem dX3_peopleIn_3 : decode cX3_peopleIn 3 = .ok (.istore_n 3, 1) := by decide +kernel
theorem dX3_peopleIn_4 : decode cX3_peopleIn 4 = .ok (.iload_n 3, 1) := by decide +kernel
theorem dX3_peopleIn_5 : decode cX3_peopleIn 5 = .ok (.aload_n 0, 1) := by decide +kernel
theorem dX3_peopleIn_6 : decode cX3_peopleIn 6 = .ok (.getfield 40, 3) := by decide +kernel
theorem dX3_peopleIn_9 : decode cX3_peopleIn 9 = .ok (.if_icmp .ge 34, 3) := by decide +kernel
theorem dX3_peopleIn_12 : decode cX3_peopleIn 12 = .ok (.aload_n 0, 1) := by decide +kernel
theorem dX3_peopleIn_13 : decode cX3_peopleIn 13 = .ok (.getfield 17, 3) := by decide +kernel
theorem dX3_peopleIn_16 : decode cX3_peopleIn 16 = .ok (.iload_n 3, 1) := by decide +kernel
theorem dX3_peopleIn_17 : decode cX3_peopleIn 17 = .ok (.aaload, 1) := by decide +kernel
theorem dX3_peopleIn_18 : decode cX3_peopleIn 18 = .ok (.getfield 92, 3) := by decide +kernel
theorem dX3_peopleIn_21 : decode cX3_peopleIn 21 = .ok (.iload_n 1, 1) := by decide +kernel
theorem dX3_peopleIn_22 : decode cX3_peopleIn 22 = .ok (.if_icmp .ne 15, 3) := by decide +kernel
theorem dX3_peopleIn_25 : decode cX3_peopleIn 25 = .ok (.iload_n 2, 1) := by decide +kernel
theorem dX3_peopleIn_26 : decode cX3_peopleIn 26 = .ok (.aload_n 0, 1) := by decide +kernel
theorem dX3_peopleIn_27 : decode cX3_peopleIn 27 = .ok (.getfield 17, 3) := by decide +kernel
theorem dX3_peopleIn_30 : decode cX3_peopleIn 30 = .ok (.iload_n 3, 1) := by decide +kernel
theorem dX3_peopleIn_31 : decode cX3_peopleIn 31 = .ok (.aaload, 1) := by decide +kernel
theorem dX3_peopleIn_32 : decode cX3_peopleIn 32 = .ok (.getfield 102, 3) := by decide +kernel
theorem dX3_peopleIn_35 : decode cX3_peopleIn 35 = .ok (.iadd, 1) := by decide +kernel
theorem dX3_peopleIn_36 : decode cX3_peopleIn 36 = .ok (.istore_n 2, 1) := by decide +kernel
theorem dX3_peopleIn_37 : decode cX3_peopleIn 37 = .ok (.iinc 3 1, 3) := by decide +kernel
theorem dX3_peopleIn_40 : decode cX3_peopleIn 40 = .ok (.goto (-36), 3) := by decide +kernel
theorem dX3_peopleIn_43 : decode cX3_peopleIn 43 = .ok (.iload_n 2, 1) := by decide +kernel
theorem dX3_peopleIn_44 : decode cX3_peopleIn 44 = .ok (.ireturn, 1) := by decide +kernel
theorem dX3_peopleWithWay_0 : decode cX3_peopleWithWay 0 = .ok (.iconst 0, 1) := by decide +kernel
theorem dX3_peopleWithWay_1 : decode cX3_peopleWithWay 1 = .ok (.istore_n 1, 1) := by decide +kernel
theorem dX3_peopleWithWay_2 : decode cX3_peopleWithWay 2 = .ok (.iconst 0, 1) := by decide +kernel
theorem dX3_peopleWithWay_3 : decode cX3_peopleWithWay 3 = .ok (.istore_n 2, 1) := by decide +kernel
theorem dX3_peopleWithWay_4 : decode cX3_peopleWithWay 4 = .ok (.iload_n 2, 1) := by decide +kernel
theorem dX3_peopleWithWay_5 : decode cX3_peopleWithWay 5 = .ok (.aload_n 0, 1) := by decide +kernel
theorem dX3_peopleWithWay_6 : decode cX3_peopleWithWay 6 = .ok (.getfield 40, 3) := by decide +kernel
theorem dX3_peopleWithWay_9 : decode cX3_peopleWithWay 9 = .ok (.if_icmp .ge 33, 3) := by decide +kernel
theorem dX3_peopleWithWay_12 : decode cX3_peopleWithWay 12 = .ok (.aload_n 0, 1) := by decide +kernel
theorem dX3_peopleWithWay_13 : decode cX3_peopleWithWay 13 = .ok (.getfield 17, 3) := by decide +kernel
theorem dX3_peopleWithWay_16 : decode cX3_peopleWithWay 16 = .ok (.iload_n 2, 1) := by decide +kernel
theorem dX3_peopleWithWay_17 : decode cX3_peopleWithWay 17 = .ok (.aaload, 1) := by decide +kernel
theorem dX3_peopleWithWay_18 : decode cX3_peopleWithWay 18 = .ok (.getfield 108, 3) := by decide +kernel
theorem dX3_peopleWithWay_21 : decode cX3_peopleWithWay 21 = .ok (.ifnull 15, 3) := by decide +kernel
theorem dX3_peopleWithWay_24 : decode cX3_peopleWithWay 24 = .ok (.iload_n 1, 1) := by decide +kernel
theorem dX3_peopleWithWay_25 : decode cX3_peopleWithWay 25 = .ok (.aload_n 0, 1) := by decide +kernel
theorem dX3_peopleWithWay_26 : decode cX3_peopleWithWay 26 = .ok (.getfield 17, 3) := by decide +kernel
theorem dX3_peopleWithWay_29 : decode cX3_peopleWithWay 29 = .ok (.iload_n 2, 1) := by decide +kernel
theorem dX3_peopleWithWay_30 : decode cX3_peopleWithWay 30 = .ok (.aaload, 1) := by decide +kernel
theorem dX3_peopleWithWay_31 : decode cX3_peopleWithWay 31 = .ok (.getfield 102, 3) := by decide +kernel
theorem dX3_peopleWithWay_34 : decode cX3_peopleWithWay 34 = .ok (.iadd, 1) := by decide +kernel
theorem dX3_peopleWithWay_35 : decode cX3_peopleWithWay 35 = .ok (.istore_n 1, 1) := by decide +kernel
theorem dX3_peopleWithWay_36 : decode cX3_peopleWithWay 36 = .ok (.iinc 2 1, 3) := by decide +kernel
theorem dX3_peopleWithWay_39 : decode cX3_peopleWithWay 39 = .ok (.goto (-35), 3) := by decide +kernel
theorem dX3_peopleWithWay_42 : decode cX3_peopleWithWay 42 = .ok (.iload_n 1, 1) := by decide +kernel
theorem dX3_peopleWithWay_43 : decode cX3_peopleWithWay 43 = .ok (.ireturn, 1) := by decide +kernel
theorem dX3_allClaims_0 : decode cX3_allClaims 0 = .ok (.iconst 0, 1) := by decide +kernel
theorem dX3_allClaims_1 : decode cX3_allClaims 1 = .ok (.istore_n 1, 1) := by decide +kernel
theorem dX3_allClaims_2 : decode cX3_allClaims 2 = .ok (.iconst 0, 1) := by decide +kernel
theorem dX3_allClaims_3 : decode cX3_allClaims 3 = .ok (.istore_n 2, 1) := by decide +kernel
theorem dX3_allClaims_4 : decode cX3_allClaims 4 = .ok (.iload_n 2, 1) := by decide +kernel
theorem dX3_allClaims_5 : decode cX3_allClaims 5 = .ok (.aload_n 0, 1) := by decide +kernel
theorem dX3_allClaims_6 : decode cX3_allClaims 6 = .ok (.getfield 40, 3) := by decide +kernel
theorem dX3_allClaims_9 : decode cX3_allClaims 9 = .ok (.if_icmp .ge 22, 3) := by decide +kernel
theorem dX3_allClaims_12 : decode cX3_allClaims 12 = .ok (.iload_n 1, 1) := by decide +kernel
theorem dX3_allClaims_13 : decode cX3_allClaims 13 = .ok (.aload_n 0, 1) := by decide +kernel
theorem dX3_allClaims_14 : decode cX3_allClaims 14 = .ok (.aload_n 0, 1) := by decide +kernel
theorem dX3_allClaims_15 : decode cX3_allClaims 15 = .ok (.getfield 17, 3) := by decide +kernel
theorem dX3_allClaims_18 : decode cX3_allClaims 18 = .ok (.iload_n 2, 1) := by decide +kernel
theorem dX3_allClaims_19 : decode cX3_allClaims 19 = .ok (.aaload, 1) := by decide +kernel
theorem dX3_allClaims_20 : decode cX3_allClaims 20 = .ok (.invokevirtual 121, 3) := by decide +kernel
theorem dX3_allClaims_23 : decode cX3_allClaims 23 = .ok (.iadd, 1) := by decide +kernel
theorem dX3_allClaims_24 : decode cX3_allClaims 24 = .ok (.istore_n 1, 1) := by decide +kernel
theorem dX3_allClaims_25 : decode cX3_allClaims 25 = .ok (.iinc 2 1, 3) := by decide +kernel
theorem dX3_allClaims_28 : decode cX3_allClaims 28 = .ok (.goto (-24), 3) := by decide +kernel
theorem dX3_allClaims_31 : decode cX3_allClaims 31 = .ok (.iload_n 1, 1) := by decide +kernel
theorem dX3_allClaims_32 : decode cX3_allClaims 32 = .ok (.ireturn, 1) := by decide +kernel
theorem dX3_claimOf_0 : decode cX3_claimOf 0 = .ok (.aload_n 1, 1) := by decide +kernel
theorem dX3_claimOf_1 : decode cX3_claimOf 1 = .ok (.getfield 92, 3) := by decide +kernel
theorem dX3_claimOf_4 : decode cX3_claimOf 4 = .ok (.iconst 2, 1) := by decide +kernel
theorem dX3_claimOf_5 : decode cX3_claimOf 5 = .ok (.if_icmp .eq 13, 3) := by decide +kernel
theorem dX3_claimOf_8 : decode cX3_claimOf 8 = .ok (.aload_n 1, 1) := by decide +kernel
theorem dX3_claimOf_9 : decode cX3_claimOf 9 = .ok (.getfield 105, 3) := by decide +kernel
theorem dX3_claimOf_12 : decode cX3_claimOf 12 = .ok (.aload_n 1, 1) := by decide +kernel
theorem dX3_claimOf_13 : decode cX3_claimOf 13 = .ok (.getfield 102, 3) := by decide +kernel
theorem dX3_claimOf_16 : decode cX3_claimOf 16 = .ok (.imul, 1) := by decide +kernel
theorem dX3_claimOf_17 : decode cX3_claimOf 17 = .ok (.ireturn, 1) := by decide +kernel
theorem dX3_claimOf_18 : decode cX3_claimOf 18 = .ok (.aload_n 0, 1) := by decide +kernel
theorem dX3_claimOf_19 : decode cX3_claimOf 19 = .ok (.aload_n 1, 1) := by decide +kernel
theorem dX3_claimOf_20 : decode cX3_claimOf 20 = .ok (.getfield 95, 3) := by decide +kernel
theorem dX3_claimOf_23 : decode cX3_claimOf 23 = .ok (.getfield 230, 3) := by decide +kernel
theorem dX3_claimOf_26 : decode cX3_claimOf 26 = .ok (.invokevirtual 233, 3) := by decide +kernel
theorem dX3_claimOf_29 : decode cX3_claimOf 29 = .ok (.istore_n 2, 1) := by decide +kernel
theorem dX3_claimOf_30 : decode cX3_claimOf 30 = .ok (.aload_n 1, 1) := by decide +kernel
theorem dX3_claimOf_31 : decode cX3_claimOf 31 = .ok (.getfield 108, 3) := by decide +kernel
theorem dX3_claimOf_34 : decode cX3_claimOf 34 = .ok (.ifnonnull 10, 3) := by decide +kernel
theorem dX3_claimOf_37 : decode cX3_claimOf 37 = .ok (.iload_n 2, 1) := by decide +kernel
theorem dX3_claimOf_38 : decode cX3_claimOf 38 = .ok (.aload_n 1, 1) := by decide +kernel
theorem dX3_claimOf_39 : decode cX3_claimOf 39 = .ok (.getfield 102, 3) := by decide +kernel
theorem dX3_claimOf_42 : decode cX3_claimOf 42 = .ok (.imul, 1) := by decide +kernel
theorem dX3_claimOf_43 : decode cX3_claimOf 43 = .ok (.ireturn, 1) := by decide +kernel
theorem dX3_claimOf_44 : decode cX3_claimOf 44 = .ok (.aload_n 1, 1) := by decide +kernel
theorem dX3_claimOf_45 : decode cX3_claimOf 45 = .ok (.invokevirtual 117, 3) := by decide +kernel
theorem dX3_claimOf_48 : decode cX3_claimOf 48 = .ok (.istore_n 3, 1) := by decide +kernel
theorem dX3_claimOf_49 : decode cX3_claimOf 49 = .ok (.iload_n 3, 1) := by decide +kernel
theorem dX3_claimOf_50 : decode cX3_claimOf 50 = .ok (.bipush 120, 2) := by decide +kernel
theorem dX3_claimOf_52 : decode cX3_claimOf 52 = .ok (.if_icmp .ge 5, 3) := by decide +kernel
theorem dX3_claimOf_55 : decode cX3_claimOf 55 = .ok (.iconst 0, 1) := by decide +kernel
theorem dX3_claimOf_56 : decode cX3_claimOf 56 = .ok (.ireturn, 1) := by decide +kernel
theorem dX3_claimOf_57 : decode cX3_claimOf 57 = .ok (.iload_n 3, 1) := by decide +kernel
theorem dX3_claimOf_58 : decode cX3_claimOf 58 = .ok (.sipush 240, 3) := by decide +kernel
theorem dX3_claimOf_61 : decode cX3_claimOf 61 = .ok (.if_icmp .ge 9, 3) := by decide +kernel
theorem dX3_claimOf_64 : decode cX3_claimOf 64 = .ok (.iload_n 2, 1) := by decide +kernel
theorem dX3_claimOf_65 : decode cX3_claimOf 65 = .ok (.iconst 2, 1) := by decide +kernel
theorem dX3_claimOf_66 : decode cX3_claimOf 66 = .ok (.idiv, 1) := by decide +kernel
theorem dX3_claimOf_67 : decode cX3_claimOf 67 = .ok (.goto 4, 3) := by decide +kernel
theorem dX3_claimOf_70 : decode cX3_claimOf 70 = .ok (.iload_n 2, 1) := by decide +kernel
theorem dX3_claimOf_71 : decode cX3_claimOf 71 = .ok (.aload_n 1, 1) := by decide +kernel
theorem dX3_claimOf_72 : decode cX3_claimOf 72 = .ok (.getfield 102, 3) := by decide +kernel
theorem dX3_claimOf_75 : decode cX3_claimOf 75 = .ok (.imul, 1) := by decide +kernel
theorem dX3_claimOf_76 : decode cX3_claimOf 76 = .ok (.ireturn, 1) := by decide +kernel
theorem dX3_baseFee_0 : decode cX3_baseFee 0 = .ok (.iload_n 1, 1) := by decide +kernel
theorem dX3_baseFee_1 : decode cX3_baseFee 1 = .ok (.sipush 1500, 3) := by decide +kernel
theorem dX3_baseFee_4 : decode cX3_baseFee 4 = .ok (.if_icmp .gt 10, 3) := by decide +kernel
theorem dX3_baseFee_7 : decode cX3_baseFee 7 = .ok (.aload_n 0, 1) := by decide +kernel
theorem dX3_baseFee_8 : decode cX3_baseFee 8 = .ok (.getfield 21, 3) := by decide +kernel
theorem dX3_baseFee_11 : decode cX3_baseFee 11 = .ok (.iconst 0, 1) := by decide +kernel
theorem dX3_baseFee_12 : decode cX3_baseFee 12 = .ok (.iaload, 1) := by decide +kernel
theorem dX3_baseFee_13 : decode cX3_baseFee 13 = .ok (.ireturn, 1) := by decide +kernel
theorem dX3_baseFee_14 : decode cX3_baseFee 14 = .ok (.iload_n 1, 1) := by decide +kernel
theorem dX3_baseFee_15 : decode cX3_baseFee 15 = .ok (.sipush 3500, 3) := by decide +kernel
theorem dX3_baseFee_18 : decode cX3_baseFee 18 = .ok (.if_icmp .gt 12, 3) := by decide +kernel
theorem dX3_baseFee_21 : decode cX3_baseFee 21 = .ok (.aload_n 0, 1) := by decide +kernel
theorem dX3_baseFee_22 : decode cX3_baseFee 22 = .ok (.getfield 21, 3) := by decide +kernel
theorem dX3_baseFee_25 : decode cX3_baseFee 25 = .ok (.iconst 1, 1) := by decide +kernel
theorem dX3_baseFee_26 : decode cX3_baseFee 26 = .ok (.iaload, 1) := by decide +kernel
theorem dX3_baseFee_27 : decode cX3_baseFee 27 = .ok (.goto 9, 3) := by decide +kernel
theorem dX3_baseFee_30 : decode cX3_baseFee 30 = .ok (.aload_n 0, 1) := by decide +kernel
theorem dX3_baseFee_31 : decode cX3_baseFee 31 = .ok (.getfield 21, 3) := by decide +kernel
theorem dX3_baseFee_34 : decode cX3_baseFee 34 = .ok (.iconst 2, 1) := by decide +kernel
theorem dX3_baseFee_35 : decode cX3_baseFee 35 = .ok (.iaload, 1) := by decide +kernel
theorem dX3_baseFee_36 : decode cX3_baseFee 36 = .ok (.ireturn, 1) := by decide +kernel
theorem dX3_cheapestDeal_0 : decode cX3_cheapestDeal 0 = .ok (.iconst 0, 1) := by decide +kernel
theorem dX3_cheapestDeal_1 : decode cX3_cheapestDeal 1 = .ok (.istore_n 3, 1) := by decide +kernel
theorem dX3_cheapestDeal_2 : decode cX3_cheapestDeal 2 = .ok (.iload_n 3, 1) := by decide +kernel
theorem dX3_cheapestDeal_3 : decode cX3_cheapestDeal 3 = .ok (.aload_n 0, 1) := by decide +kernel
theorem dX3_cheapestDeal_4 : decode cX3_cheapestDeal 4 = .ok (.getfield 25, 3) := by decide +kernel
theorem dX3_cheapestDeal_7 : decode cX3_cheapestDeal 7 = .ok (.arraylength, 1) := by decide +kernel
theorem dX3_cheapestDeal_8 : decode cX3_cheapestDeal 8 = .ok (.if_icmp .ge 18, 3) := by decide +kernel
theorem dX3_cheapestDeal_11 : decode cX3_cheapestDeal 11 = .ok (.aload_n 0, 1) := by decide +kernel
theorem dX3_cheapestDeal_12 : decode cX3_cheapestDeal 12 = .ok (.getfield 25, 3) := by decide +kernel
theorem dX3_cheapestDeal_15 : decode cX3_cheapestDeal 15 = .ok (.iload_n 3, 1) := by decide +kernel
theorem dX3_cheapestDeal_16 : decode cX3_cheapestDeal 16 = .ok (.ldc2_w 236, 3) := by decide +kernel
theorem dX3_cheapestDeal_19 : decode cX3_cheapestDeal 19 = .ok (.lastore, 1) := by decide +kernel
theorem dX3_cheapestDeal_20 : decode cX3_cheapestDeal 20 = .ok (.iinc 3 1, 3) := by decide +kernel
theorem dX3_cheapestDeal_23 : decode cX3_cheapestDeal 23 = .ok (.goto (-21), 3) := by decide +kernel
theorem dX3_cheapestDeal_26 : decode cX3_cheapestDeal 26 = .ok (.aload_n 0, 1) := by decide +kernel
theorem dX3_cheapestDeal_27 : decode cX3_cheapestDeal 27 = .ok (.getfield 25, 3) := by decide +kernel
theorem dX3_cheapestDeal_30 : decode cX3_cheapestDeal 30 = .ok (.iconst 0, 1) := by decide +kernel
theorem dX3_cheapestDeal_31 : decode cX3_cheapestDeal 31 = .ok (.lconst 0, 1) := by decide +kernel
theorem dX3_cheapestDeal_32 : decode cX3_cheapestDeal 32 = .ok (.lastore, 1) := by decide +kernel
theorem dX3_cheapestDeal_33 : decode cX3_cheapestDeal 33 = .ok (.iconst 0, 1) := by decide +kernel
theorem dX3_cheapestDeal_34 : decode cX3_cheapestDeal 34 = .ok (.istore_n 3, 1) := by decide +kernel
theorem dX3_cheapestDeal_35 : decode cX3_cheapestDeal 35 = .ok (.iconst 0, 1) := by decide +kernel
theorem dX3_cheapestDeal_36 : decode cX3_cheapestDeal 36 = .ok (.istore 4, 2) := by decide +kernel
theorem dX3_cheapestDeal_38 : decode cX3_cheapestDeal 38 = .ok (.iload 4, 2) := by decide +kernel
theorem dX3_cheapestDeal_40 : decode cX3_cheapestDeal 40 = .ok (.aload_n 0, 1) := by decide +kernel
theorem dX3_cheapestDeal_41 : decode cX3_cheapestDeal 41 = .ok (.getfield 40, 3) := by decide +kernel
theorem dX3_cheapestDeal_44 : decode cX3_cheapestDeal 44 = .ok (.if_icmp .ge 81, 3) := by decide +kernel
theorem dX3_cheapestDeal_47 : decode cX3_cheapestDeal 47 = .ok (.aload_n 0, 1) := by decide +kernel
theorem dX3_cheapestDeal_48 : decode cX3_cheapestDeal 48 = .ok (.getfield 17, 3) := by decide +kernel
theorem dX3_cheapestDeal_51 : decode cX3_cheapestDeal 51 = .ok (.iload 4, 2) := by decide +kernel
theorem dX3_cheapestDeal_53 : decode cX3_cheapestDeal 53 = .ok (.aaload, 1) := by decide +kernel
theorem dX3_cheapestDeal_54 : decode cX3_cheapestDeal 54 = .ok (.astore 5, 2) := by decide +kernel
theorem dX3_cheapestDeal_56 : decode cX3_cheapestDeal 56 = .ok (.aload 5, 2) := by decide +kernel
theorem dX3_cheapestDeal_58 : decode cX3_cheapestDeal 58 = .ok (.aload_n 1, 1) := by decide +kernel
theorem dX3_cheapestDeal_59 : decode cX3_cheapestDeal 59 = .ok (.invokevirtual 238, 3) := by decide +kernel
theorem dX3_cheapestDeal_62 : decode cX3_cheapestDeal 62 = .ok (.ifCond .eq 57, 3) := by decide +kernel
theorem dX3_cheapestDeal_65 : decode cX3_cheapestDeal 65 = .ok (.iload_n 3, 1) := by decide +kernel
theorem dX3_cheapestDeal_66 : decode cX3_cheapestDeal 66 = .ok (.aload 5, 2) := by decide +kernel
theorem dX3_cheapestDeal_68 : decode cX3_cheapestDeal 68 = .ok (.getfield 102, 3) := by decide +kernel
theorem dX3_cheapestDeal_71 : decode cX3_cheapestDeal 71 = .ok (.iadd, 1) := by decide +kernel
theorem dX3_cheapestDeal_72 : decode cX3_cheapestDeal 72 = .ok (.aload_n 0, 1) := by decide +kernel
theorem dX3_cheapestDeal_73 : decode cX3_cheapestDeal 73 = .ok (.getfield 25, 3) := by decide +kernel
theorem dX3_cheapestDeal_76 : decode cX3_cheapestDeal 76 = .ok (.arraylength, 1) := by decide +kernel
theorem dX3_cheapestDeal_77 : decode cX3_cheapestDeal 77 = .ok (.if_icmp .ge 42, 3) := by decide +kernel
theorem dX3_cheapestDeal_80 : decode cX3_cheapestDeal 80 = .ok (.aload_n 0, 1) := by decide +kernel
theorem dX3_cheapestDeal_81 : decode cX3_cheapestDeal 81 = .ok (.iload_n 3, 1) := by decide +kernel
theorem dX3_cheapestDeal_82 : decode cX3_cheapestDeal 82 = .ok (.aload 5, 2) := by decide +kernel
theorem dX3_cheapestDeal_84 : decode cX3_cheapestDeal 84 = .ok (.getfield 102, 3) := by decide +kernel
theorem dX3_cheapestDeal_87 : decode cX3_cheapestDeal 87 = .ok (.aload 5, 2) := by decide +kernel
theorem dX3_cheapestDeal_89 : decode cX3_cheapestDeal 89 = .ok (.getfield 151, 3) := by decide +kernel
theorem dX3_cheapestDeal_92 : decode cX3_cheapestDeal 92 = .ok (.i2l, 1) := by decide +kernel
theorem dX3_cheapestDeal_93 : decode cX3_cheapestDeal 93 = .ok (.aload 5, 2) := by decide +kernel
theorem dX3_cheapestDeal_95 : decode cX3_cheapestDeal 95 = .ok (.getfield 102, 3) := by decide +kernel
theorem dX3_cheapestDeal_98 : decode cX3_cheapestDeal 98 = .ok (.i2l, 1) := by decide +kernel
theorem dX3_cheapestDeal_99 : decode cX3_cheapestDeal 99 = .ok (.lmul, 1) := by decide +kernel
theorem dX3_cheapestDeal_100 : decode cX3_cheapestDeal 100 = .ok (.bipush 20, 2) := by decide +kernel
theorem dX3_cheapestDeal_102 : decode cX3_cheapestDeal 102 = .ok (.lshl, 1) := by decide +kernel
theorem dX3_cheapestDeal_103 : decode cX3_cheapestDeal 103 = .ok (.lconst 1, 1) := by decide +kernel
theorem dX3_cheapestDeal_104 : decode cX3_cheapestDeal 104 = .ok (.iload 4, 2) := by decide +kernel
theorem dX3_cheapestDeal_106 : decode cX3_cheapestDeal 106 = .ok (.lshl, 1) := by decide +kernel
theorem dX3_cheapestDeal_107 : decode cX3_cheapestDeal 107 = .ok (.ladd, 1) := by decide +kernel
theorem dX3_cheapestDeal_108 : decode cX3_cheapestDeal 108 = .ok (.invokevirtual 241, 3) := by decide +kernel
theorem dX3_cheapestDeal_111 : decode cX3_cheapestDeal 111 = .ok (.iload_n 3, 1) := by decide +kernel
theorem dX3_cheapestDeal_112 : decode cX3_cheapestDeal 112 = .ok (.aload 5, 2) := by decide +kernel
theorem dX3_cheapestDeal_114 : decode cX3_cheapestDeal 114 = .ok (.getfield 102, 3) := by decide +kernel
theorem dX3_cheapestDeal_117 : decode cX3_cheapestDeal 117 = .ok (.iadd, 1) := by decide +kernel
theorem dX3_cheapestDeal_118 : decode cX3_cheapestDeal 118 = .ok (.istore_n 3, 1) := by decide +kernel
theorem dX3_cheapestDeal_119 : decode cX3_cheapestDeal 119 = .ok (.iinc 4 1, 3) := by decide +kernel
theorem dX3_cheapestDeal_122 : decode cX3_cheapestDeal 122 = .ok (.goto (-84), 3) := by decide +kernel
theorem dX3_cheapestDeal_125 : decode cX3_cheapestDeal 125 = .ok (.aload_n 0, 1) := by decide +kernel
theorem dX3_cheapestDeal_126 : decode cX3_cheapestDeal 126 = .ok (.iload_n 2, 1) := by decide +kernel
theorem dX3_cheapestDeal_127 : decode cX3_cheapestDeal 127 = .ok (.iload_n 3, 1) := by decide +kernel
theorem dX3_cheapestDeal_128 : decode cX3_cheapestDeal 128 = .ok (.invokevirtual 245, 3) := by decide +kernel
theorem dX3_cheapestDeal_131 : decode cX3_cheapestDeal 131 = .ok (.lreturn, 1) := by decide +kernel
theorem dX3_offerDeals_0 : decode cX3_offerDeals 0 = .ok (.iload_n 1, 1) := by decide +kernel
theorem dX3_offerDeals_1 : decode cX3_offerDeals 1 = .ok (.istore 5, 2) := by decide +kernel
theorem dX3_offerDeals_3 : decode cX3_offerDeals 3 = .ok (.iload 5, 2) := by decide +kernel
theorem dX3_offerDeals_5 : decode cX3_offerDeals 5 = .ok (.ifCond .lt 72, 3) := by decide +kernel
theorem dX3_offerDeals_8 : decode cX3_offerDeals 8 = .ok (.aload_n 0, 1) := by decide +kernel
theorem dX3_offerDeals_9 : decode cX3_offerDeals 9 = .ok (.getfield 25, 3) := by decide +kernel
theorem dX3_offerDeals_12 : decode cX3_offerDeals 12 = .ok (.iload 5, 2) := by decide +kernel
theorem dX3_offerDeals_14 : decode cX3_offerDeals 14 = .ok (.laload, 1) := by decide +kernel
theorem dX3_offerDeals_15 : decode cX3_offerDeals 15 = .ok (.lconst 0, 1) := by decide +kernel
theorem dX3_offerDeals_16 : decode cX3_offerDeals 16 = .ok (.lcmp, 1) := by decide +kernel
theorem dX3_offerDeals_17 : decode cX3_offerDeals 17 = .ok (.ifCond .lt 54, 3) := by decide +kernel
theorem dX3_offerDeals_20 : decode cX3_offerDeals 20 = .ok (.aload_n 0, 1) := by decide +kernel
theorem dX3_offerDeals_21 : decode cX3_offerDeals 21 = .ok (.getfield 25, 3) := by decide +kernel
theorem dX3_offerDeals_24 : decode cX3_offerDeals 24 = .ok (.iload 5, 2) := by decide +kernel
theorem dX3_offerDeals_26 : decode cX3_offerDeals 26 = .ok (.laload, 1) := by decide +kernel
theorem dX3_offerDeals_27 : decode cX3_offerDeals 27 = .ok (.lload_n 3, 1) := by decide +kernel
theorem dX3_offerDeals_28 : decode cX3_offerDeals 28 = .ok (.ladd, 1) := by decide +kernel
theorem dX3_offerDeals_29 : decode cX3_offerDeals 29 = .ok (.lstore 6, 2) := by decide +kernel
theorem dX3_offerDeals_31 : decode cX3_offerDeals 31 = .ok (.aload_n 0, 1) := by decide +kernel
theorem dX3_offerDeals_32 : decode cX3_offerDeals 32 = .ok (.getfield 25, 3) := by decide +kernel
theorem dX3_offerDeals_35 : decode cX3_offerDeals 35 = .ok (.iload 5, 2) := by decide +kernel
theorem dX3_offerDeals_37 : decode cX3_offerDeals 37 = .ok (.iload_n 2, 1) := by decide +kernel
theorem dX3_offerDeals_38 : decode cX3_offerDeals 38 = .ok (.iadd, 1) := by decide +kernel
theorem dX3_offerDeals_39 : decode cX3_offerDeals 39 = .ok (.laload, 1) := by decide +kernel
theorem dX3_offerDeals_40 : decode cX3_offerDeals 40 = .ok (.lconst 0, 1) := by decide +kernel
theorem dX3_offerDeals_41 : decode cX3_offerDeals 41 = .ok (.lcmp, 1) := by decide +kernel
theorem dX3_offerDeals_42 : decode cX3_offerDeals 42 = .ok (.ifCond .lt 18, 3) := by decide +kernel
theorem dX3_offerDeals_45 : decode cX3_offerDeals 45 = .ok (.lload 6, 2) := by decide +kernel
theorem dX3_offerDeals_47 : decode cX3_offerDeals 47 = .ok (.aload_n 0, 1) := by decide +kernel
theorem dX3_offerDeals_48 : decode cX3_offerDeals 48 = .ok (.getfield 25, 3) := by decide +kernel
theorem dX3_offerDeals_51 : decode cX3_offerDeals 51 = .ok (.iload 5, 2) := by decide +kernel
theorem dX3_offerDeals_53 : decode cX3_offerDeals 53 = .ok (.iload_n 2, 1) := by decide +kernel
theorem dX3_offerDeals_54 : decode cX3_offerDeals 54 = .ok (.iadd, 1) := by decide +kernel
theorem dX3_offerDeals_55 : decode cX3_offerDeals 55 = .ok (.laload, 1) := by decide +kernel
theorem dX3_offerDeals_56 : decode cX3_offerDeals 56 = .ok (.lcmp, 1) := by decide +kernel
theorem dX3_offerDeals_57 : decode cX3_offerDeals 57 = .ok (.ifCond .ge 14, 3) := by decide +kernel
theorem dX3_offerDeals_60 : decode cX3_offerDeals 60 = .ok (.aload_n 0, 1) := by decide +kernel
theorem dX3_offerDeals_61 : decode cX3_offerDeals 61 = .ok (.getfield 25, 3) := by decide +kernel
theorem dX3_offerDeals_64 : decode cX3_offerDeals 64 = .ok (.iload 5, 2) := by decide +kernel
theorem dX3_offerDeals_66 : decode cX3_offerDeals 66 = .ok (.iload_n 2, 1) := by decide +kernel
theorem dX3_offerDeals_67 : decode cX3_offerDeals 67 = .ok (.iadd, 1) := by decide +kernel
theorem dX3_offerDeals_68 : decode cX3_offerDeals 68 = .ok (.lload 6, 2) := by decide +kernel
theorem dX3_offerDeals_70 : decode cX3_offerDeals 70 = .ok (.lastore, 1) := by decide +kernel
theorem dX3_offerDeals_71 : decode cX3_offerDeals 71 = .ok (.iinc 5 (-1), 3) := by decide +kernel
theorem dX3_offerDeals_74 : decode cX3_offerDeals 74 = .ok (.goto (-71), 3) := by decide +kernel
theorem dX3_offerDeals_77 : decode cX3_offerDeals 77 = .ok (.return_, 1) := by decide +kernel
theorem dX3_leastDeal_0 : decode cX3_leastDeal 0 = .ok (.ldc2_w 236, 3) := by decide +kernel
theorem dX3_leastDeal_3 : decode cX3_leastDeal 3 = .ok (.lstore_n 3, 1) := by decide +kernel
theorem dX3_leastDeal_4 : decode cX3_leastDeal 4 = .ok (.iload_n 1, 1) := by decide +kernel
theorem dX3_leastDeal_5 : decode cX3_leastDeal 5 = .ok (.istore 5, 2) := by decide +kernel
theorem dX3_leastDeal_7 : decode cX3_leastDeal 7 = .ok (.iload 5, 2) := by decide +kernel
theorem dX3_leastDeal_9 : decode cX3_leastDeal 9 = .ok (.iload_n 2, 1) := by decide +kernel
theorem dX3_leastDeal_10 : decode cX3_leastDeal 10 = .ok (.if_icmp .gt 46, 3) := by decide +kernel
theorem dX3_leastDeal_13 : decode cX3_leastDeal 13 = .ok (.aload_n 0, 1) := by decide +kernel
theorem dX3_leastDeal_14 : decode cX3_leastDeal 14 = .ok (.getfield 25, 3) := by decide +kernel
theorem dX3_leastDeal_17 : decode cX3_leastDeal 17 = .ok (.iload 5, 2) := by decide +kernel
theorem dX3_leastDeal_19 : decode cX3_leastDeal 19 = .ok (.laload, 1) := by decide +kernel
theorem dX3_leastDeal_20 : decode cX3_leastDeal 20 = .ok (.lstore 6, 2) := by decide +kernel
theorem dX3_leastDeal_22 : decode cX3_leastDeal 22 = .ok (.lload 6, 2) := by decide +kernel
theorem dX3_leastDeal_24 : decode cX3_leastDeal 24 = .ok (.lconst 0, 1) := by decide +kernel
theorem dX3_leastDeal_25 : decode cX3_leastDeal 25 = .ok (.lcmp, 1) := by decide +kernel
theorem dX3_leastDeal_26 : decode cX3_leastDeal 26 = .ok (.ifCond .lt 24, 3) := by decide +kernel
theorem dX3_leastDeal_29 : decode cX3_leastDeal 29 = .ok (.lload_n 3, 1) := by decide +kernel
theorem dX3_leastDeal_30 : decode cX3_leastDeal 30 = .ok (.lconst 0, 1) := by decide +kernel
theorem dX3_leastDeal_31 : decode cX3_leastDeal 31 = .ok (.lcmp, 1) := by decide +kernel
theorem dX3_leastDeal_32 : decode cX3_leastDeal 32 = .ok (.ifCond .lt 15, 3) := by decide +kernel
theorem dX3_leastDeal_35 : decode cX3_leastDeal 35 = .ok (.lload 6, 2) := by decide +kernel
theorem dX3_leastDeal_37 : decode cX3_leastDeal 37 = .ok (.invokestatic 143, 3) := by decide +kernel
theorem dX3_leastDeal_40 : decode cX3_leastDeal 40 = .ok (.lload_n 3, 1) := by decide +kernel
theorem dX3_leastDeal_41 : decode cX3_leastDeal 41 = .ok (.invokestatic 143, 3) := by decide +kernel
theorem dX3_leastDeal_44 : decode cX3_leastDeal 44 = .ok (.if_icmp .ge 6, 3) := by decide +kernel
theorem dX3_leastDeal_47 : decode cX3_leastDeal 47 = .ok (.lload 6, 2) := by decide +kernel
theorem dX3_leastDeal_49 : decode cX3_leastDeal 49 = .ok (.lstore_n 3, 1) := by decide +kernel
theorem dX3_leastDeal_50 : decode cX3_leastDeal 50 = .ok (.iinc 5 1, 3) := by decide +kernel
theorem dX3_leastDeal_53 : decode cX3_leastDeal 53 = .ok (.goto (-46), 3) := by decide +kernel
theorem dX3_leastDeal_56 : decode cX3_leastDeal 56 = .ok (.lload_n 3, 1) := by decide +kernel
theorem dX3_leastDeal_57 : decode cX3_leastDeal 57 = .ok (.lreturn, 1) := by decide +kernel
theorem dX3_coinOfDeal_0 : decode cX3_coinOfDeal 0 = .ok (.lload_n 0, 1) := by decide +kernel
theorem dX3_coinOfDeal_1 : decode cX3_coinOfDeal 1 = .ok (.bipush 20, 2) := by decide +kernel
theorem dX3_coinOfDeal_3 : decode cX3_coinOfDeal 3 = .ok (.lshr, 1) := by decide +kernel
theorem dX3_coinOfDeal_4 : decode cX3_coinOfDeal 4 = .ok (.l2i, 1) := by decide +kernel
theorem dX3_coinOfDeal_5 : decode cX3_coinOfDeal 5 = .ok (.ireturn, 1) := by decide +kernel
theorem dX3_lowestBidders_0 : decode cX3_lowestBidders 0 = .ok (.iconst 0, 1) := by decide +kernel
theorem dX3_lowestBidders_1 : decode cX3_lowestBidders 1 = .ok (.istore_n 3, 1) := by decide +kernel
theorem dX3_lowestBidders_2 : decode cX3_lowestBidders 2 = .ok (.iconst 0, 1) := by decide +kernel
theorem dX3_lowestBidders_3 : decode cX3_lowestBidders 3 = .ok (.istore 4, 2) := by decide +kernel
theorem dX3_lowestBidders_5 : decode cX3_lowestBidders 5 = .ok (.iconst 0, 1) := by decide +kernel
theorem dX3_lowestBidders_6 : decode cX3_lowestBidders 6 = .ok (.istore 5, 2) := by decide +kernel
theorem dX3_lowestBidders_8 : decode cX3_lowestBidders 8 = .ok (.iload 5, 2) := by decide +kernel
theorem dX3_lowestBidders_10 : decode cX3_lowestBidders 10 = .ok (.aload_n 0, 1) := by decide +kernel
theorem dX3_lowestBidders_11 : decode cX3_lowestBidders 11 = .ok (.getfield 40, 3) := by decide +kernel
theorem dX3_lowestBidders_14 : decode cX3_lowestBidders 14 = .ok (.if_icmp .ge 53, 3) := by decide +kernel
theorem dX3_lowestBidders_17 : decode cX3_lowestBidders 17 = .ok (.iload 4, 2) := by decide +kernel
theorem dX3_lowestBidders_19 : decode cX3_lowestBidders 19 = .ok (.iload_n 2, 1) := by decide +kernel
theorem dX3_lowestBidders_20 : decode cX3_lowestBidders 20 = .ok (.if_icmp .ge 47, 3) := by decide +kernel
theorem dX3_lowestBidders_23 : decode cX3_lowestBidders 23 = .ok (.aload_n 0, 1) := by decide +kernel
theorem dX3_lowestBidders_24 : decode cX3_lowestBidders 24 = .ok (.aload_n 1, 1) := by decide +kernel
theorem dX3_lowestBidders_25 : decode cX3_lowestBidders 25 = .ok (.iload_n 3, 1) := by decide +kernel
theorem dX3_lowestBidders_26 : decode cX3_lowestBidders 26 = .ok (.invokevirtual 249, 3) := by decide +kernel
theorem dX3_lowestBidders_29 : decode cX3_lowestBidders 29 = .ok (.istore 6, 2) := by decide +kernel
theorem dX3_lowestBidders_31 : decode cX3_lowestBidders 31 = .ok (.iload 6, 2) := by decide +kernel
theorem dX3_lowestBidders_33 : decode cX3_lowestBidders 33 = .ok (.iconst (-1), 1) := by decide +kernel
theorem dX3_lowestBidders_34 : decode cX3_lowestBidders 34 = .ok (.if_icmp .ne 5, 3) := by decide +kernel
theorem dX3_lowestBidders_37 : decode cX3_lowestBidders 37 = .ok (.iconst 0, 1) := by decide +kernel
theorem dX3_lowestBidders_38 : decode cX3_lowestBidders 38 = .ok (.ireturn, 1) := by decide +kernel
theorem dX3_lowestBidders_39 : decode cX3_lowestBidders 39 = .ok (.iload_n 3, 1) := by decide +kernel
theorem dX3_lowestBidders_40 : decode cX3_lowestBidders 40 = .ok (.iconst 1, 1) := by decide +kernel
theorem dX3_lowestBidders_41 : decode cX3_lowestBidders 41 = .ok (.iload 6, 2) := by decide +kernel
theorem dX3_lowestBidders_43 : decode cX3_lowestBidders 43 = .ok (.ishl, 1) := by decide +kernel
theorem dX3_lowestBidders_44 : decode cX3_lowestBidders 44 = .ok (.ior, 1) := by decide +kernel
theorem dX3_lowestBidders_45 : decode cX3_lowestBidders 45 = .ok (.istore_n 3, 1) := by decide +kernel
theorem dX3_lowestBidders_46 : decode cX3_lowestBidders 46 = .ok (.iload 4, 2) := by decide +kernel
theorem dX3_lowestBidders_48 : decode cX3_lowestBidders 48 = .ok (.aload_n 0, 1) := by decide +kernel
theorem dX3_lowestBidders_49 : decode cX3_lowestBidders 49 = .ok (.getfield 17, 3) := by decide +kernel
theorem dX3_lowestBidders_52 : decode cX3_lowestBidders 52 = .ok (.iload 6, 2) := by decide +kernel
theorem dX3_lowestBidders_54 : decode cX3_lowestBidders 54 = .ok (.aaload, 1) := by decide +kernel
theorem dX3_lowestBidders_55 : decode cX3_lowestBidders 55 = .ok (.getfield 102, 3) := by decide +kernel
theorem dX3_lowestBidders_58 : decode cX3_lowestBidders 58 = .ok (.iadd, 1) := by decide +kernel
theorem dX3_lowestBidders_59 : decode cX3_lowestBidders 59 = .ok (.istore 4, 2) := by decide +kernel
theorem dX3_lowestBidders_61 : decode cX3_lowestBidders 61 = .ok (.iinc 5 1, 3) := by decide +kernel
theorem dX3_lowestBidders_64 : decode cX3_lowestBidders 64 = .ok (.goto (-56), 3) := by decide +kernel
theorem dX3_lowestBidders_67 : decode cX3_lowestBidders 67 = .ok (.iload 4, 2) := by decide +kernel
theorem dX3_lowestBidders_69 : decode cX3_lowestBidders 69 = .ok (.iload_n 2, 1) := by decide +kernel
theorem dX3_lowestBidders_70 : decode cX3_lowestBidders 70 = .ok (.if_icmp .ge 7, 3) := by decide +kernel
theorem dX3_lowestBidders_73 : decode cX3_lowestBidders 73 = .ok (.iconst 0, 1) := by decide +kernel
theorem dX3_lowestBidders_74 : decode cX3_lowestBidders 74 = .ok (.goto 4, 3) := by decide +kernel
theorem dX3_lowestBidders_77 : decode cX3_lowestBidders 77 = .ok (.iload_n 3, 1) := by decide +kernel
theorem dX3_lowestBidders_78 : decode cX3_lowestBidders 78 = .ok (.ireturn, 1) := by decide +kernel
theorem dX3_nextBidder_0 : decode cX3_nextBidder 0 = .ok (.iconst (-1), 1) := by decide +kernel
theorem dX3_nextBidder_1 : decode cX3_nextBidder 1 = .ok (.istore_n 3, 1) := by decide +kernel
theorem dX3_nextBidder_2 : decode cX3_nextBidder 2 = .ok (.iconst 0, 1) := by decide +kernel
theorem dX3_nextBidder_3 : decode cX3_nextBidder 3 = .ok (.istore 4, 2) := by decide +kernel
theorem dX3_nextBidder_5 : decode cX3_nextBidder 5 = .ok (.iload 4, 2) := by decide +kernel
theorem dX3_nextBidder_7 : decode cX3_nextBidder 7 = .ok (.aload_n 0, 1) := by decide +kernel
theorem dX3_nextBidder_8 : decode cX3_nextBidder 8 = .ok (.getfield 40, 3) := by decide +kernel
theorem dX3_nextBidder_11 : decode cX3_nextBidder 11 = .ok (.if_icmp .ge 63, 3) := by decide +kernel
theorem dX3_nextBidder_14 : decode cX3_nextBidder 14 = .ok (.iload_n 2, 1) := by decide +kernel
theorem dX3_nextBidder_15 : decode cX3_nextBidder 15 = .ok (.i2l, 1) := by decide +kernel
theorem dX3_nextBidder_16 : decode cX3_nextBidder 16 = .ok (.iload 4, 2) := by decide +kernel
theorem dX3_nextBidder_18 : decode cX3_nextBidder 18 = .ok (.invokestatic 147, 3) := by decide +kernel
theorem dX3_nextBidder_21 : decode cX3_nextBidder 21 = .ok (.ifCond .ne 47, 3) := by decide +kernel
theorem dX3_nextBidder_24 : decode cX3_nextBidder 24 = .ok (.aload_n 0, 1) := by decide +kernel
theorem dX3_nextBidder_25 : decode cX3_nextBidder 25 = .ok (.getfield 17, 3) := by decide +kernel
theorem dX3_nextBidder_28 : decode cX3_nextBidder 28 = .ok (.iload 4, 2) := by decide +kernel
theorem dX3_nextBidder_30 : decode cX3_nextBidder 30 = .ok (.aaload, 1) := by decide +kernel
theorem dX3_nextBidder_31 : decode cX3_nextBidder 31 = .ok (.aload_n 1, 1) := by decide +kernel
theorem dX3_nextBidder_32 : decode cX3_nextBidder 32 = .ok (.invokevirtual 238, 3) := by decide +kernel
theorem dX3_nextBidder_35 : decode cX3_nextBidder 35 = .ok (.ifCond .eq 33, 3) := by decide +kernel
theorem dX3_nextBidder_38 : decode cX3_nextBidder 38 = .ok (.iload_n 3, 1) := by decide +kernel
theorem dX3_nextBidder_39 : decode cX3_nextBidder 39 = .ok (.iconst (-1), 1) := by decide +kernel
theorem dX3_nextBidder_40 : decode cX3_nextBidder 40 = .ok (.if_icmp .eq 25, 3) := by decide +kernel
theorem dX3_nextBidder_43 : decode cX3_nextBidder 43 = .ok (.aload_n 0, 1) := by decide +kernel
theorem dX3_nextBidder_44 : decode cX3_nextBidder 44 = .ok (.getfield 17, 3) := by decide +kernel
theorem dX3_nextBidder_47 : decode cX3_nextBidder 47 = .ok (.iload 4, 2) := by decide +kernel
theorem dX3_nextBidder_49 : decode cX3_nextBidder 49 = .ok (.aaload, 1) := by decide +kernel
theorem dX3_nextBidder_50 : decode cX3_nextBidder 50 = .ok (.getfield 151, 3) := by decide +kernel
theorem dX3_nextBidder_53 : decode cX3_nextBidder 53 = .ok (.aload_n 0, 1) := by decide +kernel
theorem dX3_nextBidder_54 : decode cX3_nextBidder 54 = .ok (.getfield 17, 3) := by decide +kernel
theorem dX3_nextBidder_57 : decode cX3_nextBidder 57 = .ok (.iload_n 3, 1) := by decide +kernel
theorem dX3_nextBidder_58 : decode cX3_nextBidder 58 = .ok (.aaload, 1) := by decide +kernel
theorem dX3_nextBidder_59 : decode cX3_nextBidder 59 = .ok (.getfield 151, 3) := by decide +kernel
theorem dX3_nextBidder_62 : decode cX3_nextBidder 62 = .ok (.if_icmp .ge 6, 3) := by decide +kernel
theorem dX3_nextBidder_65 : decode cX3_nextBidder 65 = .ok (.iload 4, 2) := by decide +kernel
theorem dX3_nextBidder_67 : decode cX3_nextBidder 67 = .ok (.istore_n 3, 1) := by decide +kernel
theorem dX3_nextBidder_68 : decode cX3_nextBidder 68 = .ok (.iinc 4 1, 3) := by decide +kernel
theorem dX3_nextBidder_71 : decode cX3_nextBidder 71 = .ok (.goto (-66), 3) := by decide +kernel
theorem dX3_nextBidder_74 : decode cX3_nextBidder 74 = .ok (.iload_n 3, 1) := by decide +kernel
theorem dX3_nextBidder_75 : decode cX3_nextBidder 75 = .ok (.ireturn, 1) := by decide +kernel
theorem dX3_highestBid_0 : decode cX3_highestBid 0 = .ok (.iconst 0, 1) := by decide +kernel
theorem dX3_highestBid_1 : decode cX3_highestBid 1 = .ok (.istore_n 2, 1) := by decide +kernel
theorem dX3_highestBid_2 : decode cX3_highestBid 2 = .ok (.iconst 0, 1) := by decide +kernel
theorem dX3_highestBid_3 : decode cX3_highestBid 3 = .ok (.istore_n 3, 1) := by decide +kernel
theorem dX3_highestBid_4 : decode cX3_highestBid 4 = .ok (.iload_n 3, 1) := by decide +kernel
theorem dX3_highestBid_5 : decode cX3_highestBid 5 = .ok (.aload_n 0, 1) := by decide +kernel
theorem dX3_highestBid_6 : decode cX3_highestBid 6 = .ok (.getfield 40, 3) := by decide +kernel
theorem dX3_highestBid_9 : decode cX3_highestBid 9 = .ok (.if_icmp .ge 32, 3) := by decide +kernel
theorem dX3_highestBid_12 : decode cX3_highestBid 12 = .ok (.iload_n 1, 1) := by decide +kernel
theorem dX3_highestBid_13 : decode cX3_highestBid 13 = .ok (.i2l, 1) := by decide +kernel
theorem dX3_highestBid_14 : decode cX3_highestBid 14 = .ok (.iload_n 3, 1) := by decide +kernel
theorem dX3_highestBid_15 : decode cX3_highestBid 15 = .ok (.invokestatic 147, 3) := by decide +kernel
theorem dX3_highestBid_18 : decode cX3_highestBid 18 = .ok (.ifCond .eq 17, 3) := by decide +kernel
theorem dX3_highestBid_21 : decode cX3_highestBid 21 = .ok (.iload_n 2, 1) := by decide +kernel
theorem dX3_highestBid_22 : decode cX3_highestBid 22 = .ok (.aload_n 0, 1) := by decide +kernel
theorem dX3_highestBid_23 : decode cX3_highestBid 23 = .ok (.getfield 17, 3) := by decide +kernel
theorem dX3_highestBid_26 : decode cX3_highestBid 26 = .ok (.iload_n 3, 1) := by decide +kernel
theorem dX3_highestBid_27 : decode cX3_highestBid 27 = .ok (.aaload, 1) := by decide +kernel
theorem dX3_highestBid_28 : decode cX3_highestBid 28 = .ok (.getfield 151, 3) := by decide +kernel
theorem dX3_highestBid_31 : decode cX3_highestBid 31 = .ok (.invokestatic 221, 3) := by decide +kernel
theorem dX3_highestBid_34 : decode cX3_highestBid 34 = .ok (.istore_n 2, 1) := by decide +kernel
theorem dX3_highestBid_35 : decode cX3_highestBid 35 = .ok (.iinc 3 1, 3) := by decide +kernel
theorem dX3_highestBid_38 : decode cX3_highestBid 38 = .ok (.goto (-34), 3) := by decide +kernel
theorem dX3_highestBid_41 : decode cX3_highestBid 41 = .ok (.iload_n 2, 1) := by decide +kernel
theorem dX3_highestBid_42 : decode cX3_highestBid 42 = .ok (.ireturn, 1) := by decide +kernel
theorem dX3_firstOffer_0 : decode cX3_firstOffer 0 = .ok (.iload_n 0, 1) := by decide +kernel
theorem dX3_firstOffer_1 : decode cX3_firstOffer 1 = .ok (.iload_n 1, 1) := by decide +kernel
theorem dX3_firstOffer_2 : decode cX3_firstOffer 2 = .ok (.if_icmp .le 8, 3) := by decide +kernel
theorem dX3_firstOffer_5 : decode cX3_firstOffer 5 = .ok (.iload_n 2, 1) := by decide +kernel
theorem dX3_firstOffer_6 : decode cX3_firstOffer 6 = .ok (.iconst 1, 1) := by decide +kernel
theorem dX3_firstOffer_7 : decode cX3_firstOffer 7 = .ok (.if_icmp .ge 5, 3) := by decide +kernel
theorem dX3_firstOffer_10 : decode cX3_firstOffer 10 = .ok (.iload_n 1, 1) := by decide +kernel
theorem dX3_firstOffer_11 : decode cX3_firstOffer 11 = .ok (.ireturn, 1) := by decide +kernel
theorem dX3_firstOffer_12 : decode cX3_firstOffer 12 = .ok (.iload_n 0, 1) := by decide +kernel
theorem dX3_firstOffer_13 : decode cX3_firstOffer 13 = .ok (.iload_n 1, 1) := by decide +kernel
theorem dX3_firstOffer_14 : decode cX3_firstOffer 14 = .ok (.isub, 1) := by decide +kernel
theorem dX3_firstOffer_15 : decode cX3_firstOffer 15 = .ok (.iload_n 2, 1) := by decide +kernel
theorem dX3_firstOffer_16 : decode cX3_firstOffer 16 = .ok (.iadd, 1) := by decide +kernel
theorem dX3_firstOffer_17 : decode cX3_firstOffer 17 = .ok (.iconst 1, 1) := by decide +kernel
theorem dX3_firstOffer_18 : decode cX3_firstOffer 18 = .ok (.isub, 1) := by decide +kernel
theorem dX3_firstOffer_19 : decode cX3_firstOffer 19 = .ok (.iload_n 2, 1) := by decide +kernel
theorem dX3_firstOffer_20 : decode cX3_firstOffer 20 = .ok (.idiv, 1) := by decide +kernel
theorem dX3_firstOffer_21 : decode cX3_firstOffer 21 = .ok (.istore_n 3, 1) := by decide +kernel
theorem dX3_firstOffer_22 : decode cX3_firstOffer 22 = .ok (.iload_n 1, 1) := by decide +kernel
theorem dX3_firstOffer_23 : decode cX3_firstOffer 23 = .ok (.iload_n 3, 1) := by decide +kernel
theorem dX3_firstOffer_24 : decode cX3_firstOffer 24 = .ok (.iload_n 2, 1) := by decide +kernel
theorem dX3_firstOffer_25 : decode cX3_firstOffer 25 = .ok (.imul, 1) := by decide +kernel
theorem dX3_firstOffer_26 : decode cX3_firstOffer 26 = .ok (.iadd, 1) := by decide +kernel
theorem dX3_firstOffer_27 : decode cX3_firstOffer 27 = .ok (.ireturn, 1) := by decide +kernel
theorem dX3_leavablePeople_0 : decode cX3_leavablePeople 0 = .ok (.iconst 0, 1) := by decide +kernel
theorem dX3_leavablePeople_1 : decode cX3_leavablePeople 1 = .ok (.istore_n 2, 1) := by decide +kernel
theorem dX3_leavablePeople_2 : decode cX3_leavablePeople 2 = .ok (.iconst 0, 1) := by decide +kernel
theorem dX3_leavablePeople_3 : decode cX3_leavablePeople 3 = .ok (.istore_n 3, 1) := by decide +kernel
theorem dX3_leavablePeople_4 : decode cX3_leavablePeople 4 = .ok (.iload_n 3, 1) := by decide +kernel
theorem dX3_leavablePeople_5 : decode cX3_leavablePeople 5 = .ok (.aload_n 0, 1) := by decide +kernel
theorem dX3_leavablePeople_6 : decode cX3_leavablePeople 6 = .ok (.getfield 40, 3) := by decide +kernel
theorem dX3_leavablePeople_9 : decode cX3_leavablePeople 9 = .ok (.if_icmp .ge 46, 3) := by decide +kernel
theorem dX3_leavablePeople_12 : decode cX3_leavablePeople 12 = .ok (.aload_n 0, 1) := by decide +kernel
theorem dX3_leavablePeople_13 : decode cX3_leavablePeople 13 = .ok (.getfield 17, 3) := by decide +kernel
theorem dX3_leavablePeople_16 : decode cX3_leavablePeople 16 = .ok (.iload_n 3, 1) := by decide +kernel
theorem dX3_leavablePeople_17 : decode cX3_leavablePeople 17 = .ok (.aaload, 1) := by decide +kernel
theorem dX3_leavablePeople_18 : decode cX3_leavablePeople 18 = .ok (.getfield 227, 3) := by decide +kernel
theorem dX3_leavablePeople_21 : decode cX3_leavablePeople 21 = .ok (.ifCond .ne 28, 3) := by decide +kernel
theorem dX3_leavablePeople_24 : decode cX3_leavablePeople 24 = .ok (.aload_n 0, 1) := by decide +kernel
theorem dX3_leavablePeople_25 : decode cX3_leavablePeople 25 = .ok (.getfield 17, 3) := by decide +kernel
theorem dX3_leavablePeople_28 : decode cX3_leavablePeople 28 = .ok (.iload_n 3, 1) := by decide +kernel
theorem dX3_leavablePeople_29 : decode cX3_leavablePeople 29 = .ok (.aaload, 1) := by decide +kernel
theorem dX3_leavablePeople_30 : decode cX3_leavablePeople 30 = .ok (.aload_n 1, 1) := by decide +kernel
theorem dX3_leavablePeople_31 : decode cX3_leavablePeople 31 = .ok (.invokevirtual 218, 3) := by decide +kernel
theorem dX3_leavablePeople_34 : decode cX3_leavablePeople 34 = .ok (.ifCond .eq 15, 3) := by decide +kernel
theorem dX3_leavablePeople_37 : decode cX3_leavablePeople 37 = .ok (.iload_n 2, 1) := by decide +kernel
theorem dX3_leavablePeople_38 : decode cX3_leavablePeople 38 = .ok (.aload_n 0, 1) := by decide +kernel
theorem dX3_leavablePeople_39 : decode cX3_leavablePeople 39 = .ok (.getfield 17, 3) := by decide +kernel
theorem dX3_leavablePeople_42 : decode cX3_leavablePeople 42 = .ok (.iload_n 3, 1) := by decide +kernel
theorem dX3_leavablePeople_43 : decode cX3_leavablePeople 43 = .ok (.aaload, 1) := by decide +kernel
theorem dX3_leavablePeople_44 : decode cX3_leavablePeople 44 = .ok (.getfield 102, 3) := by decide +kernel
theorem dX3_leavablePeople_47 : decode cX3_leavablePeople 47 = .ok (.iadd, 1) := by decide +kernel
theorem dX3_leavablePeople_48 : decode cX3_leavablePeople 48 = .ok (.istore_n 2, 1) := by decide +kernel
theorem dX3_leavablePeople_49 : decode cX3_leavablePeople 49 = .ok (.iinc 3 1, 3) := by decide +kernel
theorem dX3_leavablePeople_52 : decode cX3_leavablePeople 52 = .ok (.goto (-48), 3) := by decide +kernel
theorem dX3_leavablePeople_55 : decode cX3_leavablePeople 55 = .ok (.iload_n 2, 1) := by decide +kernel
theorem dX3_leavablePeople_56 : decode cX3_leavablePeople 56 = .ok (.ireturn, 1) := by decide +kernel
theorem dX3_nextToLeave_0 : decode cX3_nextToLeave 0 = .ok (.aconst_null, 1) := by decide +kernel
theorem dX3_nextToLeave_1 : decode cX3_nextToLeave 1 = .ok (.astore_n 2, 1) := by decide +kernel
theorem dX3_nextToLeave_2 : decode cX3_nextToLeave 2 = .ok (.aload_n 0, 1) := by decide +kernel
theorem dX3_nextToLeave_3 : decode cX3_nextToLeave 3 = .ok (.getfield 40, 3) := by decide +kernel
theorem dX3_nextToLeave_6 : decode cX3_nextToLeave 6 = .ok (.iconst 1, 1) := by decide +kernel
theorem dX3_nextToLeave_7 : decode cX3_nextToLeave 7 = .ok (.isub, 1) := by decide +kernel
theorem dX3_nextToLeave_8 : decode cX3_nextToLeave 8 = .ok (.istore_n 3, 1) := by decide +kernel
theorem dX3_nextToLeave_9 : decode cX3_nextToLeave 9 = .ok (.iload_n 3, 1) := by decide +kernel
theorem dX3_nextToLeave_10 : decode cX3_nextToLeave 10 = .ok (.ifCond .lt 53, 3) := by decide +kernel
theorem dX3_nextToLeave_13 : decode cX3_nextToLeave 13 = .ok (.aload_n 0, 1) := by decide +kernel
theorem dX3_nextToLeave_14 : decode cX3_nextToLeave 14 = .ok (.getfield 17, 3) := by decide +kernel
theorem dX3_nextToLeave_17 : decode cX3_nextToLeave 17 = .ok (.iload_n 3, 1) := by decide +kernel
theorem dX3_nextToLeave_18 : decode cX3_nextToLeave 18 = .ok (.aaload, 1) := by decide +kernel
theorem dX3_nextToLeave_19 : decode cX3_nextToLeave 19 = .ok (.astore 4, 2) := by decide +kernel
theorem dX3_nextToLeave_21 : decode cX3_nextToLeave 21 = .ok (.aload 4, 2) := by decide +kernel
theorem dX3_nextToLeave_23 : decode cX3_nextToLeave 23 = .ok (.getfield 227, 3) := by decide +kernel
theorem dX3_nextToLeave_26 : decode cX3_nextToLeave 26 = .ok (.ifCond .ne 31, 3) := by decide +kernel
theorem dX3_nextToLeave_29 : decode cX3_nextToLeave 29 = .ok (.aload 4, 2) := by decide +kernel
theorem dX3_nextToLeave_31 : decode cX3_nextToLeave 31 = .ok (.aload_n 1, 1) := by decide +kernel
theorem dX3_nextToLeave_32 : decode cX3_nextToLeave 32 = .ok (.invokevirtual 218, 3) := by decide +kernel
theorem dX3_nextToLeave_35 : decode cX3_nextToLeave 35 = .ok (.ifCond .eq 22, 3) := by decide +kernel
theorem dX3_nextToLeave_38 : decode cX3_nextToLeave 38 = .ok (.aload_n 2, 1) := by decide +kernel
theorem dX3_nextToLeave_39 : decode cX3_nextToLeave 39 = .ok (.ifnull 15, 3) := by decide +kernel
theorem dX3_nextToLeave_42 : decode cX3_nextToLeave 42 = .ok (.aload 4, 2) := by decide +kernel
theorem dX3_nextToLeave_44 : decode cX3_nextToLeave 44 = .ok (.getfield 252, 3) := by decide +kernel
theorem dX3_nextToLeave_47 : decode cX3_nextToLeave 47 = .ok (.aload_n 2, 1) := by decide +kernel
theorem dX3_nextToLeave_48 : decode cX3_nextToLeave 48 = .ok (.getfield 252, 3) := by decide +kernel
theorem dX3_nextToLeave_51 : decode cX3_nextToLeave 51 = .ok (.if_icmp .ge 6, 3) := by decide +kernel
theorem dX3_nextToLeave_54 : decode cX3_nextToLeave 54 = .ok (.aload 4, 2) := by decide +kernel
theorem dX3_nextToLeave_56 : decode cX3_nextToLeave 56 = .ok (.astore_n 2, 1) := by decide +kernel
theorem dX3_nextToLeave_57 : decode cX3_nextToLeave 57 = .ok (.iinc 3 (-1), 3) := by decide +kernel
theorem dX3_nextToLeave_60 : decode cX3_nextToLeave 60 = .ok (.goto (-51), 3) := by decide +kernel
theorem dX3_nextToLeave_63 : decode cX3_nextToLeave 63 = .ok (.aload_n 2, 1) := by decide +kernel
theorem dX3_nextToLeave_64 : decode cX3_nextToLeave 64 = .ok (.areturn, 1) := by decide +kernel
theorem dX3_isWay_0 : decode cX3_isWay 0 = .ok (.aload_n 1, 1) := by decide +kernel
theorem dX3_isWay_1 : decode cX3_isWay 1 = .ok (.getfield 95, 3) := by decide +kernel
theorem dX3_isWay_4 : decode cX3_isWay 4 = .ok (.astore 4, 2) := by decide +kernel
theorem dX3_isWay_6 : decode cX3_isWay 6 = .ok (.aload_n 2, 1) := by decide +kernel
theorem dX3_isWay_7 : decode cX3_isWay 7 = .ok (.aload 4, 2) := by decide +kernel
theorem dX3_isWay_9 : decode cX3_isWay 9 = .ok (.if_acmp .eq 34, 3) := by decide +kernel
theorem dX3_isWay_12 : decode cX3_isWay 12 = .ok (.aload_n 2, 1) := by decide +kernel
theorem dX3_isWay_13 : decode cX3_isWay 13 = .ok (.getfield 57, 3) := by decide +kernel
theorem dX3_isWay_16 : decode cX3_isWay 16 = .ok (.ifCond .ne 27, 3) := by decide +kernel
theorem dX3_isWay_19 : decode cX3_isWay 19 = .ok (.aload_n 2, 1) := by decide +kernel
theorem dX3_isWay_20 : decode cX3_isWay 20 = .ok (.getfield 255, 3) := by decide +kernel
theorem dX3_isWay_23 : decode cX3_isWay 23 = .ok (.aload 4, 2) := by decide +kernel
theorem dX3_isWay_25 : decode cX3_isWay 25 = .ok (.getfield 255, 3) := by decide +kernel
theorem dX3_isWay_28 : decode cX3_isWay 28 = .ok (.if_icmp .ne 15, 3) := by decide +kernel
theorem dX3_isWay_31 : decode cX3_isWay 31 = .ok (.aload_n 2, 1) := by decide +kernel
theorem dX3_isWay_32 : decode cX3_isWay 32 = .ok (.getfield 258, 3) := by decide +kernel
theorem dX3_isWay_35 : decode cX3_isWay 35 = .ok (.aload 4, 2) := by decide +kernel
theorem dX3_isWay_37 : decode cX3_isWay 37 = .ok (.getfield 258, 3) := by decide +kernel
theorem dX3_isWay_40 : decode cX3_isWay 40 = .ok (.if_icmp .ge 5, 3) := by decide +kernel
theorem dX3_isWay_43 : decode cX3_isWay 43 = .ok (.iconst 0, 1) := by decide +kernel
theorem dX3_isWay_44 : decode cX3_isWay 44 = .ok (.ireturn, 1) := by decide +kernel
theorem dX3_isWay_45 : decode cX3_isWay 45 = .ok (.aload_n 3, 1) := by decide +kernel
theorem dX3_isWay_46 : decode cX3_isWay 46 = .ok (.ifnonnull 21, 3) := by decide +kernel
theorem dX3_isWay_49 : decode cX3_isWay 49 = .ok (.aload_n 2, 1) := by decide +kernel
theorem dX3_isWay_50 : decode cX3_isWay 50 = .ok (.getfield 261, 3) := by decide +kernel
theorem dX3_isWay_53 : decode cX3_isWay 53 = .ok (.aload 4, 2) := by decide +kernel
theorem dX3_isWay_55 : decode cX3_isWay 55 = .ok (.getfield 261, 3) := by decide +kernel
theorem dX3_isWay_58 : decode cX3_isWay 58 = .ok (.if_icmp .ne 7, 3) := by decide +kernel
theorem dX3_isWay_61 : decode cX3_isWay 61 = .ok (.iconst 1, 1) := by decide +kernel
theorem dX3_isWay_62 : decode cX3_isWay 62 = .ok (.goto 4, 3) := by decide +kernel
theorem dX3_isWay_65 : decode cX3_isWay 65 = .ok (.iconst 0, 1) := by decide +kernel
theorem dX3_isWay_66 : decode cX3_isWay 66 = .ok (.ireturn, 1) := by decide +kernel
theorem dX3_isWay_67 : decode cX3_isWay 67 = .ok (.aload_n 3, 1) := by decide +kernel
theorem dX3_isWay_68 : decode cX3_isWay 68 = .ok (.getfield 57, 3) := by decide +kernel
theorem dX3_isWay_71 : decode cX3_isWay 71 = .ok (.ifCond .ne 46, 3) := by decide +kernel
theorem dX3_isWay_74 : decode cX3_isWay 74 = .ok (.aload_n 3, 1) := by decide +kernel
theorem dX3_isWay_75 : decode cX3_isWay 75 = .ok (.getfield 255, 3) := by decide +kernel
theorem dX3_isWay_78 : decode cX3_isWay 78 = .ok (.aload_n 2, 1) := by decide +kernel
theorem dX3_isWay_79 : decode cX3_isWay 79 = .ok (.getfield 261, 3) := by decide +kernel
theorem dX3_isWay_82 : decode cX3_isWay 82 = .ok (.if_icmp .ne 35, 3) := by decide +kernel
theorem dX3_isWay_85 : decode cX3_isWay 85 = .ok (.aload_n 3, 1) := by decide +kernel
theorem dX3_isWay_86 : decode cX3_isWay 86 = .ok (.getfield 261, 3) := by decide +kernel
theorem dX3_isWay_89 : decode cX3_isWay 89 = .ok (.aload 4, 2) := by decide +kernel
theorem dX3_isWay_91 : decode cX3_isWay 91 = .ok (.getfield 261, 3) := by decide +kernel
theorem dX3_isWay_94 : decode cX3_isWay 94 = .ok (.if_icmp .ne 23, 3) := by decide +kernel
theorem dX3_isWay_97 : decode cX3_isWay 97 = .ok (.aload_n 3, 1) := by decide +kernel
theorem dX3_isWay_98 : decode cX3_isWay 98 = .ok (.getfield 258, 3) := by decide +kernel
theorem dX3_isWay_101 : decode cX3_isWay 101 = .ok (.aload_n 2, 1) := by decide +kernel
theorem dX3_isWay_102 : decode cX3_isWay 102 = .ok (.getfield 264, 3) := by decide +kernel
theorem dX3_isWay_105 : decode cX3_isWay 105 = .ok (.isub, 1) := by decide +kernel
theorem dX3_isWay_106 : decode cX3_isWay 106 = .ok (.aload_n 0, 1) := by decide +kernel
theorem dX3_isWay_107 : decode cX3_isWay 107 = .ok (.getfield 43, 3) := by decide +kernel
theorem dX3_isWay_110 : decode cX3_isWay 110 = .ok (.if_icmp .lt 7, 3) := by decide +kernel
theorem dX3_isWay_113 : decode cX3_isWay 113 = .ok (.iconst 1, 1) := by decide +kernel
theorem dX3_isWay_114 : decode cX3_isWay 114 = .ok (.goto 4, 3) := by decide +kernel
theorem dX3_isWay_117 : decode cX3_isWay 117 = .ok (.iconst 0, 1) := by decide +kernel
theorem dX3_isWay_118 : decode cX3_isWay 118 = .ok (.ireturn, 1) := by decide +kernel
theorem dX3_addStranded_0 : decode cX3_addStranded 0 = .ok (.iconst 0, 1) := by decide +kernel
theorem dX3_addStranded_1 : decode cX3_addStranded 1 = .ok (.istore_n 2, 1) := by decide +kernel
theorem dX3_addStranded_2 : decode cX3_addStranded 2 = .ok (.iconst 0, 1) := by decide +kernel
theorem dX3_addStranded_3 : decode cX3_addStranded 3 = .ok (.istore_n 3, 1) := by decide +kernel
theorem dX3_addStranded_4 : decode cX3_addStranded 4 = .ok (.iload_n 3, 1) := by decide +kernel
theorem dX3_addStranded_5 : decode cX3_addStranded 5 = .ok (.aload_n 0, 1) := by decide +kernel
theorem dX3_addStranded_6 : decode cX3_addStranded 6 = .ok (.getfield 40, 3) := by decide +kernel
theorem dX3_addStranded_9 : decode cX3_addStranded 9 = .ok (.if_icmp .ge 61, 3) := by decide +kernel
theorem dX3_addStranded_12 : decode cX3_addStranded 12 = .ok (.aload_n 0, 1) := by decide +kernel
theorem dX3_addStranded_13 : decode cX3_addStranded 13 = .ok (.getfield 17, 3) := by decide +kernel
theorem dX3_addStranded_16 : decode cX3_addStranded 16 = .ok (.iload_n 3, 1) := by decide +kernel
theorem dX3_addStranded_17 : decode cX3_addStranded 17 = .ok (.aaload, 1) := by decide +kernel
theorem dX3_addStranded_18 : decode cX3_addStranded 18 = .ok (.invokevirtual 187, 3) := by decide +kernel
theorem dX3_addStranded_21 : decode cX3_addStranded 21 = .ok (.ifCond .eq 43, 3) := by decide +kernel
theorem dX3_addStranded_24 : decode cX3_addStranded 24 = .ok (.aload_n 0, 1) := by decide +kernel
theorem dX3_addStranded_25 : decode cX3_addStranded 25 = .ok (.getfield 17, 3) := by decide +kernel
theorem dX3_addStranded_28 : decode cX3_addStranded 28 = .ok (.iload_n 3, 1) := by decide +kernel
theorem dX3_addStranded_29 : decode cX3_addStranded 29 = .ok (.aaload, 1) := by decide +kernel
theorem dX3_addStranded_30 : decode cX3_addStranded 30 = .ok (.getfield 102, 3) := by decide +kernel
theorem dX3_addStranded_33 : decode cX3_addStranded 33 = .ok (.iload_n 1, 1) := by decide +kernel
theorem dX3_addStranded_34 : decode cX3_addStranded 34 = .ok (.if_icmp .ne 27, 3) := by decide +kernel
theorem dX3_addStranded_37 : decode cX3_addStranded 37 = .ok (.aload_n 0, 1) := by decide +kernel
theorem dX3_addStranded_38 : decode cX3_addStranded 38 = .ok (.getfield 32, 3) := by decide +kernel
theorem dX3_addStranded_41 : decode cX3_addStranded 41 = .ok (.aload_n 0, 1) := by decide +kernel
theorem dX3_addStranded_42 : decode cX3_addStranded 42 = .ok (.getfield 17, 3) := by decide +kernel
theorem dX3_addStranded_45 : decode cX3_addStranded 45 = .ok (.iload_n 3, 1) := by decide +kernel
theorem dX3_addStranded_46 : decode cX3_addStranded 46 = .ok (.aaload, 1) := by decide +kernel
theorem dX3_addStranded_47 : decode cX3_addStranded 47 = .ok (.iload_n 2, 1) := by decide +kernel
theorem dX3_addStranded_48 : decode cX3_addStranded 48 = .ok (.invokevirtual 267, 3) := by decide +kernel
theorem dX3_addStranded_51 : decode cX3_addStranded 51 = .ok (.aload_n 0, 1) := by decide +kernel
theorem dX3_addStranded_52 : decode cX3_addStranded 52 = .ok (.aload_n 0, 1) := by decide +kernel
theorem dX3_addStranded_53 : decode cX3_addStranded 53 = .ok (.getfield 17, 3) := by decide +kernel
theorem dX3_addStranded_56 : decode cX3_addStranded 56 = .ok (.iload_n 3, 1) := by decide +kernel
theorem dX3_addStranded_57 : decode cX3_addStranded 57 = .ok (.aaload, 1) := by decide +kernel
theorem dX3_addStranded_58 : decode cX3_addStranded 58 = .ok (.invokevirtual 271, 3) := by decide +kernel
theorem dX3_addStranded_61 : decode cX3_addStranded 61 = .ok (.iinc 2 1, 3) := by decide +kernel
theorem dX3_addStranded_64 : decode cX3_addStranded 64 = .ok (.iinc 3 1, 3) := by decide +kernel
theorem dX3_addStranded_67 : decode cX3_addStranded 67 = .ok (.goto (-63), 3) := by decide +kernel
theorem dX3_addStranded_70 : decode cX3_addStranded 70 = .ok (.return_, 1) := by decide +kernel
theorem dX3_addWays_0 : decode cX3_addWays 0 = .ok (.iconst 0, 1) := by decide +kernel
theorem dX3_addWays_1 : decode cX3_addWays 1 = .ok (.istore_n 2, 1) := by decide +kernel
theorem dX3_addWays_2 : decode cX3_addWays 2 = .ok (.iload_n 2, 1) := by decide +kernel
theorem dX3_addWays_3 : decode cX3_addWays 3 = .ok (.aload_n 0, 1) := by decide +kernel
theorem dX3_addWays_4 : decode cX3_addWays 4 = .ok (.getfield 36, 3) := by decide +kernel
theorem dX3_addWays_7 : decode cX3_addWays 7 = .ok (.if_icmp .ge 93, 3) := by decide +kernel
theorem dX3_addWays_10 : decode cX3_addWays 10 = .ok (.aload_n 0, 1) := by decide +kernel
theorem dX3_addWays_11 : decode cX3_addWays 11 = .ok (.aload_n 1, 1) := by decide +kernel
theorem dX3_addWays_12 : decode cX3_addWays 12 = .ok (.aload_n 0, 1) := by decide +kernel
theorem dX3_addWays_13 : decode cX3_addWays 13 = .ok (.getfield 11, 3) := by decide +kernel
theorem dX3_addWays_16 : decode cX3_addWays 16 = .ok (.iload_n 2, 1) := by decide +kernel
theorem dX3_addWays_17 : decode cX3_addWays 17 = .ok (.aaload, 1) := by decide +kernel
theorem dX3_addWays_18 : decode cX3_addWays 18 = .ok (.aconst_null, 1) := by decide +kernel
theorem dX3_addWays_19 : decode cX3_addWays 19 = .ok (.invokevirtual 179, 3) := by decide +kernel
theorem dX3_addWays_22 : decode cX3_addWays 22 = .ok (.ifCond .eq 17, 3) := by decide +kernel
theorem dX3_addWays_25 : decode cX3_addWays 25 = .ok (.aload_n 0, 1) := by decide +kernel
theorem dX3_addWays_26 : decode cX3_addWays 26 = .ok (.getfield 32, 3) := by decide +kernel
theorem dX3_addWays_29 : decode cX3_addWays 29 = .ok (.aload_n 0, 1) := by decide +kernel
theorem dX3_addWays_30 : decode cX3_addWays 30 = .ok (.getfield 11, 3) := by decide +kernel
theorem dX3_addWays_33 : decode cX3_addWays 33 = .ok (.iload_n 2, 1) := by decide +kernel
theorem dX3_addWays_34 : decode cX3_addWays 34 = .ok (.aaload, 1) := by decide +kernel
theorem dX3_addWays_35 : decode cX3_addWays 35 = .ok (.aconst_null, 1) := by decide +kernel
theorem dX3_addWays_36 : decode cX3_addWays 36 = .ok (.invokevirtual 275, 3) := by decide +kernel
theorem dX3_addWays_39 : decode cX3_addWays 39 = .ok (.iconst 0, 1) := by decide +kernel
theorem dX3_addWays_40 : decode cX3_addWays 40 = .ok (.istore_n 3, 1) := by decide +kernel
theorem dX3_addWays_41 : decode cX3_addWays 41 = .ok (.iload_n 3, 1) := by decide +kernel
theorem dX3_addWays_42 : decode cX3_addWays 42 = .ok (.aload_n 0, 1) := by decide +kernel
theorem dX3_addWays_43 : decode cX3_addWays 43 = .ok (.getfield 36, 3) := by decide +kernel
theorem dX3_addWays_46 : decode cX3_addWays 46 = .ok (.if_icmp .ge 48, 3) := by decide +kernel
theorem dX3_addWays_49 : decode cX3_addWays 49 = .ok (.aload_n 0, 1) := by decide +kernel
theorem dX3_addWays_50 : decode cX3_addWays 50 = .ok (.aload_n 1, 1) := by decide +kernel
theorem dX3_addWays_51 : decode cX3_addWays 51 = .ok (.aload_n 0, 1) := by decide +kernel
theorem dX3_addWays_52 : decode cX3_addWays 52 = .ok (.getfield 11, 3) := by decide +kernel
theorem dX3_addWays_55 : decode cX3_addWays 55 = .ok (.iload_n 2, 1) := by decide +kernel
theorem dX3_addWays_56 : decode cX3_addWays 56 = .ok (.aaload, 1) := by decide +kernel
theorem dX3_addWays_57 : decode cX3_addWays 57 = .ok (.aload_n 0, 1) := by decide +kernel
theorem dX3_addWays_58 : decode cX3_addWays 58 = .ok (.getfield 11, 3) := by decide +kernel
theorem dX3_addWays_61 : decode cX3_addWays 61 = .ok (.iload_n 3, 1) := by decide +kernel
theorem dX3_addWays_62 : decode cX3_addWays 62 = .ok (.aaload, 1) := by decide +kernel
theorem dX3_addWays_63 : decode cX3_addWays 63 = .ok (.invokevirtual 179, 3) := by decide +kernel
theorem dX3_addWays_66 : decode cX3_addWays 66 = .ok (.ifCond .eq 22, 3) := by decide +kernel
theorem dX3_addWays_69 : decode cX3_addWays 69 = .ok (.aload_n 0, 1) := by decide +kernel
theorem dX3_addWays_70 : decode cX3_addWays 70 = .ok (.getfield 32, 3) := by decide +kernel
theorem dX3_addWays_73 : decode cX3_addWays 73 = .ok (.aload_n 0, 1) := by decide +kernel
theorem dX3_addWays_74 : decode cX3_addWays 74 = .ok (.getfield 11, 3) := by decide +kernel
theorem dX3_addWays_77 : decode cX3_addWays 77 = .ok (.iload_n 2, 1) := by decide +kernel
theorem dX3_addWays_78 : decode cX3_addWays 78 = .ok (.aaload, 1) := by decide +kernel
theorem dX3_addWays_79 : decode cX3_addWays 79 = .ok (.aload_n 0, 1) := by decide +kernel
theorem dX3_addWays_80 : decode cX3_addWays 80 = .ok (.getfield 11, 3) := by decide +kernel
theorem dX3_addWays_83 : decode cX3_addWays 83 = .ok (.iload_n 3, 1) := by decide +kernel
theorem dX3_addWays_84 : decode cX3_addWays 84 = .ok (.aaload, 1) := by decide +kernel
theorem dX3_addWays_85 : decode cX3_addWays 85 = .ok (.invokevirtual 275, 3) := by decide +kernel
theorem dX3_addWays_88 : decode cX3_addWays 88 = .ok (.iinc 3 1, 3) := by decide +kernel
theorem dX3_addWays_91 : decode cX3_addWays 91 = .ok (.goto (-50), 3) := by decide +kernel
theorem dX3_addWays_94 : decode cX3_addWays 94 = .ok (.iinc 2 1, 3) := by decide +kernel
theorem dX3_addWays_97 : decode cX3_addWays 97 = .ok (.goto (-95), 3) := by decide +kernel
theorem dX3_addWays_100 : decode cX3_addWays 100 = .ok (.return_, 1) := by decide +kernel
