theorem dX4_init_0 : decode cX4_init 0 = .ok (.aload_n 0, 1) := by decide +kernel
theorem dX4_init_1 : decode cX4_init 1 = .ok (.invokespecial 1, 3) := by decide +kernel
theorem dX4_init_4 : decode cX4_init 4 = .ok (.aload_n 0, 1) := by decide +kernel
theorem dX4_init_5 : decode cX4_init 5 = .ok (.bipush 56, 2) := by decide +kernel
theorem dX4_init_7 : decode cX4_init 7 = .ok (.newarray .int, 2) := by decide +kernel
theorem dX4_init_9 : decode cX4_init 9 = .ok (.putfield 9, 3) := by decide +kernel
theorem dX4_init_12 : decode cX4_init 12 = .ok (.aload_n 0, 1) := by decide +kernel
theorem dX4_init_13 : decode cX4_init 13 = .ok (.sipush 180, 3) := by decide +kernel
theorem dX4_init_16 : decode cX4_init 16 = .ok (.newarray .int, 2) := by decide +kernel
theorem dX4_init_18 : decode cX4_init 18 = .ok (.putfield 13, 3) := by decide +kernel
theorem dX4_init_21 : decode cX4_init 21 = .ok (.aload_n 0, 1) := by decide +kernel
theorem dX4_init_22 : decode cX4_init 22 = .ok (.iconst 4, 1) := by decide +kernel
theorem dX4_init_23 : decode cX4_init 23 = .ok (.newarray .int, 2) := by decide +kernel
theorem dX4_init_25 : decode cX4_init 25 = .ok (.dup, 1) := by decide +kernel
theorem dX4_init_26 : decode cX4_init 26 = .ok (.iconst 0, 1) := by decide +kernel
theorem dX4_init_27 : decode cX4_init 27 = .ok (.bipush 45, 2) := by decide +kernel
theorem dX4_init_29 : decode cX4_init 29 = .ok (.iastore, 1) := by decide +kernel
theorem dX4_init_30 : decode cX4_init 30 = .ok (.dup, 1) := by decide +kernel
theorem dX4_init_31 : decode cX4_init 31 = .ok (.iconst 1, 1) := by decide +kernel
theorem dX4_init_32 : decode cX4_init 32 = .ok (.sipush 250, 3) := by decide +kernel
theorem dX4_init_35 : decode cX4_init 35 = .ok (.iastore, 1) := by decide +kernel
theorem dX4_init_36 : decode cX4_init 36 = .ok (.dup, 1) := by decide +kernel
theorem dX4_init_37 : decode cX4_init 37 = .ok (.iconst 2, 1) := by decide +kernel
theorem dX4_init_38 : decode cX4_init 38 = .ok (.sipush 400, 3) := by decide +kernel
theorem dX4_init_41 : decode cX4_init 41 = .ok (.iastore, 1) := by decide +kernel
theorem dX4_init_42 : decode cX4_init 42 = .ok (.dup, 1) := by decide +kernel
theorem dX4_init_43 : decode cX4_init 43 = .ok (.iconst 3, 1) := by decide +kernel
theorem dX4_init_44 : decode cX4_init 44 = .ok (.sipush 600, 3) := by decide +kernel
theorem dX4_init_47 : decode cX4_init 47 = .ok (.iastore, 1) := by decide +kernel
theorem dX4_init_48 : decode cX4_init 48 = .ok (.putfield 16, 3) := by decide +kernel
theorem dX4_init_51 : decode cX4_init 51 = .ok (.aload_n 0, 1) := by decide +kernel
theorem dX4_init_52 : decode cX4_init 52 = .ok (.bipush 121, 2) := by decide +kernel
theorem dX4_init_54 : decode cX4_init 54 = .ok (.newarray .int, 2) := by decide +kernel
theorem dX4_init_56 : decode cX4_init 56 = .ok (.putfield 19, 3) := by decide +kernel
theorem dX4_init_59 : decode cX4_init 59 = .ok (.aload_n 0, 1) := by decide +kernel
theorem dX4_init_60 : decode cX4_init 60 = .ok (.bipush 121, 2) := by decide +kernel
theorem dX4_init_62 : decode cX4_init 62 = .ok (.newarray .int, 2) := by decide +kernel
theorem dX4_init_64 : decode cX4_init 64 = .ok (.putfield 22, 3) := by decide +kernel
theorem dX4_init_67 : decode cX4_init 67 = .ok (.aload_n 0, 1) := by decide +kernel
theorem dX4_init_68 : decode cX4_init 68 = .ok (.bipush 6, 2) := by decide +kernel
theorem dX4_init_70 : decode cX4_init 70 = .ok (.newarray .int, 2) := by decide +kernel
theorem dX4_init_72 : decode cX4_init 72 = .ok (.putfield 25, 3) := by decide +kernel
theorem dX4_init_75 : decode cX4_init 75 = .ok (.aload_n 0, 1) := by decide +kernel
theorem dX4_init_76 : decode cX4_init 76 = .ok (.sipush 432, 3) := by decide +kernel
theorem dX4_init_79 : decode cX4_init 79 = .ok (.newarray .int, 2) := by decide +kernel
theorem dX4_init_81 : decode cX4_init 81 = .ok (.putfield 28, 3) := by decide +kernel
theorem dX4_init_84 : decode cX4_init 84 = .ok (.aload_n 0, 1) := by decide +kernel
theorem dX4_init_85 : decode cX4_init 85 = .ok (.sipush 432, 3) := by decide +kernel
theorem dX4_init_88 : decode cX4_init 88 = .ok (.newarray .int, 2) := by decide +kernel
theorem dX4_init_90 : decode cX4_init 90 = .ok (.putfield 31, 3) := by decide +kernel
theorem dX4_init_93 : decode cX4_init 93 = .ok (.aload_n 0, 1) := by decide +kernel
theorem dX4_init_94 : decode cX4_init 94 = .ok (.bipush 6, 2) := by decide +kernel
theorem dX4_init_96 : decode cX4_init 96 = .ok (.newarray .int, 2) := by decide +kernel
theorem dX4_init_98 : decode cX4_init 98 = .ok (.putfield 34, 3) := by decide +kernel
theorem dX4_init_101 : decode cX4_init 101 = .ok (.aload_n 0, 1) := by decide +kernel
theorem dX4_init_102 : decode cX4_init 102 = .ok (.bipush 6, 2) := by decide +kernel
theorem dX4_init_104 : decode cX4_init 104 = .ok (.newarray .int, 2) := by decide +kernel
theorem dX4_init_106 : decode cX4_init 106 = .ok (.putfield 37, 3) := by decide +kernel
theorem dX4_init_109 : decode cX4_init 109 = .ok (.aload_n 0, 1) := by decide +kernel
theorem dX4_init_110 : decode cX4_init 110 = .ok (.bipush 8, 2) := by decide +kernel
theorem dX4_init_112 : decode cX4_init 112 = .ok (.newarray .int, 2) := by decide +kernel
theorem dX4_init_114 : decode cX4_init 114 = .ok (.putfield 40, 3) := by decide +kernel
theorem dX4_init_117 : decode cX4_init 117 = .ok (.aload_n 0, 1) := by decide +kernel
theorem dX4_init_118 : decode cX4_init 118 = .ok (.bipush 8, 2) := by decide +kernel
theorem dX4_init_120 : decode cX4_init 120 = .ok (.newarray .int, 2) := by decide +kernel
theorem dX4_init_122 : decode cX4_init 122 = .ok (.putfield 43, 3) := by decide +kernel
theorem dX4_init_125 : decode cX4_init 125 = .ok (.aload_n 0, 1) := by decide +kernel
theorem dX4_init_126 : decode cX4_init 126 = .ok (.bipush 6, 2) := by decide +kernel
theorem dX4_init_128 : decode cX4_init 128 = .ok (.newarray .int, 2) := by decide +kernel
theorem dX4_init_130 : decode cX4_init 130 = .ok (.putfield 46, 3) := by decide +kernel
theorem dX4_init_133 : decode cX4_init 133 = .ok (.aload_n 0, 1) := by decide +kernel
theorem dX4_init_134 : decode cX4_init 134 = .ok (.bipush 6, 2) := by decide +kernel
theorem dX4_init_136 : decode cX4_init 136 = .ok (.newarray .int, 2) := by decide +kernel
theorem dX4_init_138 : decode cX4_init 138 = .ok (.putfield 49, 3) := by decide +kernel
theorem dX4_init_141 : decode cX4_init 141 = .ok (.return_, 1) := by decide +kernel
theorem dX4_thrown_0 : decode cX4_thrown 0 = .ok (.aload_n 0, 1) := by decide +kernel
theorem dX4_thrown_1 : decode cX4_thrown 1 = .ok (.getfield 52, 3) := by decide +kernel
theorem dX4_thrown_4 : decode cX4_thrown 4 = .ok (.ireturn, 1) := by decide +kernel
theorem dX4_in_0 : decode cX4_in 0 = .ok (.iload_n 0, 1) := by decide +kernel
theorem dX4_in_1 : decode cX4_in 1 = .ok (.iload_n 1, 1) := by decide +kernel
theorem dX4_in_2 : decode cX4_in 2 = .ok (.if_icmp .lt 12, 3) := by decide +kernel
theorem dX4_in_5 : decode cX4_in 5 = .ok (.iload_n 0, 1) := by decide +kernel
theorem dX4_in_6 : decode cX4_in 6 = .ok (.iload_n 2, 1) := by decide +kernel
theorem dX4_in_7 : decode cX4_in 7 = .ok (.if_icmp .gt 7, 3) := by decide +kernel
theorem dX4_in_10 : decode cX4_in 10 = .ok (.iconst 1, 1) := by decide +kernel
theorem dX4_in_11 : decode cX4_in 11 = .ok (.goto 4, 3) := by decide +kernel
theorem dX4_in_14 : decode cX4_in 14 = .ok (.iconst 0, 1) := by decide +kernel
theorem dX4_in_15 : decode cX4_in 15 = .ok (.ireturn, 1) := by decide +kernel
theorem dX4_isFlight_0 : decode cX4_isFlight 0 = .ok (.iload_n 1, 1) := by decide +kernel
theorem dX4_isFlight_1 : decode cX4_isFlight 1 = .ok (.iconst 0, 1) := by decide +kernel
theorem dX4_isFlight_2 : decode cX4_isFlight 2 = .ok (.aload_n 0, 1) := by decide +kernel
theorem dX4_isFlight_3 : decode cX4_isFlight 3 = .ok (.getfield 56, 3) := by decide +kernel
theorem dX4_isFlight_6 : decode cX4_isFlight 6 = .ok (.iconst 1, 1) := by decide +kernel
theorem dX4_isFlight_7 : decode cX4_isFlight 7 = .ok (.isub, 1) := by decide +kernel
theorem dX4_isFlight_8 : decode cX4_isFlight 8 = .ok (.invokestatic 59, 3) := by decide +kernel
theorem dX4_isFlight_11 : decode cX4_isFlight 11 = .ok (.ireturn, 1) := by decide +kernel
theorem dX4_isParty_0 : decode cX4_isParty 0 = .ok (.iload_n 1, 1) := by decide +kernel
theorem dX4_isParty_1 : decode cX4_isParty 1 = .ok (.iconst 0, 1) := by decide +kernel
theorem dX4_isParty_2 : decode cX4_isParty 2 = .ok (.aload_n 0, 1) := by decide +kernel
theorem dX4_isParty_3 : decode cX4_isParty 3 = .ok (.getfield 63, 3) := by decide +kernel
theorem dX4_isParty_6 : decode cX4_isParty 6 = .ok (.iconst 1, 1) := by decide +kernel
theorem dX4_isParty_7 : decode cX4_isParty 7 = .ok (.isub, 1) := by decide +kernel
theorem dX4_isParty_8 : decode cX4_isParty 8 = .ok (.invokestatic 59, 3) := by decide +kernel
theorem dX4_isParty_11 : decode cX4_isParty 11 = .ok (.ireturn, 1) := by decide +kernel
theorem dX4_get_0 : decode cX4_get 0 = .ok (.aload_n 0, 1) := by decide +kernel
theorem dX4_get_1 : decode cX4_get 1 = .ok (.getfield 13, 3) := by decide +kernel
theorem dX4_get_4 : decode cX4_get 4 = .ok (.bipush 9, 2) := by decide +kernel
theorem dX4_get_6 : decode cX4_get 6 = .ok (.iload_n 1, 1) := by decide +kernel
theorem dX4_get_7 : decode cX4_get 7 = .ok (.imul, 1) := by decide +kernel
theorem dX4_get_8 : decode cX4_get 8 = .ok (.iload_n 2, 1) := by decide +kernel
theorem dX4_get_9 : decode cX4_get 9 = .ok (.iadd, 1) := by decide +kernel
theorem dX4_get_10 : decode cX4_get 10 = .ok (.iaload, 1) := by decide +kernel
theorem dX4_get_11 : decode cX4_get 11 = .ok (.ireturn, 1) := by decide +kernel
theorem dX4_put_0 : decode cX4_put 0 = .ok (.aload_n 0, 1) := by decide +kernel
theorem dX4_put_1 : decode cX4_put 1 = .ok (.getfield 13, 3) := by decide +kernel
theorem dX4_put_4 : decode cX4_put 4 = .ok (.bipush 9, 2) := by decide +kernel
theorem dX4_put_6 : decode cX4_put 6 = .ok (.iload_n 1, 1) := by decide +kernel
theorem dX4_put_7 : decode cX4_put 7 = .ok (.imul, 1) := by decide +kernel
theorem dX4_put_8 : decode cX4_put 8 = .ok (.iload_n 2, 1) := by decide +kernel
theorem dX4_put_9 : decode cX4_put 9 = .ok (.iadd, 1) := by decide +kernel
theorem dX4_put_10 : decode cX4_put 10 = .ok (.iload_n 3, 1) := by decide +kernel
theorem dX4_put_11 : decode cX4_put 11 = .ok (.iastore, 1) := by decide +kernel
theorem dX4_put_12 : decode cX4_put 12 = .ok (.return_, 1) := by decide +kernel
theorem dX4_of7_0 : decode cX4_of7 0 = .ok (.aload_n 0, 1) := by decide +kernel
theorem dX4_of7_1 : decode cX4_of7 1 = .ok (.getfield 9, 3) := by decide +kernel
theorem dX4_of7_4 : decode cX4_of7 4 = .ok (.bipush 7, 2) := by decide +kernel
theorem dX4_of7_6 : decode cX4_of7 6 = .ok (.iload_n 1, 1) := by decide +kernel
theorem dX4_of7_7 : decode cX4_of7 7 = .ok (.imul, 1) := by decide +kernel
theorem dX4_of7_8 : decode cX4_of7 8 = .ok (.iload_n 2, 1) := by decide +kernel
theorem dX4_of7_9 : decode cX4_of7 9 = .ok (.iadd, 1) := by decide +kernel
theorem dX4_of7_10 : decode cX4_of7 10 = .ok (.iaload, 1) := by decide +kernel
theorem dX4_of7_11 : decode cX4_of7 11 = .ok (.ireturn, 1) := by decide +kernel
theorem dX4_flight_0 : decode cX4_flight 0 = .ok (.aload_n 0, 1) := by decide +kernel
theorem dX4_flight_1 : decode cX4_flight 1 = .ok (.iconst 0, 1) := by decide +kernel
theorem dX4_flight_2 : decode cX4_flight 2 = .ok (.putfield 52, 3) := by decide +kernel
theorem dX4_flight_5 : decode cX4_flight 5 = .ok (.iload_n 1, 1) := by decide +kernel
theorem dX4_flight_6 : decode cX4_flight 6 = .ok (.iconst 0, 1) := by decide +kernel
theorem dX4_flight_7 : decode cX4_flight 7 = .ok (.bipush 7, 2) := by decide +kernel
theorem dX4_flight_9 : decode cX4_flight 9 = .ok (.invokestatic 59, 3) := by decide +kernel
theorem dX4_flight_12 : decode cX4_flight 12 = .ok (.ifCond .eq 79, 3) := by decide +kernel
theorem dX4_flight_15 : decode cX4_flight 15 = .ok (.iload_n 2, 1) := by decide +kernel
theorem dX4_flight_16 : decode cX4_flight 16 = .ok (.iconst 0, 1) := by decide +kernel
theorem dX4_flight_17 : decode cX4_flight 17 = .ok (.bipush 7, 2) := by decide +kernel
theorem dX4_flight_19 : decode cX4_flight 19 = .ok (.invokestatic 59, 3) := by decide +kernel
theorem dX4_flight_22 : decode cX4_flight 22 = .ok (.ifCond .eq 69, 3) := by decide +kernel
theorem dX4_flight_25 : decode cX4_flight 25 = .ok (.iload_n 1, 1) := by decide +kernel
theorem dX4_flight_26 : decode cX4_flight 26 = .ok (.iload_n 2, 1) := by decide +kernel
theorem dX4_flight_27 : decode cX4_flight 27 = .ok (.if_icmp .eq 64, 3) := by decide +kernel
theorem dX4_flight_30 : decode cX4_flight 30 = .ok (.iload_n 3, 1) := by decide +kernel
theorem dX4_flight_31 : decode cX4_flight 31 = .ok (.iconst 0, 1) := by decide +kernel
theorem dX4_flight_32 : decode cX4_flight 32 = .ok (.sipush 9999, 3) := by decide +kernel
theorem dX4_flight_35 : decode cX4_flight 35 = .ok (.invokestatic 59, 3) := by decide +kernel
theorem dX4_flight_38 : decode cX4_flight 38 = .ok (.ifCond .eq 53, 3) := by decide +kernel
theorem dX4_flight_41 : decode cX4_flight 41 = .ok (.iload 4, 2) := by decide +kernel
theorem dX4_flight_43 : decode cX4_flight 43 = .ok (.iconst 0, 1) := by decide +kernel
theorem dX4_flight_44 : decode cX4_flight 44 = .ok (.sipush 9999, 3) := by decide +kernel
theorem dX4_flight_47 : decode cX4_flight 47 = .ok (.invokestatic 59, 3) := by decide +kernel
theorem dX4_flight_50 : decode cX4_flight 50 = .ok (.ifCond .eq 41, 3) := by decide +kernel
theorem dX4_flight_53 : decode cX4_flight 53 = .ok (.iload_n 3, 1) := by decide +kernel
theorem dX4_flight_54 : decode cX4_flight 54 = .ok (.iload 4, 2) := by decide +kernel
theorem dX4_flight_56 : decode cX4_flight 56 = .ok (.if_icmp .ge 35, 3) := by decide +kernel
theorem dX4_flight_59 : decode cX4_flight 59 = .ok (.iload 5, 2) := by decide +kernel
theorem dX4_flight_61 : decode cX4_flight 61 = .ok (.iconst 1, 1) := by decide +kernel
theorem dX4_flight_62 : decode cX4_flight 62 = .ok (.bipush 40, 2) := by decide +kernel
theorem dX4_flight_64 : decode cX4_flight 64 = .ok (.invokestatic 59, 3) := by decide +kernel
theorem dX4_flight_67 : decode cX4_flight 67 = .ok (.ifCond .eq 24, 3) := by decide +kernel
theorem dX4_flight_70 : decode cX4_flight 70 = .ok (.iload 6, 2) := by decide +kernel
theorem dX4_flight_72 : decode cX4_flight 72 = .ok (.iconst 1, 1) := by decide +kernel
theorem dX4_flight_73 : decode cX4_flight 73 = .ok (.sipush 9999, 3) := by decide +kernel
theorem dX4_flight_76 : decode cX4_flight 76 = .ok (.invokestatic 59, 3) := by decide +kernel
theorem dX4_flight_79 : decode cX4_flight 79 = .ok (.ifCond .eq 12, 3) := by decide +kernel
theorem dX4_flight_82 : decode cX4_flight 82 = .ok (.aload_n 0, 1) := by decide +kernel
theorem dX4_flight_83 : decode cX4_flight 83 = .ok (.getfield 56, 3) := by decide +kernel
theorem dX4_flight_86 : decode cX4_flight 86 = .ok (.bipush 8, 2) := by decide +kernel
theorem dX4_flight_88 : decode cX4_flight 88 = .ok (.if_icmp .ne 5, 3) := by decide +kernel
theorem dX4_flight_91 : decode cX4_flight 91 = .ok (.iconst (-1), 1) := by decide +kernel
theorem dX4_flight_92 : decode cX4_flight 92 = .ok (.ireturn, 1) := by decide +kernel
theorem dX4_flight_93 : decode cX4_flight 93 = .ok (.bipush 7, 2) := by decide +kernel
theorem dX4_flight_95 : decode cX4_flight 95 = .ok (.newarray .int, 2) := by decide +kernel
theorem dX4_flight_97 : decode cX4_flight 97 = .ok (.dup, 1) := by decide +kernel
theorem dX4_flight_98 : decode cX4_flight 98 = .ok (.iconst 0, 1) := by decide +kernel
theorem dX4_flight_99 : decode cX4_flight 99 = .ok (.iload_n 1, 1) := by decide +kernel
theorem dX4_flight_100 : decode cX4_flight 100 = .ok (.iastore, 1) := by decide +kernel
theorem dX4_flight_101 : decode cX4_flight 101 = .ok (.dup, 1) := by decide +kernel
theorem dX4_flight_102 : decode cX4_flight 102 = .ok (.iconst 1, 1) := by decide +kernel
theorem dX4_flight_103 : decode cX4_flight 103 = .ok (.iload_n 2, 1) := by decide +kernel
theorem dX4_flight_104 : decode cX4_flight 104 = .ok (.iastore, 1) := by decide +kernel
theorem dX4_flight_105 : decode cX4_flight 105 = .ok (.dup, 1) := by decide +kernel
theorem dX4_flight_106 : decode cX4_flight 106 = .ok (.iconst 2, 1) := by decide +kernel
theorem dX4_flight_107 : decode cX4_flight 107 = .ok (.iload_n 3, 1) := by decide +kernel
theorem dX4_flight_108 : decode cX4_flight 108 = .ok (.iastore, 1) := by decide +kernel
theorem dX4_flight_109 : decode cX4_flight 109 = .ok (.dup, 1) := by decide +kernel
theorem dX4_flight_110 : decode cX4_flight 110 = .ok (.iconst 3, 1) := by decide +kernel
theorem dX4_flight_111 : decode cX4_flight 111 = .ok (.iload 4, 2) := by decide +kernel
theorem dX4_flight_113 : decode cX4_flight 113 = .ok (.iastore, 1) := by decide +kernel
theorem dX4_flight_114 : decode cX4_flight 114 = .ok (.dup, 1) := by decide +kernel
theorem dX4_flight_115 : decode cX4_flight 115 = .ok (.iconst 4, 1) := by decide +kernel
theorem dX4_flight_116 : decode cX4_flight 116 = .ok (.iload 5, 2) := by decide +kernel
theorem dX4_flight_118 : decode cX4_flight 118 = .ok (.iastore, 1) := by decide +kernel
theorem dX4_flight_119 : decode cX4_flight 119 = .ok (.dup, 1) := by decide +kernel
theorem dX4_flight_120 : decode cX4_flight 120 = .ok (.iconst 5, 1) := by decide +kernel
theorem dX4_flight_121 : decode cX4_flight 121 = .ok (.iload 6, 2) := by decide +kernel
theorem dX4_flight_123 : decode cX4_flight 123 = .ok (.iastore, 1) := by decide +kernel
theorem dX4_flight_124 : decode cX4_flight 124 = .ok (.dup, 1) := by decide +kernel
theorem dX4_flight_125 : decode cX4_flight 125 = .ok (.bipush 6, 2) := by decide +kernel
theorem dX4_flight_127 : decode cX4_flight 127 = .ok (.iconst 0, 1) := by decide +kernel
theorem dX4_flight_128 : decode cX4_flight 128 = .ok (.iastore, 1) := by decide +kernel
theorem dX4_flight_129 : decode cX4_flight 129 = .ok (.astore 7, 2) := by decide +kernel
theorem dX4_flight_131 : decode cX4_flight 131 = .ok (.iconst 0, 1) := by decide +kernel
theorem dX4_flight_132 : decode cX4_flight 132 = .ok (.istore 8, 2) := by decide +kernel
theorem dX4_flight_134 : decode cX4_flight 134 = .ok (.iload 8, 2) := by decide +kernel
theorem dX4_flight_136 : decode cX4_flight 136 = .ok (.bipush 7, 2) := by decide +kernel
theorem dX4_flight_138 : decode cX4_flight 138 = .ok (.if_icmp .ge 29, 3) := by decide +kernel
theorem dX4_flight_141 : decode cX4_flight 141 = .ok (.aload_n 0, 1) := by decide +kernel
theorem dX4_flight_142 : decode cX4_flight 142 = .ok (.getfield 9, 3) := by decide +kernel
theorem dX4_flight_145 : decode cX4_flight 145 = .ok (.bipush 7, 2) := by decide +kernel
theorem dX4_flight_147 : decode cX4_flight 147 = .ok (.aload_n 0, 1) := by decide +kernel
theorem dX4_flight_148 : decode cX4_flight 148 = .ok (.getfield 56, 3) := by decide +kernel
theorem dX4_flight_151 : decode cX4_flight 151 = .ok (.imul, 1) := by decide +kernel
theorem dX4_flight_152 : decode cX4_flight 152 = .ok (.iload 8, 2) := by decide +kernel
theorem dX4_flight_154 : decode cX4_flight 154 = .ok (.iadd, 1) := by decide +kernel
theorem dX4_flight_155 : decode cX4_flight 155 = .ok (.aload 7, 2) := by decide +kernel
theorem dX4_flight_157 : decode cX4_flight 157 = .ok (.iload 8, 2) := by decide +kernel
theorem dX4_flight_159 : decode cX4_flight 159 = .ok (.iaload, 1) := by decide +kernel
theorem dX4_flight_160 : decode cX4_flight 160 = .ok (.iastore, 1) := by decide +kernel
theorem dX4_flight_161 : decode cX4_flight 161 = .ok (.iinc 8 1, 3) := by decide +kernel
theorem dX4_flight_164 : decode cX4_flight 164 = .ok (.goto (-30), 3) := by decide +kernel
theorem dX4_flight_167 : decode cX4_flight 167 = .ok (.aload_n 0, 1) := by decide +kernel
theorem dX4_flight_168 : decode cX4_flight 168 = .ok (.dup, 1) := by decide +kernel
theorem dX4_flight_169 : decode cX4_flight 169 = .ok (.getfield 56, 3) := by decide +kernel
theorem dX4_flight_172 : decode cX4_flight 172 = .ok (.iconst 1, 1) := by decide +kernel
theorem dX4_flight_173 : decode cX4_flight 173 = .ok (.iadd, 1) := by decide +kernel
theorem dX4_flight_174 : decode cX4_flight 174 = .ok (.putfield 56, 3) := by decide +kernel
theorem dX4_flight_177 : decode cX4_flight 177 = .ok (.aload_n 0, 1) := by decide +kernel
theorem dX4_flight_178 : decode cX4_flight 178 = .ok (.getfield 56, 3) := by decide +kernel
theorem dX4_flight_181 : decode cX4_flight 181 = .ok (.iconst 1, 1) := by decide +kernel
theorem dX4_flight_182 : decode cX4_flight 182 = .ok (.isub, 1) := by decide +kernel
theorem dX4_flight_183 : decode cX4_flight 183 = .ok (.ireturn, 1) := by decide +kernel
theorem dX4_off_0 : decode cX4_off 0 = .ok (.aload_n 0, 1) := by decide +kernel
theorem dX4_off_1 : decode cX4_off 1 = .ok (.iconst 0, 1) := by decide +kernel
theorem dX4_off_2 : decode cX4_off 2 = .ok (.putfield 52, 3) := by decide +kernel
theorem dX4_off_5 : decode cX4_off 5 = .ok (.aload_n 0, 1) := by decide +kernel
theorem dX4_off_6 : decode cX4_off 6 = .ok (.iload_n 1, 1) := by decide +kernel
theorem dX4_off_7 : decode cX4_off 7 = .ok (.invokevirtual 66, 3) := by decide +kernel
theorem dX4_off_10 : decode cX4_off 10 = .ok (.ifCond .ne 5, 3) := by decide +kernel
theorem dX4_off_13 : decode cX4_off 13 = .ok (.iconst 0, 1) := by decide +kernel
theorem dX4_off_14 : decode cX4_off 14 = .ok (.ireturn, 1) := by decide +kernel
theorem dX4_off_15 : decode cX4_off 15 = .ok (.aload_n 0, 1) := by decide +kernel
theorem dX4_off_16 : decode cX4_off 16 = .ok (.getfield 9, 3) := by decide +kernel
theorem dX4_off_19 : decode cX4_off 19 = .ok (.bipush 7, 2) := by decide +kernel
theorem dX4_off_21 : decode cX4_off 21 = .ok (.iload_n 1, 1) := by decide +kernel
theorem dX4_off_22 : decode cX4_off 22 = .ok (.imul, 1) := by decide +kernel
theorem dX4_off_23 : decode cX4_off 23 = .ok (.bipush 6, 2) := by decide +kernel
theorem dX4_off_25 : decode cX4_off 25 = .ok (.iadd, 1) := by decide +kernel
theorem dX4_off_26 : decode cX4_off 26 = .ok (.iload_n 2, 1) := by decide +kernel
theorem dX4_off_27 : decode cX4_off 27 = .ok (.ifCond .eq 7, 3) := by decide +kernel
theorem dX4_off_30 : decode cX4_off 30 = .ok (.iconst 1, 1) := by decide +kernel
theorem dX4_off_31 : decode cX4_off 31 = .ok (.goto 4, 3) := by decide +kernel
theorem dX4_off_34 : decode cX4_off 34 = .ok (.iconst 0, 1) := by decide +kernel
theorem dX4_off_35 : decode cX4_off 35 = .ok (.iastore, 1) := by decide +kernel
theorem dX4_off_36 : decode cX4_off 36 = .ok (.iconst 1, 1) := by decide +kernel
theorem dX4_off_37 : decode cX4_off 37 = .ok (.ireturn, 1) := by decide +kernel
theorem dX4_party_0 : decode cX4_party 0 = .ok (.aload_n 0, 1) := by decide +kernel
theorem dX4_party_1 : decode cX4_party 1 = .ok (.iconst 0, 1) := by decide +kernel
theorem dX4_party_2 : decode cX4_party 2 = .ok (.putfield 52, 3) := by decide +kernel
theorem dX4_party_5 : decode cX4_party 5 = .ok (.aload_n 0, 1) := by decide +kernel
theorem dX4_party_6 : decode cX4_party 6 = .ok (.iload_n 1, 1) := by decide +kernel
theorem dX4_party_7 : decode cX4_party 7 = .ok (.invokevirtual 66, 3) := by decide +kernel
theorem dX4_party_10 : decode cX4_party 10 = .ok (.ifCond .eq 44, 3) := by decide +kernel
theorem dX4_party_13 : decode cX4_party 13 = .ok (.iload_n 2, 1) := by decide +kernel
theorem dX4_party_14 : decode cX4_party 14 = .ok (.iconst 1, 1) := by decide +kernel
theorem dX4_party_15 : decode cX4_party 15 = .ok (.bipush 6, 2) := by decide +kernel
theorem dX4_party_17 : decode cX4_party 17 = .ok (.invokestatic 59, 3) := by decide +kernel
theorem dX4_party_20 : decode cX4_party 20 = .ok (.ifCond .eq 34, 3) := by decide +kernel
theorem dX4_party_23 : decode cX4_party 23 = .ok (.iload_n 3, 1) := by decide +kernel
theorem dX4_party_24 : decode cX4_party 24 = .ok (.iconst 0, 1) := by decide +kernel
theorem dX4_party_25 : decode cX4_party 25 = .ok (.bipush 9, 2) := by decide +kernel
theorem dX4_party_27 : decode cX4_party 27 = .ok (.invokestatic 59, 3) := by decide +kernel
theorem dX4_party_30 : decode cX4_party 30 = .ok (.ifCond .eq 24, 3) := by decide +kernel
theorem dX4_party_33 : decode cX4_party 33 = .ok (.iload 4, 2) := by decide +kernel
theorem dX4_party_35 : decode cX4_party 35 = .ok (.iconst (-1), 1) := by decide +kernel
theorem dX4_party_36 : decode cX4_party 36 = .ok (.sipush 999, 3) := by decide +kernel
theorem dX4_party_39 : decode cX4_party 39 = .ok (.invokestatic 59, 3) := by decide +kernel
theorem dX4_party_42 : decode cX4_party 42 = .ok (.ifCond .eq 12, 3) := by decide +kernel
theorem dX4_party_45 : decode cX4_party 45 = .ok (.aload_n 0, 1) := by decide +kernel
theorem dX4_party_46 : decode cX4_party 46 = .ok (.getfield 63, 3) := by decide +kernel
theorem dX4_party_49 : decode cX4_party 49 = .ok (.bipush 20, 2) := by decide +kernel
theorem dX4_party_51 : decode cX4_party 51 = .ok (.if_icmp .ne 5, 3) := by decide +kernel
theorem dX4_party_54 : decode cX4_party 54 = .ok (.iconst (-1), 1) := by decide +kernel
theorem dX4_party_55 : decode cX4_party 55 = .ok (.ireturn, 1) := by decide +kernel
theorem dX4_party_56 : decode cX4_party 56 = .ok (.bipush 9, 2) := by decide +kernel
theorem dX4_party_58 : decode cX4_party 58 = .ok (.newarray .int, 2) := by decide +kernel
theorem dX4_party_60 : decode cX4_party 60 = .ok (.dup, 1) := by decide +kernel
theorem dX4_party_61 : decode cX4_party 61 = .ok (.iconst 0, 1) := by decide +kernel
theorem dX4_party_62 : decode cX4_party 62 = .ok (.iload_n 1, 1) := by decide +kernel
theorem dX4_party_63 : decode cX4_party 63 = .ok (.iastore, 1) := by decide +kernel
theorem dX4_party_64 : decode cX4_party 64 = .ok (.dup, 1) := by decide +kernel
theorem dX4_party_65 : decode cX4_party 65 = .ok (.iconst 1, 1) := by decide +kernel
theorem dX4_party_66 : decode cX4_party 66 = .ok (.iload_n 2, 1) := by decide +kernel
theorem dX4_party_67 : decode cX4_party 67 = .ok (.iastore, 1) := by decide +kernel
theorem dX4_party_68 : decode cX4_party 68 = .ok (.dup, 1) := by decide +kernel
theorem dX4_party_69 : decode cX4_party 69 = .ok (.iconst 2, 1) := by decide +kernel
theorem dX4_party_70 : decode cX4_party 70 = .ok (.iload_n 3, 1) := by decide +kernel
theorem dX4_party_71 : decode cX4_party 71 = .ok (.iastore, 1) := by decide +kernel
theorem dX4_party_72 : decode cX4_party 72 = .ok (.dup, 1) := by decide +kernel
theorem dX4_party_73 : decode cX4_party 73 = .ok (.iconst 3, 1) := by decide +kernel
theorem dX4_party_74 : decode cX4_party 74 = .ok (.iload 4, 2) := by decide +kernel
theorem dX4_party_76 : decode cX4_party 76 = .ok (.iastore, 1) := by decide +kernel
theorem dX4_party_77 : decode cX4_party 77 = .ok (.dup, 1) := by decide +kernel
theorem dX4_party_78 : decode cX4_party 78 = .ok (.iconst 4, 1) := by decide +kernel
theorem dX4_party_79 : decode cX4_party 79 = .ok (.iload 5, 2) := by decide +kernel
theorem dX4_party_81 : decode cX4_party 81 = .ok (.ifCond .eq 7, 3) := by decide +kernel
theorem dX4_party_84 : decode cX4_party 84 = .ok (.iconst 1, 1) := by decide +kernel
theorem dX4_party_85 : decode cX4_party 85 = .ok (.goto 4, 3) := by decide +kernel
theorem dX4_party_88 : decode cX4_party 88 = .ok (.iconst 0, 1) := by decide +kernel
theorem dX4_party_89 : decode cX4_party 89 = .ok (.iastore, 1) := by decide +kernel
theorem dX4_party_90 : decode cX4_party 90 = .ok (.dup, 1) := by decide +kernel
theorem dX4_party_91 : decode cX4_party 91 = .ok (.iconst 5, 1) := by decide +kernel
theorem dX4_party_92 : decode cX4_party 92 = .ok (.iconst 0, 1) := by decide +kernel
theorem dX4_party_93 : decode cX4_party 93 = .ok (.iastore, 1) := by decide +kernel
theorem dX4_party_94 : decode cX4_party 94 = .ok (.dup, 1) := by decide +kernel
theorem dX4_party_95 : decode cX4_party 95 = .ok (.bipush 6, 2) := by decide +kernel
theorem dX4_party_97 : decode cX4_party 97 = .ok (.iconst 0, 1) := by decide +kernel
theorem dX4_party_98 : decode cX4_party 98 = .ok (.iastore, 1) := by decide +kernel
theorem dX4_party_99 : decode cX4_party 99 = .ok (.dup, 1) := by decide +kernel
theorem dX4_party_100 : decode cX4_party 100 = .ok (.bipush 7, 2) := by decide +kernel
theorem dX4_party_102 : decode cX4_party 102 = .ok (.iconst (-1), 1) := by decide +kernel
theorem dX4_party_103 : decode cX4_party 103 = .ok (.iastore, 1) := by decide +kernel
theorem dX4_party_104 : decode cX4_party 104 = .ok (.dup, 1) := by decide +kernel
theorem dX4_party_105 : decode cX4_party 105 = .ok (.bipush 8, 2) := by decide +kernel
theorem dX4_party_107 : decode cX4_party 107 = .ok (.iconst (-1), 1) := by decide +kernel
theorem dX4_party_108 : decode cX4_party 108 = .ok (.iastore, 1) := by decide +kernel
theorem dX4_party_109 : decode cX4_party 109 = .ok (.astore 6, 2) := by decide +kernel
theorem dX4_party_111 : decode cX4_party 111 = .ok (.iconst 0, 1) := by decide +kernel
theorem dX4_party_112 : decode cX4_party 112 = .ok (.istore 7, 2) := by decide +kernel
theorem dX4_party_114 : decode cX4_party 114 = .ok (.iload 7, 2) := by decide +kernel
theorem dX4_party_116 : decode cX4_party 116 = .ok (.bipush 9, 2) := by decide +kernel
theorem dX4_party_118 : decode cX4_party 118 = .ok (.if_icmp .ge 29, 3) := by decide +kernel
theorem dX4_party_121 : decode cX4_party 121 = .ok (.aload_n 0, 1) := by decide +kernel
theorem dX4_party_122 : decode cX4_party 122 = .ok (.getfield 13, 3) := by decide +kernel
theorem dX4_party_125 : decode cX4_party 125 = .ok (.bipush 9, 2) := by decide +kernel
theorem dX4_party_127 : decode cX4_party 127 = .ok (.aload_n 0, 1) := by decide +kernel
theorem dX4_party_128 : decode cX4_party 128 = .ok (.getfield 63, 3) := by decide +kernel
theorem dX4_party_131 : decode cX4_party 131 = .ok (.imul, 1) := by decide +kernel
theorem dX4_party_132 : decode cX4_party 132 = .ok (.iload 7, 2) := by decide +kernel
theorem dX4_party_134 : decode cX4_party 134 = .ok (.iadd, 1) := by decide +kernel
theorem dX4_party_135 : decode cX4_party 135 = .ok (.aload 6, 2) := by decide +kernel
theorem dX4_party_137 : decode cX4_party 137 = .ok (.iload 7, 2) := by decide +kernel
theorem dX4_party_139 : decode cX4_party 139 = .ok (.iaload, 1) := by decide +kernel
theorem dX4_party_140 : decode cX4_party 140 = .ok (.iastore, 1) := by decide +kernel
theorem dX4_party_141 : decode cX4_party 141 = .ok (.iinc 7 1, 3) := by decide +kernel
theorem dX4_party_144 : decode cX4_party 144 = .ok (.goto (-30), 3) := by decide +kernel
theorem dX4_party_147 : decode cX4_party 147 = .ok (.aload_n 0, 1) := by decide +kernel
theorem dX4_party_148 : decode cX4_party 148 = .ok (.dup, 1) := by decide +kernel
theorem dX4_party_149 : decode cX4_party 149 = .ok (.getfield 63, 3) := by decide +kernel
theorem dX4_party_152 : decode cX4_party 152 = .ok (.iconst 1, 1) := by decide +kernel
theorem dX4_party_153 : decode cX4_party 153 = .ok (.iadd, 1) := by decide +kernel
theorem dX4_party_154 : decode cX4_party 154 = .ok (.putfield 63, 3) := by decide +kernel
theorem dX4_party_157 : decode cX4_party 157 = .ok (.aload_n 0, 1) := by decide +kernel
theorem dX4_party_158 : decode cX4_party 158 = .ok (.getfield 63, 3) := by decide +kernel
theorem dX4_party_161 : decode cX4_party 161 = .ok (.iconst 1, 1) := by decide +kernel
theorem dX4_party_162 : decode cX4_party 162 = .ok (.isub, 1) := by decide +kernel
theorem dX4_party_163 : decode cX4_party 163 = .ok (.ireturn, 1) := by decide +kernel
theorem dX4_set_0 : decode cX4_set 0 = .ok (.aload_n 0, 1) := by decide +kernel
theorem dX4_set_1 : decode cX4_set 1 = .ok (.iconst 0, 1) := by decide +kernel
theorem dX4_set_2 : decode cX4_set 2 = .ok (.putfield 52, 3) := by decide +kernel
theorem dX4_set_5 : decode cX4_set 5 = .ok (.iload_n 1, 1) := by decide +kernel
theorem dX4_set_6 : decode cX4_set 6 = .ok (.iconst 0, 1) := by decide +kernel
theorem dX4_set_7 : decode cX4_set 7 = .ok (.iconst 3, 1) := by decide +kernel
theorem dX4_set_8 : decode cX4_set 8 = .ok (.invokestatic 59, 3) := by decide +kernel
theorem dX4_set_11 : decode cX4_set 11 = .ok (.ifCond .eq 24, 3) := by decide +kernel
theorem dX4_set_14 : decode cX4_set 14 = .ok (.iload_n 2, 1) := by decide +kernel
theorem dX4_set_15 : decode cX4_set 15 = .ok (.iconst 0, 1) := by decide +kernel
theorem dX4_set_16 : decode cX4_set 16 = .ok (.iload_n 1, 1) := by decide +kernel
theorem dX4_set_17 : decode cX4_set 17 = .ok (.ifCond .ne 9, 3) := by decide +kernel
theorem dX4_set_20 : decode cX4_set 20 = .ok (.sipush 300, 3) := by decide +kernel
theorem dX4_set_23 : decode cX4_set 23 = .ok (.goto 6, 3) := by decide +kernel
theorem dX4_set_26 : decode cX4_set 26 = .ok (.sipush 9999, 3) := by decide +kernel
theorem dX4_set_29 : decode cX4_set 29 = .ok (.invokestatic 59, 3) := by decide +kernel
theorem dX4_set_32 : decode cX4_set 32 = .ok (.ifCond .ne 5, 3) := by decide +kernel
theorem dX4_set_35 : decode cX4_set 35 = .ok (.iconst (-1), 1) := by decide +kernel
theorem dX4_set_36 : decode cX4_set 36 = .ok (.ireturn, 1) := by decide +kernel
theorem dX4_set_37 : decode cX4_set 37 = .ok (.aload_n 0, 1) := by decide +kernel
theorem dX4_set_38 : decode cX4_set 38 = .ok (.getfield 16, 3) := by decide +kernel
theorem dX4_set_41 : decode cX4_set 41 = .ok (.iload_n 1, 1) := by decide +kernel
theorem dX4_set_42 : decode cX4_set 42 = .ok (.iaload, 1) := by decide +kernel
theorem dX4_set_43 : decode cX4_set 43 = .ok (.istore_n 3, 1) := by decide +kernel
theorem dX4_set_44 : decode cX4_set 44 = .ok (.aload_n 0, 1) := by decide +kernel
theorem dX4_set_45 : decode cX4_set 45 = .ok (.getfield 16, 3) := by decide +kernel
theorem dX4_set_48 : decode cX4_set 48 = .ok (.iload_n 1, 1) := by decide +kernel
theorem dX4_set_49 : decode cX4_set 49 = .ok (.iload_n 2, 1) := by decide +kernel
theorem dX4_set_50 : decode cX4_set 50 = .ok (.iastore, 1) := by decide +kernel
theorem dX4_set_51 : decode cX4_set 51 = .ok (.iload_n 3, 1) := by decide +kernel
theorem dX4_set_52 : decode cX4_set 52 = .ok (.ireturn, 1) := by decide +kernel
theorem dX4_load_0 : decode cX4_load 0 = .ok (.iconst 0, 1) := by decide +kernel
theorem dX4_load_1 : decode cX4_load 1 = .ok (.istore_n 2, 1) := by decide +kernel
theorem dX4_load_2 : decode cX4_load 2 = .ok (.iconst 0, 1) := by decide +kernel
theorem dX4_load_3 : decode cX4_load 3 = .ok (.istore_n 3, 1) := by decide +kernel
theorem dX4_load_4 : decode cX4_load 4 = .ok (.iload_n 3, 1) := by decide +kernel
theorem dX4_load_5 : decode cX4_load 5 = .ok (.aload_n 0, 1) := by decide +kernel
theorem dX4_load_6 : decode cX4_load 6 = .ok (.getfield 63, 3) := by decide +kernel
theorem dX4_load_9 : decode cX4_load 9 = .ok (.if_icmp .ge 62, 3) := by decide +kernel
theorem dX4_load_12 : decode cX4_load 12 = .ok (.aload_n 0, 1) := by decide +kernel
theorem dX4_load_13 : decode cX4_load 13 = .ok (.iload_n 3, 1) := by decide +kernel
theorem dX4_load_14 : decode cX4_load 14 = .ok (.iconst 5, 1) := by decide +kernel
theorem dX4_load_15 : decode cX4_load 15 = .ok (.invokevirtual 70, 3) := by decide +kernel
theorem dX4_load_18 : decode cX4_load 18 = .ok (.ifCond .ne 16, 3) := by decide +kernel
theorem dX4_load_21 : decode cX4_load 21 = .ok (.aload_n 0, 1) := by decide +kernel
theorem dX4_load_22 : decode cX4_load 22 = .ok (.iload_n 3, 1) := by decide +kernel
theorem dX4_load_23 : decode cX4_load 23 = .ok (.iconst 0, 1) := by decide +kernel
theorem dX4_load_24 : decode cX4_load 24 = .ok (.invokevirtual 70, 3) := by decide +kernel
theorem dX4_load_27 : decode cX4_load 27 = .ok (.iload_n 1, 1) := by decide +kernel
theorem dX4_load_28 : decode cX4_load 28 = .ok (.if_icmp .ne 37, 3) := by decide +kernel
theorem dX4_load_31 : decode cX4_load 31 = .ok (.goto 25, 3) := by decide +kernel
theorem dX4_load_34 : decode cX4_load 34 = .ok (.aload_n 0, 1) := by decide +kernel
theorem dX4_load_35 : decode cX4_load 35 = .ok (.iload_n 3, 1) := by decide +kernel
theorem dX4_load_36 : decode cX4_load 36 = .ok (.bipush 7, 2) := by decide +kernel
theorem dX4_load_38 : decode cX4_load 38 = .ok (.invokevirtual 70, 3) := by decide +kernel
theorem dX4_load_41 : decode cX4_load 41 = .ok (.iload_n 1, 1) := by decide +kernel
theorem dX4_load_42 : decode cX4_load 42 = .ok (.if_icmp .eq 14, 3) := by decide +kernel
theorem dX4_load_45 : decode cX4_load 45 = .ok (.aload_n 0, 1) := by decide +kernel
theorem dX4_load_46 : decode cX4_load 46 = .ok (.iload_n 3, 1) := by decide +kernel
theorem dX4_load_47 : decode cX4_load 47 = .ok (.bipush 8, 2) := by decide +kernel
theorem dX4_load_49 : decode cX4_load 49 = .ok (.invokevirtual 70, 3) := by decide +kernel
theorem dX4_load_52 : decode cX4_load 52 = .ok (.iload_n 1, 1) := by decide +kernel
theorem dX4_load_53 : decode cX4_load 53 = .ok (.if_icmp .ne 12, 3) := by decide +kernel
theorem dX4_load_56 : decode cX4_load 56 = .ok (.iload_n 2, 1) := by decide +kernel
theorem dX4_load_57 : decode cX4_load 57 = .ok (.aload_n 0, 1) := by decide +kernel
theorem dX4_load_58 : decode cX4_load 58 = .ok (.iload_n 3, 1) := by decide +kernel
theorem dX4_load_59 : decode cX4_load 59 = .ok (.iconst 1, 1) := by decide +kernel
theorem dX4_load_60 : decode cX4_load 60 = .ok (.invokevirtual 70, 3) := by decide +kernel
theorem dX4_load_63 : decode cX4_load 63 = .ok (.iadd, 1) := by decide +kernel
theorem dX4_load_64 : decode cX4_load 64 = .ok (.istore_n 2, 1) := by decide +kernel
theorem dX4_load_65 : decode cX4_load 65 = .ok (.iinc 3 1, 3) := by decide +kernel
theorem dX4_load_68 : decode cX4_load 68 = .ok (.goto (-64), 3) := by decide +kernel
theorem dX4_load_71 : decode cX4_load 71 = .ok (.iload_n 2, 1) := by decide +kernel
theorem dX4_load_72 : decode cX4_load 72 = .ok (.ireturn, 1) := by decide +kernel
theorem dX4_over_0 : decode cX4_over 0 = .ok (.aload_n 0, 1) := by decide +kernel
theorem dX4_over_1 : decode cX4_over 1 = .ok (.iload_n 1, 1) := by decide +kernel
theorem dX4_over_2 : decode cX4_over 2 = .ok (.bipush 6, 2) := by decide +kernel
theorem dX4_over_4 : decode cX4_over 4 = .ok (.invokevirtual 74, 3) := by decide +kernel
theorem dX4_over_7 : decode cX4_over 7 = .ok (.iconst 1, 1) := by decide +kernel
theorem dX4_over_8 : decode cX4_over 8 = .ok (.if_icmp .ne 9, 3) := by decide +kernel
theorem dX4_over_11 : decode cX4_over 11 = .ok (.aload_n 0, 1) := by decide +kernel
theorem dX4_over_12 : decode cX4_over 12 = .ok (.iload_n 1, 1) := by decide +kernel
theorem dX4_over_13 : decode cX4_over 13 = .ok (.invokevirtual 77, 3) := by decide +kernel
theorem dX4_over_16 : decode cX4_over 16 = .ok (.ireturn, 1) := by decide +kernel
theorem dX4_over_17 : decode cX4_over 17 = .ok (.iconst 0, 1) := by decide +kernel
theorem dX4_over_18 : decode cX4_over 18 = .ok (.aload_n 0, 1) := by decide +kernel
theorem dX4_over_19 : decode cX4_over 19 = .ok (.iload_n 1, 1) := by decide +kernel
theorem dX4_over_20 : decode cX4_over 20 = .ok (.invokevirtual 77, 3) := by decide +kernel
theorem dX4_over_23 : decode cX4_over 23 = .ok (.aload_n 0, 1) := by decide +kernel
theorem dX4_over_24 : decode cX4_over 24 = .ok (.iload_n 1, 1) := by decide +kernel
theorem dX4_over_25 : decode cX4_over 25 = .ok (.iconst 4, 1) := by decide +kernel
theorem dX4_over_26 : decode cX4_over 26 = .ok (.invokevirtual 74, 3) := by decide +kernel
theorem dX4_over_29 : decode cX4_over 29 = .ok (.isub, 1) := by decide +kernel
theorem dX4_over_30 : decode cX4_over 30 = .ok (.invokestatic 81, 3) := by decide +kernel
theorem dX4_over_33 : decode cX4_over 33 = .ok (.ireturn, 1) := by decide +kernel
theorem dX4_told_0 : decode cX4_told 0 = .ok (.aload_n 0, 1) := by decide +kernel
theorem dX4_told_1 : decode cX4_told 1 = .ok (.iconst 0, 1) := by decide +kernel
theorem dX4_told_2 : decode cX4_told 2 = .ok (.putfield 52, 3) := by decide +kernel
theorem dX4_told_5 : decode cX4_told 5 = .ok (.aload_n 0, 1) := by decide +kernel
theorem dX4_told_6 : decode cX4_told 6 = .ok (.iload_n 1, 1) := by decide +kernel
theorem dX4_told_7 : decode cX4_told 7 = .ok (.invokevirtual 66, 3) := by decide +kernel
theorem dX4_told_10 : decode cX4_told 10 = .ok (.ifCond .ne 5, 3) := by decide +kernel
theorem dX4_told_13 : decode cX4_told 13 = .ok (.iconst (-1), 1) := by decide +kernel
theorem dX4_told_14 : decode cX4_told 14 = .ok (.ireturn, 1) := by decide +kernel
theorem dX4_told_15 : decode cX4_told 15 = .ok (.iload_n 2, 1) := by decide +kernel
theorem dX4_told_16 : decode cX4_told 16 = .ok (.tableswitch 127 0 4 #[36, 42, 48, 55, 63], 36) := by decide +kernel
theorem dX4_told_52 : decode cX4_told 52 = .ok (.aload_n 0, 1) := by decide +kernel
theorem dX4_told_53 : decode cX4_told 53 = .ok (.iload_n 1, 1) := by decide +kernel
theorem dX4_told_54 : decode cX4_told 54 = .ok (.invokevirtual 77, 3) := by decide +kernel
theorem dX4_told_57 : decode cX4_told 57 = .ok (.ireturn, 1) := by decide +kernel
theorem dX4_told_58 : decode cX4_told 58 = .ok (.aload_n 0, 1) := by decide +kernel
theorem dX4_told_59 : decode cX4_told 59 = .ok (.iload_n 1, 1) := by decide +kernel
theorem dX4_told_60 : decode cX4_told 60 = .ok (.invokevirtual 86, 3) := by decide +kernel
theorem dX4_told_63 : decode cX4_told 63 = .ok (.ireturn, 1) := by decide +kernel
theorem dX4_told_64 : decode cX4_told 64 = .ok (.aload_n 0, 1) := by decide +kernel
theorem dX4_told_65 : decode cX4_told 65 = .ok (.iload_n 1, 1) := by decide +kernel
theorem dX4_told_66 : decode cX4_told 66 = .ok (.iconst 4, 1) := by decide +kernel
theorem dX4_told_67 : decode cX4_told 67 = .ok (.invokevirtual 74, 3) := by decide +kernel
theorem dX4_told_70 : decode cX4_told 70 = .ok (.ireturn, 1) := by decide +kernel
theorem dX4_told_71 : decode cX4_told 71 = .ok (.aload_n 0, 1) := by decide +kernel
theorem dX4_told_72 : decode cX4_told 72 = .ok (.iload_n 1, 1) := by decide +kernel
theorem dX4_told_73 : decode cX4_told 73 = .ok (.bipush 6, 2) := by decide +kernel
theorem dX4_told_75 : decode cX4_told 75 = .ok (.invokevirtual 74, 3) := by decide +kernel
theorem dX4_told_78 : decode cX4_told 78 = .ok (.ireturn, 1) := by decide +kernel
theorem dX4_told_79 : decode cX4_told 79 = .ok (.iconst 0, 1) := by decide +kernel
theorem dX4_told_80 : decode cX4_told 80 = .ok (.istore_n 3, 1) := by decide +kernel
theorem dX4_told_81 : decode cX4_told 81 = .ok (.iconst 0, 1) := by decide +kernel
theorem dX4_told_82 : decode cX4_told 82 = .ok (.istore 4, 2) := by decide +kernel
theorem dX4_told_84 : decode cX4_told 84 = .ok (.iload 4, 2) := by decide +kernel
theorem dX4_told_86 : decode cX4_told 86 = .ok (.aload_n 0, 1) := by decide +kernel
theorem dX4_told_87 : decode cX4_told 87 = .ok (.getfield 63, 3) := by decide +kernel
theorem dX4_told_90 : decode cX4_told 90 = .ok (.if_icmp .ge 51, 3) := by decide +kernel
theorem dX4_told_93 : decode cX4_told 93 = .ok (.aload_n 0, 1) := by decide +kernel
theorem dX4_told_94 : decode cX4_told 94 = .ok (.iload 4, 2) := by decide +kernel
theorem dX4_told_96 : decode cX4_told 96 = .ok (.iconst 0, 1) := by decide +kernel
theorem dX4_told_97 : decode cX4_told 97 = .ok (.invokevirtual 70, 3) := by decide +kernel
theorem dX4_told_100 : decode cX4_told 100 = .ok (.iload_n 1, 1) := by decide +kernel
theorem dX4_told_101 : decode cX4_told 101 = .ok (.if_icmp .ne 34, 3) := by decide +kernel
theorem dX4_told_104 : decode cX4_told 104 = .ok (.aload_n 0, 1) := by decide +kernel
theorem dX4_told_105 : decode cX4_told 105 = .ok (.iload 4, 2) := by decide +kernel
theorem dX4_told_107 : decode cX4_told 107 = .ok (.iconst 4, 1) := by decide +kernel
theorem dX4_told_108 : decode cX4_told 108 = .ok (.invokevirtual 70, 3) := by decide +kernel
theorem dX4_told_111 : decode cX4_told 111 = .ok (.iconst 1, 1) := by decide +kernel
theorem dX4_told_112 : decode cX4_told 112 = .ok (.if_icmp .ne 23, 3) := by decide +kernel
theorem dX4_told_115 : decode cX4_told 115 = .ok (.aload_n 0, 1) := by decide +kernel
theorem dX4_told_116 : decode cX4_told 116 = .ok (.iload 4, 2) := by decide +kernel
theorem dX4_told_118 : decode cX4_told 118 = .ok (.iconst 5, 1) := by decide +kernel
theorem dX4_told_119 : decode cX4_told 119 = .ok (.invokevirtual 70, 3) := by decide +kernel
theorem dX4_told_122 : decode cX4_told 122 = .ok (.ifCond .ne 13, 3) := by decide +kernel
theorem dX4_told_125 : decode cX4_told 125 = .ok (.iload_n 3, 1) := by decide +kernel
theorem dX4_told_126 : decode cX4_told 126 = .ok (.aload_n 0, 1) := by decide +kernel
theorem dX4_told_127 : decode cX4_told 127 = .ok (.iload 4, 2) := by decide +kernel
theorem dX4_told_129 : decode cX4_told 129 = .ok (.iconst 1, 1) := by decide +kernel
theorem dX4_told_130 : decode cX4_told 130 = .ok (.invokevirtual 70, 3) := by decide +kernel
theorem dX4_told_133 : decode cX4_told 133 = .ok (.iadd, 1) := by decide +kernel
theorem dX4_told_134 : decode cX4_told 134 = .ok (.istore_n 3, 1) := by decide +kernel
theorem dX4_told_135 : decode cX4_told 135 = .ok (.iinc 4 1, 3) := by decide +kernel
theorem dX4_told_138 : decode cX4_told 138 = .ok (.goto (-54), 3) := by decide +kernel
theorem dX4_told_141 : decode cX4_told 141 = .ok (.iload_n 3, 1) := by decide +kernel
theorem dX4_told_142 : decode cX4_told 142 = .ok (.ireturn, 1) := by decide +kernel
theorem dX4_told_143 : decode cX4_told 143 = .ok (.iconst (-1), 1) := by decide +kernel
theorem dX4_told_144 : decode cX4_told 144 = .ok (.ireturn, 1) := by decide +kernel
theorem dX4_lateBy_0 : decode cX4_lateBy 0 = .ok (.aload_n 0, 1) := by decide +kernel
theorem dX4_lateBy_1 : decode cX4_lateBy 1 = .ok (.iload_n 1, 1) := by decide +kernel
theorem dX4_lateBy_2 : decode cX4_lateBy 2 = .ok (.iconst 0, 1) := by decide +kernel
theorem dX4_lateBy_3 : decode cX4_lateBy 3 = .ok (.invokevirtual 70, 3) := by decide +kernel
theorem dX4_lateBy_6 : decode cX4_lateBy 6 = .ok (.istore 4, 2) := by decide +kernel
theorem dX4_lateBy_8 : decode cX4_lateBy 8 = .ok (.aload_n 0, 1) := by decide +kernel
theorem dX4_lateBy_9 : decode cX4_lateBy 9 = .ok (.iload_n 2, 1) := by decide +kernel
theorem dX4_lateBy_10 : decode cX4_lateBy 10 = .ok (.invokevirtual 66, 3) := by decide +kernel
theorem dX4_lateBy_13 : decode cX4_lateBy 13 = .ok (.ifCond .eq 52, 3) := by decide +kernel
theorem dX4_lateBy_16 : decode cX4_lateBy 16 = .ok (.iload_n 2, 1) := by decide +kernel
theorem dX4_lateBy_17 : decode cX4_lateBy 17 = .ok (.iload 4, 2) := by decide +kernel
theorem dX4_lateBy_19 : decode cX4_lateBy 19 = .ok (.if_icmp .eq 46, 3) := by decide +kernel
theorem dX4_lateBy_22 : decode cX4_lateBy 22 = .ok (.aload_n 0, 1) := by decide +kernel
theorem dX4_lateBy_23 : decode cX4_lateBy 23 = .ok (.iload_n 2, 1) := by decide +kernel
theorem dX4_lateBy_24 : decode cX4_lateBy 24 = .ok (.bipush 6, 2) := by decide +kernel
theorem dX4_lateBy_26 : decode cX4_lateBy 26 = .ok (.invokevirtual 74, 3) := by decide +kernel
theorem dX4_lateBy_29 : decode cX4_lateBy 29 = .ok (.iconst 1, 1) := by decide +kernel
theorem dX4_lateBy_30 : decode cX4_lateBy 30 = .ok (.if_icmp .eq 35, 3) := by decide +kernel
theorem dX4_lateBy_33 : decode cX4_lateBy 33 = .ok (.aload_n 0, 1) := by decide +kernel
theorem dX4_lateBy_34 : decode cX4_lateBy 34 = .ok (.iload_n 2, 1) := by decide +kernel
theorem dX4_lateBy_35 : decode cX4_lateBy 35 = .ok (.iconst 0, 1) := by decide +kernel
theorem dX4_lateBy_36 : decode cX4_lateBy 36 = .ok (.invokevirtual 74, 3) := by decide +kernel
theorem dX4_lateBy_39 : decode cX4_lateBy 39 = .ok (.aload_n 0, 1) := by decide +kernel
theorem dX4_lateBy_40 : decode cX4_lateBy 40 = .ok (.iload 4, 2) := by decide +kernel
theorem dX4_lateBy_42 : decode cX4_lateBy 42 = .ok (.iconst 0, 1) := by decide +kernel
theorem dX4_lateBy_43 : decode cX4_lateBy 43 = .ok (.invokevirtual 74, 3) := by decide +kernel
theorem dX4_lateBy_46 : decode cX4_lateBy 46 = .ok (.if_icmp .ne 19, 3) := by decide +kernel
theorem dX4_lateBy_49 : decode cX4_lateBy 49 = .ok (.aload_n 0, 1) := by decide +kernel
theorem dX4_lateBy_50 : decode cX4_lateBy 50 = .ok (.iload_n 2, 1) := by decide +kernel
theorem dX4_lateBy_51 : decode cX4_lateBy 51 = .ok (.iconst 2, 1) := by decide +kernel
theorem dX4_lateBy_52 : decode cX4_lateBy 52 = .ok (.invokevirtual 74, 3) := by decide +kernel
theorem dX4_lateBy_55 : decode cX4_lateBy 55 = .ok (.aload_n 0, 1) := by decide +kernel
theorem dX4_lateBy_56 : decode cX4_lateBy 56 = .ok (.iload 4, 2) := by decide +kernel
theorem dX4_lateBy_58 : decode cX4_lateBy 58 = .ok (.iconst 2, 1) := by decide +kernel
theorem dX4_lateBy_59 : decode cX4_lateBy 59 = .ok (.invokevirtual 74, 3) := by decide +kernel
theorem dX4_lateBy_62 : decode cX4_lateBy 62 = .ok (.if_icmp .ge 5, 3) := by decide +kernel
theorem dX4_lateBy_65 : decode cX4_lateBy 65 = .ok (.iconst (-1), 1) := by decide +kernel
theorem dX4_lateBy_66 : decode cX4_lateBy 66 = .ok (.ireturn, 1) := by decide +kernel
theorem dX4_lateBy_67 : decode cX4_lateBy 67 = .ok (.iload_n 2, 1) := by decide +kernel
theorem dX4_lateBy_68 : decode cX4_lateBy 68 = .ok (.istore 5, 2) := by decide +kernel
theorem dX4_lateBy_70 : decode cX4_lateBy 70 = .ok (.iload_n 3, 1) := by decide +kernel
theorem dX4_lateBy_71 : decode cX4_lateBy 71 = .ok (.iconst (-1), 1) := by decide +kernel
theorem dX4_lateBy_72 : decode cX4_lateBy 72 = .ok (.if_icmp .eq 64, 3) := by decide +kernel
theorem dX4_lateBy_75 : decode cX4_lateBy 75 = .ok (.aload_n 0, 1) := by decide +kernel
theorem dX4_lateBy_76 : decode cX4_lateBy 76 = .ok (.iload_n 3, 1) := by decide +kernel
theorem dX4_lateBy_77 : decode cX4_lateBy 77 = .ok (.invokevirtual 66, 3) := by decide +kernel
theorem dX4_lateBy_80 : decode cX4_lateBy 80 = .ok (.ifCond .eq 51, 3) := by decide +kernel
theorem dX4_lateBy_83 : decode cX4_lateBy 83 = .ok (.aload_n 0, 1) := by decide +kernel
theorem dX4_lateBy_84 : decode cX4_lateBy 84 = .ok (.iload_n 3, 1) := by decide +kernel
theorem dX4_lateBy_85 : decode cX4_lateBy 85 = .ok (.bipush 6, 2) := by decide +kernel
theorem dX4_lateBy_87 : decode cX4_lateBy 87 = .ok (.invokevirtual 74, 3) := by decide +kernel
theorem dX4_lateBy_90 : decode cX4_lateBy 90 = .ok (.iconst 1, 1) := by decide +kernel
theorem dX4_lateBy_91 : decode cX4_lateBy 91 = .ok (.if_icmp .eq 40, 3) := by decide +kernel
theorem dX4_lateBy_94 : decode cX4_lateBy 94 = .ok (.aload_n 0, 1) := by decide +kernel
theorem dX4_lateBy_95 : decode cX4_lateBy 95 = .ok (.iload_n 3, 1) := by decide +kernel
theorem dX4_lateBy_96 : decode cX4_lateBy 96 = .ok (.iconst 0, 1) := by decide +kernel
theorem dX4_lateBy_97 : decode cX4_lateBy 97 = .ok (.invokevirtual 74, 3) := by decide +kernel
theorem dX4_lateBy_100 : decode cX4_lateBy 100 = .ok (.aload_n 0, 1) := by decide +kernel
theorem dX4_lateBy_101 : decode cX4_lateBy 101 = .ok (.iload_n 2, 1) := by decide +kernel
theorem dX4_lateBy_102 : decode cX4_lateBy 102 = .ok (.iconst 1, 1) := by decide +kernel
theorem dX4_lateBy_103 : decode cX4_lateBy 103 = .ok (.invokevirtual 74, 3) := by decide +kernel
theorem dX4_lateBy_106 : decode cX4_lateBy 106 = .ok (.if_icmp .ne 25, 3) := by decide +kernel
theorem dX4_lateBy_109 : decode cX4_lateBy 109 = .ok (.aload_n 0, 1) := by decide +kernel
theorem dX4_lateBy_110 : decode cX4_lateBy 110 = .ok (.iload_n 3, 1) := by decide +kernel
theorem dX4_lateBy_111 : decode cX4_lateBy 111 = .ok (.iconst 2, 1) := by decide +kernel
theorem dX4_lateBy_112 : decode cX4_lateBy 112 = .ok (.invokevirtual 74, 3) := by decide +kernel
theorem dX4_lateBy_115 : decode cX4_lateBy 115 = .ok (.aload_n 0, 1) := by decide +kernel
theorem dX4_lateBy_116 : decode cX4_lateBy 116 = .ok (.iload_n 2, 1) := by decide +kernel
theorem dX4_lateBy_117 : decode cX4_lateBy 117 = .ok (.iconst 3, 1) := by decide +kernel
theorem dX4_lateBy_118 : decode cX4_lateBy 118 = .ok (.invokevirtual 74, 3) := by decide +kernel
theorem dX4_lateBy_121 : decode cX4_lateBy 121 = .ok (.aload_n 0, 1) := by decide +kernel
theorem dX4_lateBy_122 : decode cX4_lateBy 122 = .ok (.getfield 16, 3) := by decide +kernel
theorem dX4_lateBy_125 : decode cX4_lateBy 125 = .ok (.iconst 0, 1) := by decide +kernel
theorem dX4_lateBy_126 : decode cX4_lateBy 126 = .ok (.iaload, 1) := by decide +kernel
theorem dX4_lateBy_127 : decode cX4_lateBy 127 = .ok (.iadd, 1) := by decide +kernel
theorem dX4_lateBy_128 : decode cX4_lateBy 128 = .ok (.if_icmp .ge 5, 3) := by decide +kernel
theorem dX4_lateBy_131 : decode cX4_lateBy 131 = .ok (.iconst (-1), 1) := by decide +kernel
theorem dX4_lateBy_132 : decode cX4_lateBy 132 = .ok (.ireturn, 1) := by decide +kernel
theorem dX4_lateBy_133 : decode cX4_lateBy 133 = .ok (.iload_n 3, 1) := by decide +kernel
theorem dX4_lateBy_134 : decode cX4_lateBy 134 = .ok (.istore 5, 2) := by decide +kernel
theorem dX4_lateBy_136 : decode cX4_lateBy 136 = .ok (.aload_n 0, 1) := by decide +kernel
theorem dX4_lateBy_137 : decode cX4_lateBy 137 = .ok (.iload 5, 2) := by decide +kernel
theorem dX4_lateBy_139 : decode cX4_lateBy 139 = .ok (.iconst 1, 1) := by decide +kernel
theorem dX4_lateBy_140 : decode cX4_lateBy 140 = .ok (.invokevirtual 74, 3) := by decide +kernel
theorem dX4_lateBy_143 : decode cX4_lateBy 143 = .ok (.aload_n 0, 1) := by decide +kernel
theorem dX4_lateBy_144 : decode cX4_lateBy 144 = .ok (.iload 4, 2) := by decide +kernel
theorem dX4_lateBy_146 : decode cX4_lateBy 146 = .ok (.iconst 1, 1) := by decide +kernel
theorem dX4_lateBy_147 : decode cX4_lateBy 147 = .ok (.invokevirtual 74, 3) := by decide +kernel
theorem dX4_lateBy_150 : decode cX4_lateBy 150 = .ok (.if_icmp .eq 5, 3) := by decide +kernel
theorem dX4_lateBy_153 : decode cX4_lateBy 153 = .ok (.iconst (-1), 1) := by decide +kernel
theorem dX4_lateBy_154 : decode cX4_lateBy 154 = .ok (.ireturn, 1) := by decide +kernel
theorem dX4_lateBy_155 : decode cX4_lateBy 155 = .ok (.iconst 0, 1) := by decide +kernel
theorem dX4_lateBy_156 : decode cX4_lateBy 156 = .ok (.aload_n 0, 1) := by decide +kernel
theorem dX4_lateBy_157 : decode cX4_lateBy 157 = .ok (.iload 5, 2) := by decide +kernel
theorem dX4_lateBy_159 : decode cX4_lateBy 159 = .ok (.iconst 3, 1) := by decide +kernel
theorem dX4_lateBy_160 : decode cX4_lateBy 160 = .ok (.invokevirtual 74, 3) := by decide +kernel
theorem dX4_lateBy_163 : decode cX4_lateBy 163 = .ok (.aload_n 0, 1) := by decide +kernel
theorem dX4_lateBy_164 : decode cX4_lateBy 164 = .ok (.iload 4, 2) := by decide +kernel
theorem dX4_lateBy_166 : decode cX4_lateBy 166 = .ok (.iconst 3, 1) := by decide +kernel
theorem dX4_lateBy_167 : decode cX4_lateBy 167 = .ok (.invokevirtual 74, 3) := by decide +kernel
theorem dX4_lateBy_170 : decode cX4_lateBy 170 = .ok (.isub, 1) := by decide +kernel
theorem dX4_lateBy_171 : decode cX4_lateBy 171 = .ok (.invokestatic 81, 3) := by decide +kernel
theorem dX4_lateBy_174 : decode cX4_lateBy 174 = .ok (.ireturn, 1) := by decide +kernel
theorem dX4_lateOf_0 : decode cX4_lateOf 0 = .ok (.aload_n 0, 1) := by decide +kernel
theorem dX4_lateOf_1 : decode cX4_lateOf 1 = .ok (.iload_n 1, 1) := by decide +kernel
theorem dX4_lateOf_2 : decode cX4_lateOf 2 = .ok (.bipush 7, 2) := by decide +kernel
theorem dX4_lateOf_4 : decode cX4_lateOf 4 = .ok (.invokevirtual 70, 3) := by decide +kernel
theorem dX4_lateOf_7 : decode cX4_lateOf 7 = .ok (.iconst (-1), 1) := by decide +kernel
theorem dX4_lateOf_8 : decode cX4_lateOf 8 = .ok (.if_icmp .ne 5, 3) := by decide +kernel
theorem dX4_lateOf_11 : decode cX4_lateOf 11 = .ok (.iconst (-1), 1) := by decide +kernel
theorem dX4_lateOf_12 : decode cX4_lateOf 12 = .ok (.ireturn, 1) := by decide +kernel
theorem dX4_lateOf_13 : decode cX4_lateOf 13 = .ok (.aload_n 0, 1) := by decide +kernel
theorem dX4_lateOf_14 : decode cX4_lateOf 14 = .ok (.iload_n 1, 1) := by decide +kernel
theorem dX4_lateOf_15 : decode cX4_lateOf 15 = .ok (.bipush 8, 2) := by decide +kernel
theorem dX4_lateOf_17 : decode cX4_lateOf 17 = .ok (.invokevirtual 70, 3) := by decide +kernel
theorem dX4_lateOf_20 : decode cX4_lateOf 20 = .ok (.iconst (-1), 1) := by decide +kernel
theorem dX4_lateOf_21 : decode cX4_lateOf 21 = .ok (.if_icmp .ne 13, 3) := by decide +kernel
theorem dX4_lateOf_24 : decode cX4_lateOf 24 = .ok (.aload_n 0, 1) := by decide +kernel
theorem dX4_lateOf_25 : decode cX4_lateOf 25 = .ok (.iload_n 1, 1) := by decide +kernel
theorem dX4_lateOf_26 : decode cX4_lateOf 26 = .ok (.bipush 7, 2) := by decide +kernel
theorem dX4_lateOf_28 : decode cX4_lateOf 28 = .ok (.invokevirtual 70, 3) := by decide +kernel
theorem dX4_lateOf_31 : decode cX4_lateOf 31 = .ok (.goto 10, 3) := by decide +kernel
theorem dX4_lateOf_34 : decode cX4_lateOf 34 = .ok (.aload_n 0, 1) := by decide +kernel
theorem dX4_lateOf_35 : decode cX4_lateOf 35 = .ok (.iload_n 1, 1) := by decide +kernel
theorem dX4_lateOf_36 : decode cX4_lateOf 36 = .ok (.bipush 8, 2) := by decide +kernel
theorem dX4_lateOf_38 : decode cX4_lateOf 38 = .ok (.invokevirtual 70, 3) := by decide +kernel
theorem dX4_lateOf_41 : decode cX4_lateOf 41 = .ok (.istore_n 2, 1) := by decide +kernel
theorem dX4_lateOf_42 : decode cX4_lateOf 42 = .ok (.iconst 0, 1) := by decide +kernel
theorem dX4_lateOf_43 : decode cX4_lateOf 43 = .ok (.aload_n 0, 1) := by decide +kernel
theorem dX4_lateOf_44 : decode cX4_lateOf 44 = .ok (.iload_n 2, 1) := by decide +kernel
theorem dX4_lateOf_45 : decode cX4_lateOf 45 = .ok (.iconst 3, 1) := by decide +kernel
theorem dX4_lateOf_46 : decode cX4_lateOf 46 = .ok (.invokevirtual 74, 3) := by decide +kernel
theorem dX4_lateOf_49 : decode cX4_lateOf 49 = .ok (.aload_n 0, 1) := by decide +kernel
theorem dX4_lateOf_50 : decode cX4_lateOf 50 = .ok (.aload_n 0, 1) := by decide +kernel
theorem dX4_lateOf_51 : decode cX4_lateOf 51 = .ok (.iload_n 1, 1) := by decide +kernel
theorem dX4_lateOf_52 : decode cX4_lateOf 52 = .ok (.iconst 0, 1) := by decide +kernel
theorem dX4_lateOf_53 : decode cX4_lateOf 53 = .ok (.invokevirtual 70, 3) := by decide +kernel
theorem dX4_lateOf_56 : decode cX4_lateOf 56 = .ok (.iconst 3, 1) := by decide +kernel
theorem dX4_lateOf_57 : decode cX4_lateOf 57 = .ok (.invokevirtual 74, 3) := by decide +kernel
theorem dX4_lateOf_60 : decode cX4_lateOf 60 = .ok (.isub, 1) := by decide +kernel
theorem dX4_lateOf_61 : decode cX4_lateOf 61 = .ok (.invokestatic 81, 3) := by decide +kernel
theorem dX4_lateOf_64 : decode cX4_lateOf 64 = .ok (.ireturn, 1) := by decide +kernel
theorem dX4_claim_0 : decode cX4_claim 0 = .ok (.aload_n 0, 1) := by decide +kernel
theorem dX4_claim_1 : decode cX4_claim 1 = .ok (.iload_n 1, 1) := by decide +kernel
theorem dX4_claim_2 : decode cX4_claim 2 = .ok (.iconst 5, 1) := by decide +kernel
theorem dX4_claim_3 : decode cX4_claim 3 = .ok (.invokevirtual 70, 3) := by decide +kernel
theorem dX4_claim_6 : decode cX4_claim 6 = .ok (.ifCond .ne 5, 3) := by decide +kernel
theorem dX4_claim_9 : decode cX4_claim 9 = .ok (.iconst 0, 1) := by decide +kernel
theorem dX4_claim_10 : decode cX4_claim 10 = .ok (.ireturn, 1) := by decide +kernel
theorem dX4_claim_11 : decode cX4_claim 11 = .ok (.aload_n 0, 1) := by decide +kernel
theorem dX4_claim_12 : decode cX4_claim 12 = .ok (.iload_n 1, 1) := by decide +kernel
theorem dX4_claim_13 : decode cX4_claim 13 = .ok (.iconst 5, 1) := by decide +kernel
theorem dX4_claim_14 : decode cX4_claim 14 = .ok (.invokevirtual 70, 3) := by decide +kernel
theorem dX4_claim_17 : decode cX4_claim 17 = .ok (.iconst 1, 1) := by decide +kernel
theorem dX4_claim_18 : decode cX4_claim 18 = .ok (.if_icmp .ne 18, 3) := by decide +kernel
theorem dX4_claim_21 : decode cX4_claim 21 = .ok (.aload_n 0, 1) := by decide +kernel
theorem dX4_claim_22 : decode cX4_claim 22 = .ok (.iload_n 1, 1) := by decide +kernel
theorem dX4_claim_23 : decode cX4_claim 23 = .ok (.bipush 6, 2) := by decide +kernel
theorem dX4_claim_25 : decode cX4_claim 25 = .ok (.invokevirtual 70, 3) := by decide +kernel
theorem dX4_claim_28 : decode cX4_claim 28 = .ok (.aload_n 0, 1) := by decide +kernel
theorem dX4_claim_29 : decode cX4_claim 29 = .ok (.iload_n 1, 1) := by decide +kernel
theorem dX4_claim_30 : decode cX4_claim 30 = .ok (.iconst 1, 1) := by decide +kernel
theorem dX4_claim_31 : decode cX4_claim 31 = .ok (.invokevirtual 70, 3) := by decide +kernel
theorem dX4_claim_34 : decode cX4_claim 34 = .ok (.imul, 1) := by decide +kernel
theorem dX4_claim_35 : decode cX4_claim 35 = .ok (.ireturn, 1) := by decide +kernel
theorem dX4_claim_36 : decode cX4_claim 36 = .ok (.aload_n 0, 1) := by decide +kernel
theorem dX4_claim_37 : decode cX4_claim 37 = .ok (.aload_n 0, 1) := by decide +kernel
theorem dX4_claim_38 : decode cX4_claim 38 = .ok (.iload_n 1, 1) := by decide +kernel
theorem dX4_claim_39 : decode cX4_claim 39 = .ok (.iconst 0, 1) := by decide +kernel
theorem dX4_claim_40 : decode cX4_claim 40 = .ok (.invokevirtual 70, 3) := by decide +kernel
theorem dX4_claim_43 : decode cX4_claim 43 = .ok (.iconst 5, 1) := by decide +kernel
theorem dX4_claim_44 : decode cX4_claim 44 = .ok (.invokevirtual 74, 3) := by decide +kernel
theorem dX4_claim_47 : decode cX4_claim 47 = .ok (.istore_n 2, 1) := by decide +kernel
theorem dX4_claim_48 : decode cX4_claim 48 = .ok (.iload_n 2, 1) := by decide +kernel
theorem dX4_claim_49 : decode cX4_claim 49 = .ok (.sipush 1500, 3) := by decide +kernel
theorem dX4_claim_52 : decode cX4_claim 52 = .ok (.if_icmp .gt 12, 3) := by decide +kernel
theorem dX4_claim_55 : decode cX4_claim 55 = .ok (.aload_n 0, 1) := by decide +kernel
theorem dX4_claim_56 : decode cX4_claim 56 = .ok (.getfield 16, 3) := by decide +kernel
theorem dX4_claim_59 : decode cX4_claim 59 = .ok (.iconst 1, 1) := by decide +kernel
theorem dX4_claim_60 : decode cX4_claim 60 = .ok (.iaload, 1) := by decide +kernel
theorem dX4_claim_61 : decode cX4_claim 61 = .ok (.goto 25, 3) := by decide +kernel
theorem dX4_claim_64 : decode cX4_claim 64 = .ok (.iload_n 2, 1) := by decide +kernel
theorem dX4_claim_65 : decode cX4_claim 65 = .ok (.sipush 3500, 3) := by decide +kernel
theorem dX4_claim_68 : decode cX4_claim 68 = .ok (.if_icmp .gt 12, 3) := by decide +kernel
theorem dX4_claim_71 : decode cX4_claim 71 = .ok (.aload_n 0, 1) := by decide +kernel
theorem dX4_claim_72 : decode cX4_claim 72 = .ok (.getfield 16, 3) := by decide +kernel
theorem dX4_claim_75 : decode cX4_claim 75 = .ok (.iconst 2, 1) := by decide +kernel
theorem dX4_claim_76 : decode cX4_claim 76 = .ok (.iaload, 1) := by decide +kernel
theorem dX4_claim_77 : decode cX4_claim 77 = .ok (.goto 9, 3) := by decide +kernel
theorem dX4_claim_80 : decode cX4_claim 80 = .ok (.aload_n 0, 1) := by decide +kernel
theorem dX4_claim_81 : decode cX4_claim 81 = .ok (.getfield 16, 3) := by decide +kernel
theorem dX4_claim_84 : decode cX4_claim 84 = .ok (.iconst 3, 1) := by decide +kernel
theorem dX4_claim_85 : decode cX4_claim 85 = .ok (.iaload, 1) := by decide +kernel
theorem dX4_claim_86 : decode cX4_claim 86 = .ok (.istore_n 3, 1) := by decide +kernel
theorem dX4_claim_87 : decode cX4_claim 87 = .ok (.aload_n 0, 1) := by decide +kernel
theorem dX4_claim_88 : decode cX4_claim 88 = .ok (.iload_n 1, 1) := by decide +kernel
theorem dX4_claim_89 : decode cX4_claim 89 = .ok (.invokevirtual 89, 3) := by decide +kernel
theorem dX4_claim_92 : decode cX4_claim 92 = .ok (.istore 4, 2) := by decide +kernel
theorem dX4_claim_94 : decode cX4_claim 94 = .ok (.iload 4, 2) := by decide +kernel
theorem dX4_claim_96 : decode cX4_claim 96 = .ok (.iconst (-1), 1) := by decide +kernel
theorem dX4_claim_97 : decode cX4_claim 97 = .ok (.if_icmp .eq 15, 3) := by decide +kernel
theorem dX4_claim_100 : decode cX4_claim 100 = .ok (.iload 4, 2) := by decide +kernel
theorem dX4_claim_102 : decode cX4_claim 102 = .ok (.bipush 120, 2) := by decide +kernel
theorem dX4_claim_104 : decode cX4_claim 104 = .ok (.if_icmp .ge 8, 3) := by decide +kernel
theorem dX4_claim_107 : decode cX4_claim 107 = .ok (.iconst 0, 1) := by decide +kernel
theorem dX4_claim_108 : decode cX4_claim 108 = .ok (.istore_n 3, 1) := by decide +kernel
theorem dX4_claim_109 : decode cX4_claim 109 = .ok (.goto 21, 3) := by decide +kernel
theorem dX4_claim_112 : decode cX4_claim 112 = .ok (.iload 4, 2) := by decide +kernel
theorem dX4_claim_114 : decode cX4_claim 114 = .ok (.iconst (-1), 1) := by decide +kernel
theorem dX4_claim_115 : decode cX4_claim 115 = .ok (.if_icmp .eq 15, 3) := by decide +kernel
theorem dX4_claim_118 : decode cX4_claim 118 = .ok (.iload 4, 2) := by decide +kernel
theorem dX4_claim_120 : decode cX4_claim 120 = .ok (.sipush 240, 3) := by decide +kernel
theorem dX4_claim_123 : decode cX4_claim 123 = .ok (.if_icmp .ge 7, 3) := by decide +kernel
theorem dX4_claim_126 : decode cX4_claim 126 = .ok (.iload_n 3, 1) := by decide +kernel
theorem dX4_claim_127 : decode cX4_claim 127 = .ok (.iconst 2, 1) := by decide +kernel
theorem dX4_claim_128 : decode cX4_claim 128 = .ok (.idiv, 1) := by decide +kernel
theorem dX4_claim_129 : decode cX4_claim 129 = .ok (.istore_n 3, 1) := by decide +kernel
theorem dX4_claim_130 : decode cX4_claim 130 = .ok (.iload_n 3, 1) := by decide +kernel
theorem dX4_claim_131 : decode cX4_claim 131 = .ok (.aload_n 0, 1) := by decide +kernel
theorem dX4_claim_132 : decode cX4_claim 132 = .ok (.iload_n 1, 1) := by decide +kernel
theorem dX4_claim_133 : decode cX4_claim 133 = .ok (.iconst 1, 1) := by decide +kernel
theorem dX4_claim_134 : decode cX4_claim 134 = .ok (.invokevirtual 70, 3) := by decide +kernel
theorem dX4_claim_137 : decode cX4_claim 137 = .ok (.imul, 1) := by decide +kernel
theorem dX4_claim_138 : decode cX4_claim 138 = .ok (.ireturn, 1) := by decide +kernel
theorem dX4_of_0 : decode cX4_of 0 = .ok (.aload_n 0, 1) := by decide +kernel
theorem dX4_of_1 : decode cX4_of 1 = .ok (.iconst 0, 1) := by decide +kernel
theorem dX4_of_2 : decode cX4_of 2 = .ok (.putfield 52, 3) := by decide +kernel
theorem dX4_of_5 : decode cX4_of 5 = .ok (.aload_n 0, 1) := by decide +kernel
theorem dX4_of_6 : decode cX4_of 6 = .ok (.iload_n 1, 1) := by decide +kernel
theorem dX4_of_7 : decode cX4_of 7 = .ok (.invokevirtual 92, 3) := by decide +kernel
theorem dX4_of_10 : decode cX4_of 10 = .ok (.ifCond .eq 13, 3) := by decide +kernel
theorem dX4_of_13 : decode cX4_of 13 = .ok (.iload_n 2, 1) := by decide +kernel
theorem dX4_of_14 : decode cX4_of 14 = .ok (.iconst 0, 1) := by decide +kernel
theorem dX4_of_15 : decode cX4_of 15 = .ok (.bipush 7, 2) := by decide +kernel
theorem dX4_of_17 : decode cX4_of 17 = .ok (.invokestatic 59, 3) := by decide +kernel
theorem dX4_of_20 : decode cX4_of 20 = .ok (.ifCond .ne 10, 3) := by decide +kernel
theorem dX4_of_23 : decode cX4_of 23 = .ok (.aload_n 0, 1) := by decide +kernel
theorem dX4_of_24 : decode cX4_of 24 = .ok (.iconst 1, 1) := by decide +kernel
theorem dX4_of_25 : decode cX4_of 25 = .ok (.putfield 52, 3) := by decide +kernel
theorem dX4_of_28 : decode cX4_of 28 = .ok (.iconst 0, 1) := by decide +kernel
theorem dX4_of_29 : decode cX4_of 29 = .ok (.ireturn, 1) := by decide +kernel
theorem dX4_of_30 : decode cX4_of 30 = .ok (.iload_n 2, 1) := by decide +kernel
theorem dX4_of_31 : decode cX4_of 31 = .ok (.tableswitch 92 0 6 #[41, 48, 55, 62, 70, 78, 86], 41) := by decide +kernel
theorem dX4_of_72 : decode cX4_of 72 = .ok (.aload_n 0, 1) := by decide +kernel
theorem dX4_of_73 : decode cX4_of 73 = .ok (.iload_n 1, 1) := by decide +kernel
theorem dX4_of_74 : decode cX4_of 74 = .ok (.iconst 5, 1) := by decide +kernel
theorem dX4_of_75 : decode cX4_of 75 = .ok (.invokevirtual 70, 3) := by decide +kernel
theorem dX4_of_78 : decode cX4_of 78 = .ok (.ireturn, 1) := by decide +kernel
theorem dX4_of_79 : decode cX4_of 79 = .ok (.aload_n 0, 1) := by decide +kernel
theorem dX4_of_80 : decode cX4_of 80 = .ok (.iload_n 1, 1) := by decide +kernel
theorem dX4_of_81 : decode cX4_of 81 = .ok (.iconst 0, 1) := by decide +kernel
theorem dX4_of_82 : decode cX4_of 82 = .ok (.invokevirtual 70, 3) := by decide +kernel
theorem dX4_of_85 : decode cX4_of 85 = .ok (.ireturn, 1) := by decide +kernel
theorem dX4_of_86 : decode cX4_of 86 = .ok (.aload_n 0, 1) := by decide +kernel
theorem dX4_of_87 : decode cX4_of 87 = .ok (.iload_n 1, 1) := by decide +kernel
theorem dX4_of_88 : decode cX4_of 88 = .ok (.iconst 1, 1) := by decide +kernel
theorem dX4_of_89 : decode cX4_of 89 = .ok (.invokevirtual 70, 3) := by decide +kernel
theorem dX4_of_92 : decode cX4_of 92 = .ok (.ireturn, 1) := by decide +kernel
theorem dX4_of_93 : decode cX4_of 93 = .ok (.aload_n 0, 1) := by decide +kernel
theorem dX4_of_94 : decode cX4_of 94 = .ok (.iload_n 1, 1) := by decide +kernel
theorem dX4_of_95 : decode cX4_of 95 = .ok (.bipush 6, 2) := by decide +kernel
theorem dX4_of_97 : decode cX4_of 97 = .ok (.invokevirtual 70, 3) := by decide +kernel
theorem dX4_of_100 : decode cX4_of 100 = .ok (.ireturn, 1) := by decide +kernel
theorem dX4_of_101 : decode cX4_of 101 = .ok (.aload_n 0, 1) := by decide +kernel
theorem dX4_of_102 : decode cX4_of 102 = .ok (.iload_n 1, 1) := by decide +kernel
theorem dX4_of_103 : decode cX4_of 103 = .ok (.bipush 7, 2) := by decide +kernel
theorem dX4_of_105 : decode cX4_of 105 = .ok (.invokevirtual 70, 3) := by decide +kernel
theorem dX4_of_108 : decode cX4_of 108 = .ok (.ireturn, 1) := by decide +kernel
theorem dX4_of_109 : decode cX4_of 109 = .ok (.aload_n 0, 1) := by decide +kernel
theorem dX4_of_110 : decode cX4_of 110 = .ok (.iload_n 1, 1) := by decide +kernel
theorem dX4_of_111 : decode cX4_of 111 = .ok (.bipush 8, 2) := by decide +kernel
theorem dX4_of_113 : decode cX4_of 113 = .ok (.invokevirtual 70, 3) := by decide +kernel
theorem dX4_of_116 : decode cX4_of 116 = .ok (.ireturn, 1) := by decide +kernel
theorem dX4_of_117 : decode cX4_of 117 = .ok (.aload_n 0, 1) := by decide +kernel
theorem dX4_of_118 : decode cX4_of 118 = .ok (.iload_n 1, 1) := by decide +kernel
theorem dX4_of_119 : decode cX4_of 119 = .ok (.invokevirtual 89, 3) := by decide +kernel
theorem dX4_of_122 : decode cX4_of 122 = .ok (.ireturn, 1) := by decide +kernel
theorem dX4_of_123 : decode cX4_of 123 = .ok (.aload_n 0, 1) := by decide +kernel
theorem dX4_of_124 : decode cX4_of 124 = .ok (.iload_n 1, 1) := by decide +kernel
theorem dX4_of_125 : decode cX4_of 125 = .ok (.invokevirtual 95, 3) := by decide +kernel
theorem dX4_of_128 : decode cX4_of 128 = .ok (.ireturn, 1) := by decide +kernel
theorem dX4_count_0 : decode cX4_count 0 = .ok (.aload_n 0, 1) := by decide +kernel
theorem dX4_count_1 : decode cX4_count 1 = .ok (.iconst 0, 1) := by decide +kernel
theorem dX4_count_2 : decode cX4_count 2 = .ok (.putfield 52, 3) := by decide +kernel
theorem dX4_count_5 : decode cX4_count 5 = .ok (.iload_n 1, 1) := by decide +kernel
theorem dX4_count_6 : decode cX4_count 6 = .ok (.ifCond .ne 8, 3) := by decide +kernel
theorem dX4_count_9 : decode cX4_count 9 = .ok (.aload_n 0, 1) := by decide +kernel
theorem dX4_count_10 : decode cX4_count 10 = .ok (.getfield 56, 3) := by decide +kernel
theorem dX4_count_13 : decode cX4_count 13 = .ok (.ireturn, 1) := by decide +kernel
theorem dX4_count_14 : decode cX4_count 14 = .ok (.iload_n 1, 1) := by decide +kernel
theorem dX4_count_15 : decode cX4_count 15 = .ok (.iconst 1, 1) := by decide +kernel
theorem dX4_count_16 : decode cX4_count 16 = .ok (.if_icmp .ne 8, 3) := by decide +kernel
theorem dX4_count_19 : decode cX4_count 19 = .ok (.aload_n 0, 1) := by decide +kernel
theorem dX4_count_20 : decode cX4_count 20 = .ok (.getfield 63, 3) := by decide +kernel
theorem dX4_count_23 : decode cX4_count 23 = .ok (.ireturn, 1) := by decide +kernel
theorem dX4_count_24 : decode cX4_count 24 = .ok (.iload_n 1, 1) := by decide +kernel
theorem dX4_count_25 : decode cX4_count 25 = .ok (.iconst 2, 1) := by decide +kernel
theorem dX4_count_26 : decode cX4_count 26 = .ok (.bipush 6, 2) := by decide +kernel
theorem dX4_count_28 : decode cX4_count 28 = .ok (.invokestatic 59, 3) := by decide +kernel
theorem dX4_count_31 : decode cX4_count 31 = .ok (.ifCond .ne 5, 3) := by decide +kernel
theorem dX4_count_34 : decode cX4_count 34 = .ok (.iconst (-1), 1) := by decide +kernel
theorem dX4_count_35 : decode cX4_count 35 = .ok (.ireturn, 1) := by decide +kernel
theorem dX4_count_36 : decode cX4_count 36 = .ok (.iconst 0, 1) := by decide +kernel
theorem dX4_count_37 : decode cX4_count 37 = .ok (.istore_n 2, 1) := by decide +kernel
theorem dX4_count_38 : decode cX4_count 38 = .ok (.iconst 0, 1) := by decide +kernel
theorem dX4_count_39 : decode cX4_count 39 = .ok (.istore_n 3, 1) := by decide +kernel
theorem dX4_count_40 : decode cX4_count 40 = .ok (.iload_n 3, 1) := by decide +kernel
theorem dX4_count_41 : decode cX4_count 41 = .ok (.aload_n 0, 1) := by decide +kernel
theorem dX4_count_42 : decode cX4_count 42 = .ok (.getfield 63, 3) := by decide +kernel
theorem dX4_count_45 : decode cX4_count 45 = .ok (.if_icmp .ge 120, 3) := by decide +kernel
theorem dX4_count_48 : decode cX4_count 48 = .ok (.aload_n 0, 1) := by decide +kernel
theorem dX4_count_49 : decode cX4_count 49 = .ok (.iload_n 3, 1) := by decide +kernel
theorem dX4_count_50 : decode cX4_count 50 = .ok (.iconst 5, 1) := by decide +kernel
theorem dX4_count_51 : decode cX4_count 51 = .ok (.invokevirtual 70, 3) := by decide +kernel
theorem dX4_count_54 : decode cX4_count 54 = .ok (.istore 4, 2) := by decide +kernel
theorem dX4_count_56 : decode cX4_count 56 = .ok (.iload_n 1, 1) := by decide +kernel
theorem dX4_count_57 : decode cX4_count 57 = .ok (.iconst 2, 1) := by decide +kernel
theorem dX4_count_58 : decode cX4_count 58 = .ok (.if_icmp .ne 23, 3) := by decide +kernel
theorem dX4_count_61 : decode cX4_count 61 = .ok (.iload 4, 2) := by decide +kernel
theorem dX4_count_63 : decode cX4_count 63 = .ok (.ifCond .ne 18, 3) := by decide +kernel
theorem dX4_count_66 : decode cX4_count 66 = .ok (.aload_n 0, 1) := by decide +kernel
theorem dX4_count_67 : decode cX4_count 67 = .ok (.aload_n 0, 1) := by decide +kernel
theorem dX4_count_68 : decode cX4_count 68 = .ok (.iload_n 3, 1) := by decide +kernel
theorem dX4_count_69 : decode cX4_count 69 = .ok (.iconst 0, 1) := by decide +kernel
theorem dX4_count_70 : decode cX4_count 70 = .ok (.invokevirtual 70, 3) := by decide +kernel
theorem dX4_count_73 : decode cX4_count 73 = .ok (.bipush 6, 2) := by decide +kernel
theorem dX4_count_75 : decode cX4_count 75 = .ok (.invokevirtual 74, 3) := by decide +kernel
theorem dX4_count_78 : decode cX4_count 78 = .ok (.ifCond .eq 46, 3) := by decide +kernel
theorem dX4_count_81 : decode cX4_count 81 = .ok (.iload_n 1, 1) := by decide +kernel
theorem dX4_count_82 : decode cX4_count 82 = .ok (.iconst 3, 1) := by decide +kernel
theorem dX4_count_83 : decode cX4_count 83 = .ok (.if_icmp .ne 9, 3) := by decide +kernel
theorem dX4_count_86 : decode cX4_count 86 = .ok (.iload 4, 2) := by decide +kernel
theorem dX4_count_88 : decode cX4_count 88 = .ok (.iconst 1, 1) := by decide +kernel
theorem dX4_count_89 : decode cX4_count 89 = .ok (.if_icmp .eq 35, 3) := by decide +kernel
theorem dX4_count_92 : decode cX4_count 92 = .ok (.iload_n 1, 1) := by decide +kernel
theorem dX4_count_93 : decode cX4_count 93 = .ok (.iconst 4, 1) := by decide +kernel
theorem dX4_count_94 : decode cX4_count 94 = .ok (.if_icmp .ne 9, 3) := by decide +kernel
theorem dX4_count_97 : decode cX4_count 97 = .ok (.iload 4, 2) := by decide +kernel
theorem dX4_count_99 : decode cX4_count 99 = .ok (.iconst 2, 1) := by decide +kernel
theorem dX4_count_100 : decode cX4_count 100 = .ok (.if_icmp .eq 24, 3) := by decide +kernel
theorem dX4_count_103 : decode cX4_count 103 = .ok (.iload_n 1, 1) := by decide +kernel
theorem dX4_count_104 : decode cX4_count 104 = .ok (.iconst 5, 1) := by decide +kernel
theorem dX4_count_105 : decode cX4_count 105 = .ok (.if_icmp .ne 23, 3) := by decide +kernel
theorem dX4_count_108 : decode cX4_count 108 = .ok (.iload 4, 2) := by decide +kernel
theorem dX4_count_110 : decode cX4_count 110 = .ok (.ifCond .le 18, 3) := by decide +kernel
theorem dX4_count_113 : decode cX4_count 113 = .ok (.aload_n 0, 1) := by decide +kernel
theorem dX4_count_114 : decode cX4_count 114 = .ok (.iload_n 3, 1) := by decide +kernel
theorem dX4_count_115 : decode cX4_count 115 = .ok (.bipush 7, 2) := by decide +kernel
theorem dX4_count_117 : decode cX4_count 117 = .ok (.invokevirtual 70, 3) := by decide +kernel
theorem dX4_count_120 : decode cX4_count 120 = .ok (.iconst (-1), 1) := by decide +kernel
theorem dX4_count_121 : decode cX4_count 121 = .ok (.if_icmp .eq 7, 3) := by decide +kernel
theorem dX4_count_124 : decode cX4_count 124 = .ok (.iconst 1, 1) := by decide +kernel
theorem dX4_count_125 : decode cX4_count 125 = .ok (.goto 4, 3) := by decide +kernel
theorem dX4_count_128 : decode cX4_count 128 = .ok (.iconst 0, 1) := by decide +kernel
theorem dX4_count_129 : decode cX4_count 129 = .ok (.istore 5, 2) := by decide +kernel
theorem dX4_count_131 : decode cX4_count 131 = .ok (.iload 5, 2) := by decide +kernel
theorem dX4_count_133 : decode cX4_count 133 = .ok (.ifCond .eq 12, 3) := by decide +kernel
theorem dX4_count_136 : decode cX4_count 136 = .ok (.iload_n 2, 1) := by decide +kernel
theorem dX4_count_137 : decode cX4_count 137 = .ok (.aload_n 0, 1) := by decide +kernel
theorem dX4_count_138 : decode cX4_count 138 = .ok (.iload_n 3, 1) := by decide +kernel
theorem dX4_count_139 : decode cX4_count 139 = .ok (.iconst 1, 1) := by decide +kernel
theorem dX4_count_140 : decode cX4_count 140 = .ok (.invokevirtual 70, 3) := by decide +kernel
theorem dX4_count_143 : decode cX4_count 143 = .ok (.iadd, 1) := by decide +kernel
theorem dX4_count_144 : decode cX4_count 144 = .ok (.istore_n 2, 1) := by decide +kernel
theorem dX4_count_145 : decode cX4_count 145 = .ok (.iload_n 1, 1) := by decide +kernel
theorem dX4_count_146 : decode cX4_count 146 = .ok (.bipush 6, 2) := by decide +kernel
theorem dX4_count_148 : decode cX4_count 148 = .ok (.if_icmp .ne 11, 3) := by decide +kernel
theorem dX4_count_151 : decode cX4_count 151 = .ok (.iload_n 2, 1) := by decide +kernel
theorem dX4_count_152 : decode cX4_count 152 = .ok (.aload_n 0, 1) := by decide +kernel
theorem dX4_count_153 : decode cX4_count 153 = .ok (.iload_n 3, 1) := by decide +kernel
theorem dX4_count_154 : decode cX4_count 154 = .ok (.invokevirtual 95, 3) := by decide +kernel
theorem dX4_count_157 : decode cX4_count 157 = .ok (.iadd, 1) := by decide +kernel
theorem dX4_count_158 : decode cX4_count 158 = .ok (.istore_n 2, 1) := by decide +kernel
theorem dX4_count_159 : decode cX4_count 159 = .ok (.iinc 3 1, 3) := by decide +kernel
theorem dX4_count_162 : decode cX4_count 162 = .ok (.goto (-122), 3) := by decide +kernel
theorem dX4_count_165 : decode cX4_count 165 = .ok (.iload_n 2, 1) := by decide +kernel
theorem dX4_count_166 : decode cX4_count 166 = .ok (.ireturn, 1) := by decide +kernel
theorem dX4_mayGive_0 : decode cX4_mayGive 0 = .ok (.aload_n 0, 1) := by decide +kernel
theorem dX4_mayGive_1 : decode cX4_mayGive 1 = .ok (.iload_n 1, 1) := by decide +kernel
theorem dX4_mayGive_2 : decode cX4_mayGive 2 = .ok (.iconst 0, 1) := by decide +kernel
theorem dX4_mayGive_3 : decode cX4_mayGive 3 = .ok (.invokevirtual 70, 3) := by decide +kernel
theorem dX4_mayGive_6 : decode cX4_mayGive 6 = .ok (.iload_n 2, 1) := by decide +kernel
theorem dX4_mayGive_7 : decode cX4_mayGive 7 = .ok (.if_icmp .ne 35, 3) := by decide +kernel
theorem dX4_mayGive_10 : decode cX4_mayGive 10 = .ok (.aload_n 0, 1) := by decide +kernel
theorem dX4_mayGive_11 : decode cX4_mayGive 11 = .ok (.iload_n 1, 1) := by decide +kernel
theorem dX4_mayGive_12 : decode cX4_mayGive 12 = .ok (.iconst 5, 1) := by decide +kernel
theorem dX4_mayGive_13 : decode cX4_mayGive 13 = .ok (.invokevirtual 70, 3) := by decide +kernel
theorem dX4_mayGive_16 : decode cX4_mayGive 16 = .ok (.ifCond .ne 26, 3) := by decide +kernel
theorem dX4_mayGive_19 : decode cX4_mayGive 19 = .ok (.aload_n 0, 1) := by decide +kernel
theorem dX4_mayGive_20 : decode cX4_mayGive 20 = .ok (.iload_n 1, 1) := by decide +kernel
theorem dX4_mayGive_21 : decode cX4_mayGive 21 = .ok (.iconst 3, 1) := by decide +kernel
theorem dX4_mayGive_22 : decode cX4_mayGive 22 = .ok (.invokevirtual 70, 3) := by decide +kernel
theorem dX4_mayGive_25 : decode cX4_mayGive 25 = .ok (.iconst (-1), 1) := by decide +kernel
theorem dX4_mayGive_26 : decode cX4_mayGive 26 = .ok (.if_icmp .eq 16, 3) := by decide +kernel
theorem dX4_mayGive_29 : decode cX4_mayGive 29 = .ok (.aload_n 0, 1) := by decide +kernel
theorem dX4_mayGive_30 : decode cX4_mayGive 30 = .ok (.iload_n 1, 1) := by decide +kernel
theorem dX4_mayGive_31 : decode cX4_mayGive 31 = .ok (.iconst 4, 1) := by decide +kernel
theorem dX4_mayGive_32 : decode cX4_mayGive 32 = .ok (.invokevirtual 70, 3) := by decide +kernel
theorem dX4_mayGive_35 : decode cX4_mayGive 35 = .ok (.ifCond .ne 7, 3) := by decide +kernel
theorem dX4_mayGive_38 : decode cX4_mayGive 38 = .ok (.iconst 1, 1) := by decide +kernel
theorem dX4_mayGive_39 : decode cX4_mayGive 39 = .ok (.goto 4, 3) := by decide +kernel
theorem dX4_mayGive_42 : decode cX4_mayGive 42 = .ok (.iconst 0, 1) := by decide +kernel
theorem dX4_mayGive_43 : decode cX4_mayGive 43 = .ok (.ireturn, 1) := by decide +kernel
theorem dX4_findBest_0 : decode cX4_findBest 0 = .ok (.iconst 0, 1) := by decide +kernel
theorem dX4_findBest_1 : decode cX4_findBest 1 = .ok (.istore_n 2, 1) := by decide +kernel
theorem dX4_findBest_2 : decode cX4_findBest 2 = .ok (.iload_n 2, 1) := by decide +kernel
theorem dX4_findBest_3 : decode cX4_findBest 3 = .ok (.bipush 121, 2) := by decide +kernel
theorem dX4_findBest_5 : decode cX4_findBest 5 = .ok (.if_icmp .ge 32, 3) := by decide +kernel
theorem dX4_findBest_8 : decode cX4_findBest 8 = .ok (.aload_n 0, 1) := by decide +kernel
theorem dX4_findBest_9 : decode cX4_findBest 9 = .ok (.getfield 19, 3) := by decide +kernel
theorem dX4_findBest_12 : decode cX4_findBest 12 = .ok (.iload_n 2, 1) := by decide +kernel
theorem dX4_findBest_13 : decode cX4_findBest 13 = .ok (.iload_n 2, 1) := by decide +kernel
theorem dX4_findBest_14 : decode cX4_findBest 14 = .ok (.ifCond .ne 7, 3) := by decide +kernel
theorem dX4_findBest_17 : decode cX4_findBest 17 = .ok (.iconst 0, 1) := by decide +kernel
theorem dX4_findBest_18 : decode cX4_findBest 18 = .ok (.goto 5, 3) := by decide +kernel
theorem dX4_findBest_21 : decode cX4_findBest 21 = .ok (.ldc 98, 2) := by decide +kernel
theorem dX4_findBest_23 : decode cX4_findBest 23 = .ok (.iastore, 1) := by decide +kernel
theorem dX4_findBest_24 : decode cX4_findBest 24 = .ok (.aload_n 0, 1) := by decide +kernel
theorem dX4_findBest_25 : decode cX4_findBest 25 = .ok (.getfield 22, 3) := by decide +kernel
theorem dX4_findBest_28 : decode cX4_findBest 28 = .ok (.iload_n 2, 1) := by decide +kernel
theorem dX4_findBest_29 : decode cX4_findBest 29 = .ok (.iconst 0, 1) := by decide +kernel
theorem dX4_findBest_30 : decode cX4_findBest 30 = .ok (.iastore, 1) := by decide +kernel
theorem dX4_findBest_31 : decode cX4_findBest 31 = .ok (.iinc 2 1, 3) := by decide +kernel
theorem dX4_findBest_34 : decode cX4_findBest 34 = .ok (.goto (-32), 3) := by decide +kernel
theorem dX4_findBest_37 : decode cX4_findBest 37 = .ok (.iconst 0, 1) := by decide +kernel
theorem dX4_findBest_38 : decode cX4_findBest 38 = .ok (.istore_n 2, 1) := by decide +kernel
theorem dX4_findBest_39 : decode cX4_findBest 39 = .ok (.iload_n 2, 1) := by decide +kernel
theorem dX4_findBest_40 : decode cX4_findBest 40 = .ok (.aload_n 0, 1) := by decide +kernel
theorem dX4_findBest_41 : decode cX4_findBest 41 = .ok (.getfield 63, 3) := by decide +kernel
theorem dX4_findBest_44 : decode cX4_findBest 44 = .ok (.if_icmp .ge 153, 3) := by decide +kernel
theorem dX4_findBest_47 : decode cX4_findBest 47 = .ok (.aload_n 0, 1) := by decide +kernel
theorem dX4_findBest_48 : decode cX4_findBest 48 = .ok (.iload_n 2, 1) := by decide +kernel
theorem dX4_findBest_49 : decode cX4_findBest 49 = .ok (.iload_n 1, 1) := by decide +kernel
theorem dX4_findBest_50 : decode cX4_findBest 50 = .ok (.invokevirtual 99, 3) := by decide +kernel
theorem dX4_findBest_53 : decode cX4_findBest 53 = .ok (.ifCond .ne 6, 3) := by decide +kernel
theorem dX4_findBest_56 : decode cX4_findBest 56 = .ok (.goto 135, 3) := by decide +kernel
theorem dX4_findBest_59 : decode cX4_findBest 59 = .ok (.aload_n 0, 1) := by decide +kernel
theorem dX4_findBest_60 : decode cX4_findBest 60 = .ok (.iload_n 2, 1) := by decide +kernel
theorem dX4_findBest_61 : decode cX4_findBest 61 = .ok (.iconst 1, 1) := by decide +kernel
theorem dX4_findBest_62 : decode cX4_findBest 62 = .ok (.invokevirtual 70, 3) := by decide +kernel
theorem dX4_findBest_65 : decode cX4_findBest 65 = .ok (.istore_n 3, 1) := by decide +kernel
theorem dX4_findBest_66 : decode cX4_findBest 66 = .ok (.bipush 120, 2) := by decide +kernel
theorem dX4_findBest_68 : decode cX4_findBest 68 = .ok (.istore 4, 2) := by decide +kernel
theorem dX4_findBest_70 : decode cX4_findBest 70 = .ok (.iload 4, 2) := by decide +kernel
theorem dX4_findBest_72 : decode cX4_findBest 72 = .ok (.iload_n 3, 1) := by decide +kernel
theorem dX4_findBest_73 : decode cX4_findBest 73 = .ok (.if_icmp .lt 118, 3) := by decide +kernel
theorem dX4_findBest_76 : decode cX4_findBest 76 = .ok (.aload_n 0, 1) := by decide +kernel
theorem dX4_findBest_77 : decode cX4_findBest 77 = .ok (.getfield 19, 3) := by decide +kernel
theorem dX4_findBest_80 : decode cX4_findBest 80 = .ok (.iload 4, 2) := by decide +kernel
theorem dX4_findBest_82 : decode cX4_findBest 82 = .ok (.iload_n 3, 1) := by decide +kernel
theorem dX4_findBest_83 : decode cX4_findBest 83 = .ok (.isub, 1) := by decide +kernel
theorem dX4_findBest_84 : decode cX4_findBest 84 = .ok (.iaload, 1) := by decide +kernel
theorem dX4_findBest_85 : decode cX4_findBest 85 = .ok (.ldc 98, 2) := by decide +kernel
theorem dX4_findBest_87 : decode cX4_findBest 87 = .ok (.if_icmp .ne 6, 3) := by decide +kernel
theorem dX4_findBest_90 : decode cX4_findBest 90 = .ok (.goto 95, 3) := by decide +kernel
theorem dX4_findBest_93 : decode cX4_findBest 93 = .ok (.aload_n 0, 1) := by decide +kernel
theorem dX4_findBest_94 : decode cX4_findBest 94 = .ok (.getfield 19, 3) := by decide +kernel
theorem dX4_findBest_97 : decode cX4_findBest 97 = .ok (.iload 4, 2) := by decide +kernel
theorem dX4_findBest_99 : decode cX4_findBest 99 = .ok (.iload_n 3, 1) := by decide +kernel
theorem dX4_findBest_100 : decode cX4_findBest 100 = .ok (.isub, 1) := by decide +kernel
theorem dX4_findBest_101 : decode cX4_findBest 101 = .ok (.iaload, 1) := by decide +kernel
theorem dX4_findBest_102 : decode cX4_findBest 102 = .ok (.aload_n 0, 1) := by decide +kernel
theorem dX4_findBest_103 : decode cX4_findBest 103 = .ok (.iload_n 2, 1) := by decide +kernel
theorem dX4_findBest_104 : decode cX4_findBest 104 = .ok (.iconst 3, 1) := by decide +kernel
theorem dX4_findBest_105 : decode cX4_findBest 105 = .ok (.invokevirtual 70, 3) := by decide +kernel
theorem dX4_findBest_108 : decode cX4_findBest 108 = .ok (.iload_n 3, 1) := by decide +kernel
theorem dX4_findBest_109 : decode cX4_findBest 109 = .ok (.imul, 1) := by decide +kernel
theorem dX4_findBest_110 : decode cX4_findBest 110 = .ok (.iadd, 1) := by decide +kernel
theorem dX4_findBest_111 : decode cX4_findBest 111 = .ok (.istore 5, 2) := by decide +kernel
theorem dX4_findBest_113 : decode cX4_findBest 113 = .ok (.aload_n 0, 1) := by decide +kernel
theorem dX4_findBest_114 : decode cX4_findBest 114 = .ok (.getfield 22, 3) := by decide +kernel
theorem dX4_findBest_117 : decode cX4_findBest 117 = .ok (.iload 4, 2) := by decide +kernel
theorem dX4_findBest_119 : decode cX4_findBest 119 = .ok (.iload_n 3, 1) := by decide +kernel
theorem dX4_findBest_120 : decode cX4_findBest 120 = .ok (.isub, 1) := by decide +kernel
theorem dX4_findBest_121 : decode cX4_findBest 121 = .ok (.iaload, 1) := by decide +kernel
theorem dX4_findBest_122 : decode cX4_findBest 122 = .ok (.iconst 1, 1) := by decide +kernel
theorem dX4_findBest_123 : decode cX4_findBest 123 = .ok (.iload_n 2, 1) := by decide +kernel
theorem dX4_findBest_124 : decode cX4_findBest 124 = .ok (.ishl, 1) := by decide +kernel
theorem dX4_findBest_125 : decode cX4_findBest 125 = .ok (.ior, 1) := by decide +kernel
theorem dX4_findBest_126 : decode cX4_findBest 126 = .ok (.istore 6, 2) := by decide +kernel
theorem dX4_findBest_128 : decode cX4_findBest 128 = .ok (.iload 5, 2) := by decide +kernel
theorem dX4_findBest_130 : decode cX4_findBest 130 = .ok (.aload_n 0, 1) := by decide +kernel
theorem dX4_findBest_131 : decode cX4_findBest 131 = .ok (.getfield 19, 3) := by decide +kernel
theorem dX4_findBest_134 : decode cX4_findBest 134 = .ok (.iload 4, 2) := by decide +kernel
theorem dX4_findBest_136 : decode cX4_findBest 136 = .ok (.iaload, 1) := by decide +kernel
theorem dX4_findBest_137 : decode cX4_findBest 137 = .ok (.if_icmp .gt 48, 3) := by decide +kernel
theorem dX4_findBest_140 : decode cX4_findBest 140 = .ok (.iload 5, 2) := by decide +kernel
theorem dX4_findBest_142 : decode cX4_findBest 142 = .ok (.aload_n 0, 1) := by decide +kernel
theorem dX4_findBest_143 : decode cX4_findBest 143 = .ok (.getfield 19, 3) := by decide +kernel
theorem dX4_findBest_146 : decode cX4_findBest 146 = .ok (.iload 4, 2) := by decide +kernel
theorem dX4_findBest_148 : decode cX4_findBest 148 = .ok (.iaload, 1) := by decide +kernel
theorem dX4_findBest_149 : decode cX4_findBest 149 = .ok (.if_icmp .ne 18, 3) := by decide +kernel
theorem dX4_findBest_152 : decode cX4_findBest 152 = .ok (.iload 6, 2) := by decide +kernel
theorem dX4_findBest_154 : decode cX4_findBest 154 = .ok (.aload_n 0, 1) := by decide +kernel
theorem dX4_findBest_155 : decode cX4_findBest 155 = .ok (.getfield 22, 3) := by decide +kernel
theorem dX4_findBest_158 : decode cX4_findBest 158 = .ok (.iload 4, 2) := by decide +kernel
theorem dX4_findBest_160 : decode cX4_findBest 160 = .ok (.iaload, 1) := by decide +kernel
theorem dX4_findBest_161 : decode cX4_findBest 161 = .ok (.if_icmp .lt 6, 3) := by decide +kernel
theorem dX4_findBest_164 : decode cX4_findBest 164 = .ok (.goto 21, 3) := by decide +kernel
theorem dX4_findBest_167 : decode cX4_findBest 167 = .ok (.aload_n 0, 1) := by decide +kernel
theorem dX4_findBest_168 : decode cX4_findBest 168 = .ok (.getfield 19, 3) := by decide +kernel
theorem dX4_findBest_171 : decode cX4_findBest 171 = .ok (.iload 4, 2) := by decide +kernel
theorem dX4_findBest_173 : decode cX4_findBest 173 = .ok (.iload 5, 2) := by decide +kernel
theorem dX4_findBest_175 : decode cX4_findBest 175 = .ok (.iastore, 1) := by decide +kernel
theorem dX4_findBest_176 : decode cX4_findBest 176 = .ok (.aload_n 0, 1) := by decide +kernel
theorem dX4_findBest_177 : decode cX4_findBest 177 = .ok (.getfield 22, 3) := by decide +kernel
theorem dX4_findBest_180 : decode cX4_findBest 180 = .ok (.iload 4, 2) := by decide +kernel
theorem dX4_findBest_182 : decode cX4_findBest 182 = .ok (.iload 6, 2) := by decide +kernel
theorem dX4_findBest_184 : decode cX4_findBest 184 = .ok (.iastore, 1) := by decide +kernel
theorem dX4_findBest_185 : decode cX4_findBest 185 = .ok (.iinc 4 (-1), 3) := by decide +kernel
theorem dX4_findBest_188 : decode cX4_findBest 188 = .ok (.goto (-118), 3) := by decide +kernel
theorem dX4_findBest_191 : decode cX4_findBest 191 = .ok (.iinc 2 1, 3) := by decide +kernel
theorem dX4_findBest_194 : decode cX4_findBest 194 = .ok (.goto (-155), 3) := by decide +kernel
theorem dX4_findBest_197 : decode cX4_findBest 197 = .ok (.iconst (-1), 1) := by decide +kernel
theorem dX4_findBest_198 : decode cX4_findBest 198 = .ok (.istore_n 2, 1) := by decide +kernel
theorem dX4_findBest_199 : decode cX4_findBest 199 = .ok (.aload_n 0, 1) := by decide +kernel
theorem dX4_findBest_200 : decode cX4_findBest 200 = .ok (.iload_n 1, 1) := by decide +kernel
theorem dX4_findBest_201 : decode cX4_findBest 201 = .ok (.invokevirtual 86, 3) := by decide +kernel
theorem dX4_findBest_204 : decode cX4_findBest 204 = .ok (.istore_n 3, 1) := by decide +kernel
theorem dX4_findBest_205 : decode cX4_findBest 205 = .ok (.iload_n 3, 1) := by decide +kernel
theorem dX4_findBest_206 : decode cX4_findBest 206 = .ok (.bipush 121, 2) := by decide +kernel
theorem dX4_findBest_208 : decode cX4_findBest 208 = .ok (.if_icmp .ge 42, 3) := by decide +kernel
theorem dX4_findBest_211 : decode cX4_findBest 211 = .ok (.aload_n 0, 1) := by decide +kernel
theorem dX4_findBest_212 : decode cX4_findBest 212 = .ok (.getfield 19, 3) := by decide +kernel
theorem dX4_findBest_215 : decode cX4_findBest 215 = .ok (.iload_n 3, 1) := by decide +kernel
theorem dX4_findBest_216 : decode cX4_findBest 216 = .ok (.iaload, 1) := by decide +kernel
theorem dX4_findBest_217 : decode cX4_findBest 217 = .ok (.ldc 98, 2) := by decide +kernel
theorem dX4_findBest_219 : decode cX4_findBest 219 = .ok (.if_icmp .ge 25, 3) := by decide +kernel
theorem dX4_findBest_222 : decode cX4_findBest 222 = .ok (.iload_n 2, 1) := by decide +kernel
theorem dX4_findBest_223 : decode cX4_findBest 223 = .ok (.iconst (-1), 1) := by decide +kernel
theorem dX4_findBest_224 : decode cX4_findBest 224 = .ok (.if_icmp .eq 18, 3) := by decide +kernel
theorem dX4_findBest_227 : decode cX4_findBest 227 = .ok (.aload_n 0, 1) := by decide +kernel
theorem dX4_findBest_228 : decode cX4_findBest 228 = .ok (.getfield 19, 3) := by decide +kernel
theorem dX4_findBest_231 : decode cX4_findBest 231 = .ok (.iload_n 3, 1) := by decide +kernel
theorem dX4_findBest_232 : decode cX4_findBest 232 = .ok (.iaload, 1) := by decide +kernel
theorem dX4_findBest_233 : decode cX4_findBest 233 = .ok (.aload_n 0, 1) := by decide +kernel
theorem dX4_findBest_234 : decode cX4_findBest 234 = .ok (.getfield 19, 3) := by decide +kernel
theorem dX4_findBest_237 : decode cX4_findBest 237 = .ok (.iload_n 2, 1) := by decide +kernel
theorem dX4_findBest_238 : decode cX4_findBest 238 = .ok (.iaload, 1) := by decide +kernel
theorem dX4_findBest_239 : decode cX4_findBest 239 = .ok (.if_icmp .ge 5, 3) := by decide +kernel
theorem dX4_findBest_242 : decode cX4_findBest 242 = .ok (.iload_n 3, 1) := by decide +kernel
theorem dX4_findBest_243 : decode cX4_findBest 243 = .ok (.istore_n 2, 1) := by decide +kernel
theorem dX4_findBest_244 : decode cX4_findBest 244 = .ok (.iinc 3 1, 3) := by decide +kernel
theorem dX4_findBest_247 : decode cX4_findBest 247 = .ok (.goto (-42), 3) := by decide +kernel
theorem dX4_findBest_250 : decode cX4_findBest 250 = .ok (.iload_n 2, 1) := by decide +kernel
theorem dX4_findBest_251 : decode cX4_findBest 251 = .ok (.ireturn, 1) := by decide +kernel
theorem dX4_cost_0 : decode cX4_cost 0 = .ok (.aload_n 0, 1) := by decide +kernel
theorem dX4_cost_1 : decode cX4_cost 1 = .ok (.iconst 0, 1) := by decide +kernel
theorem dX4_cost_2 : decode cX4_cost 2 = .ok (.putfield 52, 3) := by decide +kernel
theorem dX4_cost_5 : decode cX4_cost 5 = .ok (.aload_n 0, 1) := by decide +kernel
theorem dX4_cost_6 : decode cX4_cost 6 = .ok (.iload_n 1, 1) := by decide +kernel
theorem dX4_cost_7 : decode cX4_cost 7 = .ok (.invokevirtual 66, 3) := by decide +kernel
theorem dX4_cost_10 : decode cX4_cost 10 = .ok (.ifCond .ne 5, 3) := by decide +kernel
theorem dX4_cost_13 : decode cX4_cost 13 = .ok (.iconst (-1), 1) := by decide +kernel
theorem dX4_cost_14 : decode cX4_cost 14 = .ok (.ireturn, 1) := by decide +kernel
theorem dX4_cost_15 : decode cX4_cost 15 = .ok (.aload_n 0, 1) := by decide +kernel
theorem dX4_cost_16 : decode cX4_cost 16 = .ok (.iload_n 1, 1) := by decide +kernel
theorem dX4_cost_17 : decode cX4_cost 17 = .ok (.invokevirtual 103, 3) := by decide +kernel
theorem dX4_cost_20 : decode cX4_cost 20 = .ok (.istore_n 2, 1) := by decide +kernel
theorem dX4_cost_21 : decode cX4_cost 21 = .ok (.iload_n 2, 1) := by decide +kernel
theorem dX4_cost_22 : decode cX4_cost 22 = .ok (.iconst (-1), 1) := by decide +kernel
theorem dX4_cost_23 : decode cX4_cost 23 = .ok (.if_icmp .ne 8, 3) := by decide +kernel
theorem dX4_cost_26 : decode cX4_cost 26 = .ok (.bipush (-2), 2) := by decide +kernel
theorem dX4_cost_28 : decode cX4_cost 28 = .ok (.goto 9, 3) := by decide +kernel
theorem dX4_cost_31 : decode cX4_cost 31 = .ok (.aload_n 0, 1) := by decide +kernel
theorem dX4_cost_32 : decode cX4_cost 32 = .ok (.getfield 19, 3) := by decide +kernel
theorem dX4_cost_35 : decode cX4_cost 35 = .ok (.iload_n 2, 1) := by decide +kernel
theorem dX4_cost_36 : decode cX4_cost 36 = .ok (.iaload, 1) := by decide +kernel
theorem dX4_cost_37 : decode cX4_cost 37 = .ok (.ireturn, 1) := by decide +kernel
theorem dX4_give_0 : decode cX4_give 0 = .ok (.aload_n 0, 1) := by decide +kernel
theorem dX4_give_1 : decode cX4_give 1 = .ok (.iload_n 1, 1) := by decide +kernel
theorem dX4_give_2 : decode cX4_give 2 = .ok (.iconst 5, 1) := by decide +kernel
theorem dX4_give_3 : decode cX4_give 3 = .ok (.iconst 1, 1) := by decide +kernel
theorem dX4_give_4 : decode cX4_give 4 = .ok (.invokevirtual 106, 3) := by decide +kernel
theorem dX4_give_7 : decode cX4_give 7 = .ok (.aload_n 0, 1) := by decide +kernel
theorem dX4_give_8 : decode cX4_give 8 = .ok (.iload_n 1, 1) := by decide +kernel
theorem dX4_give_9 : decode cX4_give 9 = .ok (.bipush 6, 2) := by decide +kernel
theorem dX4_give_11 : decode cX4_give 11 = .ok (.iload_n 2, 1) := by decide +kernel
theorem dX4_give_12 : decode cX4_give 12 = .ok (.invokevirtual 106, 3) := by decide +kernel
theorem dX4_give_15 : decode cX4_give 15 = .ok (.aload_n 0, 1) := by decide +kernel
theorem dX4_give_16 : decode cX4_give 16 = .ok (.iload_n 1, 1) := by decide +kernel
theorem dX4_give_17 : decode cX4_give 17 = .ok (.bipush 7, 2) := by decide +kernel
theorem dX4_give_19 : decode cX4_give 19 = .ok (.iconst (-1), 1) := by decide +kernel
theorem dX4_give_20 : decode cX4_give 20 = .ok (.invokevirtual 106, 3) := by decide +kernel
theorem dX4_give_23 : decode cX4_give 23 = .ok (.aload_n 0, 1) := by decide +kernel
theorem dX4_give_24 : decode cX4_give 24 = .ok (.iload_n 1, 1) := by decide +kernel
theorem dX4_give_25 : decode cX4_give 25 = .ok (.bipush 8, 2) := by decide +kernel
theorem dX4_give_27 : decode cX4_give 27 = .ok (.iconst (-1), 1) := by decide +kernel
theorem dX4_give_28 : decode cX4_give 28 = .ok (.invokevirtual 106, 3) := by decide +kernel
theorem dX4_give_31 : decode cX4_give 31 = .ok (.return_, 1) := by decide +kernel
theorem dX4_buy_0 : decode cX4_buy 0 = .ok (.aload_n 0, 1) := by decide +kernel
theorem dX4_buy_1 : decode cX4_buy 1 = .ok (.iconst 0, 1) := by decide +kernel
theorem dX4_buy_2 : decode cX4_buy 2 = .ok (.putfield 52, 3) := by decide +kernel
theorem dX4_buy_5 : decode cX4_buy 5 = .ok (.aload_n 0, 1) := by decide +kernel
theorem dX4_buy_6 : decode cX4_buy 6 = .ok (.iload_n 1, 1) := by decide +kernel
theorem dX4_buy_7 : decode cX4_buy 7 = .ok (.invokevirtual 66, 3) := by decide +kernel
theorem dX4_buy_10 : decode cX4_buy 10 = .ok (.ifCond .ne 5, 3) := by decide +kernel
theorem dX4_buy_13 : decode cX4_buy 13 = .ok (.iconst (-1), 1) := by decide +kernel
theorem dX4_buy_14 : decode cX4_buy 14 = .ok (.ireturn, 1) := by decide +kernel
theorem dX4_buy_15 : decode cX4_buy 15 = .ok (.aload_n 0, 1) := by decide +kernel
theorem dX4_buy_16 : decode cX4_buy 16 = .ok (.iload_n 1, 1) := by decide +kernel
theorem dX4_buy_17 : decode cX4_buy 17 = .ok (.invokevirtual 103, 3) := by decide +kernel
theorem dX4_buy_20 : decode cX4_buy 20 = .ok (.istore_n 2, 1) := by decide +kernel
theorem dX4_buy_21 : decode cX4_buy 21 = .ok (.iload_n 2, 1) := by decide +kernel
theorem dX4_buy_22 : decode cX4_buy 22 = .ok (.iconst (-1), 1) := by decide +kernel
theorem dX4_buy_23 : decode cX4_buy 23 = .ok (.if_icmp .ne 6, 3) := by decide +kernel
theorem dX4_buy_26 : decode cX4_buy 26 = .ok (.bipush (-2), 2) := by decide +kernel
theorem dX4_buy_28 : decode cX4_buy 28 = .ok (.ireturn, 1) := by decide +kernel
theorem dX4_buy_29 : decode cX4_buy 29 = .ok (.iconst 0, 1) := by decide +kernel
theorem dX4_buy_30 : decode cX4_buy 30 = .ok (.istore_n 3, 1) := by decide +kernel
theorem dX4_buy_31 : decode cX4_buy 31 = .ok (.iload_n 3, 1) := by decide +kernel
theorem dX4_buy_32 : decode cX4_buy 32 = .ok (.aload_n 0, 1) := by decide +kernel
theorem dX4_buy_33 : decode cX4_buy 33 = .ok (.getfield 63, 3) := by decide +kernel
theorem dX4_buy_36 : decode cX4_buy 36 = .ok (.if_icmp .ge 34, 3) := by decide +kernel
theorem dX4_buy_39 : decode cX4_buy 39 = .ok (.aload_n 0, 1) := by decide +kernel
theorem dX4_buy_40 : decode cX4_buy 40 = .ok (.getfield 22, 3) := by decide +kernel
theorem dX4_buy_43 : decode cX4_buy 43 = .ok (.iload_n 2, 1) := by decide +kernel
theorem dX4_buy_44 : decode cX4_buy 44 = .ok (.iaload, 1) := by decide +kernel
theorem dX4_buy_45 : decode cX4_buy 45 = .ok (.iload_n 3, 1) := by decide +kernel
theorem dX4_buy_46 : decode cX4_buy 46 = .ok (.ishr, 1) := by decide +kernel
theorem dX4_buy_47 : decode cX4_buy 47 = .ok (.iconst 1, 1) := by decide +kernel
theorem dX4_buy_48 : decode cX4_buy 48 = .ok (.iand, 1) := by decide +kernel
theorem dX4_buy_49 : decode cX4_buy 49 = .ok (.iconst 1, 1) := by decide +kernel
theorem dX4_buy_50 : decode cX4_buy 50 = .ok (.if_icmp .ne 14, 3) := by decide +kernel
theorem dX4_buy_53 : decode cX4_buy 53 = .ok (.aload_n 0, 1) := by decide +kernel
theorem dX4_buy_54 : decode cX4_buy 54 = .ok (.iload_n 3, 1) := by decide +kernel
theorem dX4_buy_55 : decode cX4_buy 55 = .ok (.aload_n 0, 1) := by decide +kernel
theorem dX4_buy_56 : decode cX4_buy 56 = .ok (.iload_n 3, 1) := by decide +kernel
theorem dX4_buy_57 : decode cX4_buy 57 = .ok (.iconst 3, 1) := by decide +kernel
theorem dX4_buy_58 : decode cX4_buy 58 = .ok (.invokevirtual 70, 3) := by decide +kernel
theorem dX4_buy_61 : decode cX4_buy 61 = .ok (.invokevirtual 110, 3) := by decide +kernel
theorem dX4_buy_64 : decode cX4_buy 64 = .ok (.iinc 3 1, 3) := by decide +kernel
theorem dX4_buy_67 : decode cX4_buy 67 = .ok (.goto (-36), 3) := by decide +kernel
theorem dX4_buy_70 : decode cX4_buy 70 = .ok (.aload_n 0, 1) := by decide +kernel
theorem dX4_buy_71 : decode cX4_buy 71 = .ok (.getfield 19, 3) := by decide +kernel
theorem dX4_buy_74 : decode cX4_buy 74 = .ok (.iload_n 2, 1) := by decide +kernel
theorem dX4_buy_75 : decode cX4_buy 75 = .ok (.iaload, 1) := by decide +kernel
theorem dX4_buy_76 : decode cX4_buy 76 = .ok (.ireturn, 1) := by decide +kernel
theorem dX4_rounds_0 : decode cX4_rounds 0 = .ok (.aload_n 0, 1) := by decide +kernel
theorem dX4_rounds_1 : decode cX4_rounds 1 = .ok (.iconst 0, 1) := by decide +kernel
theorem dX4_rounds_2 : decode cX4_rounds 2 = .ok (.putfield 52, 3) := by decide +kernel
theorem dX4_rounds_5 : decode cX4_rounds 5 = .ok (.aload_n 0, 1) := by decide +kernel
theorem dX4_rounds_6 : decode cX4_rounds 6 = .ok (.iload_n 1, 1) := by decide +kernel
theorem dX4_rounds_7 : decode cX4_rounds 7 = .ok (.invokevirtual 66, 3) := by decide +kernel
theorem dX4_rounds_10 : decode cX4_rounds 10 = .ok (.ifCond .eq 25, 3) := by decide +kernel
theorem dX4_rounds_13 : decode cX4_rounds 13 = .ok (.iload_n 2, 1) := by decide +kernel
theorem dX4_rounds_14 : decode cX4_rounds 14 = .ok (.iconst 0, 1) := by decide +kernel
theorem dX4_rounds_15 : decode cX4_rounds 15 = .ok (.sipush 999, 3) := by decide +kernel
theorem dX4_rounds_18 : decode cX4_rounds 18 = .ok (.invokestatic 59, 3) := by decide +kernel
theorem dX4_rounds_21 : decode cX4_rounds 21 = .ok (.ifCond .eq 14, 3) := by decide +kernel
theorem dX4_rounds_24 : decode cX4_rounds 24 = .ok (.iload_n 3, 1) := by decide +kernel
theorem dX4_rounds_25 : decode cX4_rounds 25 = .ok (.iconst 1, 1) := by decide +kernel
theorem dX4_rounds_26 : decode cX4_rounds 26 = .ok (.sipush 999, 3) := by decide +kernel
theorem dX4_rounds_29 : decode cX4_rounds 29 = .ok (.invokestatic 59, 3) := by decide +kernel
theorem dX4_rounds_32 : decode cX4_rounds 32 = .ok (.ifCond .ne 5, 3) := by decide +kernel
theorem dX4_rounds_35 : decode cX4_rounds 35 = .ok (.iconst (-1), 1) := by decide +kernel
theorem dX4_rounds_36 : decode cX4_rounds 36 = .ok (.ireturn, 1) := by decide +kernel
theorem dX4_rounds_37 : decode cX4_rounds 37 = .ok (.aload_n 0, 1) := by decide +kernel
theorem dX4_rounds_38 : decode cX4_rounds 38 = .ok (.iload_n 1, 1) := by decide +kernel
theorem dX4_rounds_39 : decode cX4_rounds 39 = .ok (.invokevirtual 86, 3) := by decide +kernel
theorem dX4_rounds_42 : decode cX4_rounds 42 = .ok (.ifCond .ne 5, 3) := by decide +kernel
theorem dX4_rounds_45 : decode cX4_rounds 45 = .ok (.iload_n 2, 1) := by decide +kernel
theorem dX4_rounds_46 : decode cX4_rounds 46 = .ok (.ireturn, 1) := by decide +kernel
theorem dX4_rounds_47 : decode cX4_rounds 47 = .ok (.iload_n 2, 1) := by decide +kernel
theorem dX4_rounds_48 : decode cX4_rounds 48 = .ok (.istore 4, 2) := by decide +kernel
theorem dX4_rounds_50 : decode cX4_rounds 50 = .ok (.iload 4, 2) := by decide +kernel
theorem dX4_rounds_52 : decode cX4_rounds 52 = .ok (.sipush 999, 3) := by decide +kernel
theorem dX4_rounds_55 : decode cX4_rounds 55 = .ok (.if_icmp .gt 172, 3) := by decide +kernel
theorem dX4_rounds_58 : decode cX4_rounds 58 = .ok (.iconst 0, 1) := by decide +kernel
theorem dX4_rounds_59 : decode cX4_rounds 59 = .ok (.istore 5, 2) := by decide +kernel
theorem dX4_rounds_61 : decode cX4_rounds 61 = .ok (.iconst 0, 1) := by decide +kernel
theorem dX4_rounds_62 : decode cX4_rounds 62 = .ok (.istore 6, 2) := by decide +kernel
theorem dX4_rounds_64 : decode cX4_rounds 64 = .ok (.iload 6, 2) := by decide +kernel
theorem dX4_rounds_66 : decode cX4_rounds 66 = .ok (.aload_n 0, 1) := by decide +kernel
theorem dX4_rounds_67 : decode cX4_rounds 67 = .ok (.getfield 63, 3) := by decide +kernel
theorem dX4_rounds_70 : decode cX4_rounds 70 = .ok (.if_icmp .ge 43, 3) := by decide +kernel
theorem dX4_rounds_73 : decode cX4_rounds 73 = .ok (.aload_n 0, 1) := by decide +kernel
theorem dX4_rounds_74 : decode cX4_rounds 74 = .ok (.iload 6, 2) := by decide +kernel
theorem dX4_rounds_76 : decode cX4_rounds 76 = .ok (.iload_n 1, 1) := by decide +kernel
theorem dX4_rounds_77 : decode cX4_rounds 77 = .ok (.invokevirtual 99, 3) := by decide +kernel
theorem dX4_rounds_80 : decode cX4_rounds 80 = .ok (.ifCond .eq 27, 3) := by decide +kernel
theorem dX4_rounds_83 : decode cX4_rounds 83 = .ok (.aload_n 0, 1) := by decide +kernel
theorem dX4_rounds_84 : decode cX4_rounds 84 = .ok (.iload 6, 2) := by decide +kernel
theorem dX4_rounds_86 : decode cX4_rounds 86 = .ok (.iconst 3, 1) := by decide +kernel
theorem dX4_rounds_87 : decode cX4_rounds 87 = .ok (.invokevirtual 70, 3) := by decide +kernel
theorem dX4_rounds_90 : decode cX4_rounds 90 = .ok (.iload 4, 2) := by decide +kernel
theorem dX4_rounds_92 : decode cX4_rounds 92 = .ok (.if_icmp .gt 15, 3) := by decide +kernel
theorem dX4_rounds_95 : decode cX4_rounds 95 = .ok (.iload 5, 2) := by decide +kernel
theorem dX4_rounds_97 : decode cX4_rounds 97 = .ok (.aload_n 0, 1) := by decide +kernel
theorem dX4_rounds_98 : decode cX4_rounds 98 = .ok (.iload 6, 2) := by decide +kernel
theorem dX4_rounds_100 : decode cX4_rounds 100 = .ok (.iconst 1, 1) := by decide +kernel
theorem dX4_rounds_101 : decode cX4_rounds 101 = .ok (.invokevirtual 70, 3) := by decide +kernel
theorem dX4_rounds_104 : decode cX4_rounds 104 = .ok (.iadd, 1) := by decide +kernel
theorem dX4_rounds_105 : decode cX4_rounds 105 = .ok (.istore 5, 2) := by decide +kernel
theorem dX4_rounds_107 : decode cX4_rounds 107 = .ok (.iinc 6 1, 3) := by decide +kernel
theorem dX4_rounds_110 : decode cX4_rounds 110 = .ok (.goto (-46), 3) := by decide +kernel
theorem dX4_rounds_113 : decode cX4_rounds 113 = .ok (.iload 5, 2) := by decide +kernel
theorem dX4_rounds_115 : decode cX4_rounds 115 = .ok (.aload_n 0, 1) := by decide +kernel
theorem dX4_rounds_116 : decode cX4_rounds 116 = .ok (.iload_n 1, 1) := by decide +kernel
theorem dX4_rounds_117 : decode cX4_rounds 117 = .ok (.invokevirtual 86, 3) := by decide +kernel
theorem dX4_rounds_120 : decode cX4_rounds 120 = .ok (.if_icmp .ge 6, 3) := by decide +kernel
theorem dX4_rounds_123 : decode cX4_rounds 123 = .ok (.goto 95, 3) := by decide +kernel
theorem dX4_rounds_126 : decode cX4_rounds 126 = .ok (.aload_n 0, 1) := by decide +kernel
theorem dX4_rounds_127 : decode cX4_rounds 127 = .ok (.iload_n 1, 1) := by decide +kernel
theorem dX4_rounds_128 : decode cX4_rounds 128 = .ok (.invokevirtual 86, 3) := by decide +kernel
theorem dX4_rounds_131 : decode cX4_rounds 131 = .ok (.ifCond .le 84, 3) := by decide +kernel
theorem dX4_rounds_134 : decode cX4_rounds 134 = .ok (.iconst (-1), 1) := by decide +kernel
theorem dX4_rounds_135 : decode cX4_rounds 135 = .ok (.istore 6, 2) := by decide +kernel
theorem dX4_rounds_137 : decode cX4_rounds 137 = .ok (.iconst 0, 1) := by decide +kernel
theorem dX4_rounds_138 : decode cX4_rounds 138 = .ok (.istore 7, 2) := by decide +kernel
theorem dX4_rounds_140 : decode cX4_rounds 140 = .ok (.iload 7, 2) := by decide +kernel
theorem dX4_rounds_142 : decode cX4_rounds 142 = .ok (.aload_n 0, 1) := by decide +kernel
theorem dX4_rounds_143 : decode cX4_rounds 143 = .ok (.getfield 63, 3) := by decide +kernel
theorem dX4_rounds_146 : decode cX4_rounds 146 = .ok (.if_icmp .ge 58, 3) := by decide +kernel
theorem dX4_rounds_149 : decode cX4_rounds 149 = .ok (.aload_n 0, 1) := by decide +kernel
theorem dX4_rounds_150 : decode cX4_rounds 150 = .ok (.iload 7, 2) := by decide +kernel
theorem dX4_rounds_152 : decode cX4_rounds 152 = .ok (.iload_n 1, 1) := by decide +kernel
theorem dX4_rounds_153 : decode cX4_rounds 153 = .ok (.invokevirtual 99, 3) := by decide +kernel
theorem dX4_rounds_156 : decode cX4_rounds 156 = .ok (.ifCond .eq 42, 3) := by decide +kernel
theorem dX4_rounds_159 : decode cX4_rounds 159 = .ok (.aload_n 0, 1) := by decide +kernel
theorem dX4_rounds_160 : decode cX4_rounds 160 = .ok (.iload 7, 2) := by decide +kernel
theorem dX4_rounds_162 : decode cX4_rounds 162 = .ok (.iconst 3, 1) := by decide +kernel
theorem dX4_rounds_163 : decode cX4_rounds 163 = .ok (.invokevirtual 70, 3) := by decide +kernel
theorem dX4_rounds_166 : decode cX4_rounds 166 = .ok (.iload 4, 2) := by decide +kernel
theorem dX4_rounds_168 : decode cX4_rounds 168 = .ok (.if_icmp .gt 30, 3) := by decide +kernel
theorem dX4_rounds_171 : decode cX4_rounds 171 = .ok (.iload 6, 2) := by decide +kernel
theorem dX4_rounds_173 : decode cX4_rounds 173 = .ok (.iconst (-1), 1) := by decide +kernel
theorem dX4_rounds_174 : decode cX4_rounds 174 = .ok (.if_icmp .eq 20, 3) := by decide +kernel
theorem dX4_rounds_177 : decode cX4_rounds 177 = .ok (.aload_n 0, 1) := by decide +kernel
theorem dX4_rounds_178 : decode cX4_rounds 178 = .ok (.iload 7, 2) := by decide +kernel
theorem dX4_rounds_180 : decode cX4_rounds 180 = .ok (.iconst 3, 1) := by decide +kernel
theorem dX4_rounds_181 : decode cX4_rounds 181 = .ok (.invokevirtual 70, 3) := by decide +kernel
theorem dX4_rounds_184 : decode cX4_rounds 184 = .ok (.aload_n 0, 1) := by decide +kernel
theorem dX4_rounds_185 : decode cX4_rounds 185 = .ok (.iload 6, 2) := by decide +kernel
theorem dX4_rounds_187 : decode cX4_rounds 187 = .ok (.iconst 3, 1) := by decide +kernel
theorem dX4_rounds_188 : decode cX4_rounds 188 = .ok (.invokevirtual 70, 3) := by decide +kernel
theorem dX4_rounds_191 : decode cX4_rounds 191 = .ok (.if_icmp .ge 7, 3) := by decide +kernel
theorem dX4_rounds_194 : decode cX4_rounds 194 = .ok (.iload 7, 2) := by decide +kernel
theorem dX4_rounds_196 : decode cX4_rounds 196 = .ok (.istore 6, 2) := by decide +kernel
theorem dX4_rounds_198 : decode cX4_rounds 198 = .ok (.iinc 7 1, 3) := by decide +kernel
theorem dX4_rounds_201 : decode cX4_rounds 201 = .ok (.goto (-61), 3) := by decide +kernel
theorem dX4_rounds_204 : decode cX4_rounds 204 = .ok (.aload_n 0, 1) := by decide +kernel
theorem dX4_rounds_205 : decode cX4_rounds 205 = .ok (.iload 6, 2) := by decide +kernel
theorem dX4_rounds_207 : decode cX4_rounds 207 = .ok (.iload 4, 2) := by decide +kernel
theorem dX4_rounds_209 : decode cX4_rounds 209 = .ok (.invokevirtual 110, 3) := by decide +kernel
theorem dX4_rounds_212 : decode cX4_rounds 212 = .ok (.goto (-86), 3) := by decide +kernel
theorem dX4_rounds_215 : decode cX4_rounds 215 = .ok (.iload 4, 2) := by decide +kernel
theorem dX4_rounds_217 : decode cX4_rounds 217 = .ok (.ireturn, 1) := by decide +kernel
theorem dX4_rounds_218 : decode cX4_rounds 218 = .ok (.iload 4, 2) := by decide +kernel
theorem dX4_rounds_220 : decode cX4_rounds 220 = .ok (.iload_n 3, 1) := by decide +kernel
theorem dX4_rounds_221 : decode cX4_rounds 221 = .ok (.iadd, 1) := by decide +kernel
theorem dX4_rounds_222 : decode cX4_rounds 222 = .ok (.istore 4, 2) := by decide +kernel
theorem dX4_rounds_224 : decode cX4_rounds 224 = .ok (.goto (-174), 3) := by decide +kernel
theorem dX4_rounds_227 : decode cX4_rounds 227 = .ok (.bipush (-2), 2) := by decide +kernel
theorem dX4_rounds_229 : decode cX4_rounds 229 = .ok (.ireturn, 1) := by decide +kernel
theorem dX4_leave_0 : decode cX4_leave 0 = .ok (.aload_n 0, 1) := by decide +kernel
theorem dX4_leave_1 : decode cX4_leave 1 = .ok (.iconst 0, 1) := by decide +kernel
theorem dX4_leave_2 : decode cX4_leave 2 = .ok (.putfield 52, 3) := by decide +kernel
theorem dX4_leave_5 : decode cX4_leave 5 = .ok (.aload_n 0, 1) := by decide +kernel
theorem dX4_leave_6 : decode cX4_leave 6 = .ok (.iload_n 1, 1) := by decide +kernel
theorem dX4_leave_7 : decode cX4_leave 7 = .ok (.invokevirtual 66, 3) := by decide +kernel
theorem dX4_leave_10 : decode cX4_leave 10 = .ok (.ifCond .ne 5, 3) := by decide +kernel
theorem dX4_leave_13 : decode cX4_leave 13 = .ok (.iconst (-1), 1) := by decide +kernel
theorem dX4_leave_14 : decode cX4_leave 14 = .ok (.ireturn, 1) := by decide +kernel
theorem dX4_leave_15 : decode cX4_leave 15 = .ok (.iconst 0, 1) := by decide +kernel
theorem dX4_leave_16 : decode cX4_leave 16 = .ok (.istore_n 2, 1) := by decide +kernel
theorem dX4_leave_17 : decode cX4_leave 17 = .ok (.iconst 0, 1) := by decide +kernel
theorem dX4_leave_18 : decode cX4_leave 18 = .ok (.istore_n 3, 1) := by decide +kernel
theorem dX4_leave_19 : decode cX4_leave 19 = .ok (.iload_n 3, 1) := by decide +kernel
theorem dX4_leave_20 : decode cX4_leave 20 = .ok (.aload_n 0, 1) := by decide +kernel
theorem dX4_leave_21 : decode cX4_leave 21 = .ok (.getfield 63, 3) := by decide +kernel
theorem dX4_leave_24 : decode cX4_leave 24 = .ok (.if_icmp .ge 46, 3) := by decide +kernel
theorem dX4_leave_27 : decode cX4_leave 27 = .ok (.aload_n 0, 1) := by decide +kernel
theorem dX4_leave_28 : decode cX4_leave 28 = .ok (.iload_n 3, 1) := by decide +kernel
theorem dX4_leave_29 : decode cX4_leave 29 = .ok (.iconst 0, 1) := by decide +kernel
theorem dX4_leave_30 : decode cX4_leave 30 = .ok (.invokevirtual 70, 3) := by decide +kernel
theorem dX4_leave_33 : decode cX4_leave 33 = .ok (.iload_n 1, 1) := by decide +kernel
theorem dX4_leave_34 : decode cX4_leave 34 = .ok (.if_icmp .ne 30, 3) := by decide +kernel
theorem dX4_leave_37 : decode cX4_leave 37 = .ok (.aload_n 0, 1) := by decide +kernel
theorem dX4_leave_38 : decode cX4_leave 38 = .ok (.iload_n 3, 1) := by decide +kernel
theorem dX4_leave_39 : decode cX4_leave 39 = .ok (.iconst 5, 1) := by decide +kernel
theorem dX4_leave_40 : decode cX4_leave 40 = .ok (.invokevirtual 70, 3) := by decide +kernel
theorem dX4_leave_43 : decode cX4_leave 43 = .ok (.ifCond .ne 21, 3) := by decide +kernel
theorem dX4_leave_46 : decode cX4_leave 46 = .ok (.aload_n 0, 1) := by decide +kernel
theorem dX4_leave_47 : decode cX4_leave 47 = .ok (.iload_n 3, 1) := by decide +kernel
theorem dX4_leave_48 : decode cX4_leave 48 = .ok (.iconst 4, 1) := by decide +kernel
theorem dX4_leave_49 : decode cX4_leave 49 = .ok (.invokevirtual 70, 3) := by decide +kernel
theorem dX4_leave_52 : decode cX4_leave 52 = .ok (.ifCond .ne 12, 3) := by decide +kernel
theorem dX4_leave_55 : decode cX4_leave 55 = .ok (.iload_n 2, 1) := by decide +kernel
theorem dX4_leave_56 : decode cX4_leave 56 = .ok (.aload_n 0, 1) := by decide +kernel
theorem dX4_leave_57 : decode cX4_leave 57 = .ok (.iload_n 3, 1) := by decide +kernel
theorem dX4_leave_58 : decode cX4_leave 58 = .ok (.iconst 1, 1) := by decide +kernel
theorem dX4_leave_59 : decode cX4_leave 59 = .ok (.invokevirtual 70, 3) := by decide +kernel
theorem dX4_leave_62 : decode cX4_leave 62 = .ok (.iadd, 1) := by decide +kernel
theorem dX4_leave_63 : decode cX4_leave 63 = .ok (.istore_n 2, 1) := by decide +kernel
theorem dX4_leave_64 : decode cX4_leave 64 = .ok (.iinc 3 1, 3) := by decide +kernel
theorem dX4_leave_67 : decode cX4_leave 67 = .ok (.goto (-48), 3) := by decide +kernel
theorem dX4_leave_70 : decode cX4_leave 70 = .ok (.iload_n 2, 1) := by decide +kernel
theorem dX4_leave_71 : decode cX4_leave 71 = .ok (.aload_n 0, 1) := by decide +kernel
theorem dX4_leave_72 : decode cX4_leave 72 = .ok (.iload_n 1, 1) := by decide +kernel
theorem dX4_leave_73 : decode cX4_leave 73 = .ok (.invokevirtual 86, 3) := by decide +kernel
theorem dX4_leave_76 : decode cX4_leave 76 = .ok (.if_icmp .ge 6, 3) := by decide +kernel
theorem dX4_leave_79 : decode cX4_leave 79 = .ok (.bipush (-2), 2) := by decide +kernel
theorem dX4_leave_81 : decode cX4_leave 81 = .ok (.ireturn, 1) := by decide +kernel
theorem dX4_leave_82 : decode cX4_leave 82 = .ok (.iconst 0, 1) := by decide +kernel
theorem dX4_leave_83 : decode cX4_leave 83 = .ok (.istore_n 3, 1) := by decide +kernel
theorem dX4_leave_84 : decode cX4_leave 84 = .ok (.aload_n 0, 1) := by decide +kernel
theorem dX4_leave_85 : decode cX4_leave 85 = .ok (.iload_n 1, 1) := by decide +kernel
theorem dX4_leave_86 : decode cX4_leave 86 = .ok (.invokevirtual 86, 3) := by decide +kernel
theorem dX4_leave_89 : decode cX4_leave 89 = .ok (.ifCond .le 134, 3) := by decide +kernel
theorem dX4_leave_92 : decode cX4_leave 92 = .ok (.iconst (-1), 1) := by decide +kernel
theorem dX4_leave_93 : decode cX4_leave 93 = .ok (.istore 4, 2) := by decide +kernel
theorem dX4_leave_95 : decode cX4_leave 95 = .ok (.iconst 0, 1) := by decide +kernel
theorem dX4_leave_96 : decode cX4_leave 96 = .ok (.istore 5, 2) := by decide +kernel
theorem dX4_leave_98 : decode cX4_leave 98 = .ok (.iload 5, 2) := by decide +kernel
theorem dX4_leave_100 : decode cX4_leave 100 = .ok (.aload_n 0, 1) := by decide +kernel
theorem dX4_leave_101 : decode cX4_leave 101 = .ok (.getfield 63, 3) := by decide +kernel
theorem dX4_leave_104 : decode cX4_leave 104 = .ok (.if_icmp .ge 71, 3) := by decide +kernel
theorem dX4_leave_107 : decode cX4_leave 107 = .ok (.aload_n 0, 1) := by decide +kernel
theorem dX4_leave_108 : decode cX4_leave 108 = .ok (.iload 5, 2) := by decide +kernel
theorem dX4_leave_110 : decode cX4_leave 110 = .ok (.iconst 0, 1) := by decide +kernel
theorem dX4_leave_111 : decode cX4_leave 111 = .ok (.invokevirtual 70, 3) := by decide +kernel
theorem dX4_leave_114 : decode cX4_leave 114 = .ok (.iload_n 1, 1) := by decide +kernel
theorem dX4_leave_115 : decode cX4_leave 115 = .ok (.if_icmp .ne 54, 3) := by decide +kernel
theorem dX4_leave_118 : decode cX4_leave 118 = .ok (.aload_n 0, 1) := by decide +kernel
theorem dX4_leave_119 : decode cX4_leave 119 = .ok (.iload 5, 2) := by decide +kernel
theorem dX4_leave_121 : decode cX4_leave 121 = .ok (.iconst 5, 1) := by decide +kernel
theorem dX4_leave_122 : decode cX4_leave 122 = .ok (.invokevirtual 70, 3) := by decide +kernel
theorem dX4_leave_125 : decode cX4_leave 125 = .ok (.ifCond .ne 44, 3) := by decide +kernel
theorem dX4_leave_128 : decode cX4_leave 128 = .ok (.aload_n 0, 1) := by decide +kernel
theorem dX4_leave_129 : decode cX4_leave 129 = .ok (.iload 5, 2) := by decide +kernel
theorem dX4_leave_131 : decode cX4_leave 131 = .ok (.iconst 4, 1) := by decide +kernel
theorem dX4_leave_132 : decode cX4_leave 132 = .ok (.invokevirtual 70, 3) := by decide +kernel
theorem dX4_leave_135 : decode cX4_leave 135 = .ok (.iconst 1, 1) := by decide +kernel
theorem dX4_leave_136 : decode cX4_leave 136 = .ok (.if_icmp .ne 6, 3) := by decide +kernel
theorem dX4_leave_139 : decode cX4_leave 139 = .ok (.goto 30, 3) := by decide +kernel
theorem dX4_leave_142 : decode cX4_leave 142 = .ok (.iload 4, 2) := by decide +kernel
theorem dX4_leave_144 : decode cX4_leave 144 = .ok (.iconst (-1), 1) := by decide +kernel
theorem dX4_leave_145 : decode cX4_leave 145 = .ok (.if_icmp .eq 20, 3) := by decide +kernel
theorem dX4_leave_148 : decode cX4_leave 148 = .ok (.aload_n 0, 1) := by decide +kernel
theorem dX4_leave_149 : decode cX4_leave 149 = .ok (.iload 5, 2) := by decide +kernel
theorem dX4_leave_151 : decode cX4_leave 151 = .ok (.iconst 2, 1) := by decide +kernel
theorem dX4_leave_152 : decode cX4_leave 152 = .ok (.invokevirtual 70, 3) := by decide +kernel
theorem dX4_leave_155 : decode cX4_leave 155 = .ok (.aload_n 0, 1) := by decide +kernel
theorem dX4_leave_156 : decode cX4_leave 156 = .ok (.iload 4, 2) := by decide +kernel
theorem dX4_leave_158 : decode cX4_leave 158 = .ok (.iconst 2, 1) := by decide +kernel
theorem dX4_leave_159 : decode cX4_leave 159 = .ok (.invokevirtual 70, 3) := by decide +kernel
theorem dX4_leave_162 : decode cX4_leave 162 = .ok (.if_icmp .gt 7, 3) := by decide +kernel
theorem dX4_leave_165 : decode cX4_leave 165 = .ok (.iload 5, 2) := by decide +kernel
theorem dX4_leave_167 : decode cX4_leave 167 = .ok (.istore 4, 2) := by decide +kernel
theorem dX4_leave_169 : decode cX4_leave 169 = .ok (.iinc 5 1, 3) := by decide +kernel
theorem dX4_leave_172 : decode cX4_leave 172 = .ok (.goto (-74), 3) := by decide +kernel
theorem dX4_leave_175 : decode cX4_leave 175 = .ok (.aload_n 0, 1) := by decide +kernel
theorem dX4_leave_176 : decode cX4_leave 176 = .ok (.iload 4, 2) := by decide +kernel
theorem dX4_leave_178 : decode cX4_leave 178 = .ok (.iconst 5, 1) := by decide +kernel
theorem dX4_leave_179 : decode cX4_leave 179 = .ok (.iconst 2, 1) := by decide +kernel
theorem dX4_leave_180 : decode cX4_leave 180 = .ok (.invokevirtual 106, 3) := by decide +kernel
theorem dX4_leave_183 : decode cX4_leave 183 = .ok (.aload_n 0, 1) := by decide +kernel
theorem dX4_leave_184 : decode cX4_leave 184 = .ok (.iload 4, 2) := by decide +kernel
theorem dX4_leave_186 : decode cX4_leave 186 = .ok (.bipush 6, 2) := by decide +kernel
theorem dX4_leave_188 : decode cX4_leave 188 = .ok (.iconst 0, 1) := by decide +kernel
theorem dX4_leave_189 : decode cX4_leave 189 = .ok (.invokevirtual 106, 3) := by decide +kernel
theorem dX4_leave_192 : decode cX4_leave 192 = .ok (.aload_n 0, 1) := by decide +kernel
theorem dX4_leave_193 : decode cX4_leave 193 = .ok (.iload 4, 2) := by decide +kernel
theorem dX4_leave_195 : decode cX4_leave 195 = .ok (.bipush 7, 2) := by decide +kernel
theorem dX4_leave_197 : decode cX4_leave 197 = .ok (.iconst (-1), 1) := by decide +kernel
theorem dX4_leave_198 : decode cX4_leave 198 = .ok (.invokevirtual 106, 3) := by decide +kernel
theorem dX4_leave_201 : decode cX4_leave 201 = .ok (.aload_n 0, 1) := by decide +kernel
theorem dX4_leave_202 : decode cX4_leave 202 = .ok (.iload 4, 2) := by decide +kernel
theorem dX4_leave_204 : decode cX4_leave 204 = .ok (.bipush 8, 2) := by decide +kernel
theorem dX4_leave_206 : decode cX4_leave 206 = .ok (.iconst (-1), 1) := by decide +kernel
theorem dX4_leave_207 : decode cX4_leave 207 = .ok (.invokevirtual 106, 3) := by decide +kernel
theorem dX4_leave_210 : decode cX4_leave 210 = .ok (.iload_n 3, 1) := by decide +kernel
theorem dX4_leave_211 : decode cX4_leave 211 = .ok (.aload_n 0, 1) := by decide +kernel
theorem dX4_leave_212 : decode cX4_leave 212 = .ok (.iload 4, 2) := by decide +kernel
theorem dX4_leave_214 : decode cX4_leave 214 = .ok (.iconst 1, 1) := by decide +kernel
theorem dX4_leave_215 : decode cX4_leave 215 = .ok (.invokevirtual 70, 3) := by decide +kernel
theorem dX4_leave_218 : decode cX4_leave 218 = .ok (.iadd, 1) := by decide +kernel
theorem dX4_leave_219 : decode cX4_leave 219 = .ok (.istore_n 3, 1) := by decide +kernel
theorem dX4_leave_220 : decode cX4_leave 220 = .ok (.goto (-136), 3) := by decide +kernel
theorem dX4_leave_223 : decode cX4_leave 223 = .ok (.iload_n 3, 1) := by decide +kernel
theorem dX4_leave_224 : decode cX4_leave 224 = .ok (.ireturn, 1) := by decide +kernel
theorem dX4_back_0 : decode cX4_back 0 = .ok (.aload_n 0, 1) := by decide +kernel
theorem dX4_back_1 : decode cX4_back 1 = .ok (.iconst 0, 1) := by decide +kernel
theorem dX4_back_2 : decode cX4_back 2 = .ok (.putfield 52, 3) := by decide +kernel
theorem dX4_back_5 : decode cX4_back 5 = .ok (.aload_n 0, 1) := by decide +kernel
theorem dX4_back_6 : decode cX4_back 6 = .ok (.iload_n 1, 1) := by decide +kernel
theorem dX4_back_7 : decode cX4_back 7 = .ok (.invokevirtual 92, 3) := by decide +kernel
theorem dX4_back_10 : decode cX4_back 10 = .ok (.ifCond .eq 12, 3) := by decide +kernel
theorem dX4_back_13 : decode cX4_back 13 = .ok (.aload_n 0, 1) := by decide +kernel
theorem dX4_back_14 : decode cX4_back 14 = .ok (.iload_n 1, 1) := by decide +kernel
theorem dX4_back_15 : decode cX4_back 15 = .ok (.iconst 5, 1) := by decide +kernel
theorem dX4_back_16 : decode cX4_back 16 = .ok (.invokevirtual 70, 3) := by decide +kernel
theorem dX4_back_19 : decode cX4_back 19 = .ok (.ifCond .ne 5, 3) := by decide +kernel
theorem dX4_back_22 : decode cX4_back 22 = .ok (.iconst 0, 1) := by decide +kernel
theorem dX4_back_23 : decode cX4_back 23 = .ok (.ireturn, 1) := by decide +kernel
theorem dX4_back_24 : decode cX4_back 24 = .ok (.aload_n 0, 1) := by decide +kernel
theorem dX4_back_25 : decode cX4_back 25 = .ok (.iload_n 1, 1) := by decide +kernel
theorem dX4_back_26 : decode cX4_back 26 = .ok (.iconst 5, 1) := by decide +kernel
theorem dX4_back_27 : decode cX4_back 27 = .ok (.invokevirtual 70, 3) := by decide +kernel
theorem dX4_back_30 : decode cX4_back 30 = .ok (.istore_n 2, 1) := by decide +kernel
theorem dX4_back_31 : decode cX4_back 31 = .ok (.aload_n 0, 1) := by decide +kernel
theorem dX4_back_32 : decode cX4_back 32 = .ok (.iload_n 1, 1) := by decide +kernel
theorem dX4_back_33 : decode cX4_back 33 = .ok (.bipush 7, 2) := by decide +kernel
theorem dX4_back_35 : decode cX4_back 35 = .ok (.invokevirtual 70, 3) := by decide +kernel
theorem dX4_back_38 : decode cX4_back 38 = .ok (.istore_n 3, 1) := by decide +kernel
theorem dX4_back_39 : decode cX4_back 39 = .ok (.aload_n 0, 1) := by decide +kernel
theorem dX4_back_40 : decode cX4_back 40 = .ok (.iload_n 1, 1) := by decide +kernel
theorem dX4_back_41 : decode cX4_back 41 = .ok (.bipush 8, 2) := by decide +kernel
theorem dX4_back_43 : decode cX4_back 43 = .ok (.invokevirtual 70, 3) := by decide +kernel
theorem dX4_back_46 : decode cX4_back 46 = .ok (.istore 4, 2) := by decide +kernel
theorem dX4_back_48 : decode cX4_back 48 = .ok (.aload_n 0, 1) := by decide +kernel
theorem dX4_back_49 : decode cX4_back 49 = .ok (.iload_n 1, 1) := by decide +kernel
theorem dX4_back_50 : decode cX4_back 50 = .ok (.iconst 5, 1) := by decide +kernel
theorem dX4_back_51 : decode cX4_back 51 = .ok (.iconst 0, 1) := by decide +kernel
theorem dX4_back_52 : decode cX4_back 52 = .ok (.invokevirtual 106, 3) := by decide +kernel
theorem dX4_back_55 : decode cX4_back 55 = .ok (.aload_n 0, 1) := by decide +kernel
theorem dX4_back_56 : decode cX4_back 56 = .ok (.iload_n 1, 1) := by decide +kernel
theorem dX4_back_57 : decode cX4_back 57 = .ok (.bipush 7, 2) := by decide +kernel
theorem dX4_back_59 : decode cX4_back 59 = .ok (.iconst (-1), 1) := by decide +kernel
theorem dX4_back_60 : decode cX4_back 60 = .ok (.invokevirtual 106, 3) := by decide +kernel
theorem dX4_back_63 : decode cX4_back 63 = .ok (.aload_n 0, 1) := by decide +kernel
theorem dX4_back_64 : decode cX4_back 64 = .ok (.iload_n 1, 1) := by decide +kernel
theorem dX4_back_65 : decode cX4_back 65 = .ok (.bipush 8, 2) := by decide +kernel
theorem dX4_back_67 : decode cX4_back 67 = .ok (.iconst (-1), 1) := by decide +kernel
theorem dX4_back_68 : decode cX4_back 68 = .ok (.invokevirtual 106, 3) := by decide +kernel
theorem dX4_back_71 : decode cX4_back 71 = .ok (.aload_n 0, 1) := by decide +kernel
theorem dX4_back_72 : decode cX4_back 72 = .ok (.aload_n 0, 1) := by decide +kernel
theorem dX4_back_73 : decode cX4_back 73 = .ok (.iload_n 1, 1) := by decide +kernel
theorem dX4_back_74 : decode cX4_back 74 = .ok (.iconst 0, 1) := by decide +kernel
theorem dX4_back_75 : decode cX4_back 75 = .ok (.invokevirtual 70, 3) := by decide +kernel
theorem dX4_back_78 : decode cX4_back 78 = .ok (.invokevirtual 86, 3) := by decide +kernel
theorem dX4_back_81 : decode cX4_back 81 = .ok (.ifCond .ne 13, 3) := by decide +kernel
theorem dX4_back_84 : decode cX4_back 84 = .ok (.aload_n 0, 1) := by decide +kernel
theorem dX4_back_85 : decode cX4_back 85 = .ok (.iload_n 1, 1) := by decide +kernel
theorem dX4_back_86 : decode cX4_back 86 = .ok (.bipush 6, 2) := by decide +kernel
theorem dX4_back_88 : decode cX4_back 88 = .ok (.iconst 0, 1) := by decide +kernel
theorem dX4_back_89 : decode cX4_back 89 = .ok (.invokevirtual 106, 3) := by decide +kernel
theorem dX4_back_92 : decode cX4_back 92 = .ok (.iconst 1, 1) := by decide +kernel
theorem dX4_back_93 : decode cX4_back 93 = .ok (.ireturn, 1) := by decide +kernel
theorem dX4_back_94 : decode cX4_back 94 = .ok (.aload_n 0, 1) := by decide +kernel
theorem dX4_back_95 : decode cX4_back 95 = .ok (.iload_n 1, 1) := by decide +kernel
theorem dX4_back_96 : decode cX4_back 96 = .ok (.iconst 5, 1) := by decide +kernel
theorem dX4_back_97 : decode cX4_back 97 = .ok (.iload_n 2, 1) := by decide +kernel
theorem dX4_back_98 : decode cX4_back 98 = .ok (.invokevirtual 106, 3) := by decide +kernel
theorem dX4_back_101 : decode cX4_back 101 = .ok (.aload_n 0, 1) := by decide +kernel
theorem dX4_back_102 : decode cX4_back 102 = .ok (.iload_n 1, 1) := by decide +kernel
theorem dX4_back_103 : decode cX4_back 103 = .ok (.bipush 7, 2) := by decide +kernel
theorem dX4_back_105 : decode cX4_back 105 = .ok (.iload_n 3, 1) := by decide +kernel
theorem dX4_back_106 : decode cX4_back 106 = .ok (.invokevirtual 106, 3) := by decide +kernel
theorem dX4_back_109 : decode cX4_back 109 = .ok (.aload_n 0, 1) := by decide +kernel
theorem dX4_back_110 : decode cX4_back 110 = .ok (.iload_n 1, 1) := by decide +kernel
theorem dX4_back_111 : decode cX4_back 111 = .ok (.bipush 8, 2) := by decide +kernel
theorem dX4_back_113 : decode cX4_back 113 = .ok (.iload 4, 2) := by decide +kernel
theorem dX4_back_115 : decode cX4_back 115 = .ok (.invokevirtual 106, 3) := by decide +kernel
theorem dX4_back_118 : decode cX4_back 118 = .ok (.iconst 0, 1) := by decide +kernel
theorem dX4_back_119 : decode cX4_back 119 = .ok (.ireturn, 1) := by decide +kernel
theorem dX4_late_0 : decode cX4_late 0 = .ok (.aload_n 0, 1) := by decide +kernel
theorem dX4_late_1 : decode cX4_late 1 = .ok (.iconst 0, 1) := by decide +kernel
theorem dX4_late_2 : decode cX4_late 2 = .ok (.putfield 52, 3) := by decide +kernel
theorem dX4_late_5 : decode cX4_late 5 = .ok (.aload_n 0, 1) := by decide +kernel
theorem dX4_late_6 : decode cX4_late 6 = .ok (.iload_n 1, 1) := by decide +kernel
theorem dX4_late_7 : decode cX4_late 7 = .ok (.invokevirtual 92, 3) := by decide +kernel
theorem dX4_late_10 : decode cX4_late 10 = .ok (.ifCond .eq 13, 3) := by decide +kernel
theorem dX4_late_13 : decode cX4_late 13 = .ok (.aload_n 0, 1) := by decide +kernel
theorem dX4_late_14 : decode cX4_late 14 = .ok (.iload_n 1, 1) := by decide +kernel
theorem dX4_late_15 : decode cX4_late 15 = .ok (.iload_n 2, 1) := by decide +kernel
theorem dX4_late_16 : decode cX4_late 16 = .ok (.iload_n 3, 1) := by decide +kernel
theorem dX4_late_17 : decode cX4_late 17 = .ok (.invokevirtual 114, 3) := by decide +kernel
theorem dX4_late_20 : decode cX4_late 20 = .ok (.goto 4, 3) := by decide +kernel
theorem dX4_late_23 : decode cX4_late 23 = .ok (.iconst (-1), 1) := by decide +kernel
theorem dX4_late_24 : decode cX4_late 24 = .ok (.ireturn, 1) := by decide +kernel
theorem dX4_findWays_0 : decode cX4_findWays 0 = .ok (.iconst 0, 1) := by decide +kernel
theorem dX4_findWays_1 : decode cX4_findWays 1 = .ok (.istore_n 2, 1) := by decide +kernel
theorem dX4_findWays_2 : decode cX4_findWays 2 = .ok (.aload_n 0, 1) := by decide +kernel
theorem dX4_findWays_3 : decode cX4_findWays 3 = .ok (.getfield 37, 3) := by decide +kernel
theorem dX4_findWays_6 : decode cX4_findWays 6 = .ok (.iload_n 1, 1) := by decide +kernel
theorem dX4_findWays_7 : decode cX4_findWays 7 = .ok (.ldc 98, 2) := by decide +kernel
theorem dX4_findWays_9 : decode cX4_findWays 9 = .ok (.iastore, 1) := by decide +kernel
theorem dX4_findWays_10 : decode cX4_findWays 10 = .ok (.iconst 0, 1) := by decide +kernel
theorem dX4_findWays_11 : decode cX4_findWays 11 = .ok (.istore_n 3, 1) := by decide +kernel
theorem dX4_findWays_12 : decode cX4_findWays 12 = .ok (.iload_n 3, 1) := by decide +kernel
theorem dX4_findWays_13 : decode cX4_findWays 13 = .ok (.aload_n 0, 1) := by decide +kernel
theorem dX4_findWays_14 : decode cX4_findWays 14 = .ok (.getfield 56, 3) := by decide +kernel
theorem dX4_findWays_17 : decode cX4_findWays 17 = .ok (.if_icmp .ge 125, 3) := by decide +kernel
theorem dX4_findWays_20 : decode cX4_findWays 20 = .ok (.iconst (-1), 1) := by decide +kernel
theorem dX4_findWays_21 : decode cX4_findWays 21 = .ok (.istore 4, 2) := by decide +kernel
theorem dX4_findWays_23 : decode cX4_findWays 23 = .ok (.iload 4, 2) := by decide +kernel
theorem dX4_findWays_25 : decode cX4_findWays 25 = .ok (.aload_n 0, 1) := by decide +kernel
theorem dX4_findWays_26 : decode cX4_findWays 26 = .ok (.getfield 56, 3) := by decide +kernel
theorem dX4_findWays_29 : decode cX4_findWays 29 = .ok (.if_icmp .ge 107, 3) := by decide +kernel
theorem dX4_findWays_32 : decode cX4_findWays 32 = .ok (.aload_n 0, 1) := by decide +kernel
theorem dX4_findWays_33 : decode cX4_findWays 33 = .ok (.aload_n 0, 1) := by decide +kernel
theorem dX4_findWays_34 : decode cX4_findWays 34 = .ok (.getfield 25, 3) := by decide +kernel
theorem dX4_findWays_37 : decode cX4_findWays 37 = .ok (.iload_n 1, 1) := by decide +kernel
theorem dX4_findWays_38 : decode cX4_findWays 38 = .ok (.iaload, 1) := by decide +kernel
theorem dX4_findWays_39 : decode cX4_findWays 39 = .ok (.iload_n 3, 1) := by decide +kernel
theorem dX4_findWays_40 : decode cX4_findWays 40 = .ok (.iload 4, 2) := by decide +kernel
theorem dX4_findWays_42 : decode cX4_findWays 42 = .ok (.invokevirtual 114, 3) := by decide +kernel
theorem dX4_findWays_45 : decode cX4_findWays 45 = .ok (.istore 5, 2) := by decide +kernel
theorem dX4_findWays_47 : decode cX4_findWays 47 = .ok (.iload 5, 2) := by decide +kernel
theorem dX4_findWays_49 : decode cX4_findWays 49 = .ok (.iconst (-1), 1) := by decide +kernel
theorem dX4_findWays_50 : decode cX4_findWays 50 = .ok (.if_icmp .ne 6, 3) := by decide +kernel
theorem dX4_findWays_53 : decode cX4_findWays 53 = .ok (.goto 77, 3) := by decide +kernel
theorem dX4_findWays_56 : decode cX4_findWays 56 = .ok (.aload_n 0, 1) := by decide +kernel
theorem dX4_findWays_57 : decode cX4_findWays 57 = .ok (.getfield 28, 3) := by decide +kernel
theorem dX4_findWays_60 : decode cX4_findWays 60 = .ok (.bipush 72, 2) := by decide +kernel
theorem dX4_findWays_62 : decode cX4_findWays 62 = .ok (.iload_n 1, 1) := by decide +kernel
theorem dX4_findWays_63 : decode cX4_findWays 63 = .ok (.imul, 1) := by decide +kernel
theorem dX4_findWays_64 : decode cX4_findWays 64 = .ok (.iload_n 2, 1) := by decide +kernel
theorem dX4_findWays_65 : decode cX4_findWays 65 = .ok (.iadd, 1) := by decide +kernel
theorem dX4_findWays_66 : decode cX4_findWays 66 = .ok (.bipush 9, 2) := by decide +kernel
theorem dX4_findWays_68 : decode cX4_findWays 68 = .ok (.iload_n 3, 1) := by decide +kernel
theorem dX4_findWays_69 : decode cX4_findWays 69 = .ok (.imul, 1) := by decide +kernel
theorem dX4_findWays_70 : decode cX4_findWays 70 = .ok (.iload 4, 2) := by decide +kernel
theorem dX4_findWays_72 : decode cX4_findWays 72 = .ok (.iadd, 1) := by decide +kernel
theorem dX4_findWays_73 : decode cX4_findWays 73 = .ok (.iconst 1, 1) := by decide +kernel
theorem dX4_findWays_74 : decode cX4_findWays 74 = .ok (.iadd, 1) := by decide +kernel
theorem dX4_findWays_75 : decode cX4_findWays 75 = .ok (.iastore, 1) := by decide +kernel
theorem dX4_findWays_76 : decode cX4_findWays 76 = .ok (.aload_n 0, 1) := by decide +kernel
theorem dX4_findWays_77 : decode cX4_findWays 77 = .ok (.getfield 31, 3) := by decide +kernel
theorem dX4_findWays_80 : decode cX4_findWays 80 = .ok (.bipush 72, 2) := by decide +kernel
theorem dX4_findWays_82 : decode cX4_findWays 82 = .ok (.iload_n 1, 1) := by decide +kernel
theorem dX4_findWays_83 : decode cX4_findWays 83 = .ok (.imul, 1) := by decide +kernel
theorem dX4_findWays_84 : decode cX4_findWays 84 = .ok (.iload_n 2, 1) := by decide +kernel
theorem dX4_findWays_85 : decode cX4_findWays 85 = .ok (.iadd, 1) := by decide +kernel
theorem dX4_findWays_86 : decode cX4_findWays 86 = .ok (.iload 5, 2) := by decide +kernel
theorem dX4_findWays_88 : decode cX4_findWays 88 = .ok (.aload_n 0, 1) := by decide +kernel
theorem dX4_findWays_89 : decode cX4_findWays 89 = .ok (.aload_n 0, 1) := by decide +kernel
theorem dX4_findWays_90 : decode cX4_findWays 90 = .ok (.getfield 25, 3) := by decide +kernel
theorem dX4_findWays_93 : decode cX4_findWays 93 = .ok (.iload_n 1, 1) := by decide +kernel
theorem dX4_findWays_94 : decode cX4_findWays 94 = .ok (.iaload, 1) := by decide +kernel
theorem dX4_findWays_95 : decode cX4_findWays 95 = .ok (.iconst 1, 1) := by decide +kernel
theorem dX4_findWays_96 : decode cX4_findWays 96 = .ok (.invokevirtual 70, 3) := by decide +kernel
theorem dX4_findWays_99 : decode cX4_findWays 99 = .ok (.imul, 1) := by decide +kernel
theorem dX4_findWays_100 : decode cX4_findWays 100 = .ok (.iastore, 1) := by decide +kernel
theorem dX4_findWays_101 : decode cX4_findWays 101 = .ok (.aload_n 0, 1) := by decide +kernel
theorem dX4_findWays_102 : decode cX4_findWays 102 = .ok (.getfield 37, 3) := by decide +kernel
theorem dX4_findWays_105 : decode cX4_findWays 105 = .ok (.iload_n 1, 1) := by decide +kernel
theorem dX4_findWays_106 : decode cX4_findWays 106 = .ok (.aload_n 0, 1) := by decide +kernel
theorem dX4_findWays_107 : decode cX4_findWays 107 = .ok (.getfield 37, 3) := by decide +kernel
theorem dX4_findWays_110 : decode cX4_findWays 110 = .ok (.iload_n 1, 1) := by decide +kernel
theorem dX4_findWays_111 : decode cX4_findWays 111 = .ok (.iaload, 1) := by decide +kernel
theorem dX4_findWays_112 : decode cX4_findWays 112 = .ok (.aload_n 0, 1) := by decide +kernel
theorem dX4_findWays_113 : decode cX4_findWays 113 = .ok (.getfield 31, 3) := by decide +kernel
theorem dX4_findWays_116 : decode cX4_findWays 116 = .ok (.bipush 72, 2) := by decide +kernel
theorem dX4_findWays_118 : decode cX4_findWays 118 = .ok (.iload_n 1, 1) := by decide +kernel
theorem dX4_findWays_119 : decode cX4_findWays 119 = .ok (.imul, 1) := by decide +kernel
theorem dX4_findWays_120 : decode cX4_findWays 120 = .ok (.iload_n 2, 1) := by decide +kernel
theorem dX4_findWays_121 : decode cX4_findWays 121 = .ok (.iadd, 1) := by decide +kernel
theorem dX4_findWays_122 : decode cX4_findWays 122 = .ok (.iaload, 1) := by decide +kernel
theorem dX4_findWays_123 : decode cX4_findWays 123 = .ok (.invokestatic 118, 3) := by decide +kernel
theorem dX4_findWays_126 : decode cX4_findWays 126 = .ok (.iastore, 1) := by decide +kernel
theorem dX4_findWays_127 : decode cX4_findWays 127 = .ok (.iinc 2 1, 3) := by decide +kernel
theorem dX4_findWays_130 : decode cX4_findWays 130 = .ok (.iinc 4 1, 3) := by decide +kernel
theorem dX4_findWays_133 : decode cX4_findWays 133 = .ok (.goto (-110), 3) := by decide +kernel
theorem dX4_findWays_136 : decode cX4_findWays 136 = .ok (.iinc 3 1, 3) := by decide +kernel
theorem dX4_findWays_139 : decode cX4_findWays 139 = .ok (.goto (-127), 3) := by decide +kernel
theorem dX4_findWays_142 : decode cX4_findWays 142 = .ok (.aload_n 0, 1) := by decide +kernel
theorem dX4_findWays_143 : decode cX4_findWays 143 = .ok (.getfield 34, 3) := by decide +kernel
theorem dX4_findWays_146 : decode cX4_findWays 146 = .ok (.iload_n 1, 1) := by decide +kernel
theorem dX4_findWays_147 : decode cX4_findWays 147 = .ok (.iload_n 2, 1) := by decide +kernel
theorem dX4_findWays_148 : decode cX4_findWays 148 = .ok (.iastore, 1) := by decide +kernel
theorem dX4_findWays_149 : decode cX4_findWays 149 = .ok (.return_, 1) := by decide +kernel
theorem dX4_hasRoom_0 : decode cX4_hasRoom 0 = .ok (.iload_n 1, 1) := by decide +kernel
theorem dX4_hasRoom_1 : decode cX4_hasRoom 1 = .ok (.ifCond .lt 20, 3) := by decide +kernel
theorem dX4_hasRoom_4 : decode cX4_hasRoom 4 = .ok (.aload_n 0, 1) := by decide +kernel
theorem dX4_hasRoom_5 : decode cX4_hasRoom 5 = .ok (.getfield 43, 3) := by decide +kernel
theorem dX4_hasRoom_8 : decode cX4_hasRoom 8 = .ok (.iload_n 1, 1) := by decide +kernel
theorem dX4_hasRoom_9 : decode cX4_hasRoom 9 = .ok (.iaload, 1) := by decide +kernel
theorem dX4_hasRoom_10 : decode cX4_hasRoom 10 = .ok (.iload_n 2, 1) := by decide +kernel
theorem dX4_hasRoom_11 : decode cX4_hasRoom 11 = .ok (.iadd, 1) := by decide +kernel
theorem dX4_hasRoom_12 : decode cX4_hasRoom 12 = .ok (.aload_n 0, 1) := by decide +kernel
theorem dX4_hasRoom_13 : decode cX4_hasRoom 13 = .ok (.getfield 40, 3) := by decide +kernel
theorem dX4_hasRoom_16 : decode cX4_hasRoom 16 = .ok (.iload_n 1, 1) := by decide +kernel
theorem dX4_hasRoom_17 : decode cX4_hasRoom 17 = .ok (.iaload, 1) := by decide +kernel
theorem dX4_hasRoom_18 : decode cX4_hasRoom 18 = .ok (.if_icmp .gt 7, 3) := by decide +kernel
theorem dX4_hasRoom_21 : decode cX4_hasRoom 21 = .ok (.iconst 1, 1) := by decide +kernel
theorem dX4_hasRoom_22 : decode cX4_hasRoom 22 = .ok (.goto 4, 3) := by decide +kernel
theorem dX4_hasRoom_25 : decode cX4_hasRoom 25 = .ok (.iconst 0, 1) := by decide +kernel
theorem dX4_hasRoom_26 : decode cX4_hasRoom 26 = .ok (.ireturn, 1) := by decide +kernel
theorem dX4_goOn_0 : decode cX4_goOn 0 = .ok (.iload_n 2, 1) := by decide +kernel
theorem dX4_goOn_1 : decode cX4_goOn 1 = .ok (.istore 4, 2) := by decide +kernel
theorem dX4_goOn_3 : decode cX4_goOn 3 = .ok (.iload_n 3, 1) := by decide +kernel
theorem dX4_goOn_4 : decode cX4_goOn 4 = .ok (.istore 5, 2) := by decide +kernel
theorem dX4_goOn_6 : decode cX4_goOn 6 = .ok (.iload_n 1, 1) := by decide +kernel
theorem dX4_goOn_7 : decode cX4_goOn 7 = .ok (.istore 6, 2) := by decide +kernel
theorem dX4_goOn_9 : decode cX4_goOn 9 = .ok (.iload 6, 2) := by decide +kernel
theorem dX4_goOn_11 : decode cX4_goOn 11 = .ok (.aload_n 0, 1) := by decide +kernel
theorem dX4_goOn_12 : decode cX4_goOn 12 = .ok (.getfield 121, 3) := by decide +kernel
theorem dX4_goOn_15 : decode cX4_goOn 15 = .ok (.if_icmp .ge 51, 3) := by decide +kernel
theorem dX4_goOn_18 : decode cX4_goOn 18 = .ok (.aload_n 0, 1) := by decide +kernel
theorem dX4_goOn_19 : decode cX4_goOn 19 = .ok (.getfield 34, 3) := by decide +kernel
theorem dX4_goOn_22 : decode cX4_goOn 22 = .ok (.iload 6, 2) := by decide +kernel
theorem dX4_goOn_24 : decode cX4_goOn 24 = .ok (.iaload, 1) := by decide +kernel
theorem dX4_goOn_25 : decode cX4_goOn 25 = .ok (.ifCond .ne 6, 3) := by decide +kernel
theorem dX4_goOn_28 : decode cX4_goOn 28 = .ok (.goto 32, 3) := by decide +kernel
theorem dX4_goOn_31 : decode cX4_goOn 31 = .ok (.iload 4, 2) := by decide +kernel
theorem dX4_goOn_33 : decode cX4_goOn 33 = .ok (.aload_n 0, 1) := by decide +kernel
theorem dX4_goOn_34 : decode cX4_goOn 34 = .ok (.aload_n 0, 1) := by decide +kernel
theorem dX4_goOn_35 : decode cX4_goOn 35 = .ok (.getfield 25, 3) := by decide +kernel
theorem dX4_goOn_38 : decode cX4_goOn 38 = .ok (.iload 6, 2) := by decide +kernel
theorem dX4_goOn_40 : decode cX4_goOn 40 = .ok (.iaload, 1) := by decide +kernel
theorem dX4_goOn_41 : decode cX4_goOn 41 = .ok (.iconst 1, 1) := by decide +kernel
theorem dX4_goOn_42 : decode cX4_goOn 42 = .ok (.invokevirtual 70, 3) := by decide +kernel
theorem dX4_goOn_45 : decode cX4_goOn 45 = .ok (.iadd, 1) := by decide +kernel
theorem dX4_goOn_46 : decode cX4_goOn 46 = .ok (.istore 4, 2) := by decide +kernel
theorem dX4_goOn_48 : decode cX4_goOn 48 = .ok (.iload 5, 2) := by decide +kernel
theorem dX4_goOn_50 : decode cX4_goOn 50 = .ok (.aload_n 0, 1) := by decide +kernel
theorem dX4_goOn_51 : decode cX4_goOn 51 = .ok (.getfield 37, 3) := by decide +kernel
theorem dX4_goOn_54 : decode cX4_goOn 54 = .ok (.iload 6, 2) := by decide +kernel
theorem dX4_goOn_56 : decode cX4_goOn 56 = .ok (.iaload, 1) := by decide +kernel
theorem dX4_goOn_57 : decode cX4_goOn 57 = .ok (.iadd, 1) := by decide +kernel
theorem dX4_goOn_58 : decode cX4_goOn 58 = .ok (.istore 5, 2) := by decide +kernel
theorem dX4_goOn_60 : decode cX4_goOn 60 = .ok (.iinc 6 1, 3) := by decide +kernel
theorem dX4_goOn_63 : decode cX4_goOn 63 = .ok (.goto (-54), 3) := by decide +kernel
theorem dX4_goOn_66 : decode cX4_goOn 66 = .ok (.iload 4, 2) := by decide +kernel
theorem dX4_goOn_68 : decode cX4_goOn 68 = .ok (.aload_n 0, 1) := by decide +kernel
theorem dX4_goOn_69 : decode cX4_goOn 69 = .ok (.getfield 124, 3) := by decide +kernel
theorem dX4_goOn_72 : decode cX4_goOn 72 = .ok (.if_icmp .lt 21, 3) := by decide +kernel
theorem dX4_goOn_75 : decode cX4_goOn 75 = .ok (.iload 4, 2) := by decide +kernel
theorem dX4_goOn_77 : decode cX4_goOn 77 = .ok (.aload_n 0, 1) := by decide +kernel
theorem dX4_goOn_78 : decode cX4_goOn 78 = .ok (.getfield 124, 3) := by decide +kernel
theorem dX4_goOn_81 : decode cX4_goOn 81 = .ok (.if_icmp .ne 13, 3) := by decide +kernel
theorem dX4_goOn_84 : decode cX4_goOn 84 = .ok (.iload 5, 2) := by decide +kernel
theorem dX4_goOn_86 : decode cX4_goOn 86 = .ok (.aload_n 0, 1) := by decide +kernel
theorem dX4_goOn_87 : decode cX4_goOn 87 = .ok (.getfield 127, 3) := by decide +kernel
theorem dX4_goOn_90 : decode cX4_goOn 90 = .ok (.if_icmp .lt 4, 3) := by decide +kernel
theorem dX4_goOn_93 : decode cX4_goOn 93 = .ok (.return_, 1) := by decide +kernel
theorem dX4_goOn_94 : decode cX4_goOn 94 = .ok (.iload_n 1, 1) := by decide +kernel
theorem dX4_goOn_95 : decode cX4_goOn 95 = .ok (.aload_n 0, 1) := by decide +kernel
theorem dX4_goOn_96 : decode cX4_goOn 96 = .ok (.getfield 121, 3) := by decide +kernel
theorem dX4_goOn_99 : decode cX4_goOn 99 = .ok (.if_icmp .ne 46, 3) := by decide +kernel
theorem dX4_goOn_102 : decode cX4_goOn 102 = .ok (.aload_n 0, 1) := by decide +kernel
theorem dX4_goOn_103 : decode cX4_goOn 103 = .ok (.iload_n 2, 1) := by decide +kernel
theorem dX4_goOn_104 : decode cX4_goOn 104 = .ok (.putfield 124, 3) := by decide +kernel
theorem dX4_goOn_107 : decode cX4_goOn 107 = .ok (.aload_n 0, 1) := by decide +kernel
theorem dX4_goOn_108 : decode cX4_goOn 108 = .ok (.iload_n 3, 1) := by decide +kernel
theorem dX4_goOn_109 : decode cX4_goOn 109 = .ok (.putfield 127, 3) := by decide +kernel
theorem dX4_goOn_112 : decode cX4_goOn 112 = .ok (.iconst 0, 1) := by decide +kernel
theorem dX4_goOn_113 : decode cX4_goOn 113 = .ok (.istore 6, 2) := by decide +kernel
theorem dX4_goOn_115 : decode cX4_goOn 115 = .ok (.iload 6, 2) := by decide +kernel
theorem dX4_goOn_117 : decode cX4_goOn 117 = .ok (.aload_n 0, 1) := by decide +kernel
theorem dX4_goOn_118 : decode cX4_goOn 118 = .ok (.getfield 121, 3) := by decide +kernel
theorem dX4_goOn_121 : decode cX4_goOn 121 = .ok (.if_icmp .ge 23, 3) := by decide +kernel
theorem dX4_goOn_124 : decode cX4_goOn 124 = .ok (.aload_n 0, 1) := by decide +kernel
theorem dX4_goOn_125 : decode cX4_goOn 125 = .ok (.getfield 49, 3) := by decide +kernel
theorem dX4_goOn_128 : decode cX4_goOn 128 = .ok (.iload 6, 2) := by decide +kernel
theorem dX4_goOn_130 : decode cX4_goOn 130 = .ok (.aload_n 0, 1) := by decide +kernel
theorem dX4_goOn_131 : decode cX4_goOn 131 = .ok (.getfield 46, 3) := by decide +kernel
theorem dX4_goOn_134 : decode cX4_goOn 134 = .ok (.iload 6, 2) := by decide +kernel
theorem dX4_goOn_136 : decode cX4_goOn 136 = .ok (.iaload, 1) := by decide +kernel
theorem dX4_goOn_137 : decode cX4_goOn 137 = .ok (.iastore, 1) := by decide +kernel
theorem dX4_goOn_138 : decode cX4_goOn 138 = .ok (.iinc 6 1, 3) := by decide +kernel
theorem dX4_goOn_141 : decode cX4_goOn 141 = .ok (.goto (-26), 3) := by decide +kernel
theorem dX4_goOn_144 : decode cX4_goOn 144 = .ok (.return_, 1) := by decide +kernel
theorem dX4_goOn_145 : decode cX4_goOn 145 = .ok (.aload_n 0, 1) := by decide +kernel
theorem dX4_goOn_146 : decode cX4_goOn 146 = .ok (.aload_n 0, 1) := by decide +kernel
theorem dX4_goOn_147 : decode cX4_goOn 147 = .ok (.getfield 25, 3) := by decide +kernel
theorem dX4_goOn_150 : decode cX4_goOn 150 = .ok (.iload_n 1, 1) := by decide +kernel
theorem dX4_goOn_151 : decode cX4_goOn 151 = .ok (.iaload, 1) := by decide +kernel
theorem dX4_goOn_152 : decode cX4_goOn 152 = .ok (.iconst 1, 1) := by decide +kernel
theorem dX4_goOn_153 : decode cX4_goOn 153 = .ok (.invokevirtual 70, 3) := by decide +kernel
theorem dX4_goOn_156 : decode cX4_goOn 156 = .ok (.istore 6, 2) := by decide +kernel
theorem dX4_goOn_158 : decode cX4_goOn 158 = .ok (.iconst 0, 1) := by decide +kernel
theorem dX4_goOn_159 : decode cX4_goOn 159 = .ok (.istore 7, 2) := by decide +kernel
theorem dX4_goOn_161 : decode cX4_goOn 161 = .ok (.iload 7, 2) := by decide +kernel
theorem dX4_goOn_163 : decode cX4_goOn 163 = .ok (.aload_n 0, 1) := by decide +kernel
theorem dX4_goOn_164 : decode cX4_goOn 164 = .ok (.getfield 34, 3) := by decide +kernel
theorem dX4_goOn_167 : decode cX4_goOn 167 = .ok (.iload_n 1, 1) := by decide +kernel
theorem dX4_goOn_168 : decode cX4_goOn 168 = .ok (.iaload, 1) := by decide +kernel
theorem dX4_goOn_169 : decode cX4_goOn 169 = .ok (.if_icmp .ge 171, 3) := by decide +kernel
theorem dX4_goOn_172 : decode cX4_goOn 172 = .ok (.aload_n 0, 1) := by decide +kernel
theorem dX4_goOn_173 : decode cX4_goOn 173 = .ok (.getfield 28, 3) := by decide +kernel
theorem dX4_goOn_176 : decode cX4_goOn 176 = .ok (.bipush 72, 2) := by decide +kernel
theorem dX4_goOn_178 : decode cX4_goOn 178 = .ok (.iload_n 1, 1) := by decide +kernel
theorem dX4_goOn_179 : decode cX4_goOn 179 = .ok (.imul, 1) := by decide +kernel
theorem dX4_goOn_180 : decode cX4_goOn 180 = .ok (.iload 7, 2) := by decide +kernel
theorem dX4_goOn_182 : decode cX4_goOn 182 = .ok (.iadd, 1) := by decide +kernel
theorem dX4_goOn_183 : decode cX4_goOn 183 = .ok (.iaload, 1) := by decide +kernel
theorem dX4_goOn_184 : decode cX4_goOn 184 = .ok (.bipush 9, 2) := by decide +kernel
theorem dX4_goOn_186 : decode cX4_goOn 186 = .ok (.idiv, 1) := by decide +kernel
theorem dX4_goOn_187 : decode cX4_goOn 187 = .ok (.istore 8, 2) := by decide +kernel
theorem dX4_goOn_189 : decode cX4_goOn 189 = .ok (.aload_n 0, 1) := by decide +kernel
theorem dX4_goOn_190 : decode cX4_goOn 190 = .ok (.getfield 28, 3) := by decide +kernel
theorem dX4_goOn_193 : decode cX4_goOn 193 = .ok (.bipush 72, 2) := by decide +kernel
theorem dX4_goOn_195 : decode cX4_goOn 195 = .ok (.iload_n 1, 1) := by decide +kernel
theorem dX4_goOn_196 : decode cX4_goOn 196 = .ok (.imul, 1) := by decide +kernel
theorem dX4_goOn_197 : decode cX4_goOn 197 = .ok (.iload 7, 2) := by decide +kernel
theorem dX4_goOn_199 : decode cX4_goOn 199 = .ok (.iadd, 1) := by decide +kernel
theorem dX4_goOn_200 : decode cX4_goOn 200 = .ok (.iaload, 1) := by decide +kernel
theorem dX4_goOn_201 : decode cX4_goOn 201 = .ok (.bipush 9, 2) := by decide +kernel
theorem dX4_goOn_203 : decode cX4_goOn 203 = .ok (.irem, 1) := by decide +kernel
theorem dX4_goOn_204 : decode cX4_goOn 204 = .ok (.iconst 1, 1) := by decide +kernel
theorem dX4_goOn_205 : decode cX4_goOn 205 = .ok (.isub, 1) := by decide +kernel
theorem dX4_goOn_206 : decode cX4_goOn 206 = .ok (.istore 9, 2) := by decide +kernel
theorem dX4_goOn_208 : decode cX4_goOn 208 = .ok (.aload_n 0, 1) := by decide +kernel
theorem dX4_goOn_209 : decode cX4_goOn 209 = .ok (.iload 8, 2) := by decide +kernel
theorem dX4_goOn_211 : decode cX4_goOn 211 = .ok (.iload 6, 2) := by decide +kernel
theorem dX4_goOn_213 : decode cX4_goOn 213 = .ok (.invokevirtual 130, 3) := by decide +kernel
theorem dX4_goOn_216 : decode cX4_goOn 216 = .ok (.ifCond .eq 118, 3) := by decide +kernel
theorem dX4_goOn_219 : decode cX4_goOn 219 = .ok (.aload_n 0, 1) := by decide +kernel
theorem dX4_goOn_220 : decode cX4_goOn 220 = .ok (.iload 9, 2) := by decide +kernel
theorem dX4_goOn_222 : decode cX4_goOn 222 = .ok (.iload 6, 2) := by decide +kernel
theorem dX4_goOn_224 : decode cX4_goOn 224 = .ok (.invokevirtual 130, 3) := by decide +kernel
theorem dX4_goOn_227 : decode cX4_goOn 227 = .ok (.ifCond .ne 6, 3) := by decide +kernel
theorem dX4_goOn_230 : decode cX4_goOn 230 = .ok (.goto 104, 3) := by decide +kernel
theorem dX4_goOn_233 : decode cX4_goOn 233 = .ok (.aload_n 0, 1) := by decide +kernel
theorem dX4_goOn_234 : decode cX4_goOn 234 = .ok (.getfield 43, 3) := by decide +kernel
theorem dX4_goOn_237 : decode cX4_goOn 237 = .ok (.iload 8, 2) := by decide +kernel
theorem dX4_goOn_239 : decode cX4_goOn 239 = .ok (.dup2, 1) := by decide +kernel
theorem dX4_goOn_240 : decode cX4_goOn 240 = .ok (.iaload, 1) := by decide +kernel
theorem dX4_goOn_241 : decode cX4_goOn 241 = .ok (.iload 6, 2) := by decide +kernel
theorem dX4_goOn_243 : decode cX4_goOn 243 = .ok (.iadd, 1) := by decide +kernel
theorem dX4_goOn_244 : decode cX4_goOn 244 = .ok (.iastore, 1) := by decide +kernel
theorem dX4_goOn_245 : decode cX4_goOn 245 = .ok (.iload 9, 2) := by decide +kernel
theorem dX4_goOn_247 : decode cX4_goOn 247 = .ok (.ifCond .lt 15, 3) := by decide +kernel
theorem dX4_goOn_250 : decode cX4_goOn 250 = .ok (.aload_n 0, 1) := by decide +kernel
theorem dX4_goOn_251 : decode cX4_goOn 251 = .ok (.getfield 43, 3) := by decide +kernel
theorem dX4_goOn_254 : decode cX4_goOn 254 = .ok (.iload 9, 2) := by decide +kernel
theorem dX4_goOn_256 : decode cX4_goOn 256 = .ok (.dup2, 1) := by decide +kernel
theorem dX4_goOn_257 : decode cX4_goOn 257 = .ok (.iaload, 1) := by decide +kernel
theorem dX4_goOn_258 : decode cX4_goOn 258 = .ok (.iload 6, 2) := by decide +kernel
theorem dX4_goOn_260 : decode cX4_goOn 260 = .ok (.iadd, 1) := by decide +kernel
theorem dX4_goOn_261 : decode cX4_goOn 261 = .ok (.iastore, 1) := by decide +kernel
theorem dX4_goOn_262 : decode cX4_goOn 262 = .ok (.aload_n 0, 1) := by decide +kernel
theorem dX4_goOn_263 : decode cX4_goOn 263 = .ok (.getfield 46, 3) := by decide +kernel
theorem dX4_goOn_266 : decode cX4_goOn 266 = .ok (.iload_n 1, 1) := by decide +kernel
theorem dX4_goOn_267 : decode cX4_goOn 267 = .ok (.aload_n 0, 1) := by decide +kernel
theorem dX4_goOn_268 : decode cX4_goOn 268 = .ok (.getfield 28, 3) := by decide +kernel
theorem dX4_goOn_271 : decode cX4_goOn 271 = .ok (.bipush 72, 2) := by decide +kernel
theorem dX4_goOn_273 : decode cX4_goOn 273 = .ok (.iload_n 1, 1) := by decide +kernel
theorem dX4_goOn_274 : decode cX4_goOn 274 = .ok (.imul, 1) := by decide +kernel
theorem dX4_goOn_275 : decode cX4_goOn 275 = .ok (.iload 7, 2) := by decide +kernel
theorem dX4_goOn_277 : decode cX4_goOn 277 = .ok (.iadd, 1) := by decide +kernel
theorem dX4_goOn_278 : decode cX4_goOn 278 = .ok (.iaload, 1) := by decide +kernel
theorem dX4_goOn_279 : decode cX4_goOn 279 = .ok (.iastore, 1) := by decide +kernel
theorem dX4_goOn_280 : decode cX4_goOn 280 = .ok (.aload_n 0, 1) := by decide +kernel
theorem dX4_goOn_281 : decode cX4_goOn 281 = .ok (.iload_n 1, 1) := by decide +kernel
theorem dX4_goOn_282 : decode cX4_goOn 282 = .ok (.iconst 1, 1) := by decide +kernel
theorem dX4_goOn_283 : decode cX4_goOn 283 = .ok (.iadd, 1) := by decide +kernel
theorem dX4_goOn_284 : decode cX4_goOn 284 = .ok (.iload_n 2, 1) := by decide +kernel
theorem dX4_goOn_285 : decode cX4_goOn 285 = .ok (.iload 6, 2) := by decide +kernel
theorem dX4_goOn_287 : decode cX4_goOn 287 = .ok (.iadd, 1) := by decide +kernel
theorem dX4_goOn_288 : decode cX4_goOn 288 = .ok (.iload_n 3, 1) := by decide +kernel
theorem dX4_goOn_289 : decode cX4_goOn 289 = .ok (.aload_n 0, 1) := by decide +kernel
theorem dX4_goOn_290 : decode cX4_goOn 290 = .ok (.getfield 31, 3) := by decide +kernel
theorem dX4_goOn_293 : decode cX4_goOn 293 = .ok (.bipush 72, 2) := by decide +kernel
theorem dX4_goOn_295 : decode cX4_goOn 295 = .ok (.iload_n 1, 1) := by decide +kernel
theorem dX4_goOn_296 : decode cX4_goOn 296 = .ok (.imul, 1) := by decide +kernel
theorem dX4_goOn_297 : decode cX4_goOn 297 = .ok (.iload 7, 2) := by decide +kernel
theorem dX4_goOn_299 : decode cX4_goOn 299 = .ok (.iadd, 1) := by decide +kernel
theorem dX4_goOn_300 : decode cX4_goOn 300 = .ok (.iaload, 1) := by decide +kernel
theorem dX4_goOn_301 : decode cX4_goOn 301 = .ok (.iadd, 1) := by decide +kernel
theorem dX4_goOn_302 : decode cX4_goOn 302 = .ok (.invokevirtual 133, 3) := by decide +kernel
theorem dX4_goOn_305 : decode cX4_goOn 305 = .ok (.aload_n 0, 1) := by decide +kernel
theorem dX4_goOn_306 : decode cX4_goOn 306 = .ok (.getfield 43, 3) := by decide +kernel
theorem dX4_goOn_309 : decode cX4_goOn 309 = .ok (.iload 8, 2) := by decide +kernel
theorem dX4_goOn_311 : decode cX4_goOn 311 = .ok (.dup2, 1) := by decide +kernel
theorem dX4_goOn_312 : decode cX4_goOn 312 = .ok (.iaload, 1) := by decide +kernel
theorem dX4_goOn_313 : decode cX4_goOn 313 = .ok (.iload 6, 2) := by decide +kernel
theorem dX4_goOn_315 : decode cX4_goOn 315 = .ok (.isub, 1) := by decide +kernel
theorem dX4_goOn_316 : decode cX4_goOn 316 = .ok (.iastore, 1) := by decide +kernel
theorem dX4_goOn_317 : decode cX4_goOn 317 = .ok (.iload 9, 2) := by decide +kernel
theorem dX4_goOn_319 : decode cX4_goOn 319 = .ok (.ifCond .lt 15, 3) := by decide +kernel
theorem dX4_goOn_322 : decode cX4_goOn 322 = .ok (.aload_n 0, 1) := by decide +kernel
theorem dX4_goOn_323 : decode cX4_goOn 323 = .ok (.getfield 43, 3) := by decide +kernel
theorem dX4_goOn_326 : decode cX4_goOn 326 = .ok (.iload 9, 2) := by decide +kernel
theorem dX4_goOn_328 : decode cX4_goOn 328 = .ok (.dup2, 1) := by decide +kernel
theorem dX4_goOn_329 : decode cX4_goOn 329 = .ok (.iaload, 1) := by decide +kernel
theorem dX4_goOn_330 : decode cX4_goOn 330 = .ok (.iload 6, 2) := by decide +kernel
theorem dX4_goOn_332 : decode cX4_goOn 332 = .ok (.isub, 1) := by decide +kernel
theorem dX4_goOn_333 : decode cX4_goOn 333 = .ok (.iastore, 1) := by decide +kernel
theorem dX4_goOn_334 : decode cX4_goOn 334 = .ok (.iinc 7 1, 3) := by decide +kernel
theorem dX4_goOn_337 : decode cX4_goOn 337 = .ok (.goto (-176), 3) := by decide +kernel
theorem dX4_goOn_340 : decode cX4_goOn 340 = .ok (.aload_n 0, 1) := by decide +kernel
theorem dX4_goOn_341 : decode cX4_goOn 341 = .ok (.getfield 46, 3) := by decide +kernel
theorem dX4_goOn_344 : decode cX4_goOn 344 = .ok (.iload_n 1, 1) := by decide +kernel
theorem dX4_goOn_345 : decode cX4_goOn 345 = .ok (.iconst (-1), 1) := by decide +kernel
theorem dX4_goOn_346 : decode cX4_goOn 346 = .ok (.iastore, 1) := by decide +kernel
theorem dX4_goOn_347 : decode cX4_goOn 347 = .ok (.aload_n 0, 1) := by decide +kernel
theorem dX4_goOn_348 : decode cX4_goOn 348 = .ok (.iload_n 1, 1) := by decide +kernel
theorem dX4_goOn_349 : decode cX4_goOn 349 = .ok (.iconst 1, 1) := by decide +kernel
theorem dX4_goOn_350 : decode cX4_goOn 350 = .ok (.iadd, 1) := by decide +kernel
theorem dX4_goOn_351 : decode cX4_goOn 351 = .ok (.iload_n 2, 1) := by decide +kernel
theorem dX4_goOn_352 : decode cX4_goOn 352 = .ok (.iload_n 3, 1) := by decide +kernel
theorem dX4_goOn_353 : decode cX4_goOn 353 = .ok (.invokevirtual 133, 3) := by decide +kernel
theorem dX4_goOn_356 : decode cX4_goOn 356 = .ok (.return_, 1) := by decide +kernel
theorem dX4_strandedMany_0 : decode cX4_strandedMany 0 = .ok (.iconst 0, 1) := by decide +kernel
theorem dX4_strandedMany_1 : decode cX4_strandedMany 1 = .ok (.istore_n 1, 1) := by decide +kernel
theorem dX4_strandedMany_2 : decode cX4_strandedMany 2 = .ok (.iconst 0, 1) := by decide +kernel
theorem dX4_strandedMany_3 : decode cX4_strandedMany 3 = .ok (.istore_n 2, 1) := by decide +kernel
theorem dX4_strandedMany_4 : decode cX4_strandedMany 4 = .ok (.iload_n 2, 1) := by decide +kernel
theorem dX4_strandedMany_5 : decode cX4_strandedMany 5 = .ok (.aload_n 0, 1) := by decide +kernel
theorem dX4_strandedMany_6 : decode cX4_strandedMany 6 = .ok (.getfield 63, 3) := by decide +kernel
theorem dX4_strandedMany_9 : decode cX4_strandedMany 9 = .ok (.if_icmp .ge 32, 3) := by decide +kernel
theorem dX4_strandedMany_12 : decode cX4_strandedMany 12 = .ok (.aload_n 0, 1) := by decide +kernel
theorem dX4_strandedMany_13 : decode cX4_strandedMany 13 = .ok (.iload_n 2, 1) := by decide +kernel
theorem dX4_strandedMany_14 : decode cX4_strandedMany 14 = .ok (.iconst 5, 1) := by decide +kernel
theorem dX4_strandedMany_15 : decode cX4_strandedMany 15 = .ok (.invokevirtual 70, 3) := by decide +kernel
theorem dX4_strandedMany_18 : decode cX4_strandedMany 18 = .ok (.ifCond .le 17, 3) := by decide +kernel
theorem dX4_strandedMany_21 : decode cX4_strandedMany 21 = .ok (.aload_n 0, 1) := by decide +kernel
theorem dX4_strandedMany_22 : decode cX4_strandedMany 22 = .ok (.iload_n 2, 1) := by decide +kernel
theorem dX4_strandedMany_23 : decode cX4_strandedMany 23 = .ok (.bipush 7, 2) := by decide +kernel
theorem dX4_strandedMany_25 : decode cX4_strandedMany 25 = .ok (.invokevirtual 70, 3) := by decide +kernel
theorem dX4_strandedMany_28 : decode cX4_strandedMany 28 = .ok (.iconst (-1), 1) := by decide +kernel
theorem dX4_strandedMany_29 : decode cX4_strandedMany 29 = .ok (.if_icmp .ne 6, 3) := by decide +kernel
theorem dX4_strandedMany_32 : decode cX4_strandedMany 32 = .ok (.iinc 1 1, 3) := by decide +kernel
theorem dX4_strandedMany_35 : decode cX4_strandedMany 35 = .ok (.iinc 2 1, 3) := by decide +kernel
theorem dX4_strandedMany_38 : decode cX4_strandedMany 38 = .ok (.goto (-34), 3) := by decide +kernel
theorem dX4_strandedMany_41 : decode cX4_strandedMany 41 = .ok (.iload_n 1, 1) := by decide +kernel
theorem dX4_strandedMany_42 : decode cX4_strandedMany 42 = .ok (.ireturn, 1) := by decide +kernel
theorem dX4_stranded_0 : decode cX4_stranded 0 = .ok (.aload_n 0, 1) := by decide +kernel
theorem dX4_stranded_1 : decode cX4_stranded 1 = .ok (.iconst 0, 1) := by decide +kernel
theorem dX4_stranded_2 : decode cX4_stranded 2 = .ok (.putfield 52, 3) := by decide +kernel
theorem dX4_stranded_5 : decode cX4_stranded 5 = .ok (.aload_n 0, 1) := by decide +kernel
theorem dX4_stranded_6 : decode cX4_stranded 6 = .ok (.invokevirtual 136, 3) := by decide +kernel
theorem dX4_stranded_9 : decode cX4_stranded 9 = .ok (.ireturn, 1) := by decide +kernel
theorem dX4_move_0 : decode cX4_move 0 = .ok (.aload_n 0, 1) := by decide +kernel
theorem dX4_move_1 : decode cX4_move 1 = .ok (.iconst 0, 1) := by decide +kernel
theorem dX4_move_2 : decode cX4_move 2 = .ok (.putfield 52, 3) := by decide +kernel
theorem dX4_move_5 : decode cX4_move 5 = .ok (.aload_n 0, 1) := by decide +kernel
theorem dX4_move_6 : decode cX4_move 6 = .ok (.invokevirtual 136, 3) := by decide +kernel
theorem dX4_move_9 : decode cX4_move 9 = .ok (.bipush 6, 2) := by decide +kernel
theorem dX4_move_11 : decode cX4_move 11 = .ok (.if_icmp .le 5, 3) := by decide +kernel
theorem dX4_move_14 : decode cX4_move 14 = .ok (.iconst (-1), 1) := by decide +kernel
theorem dX4_move_15 : decode cX4_move 15 = .ok (.ireturn, 1) := by decide +kernel
theorem dX4_move_16 : decode cX4_move 16 = .ok (.aload_n 0, 1) := by decide +kernel
theorem dX4_move_17 : decode cX4_move 17 = .ok (.iconst 0, 1) := by decide +kernel
theorem dX4_move_18 : decode cX4_move 18 = .ok (.putfield 121, 3) := by decide +kernel
theorem dX4_move_21 : decode cX4_move 21 = .ok (.iconst 0, 1) := by decide +kernel
theorem dX4_move_22 : decode cX4_move 22 = .ok (.istore_n 1, 1) := by decide +kernel
theorem dX4_move_23 : decode cX4_move 23 = .ok (.iload_n 1, 1) := by decide +kernel
theorem dX4_move_24 : decode cX4_move 24 = .ok (.aload_n 0, 1) := by decide +kernel
theorem dX4_move_25 : decode cX4_move 25 = .ok (.getfield 63, 3) := by decide +kernel
theorem dX4_move_28 : decode cX4_move 28 = .ok (.if_icmp .ge 52, 3) := by decide +kernel
theorem dX4_move_31 : decode cX4_move 31 = .ok (.aload_n 0, 1) := by decide +kernel
theorem dX4_move_32 : decode cX4_move 32 = .ok (.iload_n 1, 1) := by decide +kernel
theorem dX4_move_33 : decode cX4_move 33 = .ok (.iconst 5, 1) := by decide +kernel
theorem dX4_move_34 : decode cX4_move 34 = .ok (.invokevirtual 70, 3) := by decide +kernel
theorem dX4_move_37 : decode cX4_move 37 = .ok (.ifCond .eq 37, 3) := by decide +kernel
theorem dX4_move_40 : decode cX4_move 40 = .ok (.aload_n 0, 1) := by decide +kernel
theorem dX4_move_41 : decode cX4_move 41 = .ok (.iload_n 1, 1) := by decide +kernel
theorem dX4_move_42 : decode cX4_move 42 = .ok (.bipush 7, 2) := by decide +kernel
theorem dX4_move_44 : decode cX4_move 44 = .ok (.invokevirtual 70, 3) := by decide +kernel
theorem dX4_move_47 : decode cX4_move 47 = .ok (.iconst (-1), 1) := by decide +kernel
theorem dX4_move_48 : decode cX4_move 48 = .ok (.if_icmp .eq 6, 3) := by decide +kernel
theorem dX4_move_51 : decode cX4_move 51 = .ok (.goto 23, 3) := by decide +kernel
theorem dX4_move_54 : decode cX4_move 54 = .ok (.aload_n 0, 1) := by decide +kernel
theorem dX4_move_55 : decode cX4_move 55 = .ok (.getfield 25, 3) := by decide +kernel
theorem dX4_move_58 : decode cX4_move 58 = .ok (.aload_n 0, 1) := by decide +kernel
theorem dX4_move_59 : decode cX4_move 59 = .ok (.getfield 121, 3) := by decide +kernel
theorem dX4_move_62 : decode cX4_move 62 = .ok (.iload_n 1, 1) := by decide +kernel
theorem dX4_move_63 : decode cX4_move 63 = .ok (.iastore, 1) := by decide +kernel
theorem dX4_move_64 : decode cX4_move 64 = .ok (.aload_n 0, 1) := by decide +kernel
theorem dX4_move_65 : decode cX4_move 65 = .ok (.dup, 1) := by decide +kernel
theorem dX4_move_66 : decode cX4_move 66 = .ok (.getfield 121, 3) := by decide +kernel
theorem dX4_move_69 : decode cX4_move 69 = .ok (.iconst 1, 1) := by decide +kernel
theorem dX4_move_70 : decode cX4_move 70 = .ok (.iadd, 1) := by decide +kernel
theorem dX4_move_71 : decode cX4_move 71 = .ok (.putfield 121, 3) := by decide +kernel
theorem dX4_move_74 : decode cX4_move 74 = .ok (.iinc 1 1, 3) := by decide +kernel
theorem dX4_move_77 : decode cX4_move 77 = .ok (.goto (-54), 3) := by decide +kernel
theorem dX4_move_80 : decode cX4_move 80 = .ok (.iconst 0, 1) := by decide +kernel
theorem dX4_move_81 : decode cX4_move 81 = .ok (.istore_n 1, 1) := by decide +kernel
theorem dX4_move_82 : decode cX4_move 82 = .ok (.iload_n 1, 1) := by decide +kernel
theorem dX4_move_83 : decode cX4_move 83 = .ok (.aload_n 0, 1) := by decide +kernel
theorem dX4_move_84 : decode cX4_move 84 = .ok (.getfield 121, 3) := by decide +kernel
theorem dX4_move_87 : decode cX4_move 87 = .ok (.if_icmp .ge 14, 3) := by decide +kernel
theorem dX4_move_90 : decode cX4_move 90 = .ok (.aload_n 0, 1) := by decide +kernel
theorem dX4_move_91 : decode cX4_move 91 = .ok (.iload_n 1, 1) := by decide +kernel
theorem dX4_move_92 : decode cX4_move 92 = .ok (.invokevirtual 140, 3) := by decide +kernel
theorem dX4_move_95 : decode cX4_move 95 = .ok (.iinc 1 1, 3) := by decide +kernel
theorem dX4_move_98 : decode cX4_move 98 = .ok (.goto (-16), 3) := by decide +kernel
theorem dX4_move_101 : decode cX4_move 101 = .ok (.iconst 0, 1) := by decide +kernel
theorem dX4_move_102 : decode cX4_move 102 = .ok (.istore_n 1, 1) := by decide +kernel
theorem dX4_move_103 : decode cX4_move 103 = .ok (.iload_n 1, 1) := by decide +kernel
theorem dX4_move_104 : decode cX4_move 104 = .ok (.aload_n 0, 1) := by decide +kernel
theorem dX4_move_105 : decode cX4_move 105 = .ok (.getfield 56, 3) := by decide +kernel
theorem dX4_move_108 : decode cX4_move 108 = .ok (.if_icmp .ge 41, 3) := by decide +kernel
theorem dX4_move_111 : decode cX4_move 111 = .ok (.aload_n 0, 1) := by decide +kernel
theorem dX4_move_112 : decode cX4_move 112 = .ok (.getfield 43, 3) := by decide +kernel
theorem dX4_move_115 : decode cX4_move 115 = .ok (.iload_n 1, 1) := by decide +kernel
theorem dX4_move_116 : decode cX4_move 116 = .ok (.aload_n 0, 1) := by decide +kernel
theorem dX4_move_117 : decode cX4_move 117 = .ok (.iload_n 1, 1) := by decide +kernel
theorem dX4_move_118 : decode cX4_move 118 = .ok (.invokevirtual 77, 3) := by decide +kernel
theorem dX4_move_121 : decode cX4_move 121 = .ok (.iastore, 1) := by decide +kernel
theorem dX4_move_122 : decode cX4_move 122 = .ok (.aload_n 0, 1) := by decide +kernel
theorem dX4_move_123 : decode cX4_move 123 = .ok (.getfield 40, 3) := by decide +kernel
theorem dX4_move_126 : decode cX4_move 126 = .ok (.iload_n 1, 1) := by decide +kernel
theorem dX4_move_127 : decode cX4_move 127 = .ok (.aload_n 0, 1) := by decide +kernel
theorem dX4_move_128 : decode cX4_move 128 = .ok (.getfield 43, 3) := by decide +kernel
theorem dX4_move_131 : decode cX4_move 131 = .ok (.iload_n 1, 1) := by decide +kernel
theorem dX4_move_132 : decode cX4_move 132 = .ok (.iaload, 1) := by decide +kernel
theorem dX4_move_133 : decode cX4_move 133 = .ok (.aload_n 0, 1) := by decide +kernel
theorem dX4_move_134 : decode cX4_move 134 = .ok (.iload_n 1, 1) := by decide +kernel
theorem dX4_move_135 : decode cX4_move 135 = .ok (.iconst 4, 1) := by decide +kernel
theorem dX4_move_136 : decode cX4_move 136 = .ok (.invokevirtual 74, 3) := by decide +kernel
theorem dX4_move_139 : decode cX4_move 139 = .ok (.invokestatic 81, 3) := by decide +kernel
theorem dX4_move_142 : decode cX4_move 142 = .ok (.iastore, 1) := by decide +kernel
theorem dX4_move_143 : decode cX4_move 143 = .ok (.iinc 1 1, 3) := by decide +kernel
theorem dX4_move_146 : decode cX4_move 146 = .ok (.goto (-43), 3) := by decide +kernel
theorem dX4_move_149 : decode cX4_move 149 = .ok (.aload_n 0, 1) := by decide +kernel
theorem dX4_move_150 : decode cX4_move 150 = .ok (.iconst (-1), 1) := by decide +kernel
theorem dX4_move_151 : decode cX4_move 151 = .ok (.putfield 124, 3) := by decide +kernel
theorem dX4_move_154 : decode cX4_move 154 = .ok (.aload_n 0, 1) := by decide +kernel
theorem dX4_move_155 : decode cX4_move 155 = .ok (.iconst 0, 1) := by decide +kernel
theorem dX4_move_156 : decode cX4_move 156 = .ok (.putfield 127, 3) := by decide +kernel
theorem dX4_move_159 : decode cX4_move 159 = .ok (.aload_n 0, 1) := by decide +kernel
theorem dX4_move_160 : decode cX4_move 160 = .ok (.iconst 0, 1) := by decide +kernel
theorem dX4_move_161 : decode cX4_move 161 = .ok (.iconst 0, 1) := by decide +kernel
theorem dX4_move_162 : decode cX4_move 162 = .ok (.iconst 0, 1) := by decide +kernel
theorem dX4_move_163 : decode cX4_move 163 = .ok (.invokevirtual 133, 3) := by decide +kernel
theorem dX4_move_166 : decode cX4_move 166 = .ok (.iconst 0, 1) := by decide +kernel
theorem dX4_move_167 : decode cX4_move 167 = .ok (.istore_n 1, 1) := by decide +kernel
theorem dX4_move_168 : decode cX4_move 168 = .ok (.iload_n 1, 1) := by decide +kernel
theorem dX4_move_169 : decode cX4_move 169 = .ok (.aload_n 0, 1) := by decide +kernel
theorem dX4_move_170 : decode cX4_move 170 = .ok (.getfield 121, 3) := by decide +kernel
theorem dX4_move_173 : decode cX4_move 173 = .ok (.if_icmp .ge 66, 3) := by decide +kernel
theorem dX4_move_176 : decode cX4_move 176 = .ok (.aload_n 0, 1) := by decide +kernel
theorem dX4_move_177 : decode cX4_move 177 = .ok (.getfield 49, 3) := by decide +kernel
theorem dX4_move_180 : decode cX4_move 180 = .ok (.iload_n 1, 1) := by decide +kernel
theorem dX4_move_181 : decode cX4_move 181 = .ok (.iaload, 1) := by decide +kernel
theorem dX4_move_182 : decode cX4_move 182 = .ok (.iconst (-1), 1) := by decide +kernel
theorem dX4_move_183 : decode cX4_move 183 = .ok (.if_icmp .ne 6, 3) := by decide +kernel
theorem dX4_move_186 : decode cX4_move 186 = .ok (.goto 47, 3) := by decide +kernel
theorem dX4_move_189 : decode cX4_move 189 = .ok (.aload_n 0, 1) := by decide +kernel
theorem dX4_move_190 : decode cX4_move 190 = .ok (.aload_n 0, 1) := by decide +kernel
theorem dX4_move_191 : decode cX4_move 191 = .ok (.getfield 25, 3) := by decide +kernel
theorem dX4_move_194 : decode cX4_move 194 = .ok (.iload_n 1, 1) := by decide +kernel
theorem dX4_move_195 : decode cX4_move 195 = .ok (.iaload, 1) := by decide +kernel
theorem dX4_move_196 : decode cX4_move 196 = .ok (.bipush 7, 2) := by decide +kernel
theorem dX4_move_198 : decode cX4_move 198 = .ok (.aload_n 0, 1) := by decide +kernel
theorem dX4_move_199 : decode cX4_move 199 = .ok (.getfield 49, 3) := by decide +kernel
theorem dX4_move_202 : decode cX4_move 202 = .ok (.iload_n 1, 1) := by decide +kernel
theorem dX4_move_203 : decode cX4_move 203 = .ok (.iaload, 1) := by decide +kernel
theorem dX4_move_204 : decode cX4_move 204 = .ok (.bipush 9, 2) := by decide +kernel
theorem dX4_move_206 : decode cX4_move 206 = .ok (.idiv, 1) := by decide +kernel
theorem dX4_move_207 : decode cX4_move 207 = .ok (.invokevirtual 106, 3) := by decide +kernel
theorem dX4_move_210 : decode cX4_move 210 = .ok (.aload_n 0, 1) := by decide +kernel
theorem dX4_move_211 : decode cX4_move 211 = .ok (.aload_n 0, 1) := by decide +kernel
theorem dX4_move_212 : decode cX4_move 212 = .ok (.getfield 25, 3) := by decide +kernel
theorem dX4_move_215 : decode cX4_move 215 = .ok (.iload_n 1, 1) := by decide +kernel
theorem dX4_move_216 : decode cX4_move 216 = .ok (.iaload, 1) := by decide +kernel
theorem dX4_move_217 : decode cX4_move 217 = .ok (.bipush 8, 2) := by decide +kernel
theorem dX4_move_219 : decode cX4_move 219 = .ok (.aload_n 0, 1) := by decide +kernel
theorem dX4_move_220 : decode cX4_move 220 = .ok (.getfield 49, 3) := by decide +kernel
theorem dX4_move_223 : decode cX4_move 223 = .ok (.iload_n 1, 1) := by decide +kernel
theorem dX4_move_224 : decode cX4_move 224 = .ok (.iaload, 1) := by decide +kernel
theorem dX4_move_225 : decode cX4_move 225 = .ok (.bipush 9, 2) := by decide +kernel
theorem dX4_move_227 : decode cX4_move 227 = .ok (.irem, 1) := by decide +kernel
theorem dX4_move_228 : decode cX4_move 228 = .ok (.iconst 1, 1) := by decide +kernel
theorem dX4_move_229 : decode cX4_move 229 = .ok (.isub, 1) := by decide +kernel
theorem dX4_move_230 : decode cX4_move 230 = .ok (.invokevirtual 106, 3) := by decide +kernel
theorem dX4_move_233 : decode cX4_move 233 = .ok (.iinc 1 1, 3) := by decide +kernel
theorem dX4_move_236 : decode cX4_move 236 = .ok (.goto (-68), 3) := by decide +kernel
theorem dX4_move_239 : decode cX4_move 239 = .ok (.aload_n 0, 1) := by decide +kernel
theorem dX4_move_240 : decode cX4_move 240 = .ok (.getfield 124, 3) := by decide +kernel
theorem dX4_move_243 : decode cX4_move 243 = .ok (.ireturn, 1) := by decide +kernel
theorem dX4_undo_0 : decode cX4_undo 0 = .ok (.aload_n 0, 1) := by decide +kernel
theorem dX4_undo_1 : decode cX4_undo 1 = .ok (.iconst 0, 1) := by decide +kernel
theorem dX4_undo_2 : decode cX4_undo 2 = .ok (.putfield 52, 3) := by decide +kernel
theorem dX4_undo_5 : decode cX4_undo 5 = .ok (.iconst 0, 1) := by decide +kernel
theorem dX4_undo_6 : decode cX4_undo 6 = .ok (.istore_n 1, 1) := by decide +kernel
theorem dX4_undo_7 : decode cX4_undo 7 = .ok (.iconst 0, 1) := by decide +kernel
theorem dX4_undo_8 : decode cX4_undo 8 = .ok (.istore_n 2, 1) := by decide +kernel
theorem dX4_undo_9 : decode cX4_undo 9 = .ok (.iload_n 2, 1) := by decide +kernel
theorem dX4_undo_10 : decode cX4_undo 10 = .ok (.aload_n 0, 1) := by decide +kernel
theorem dX4_undo_11 : decode cX4_undo 11 = .ok (.getfield 63, 3) := by decide +kernel
theorem dX4_undo_14 : decode cX4_undo 14 = .ok (.if_icmp .ge 88, 3) := by decide +kernel
theorem dX4_undo_17 : decode cX4_undo 17 = .ok (.aload_n 0, 1) := by decide +kernel
theorem dX4_undo_18 : decode cX4_undo 18 = .ok (.iload_n 2, 1) := by decide +kernel
theorem dX4_undo_19 : decode cX4_undo 19 = .ok (.bipush 7, 2) := by decide +kernel
theorem dX4_undo_21 : decode cX4_undo 21 = .ok (.invokevirtual 70, 3) := by decide +kernel
theorem dX4_undo_24 : decode cX4_undo 24 = .ok (.iconst (-1), 1) := by decide +kernel
theorem dX4_undo_25 : decode cX4_undo 25 = .ok (.if_icmp .ne 6, 3) := by decide +kernel
theorem dX4_undo_28 : decode cX4_undo 28 = .ok (.goto 68, 3) := by decide +kernel
theorem dX4_undo_31 : decode cX4_undo 31 = .ok (.aload_n 0, 1) := by decide +kernel
theorem dX4_undo_32 : decode cX4_undo 32 = .ok (.aload_n 0, 1) := by decide +kernel
theorem dX4_undo_33 : decode cX4_undo 33 = .ok (.iload_n 2, 1) := by decide +kernel
theorem dX4_undo_34 : decode cX4_undo 34 = .ok (.bipush 7, 2) := by decide +kernel
theorem dX4_undo_36 : decode cX4_undo 36 = .ok (.invokevirtual 70, 3) := by decide +kernel
theorem dX4_undo_39 : decode cX4_undo 39 = .ok (.bipush 6, 2) := by decide +kernel
theorem dX4_undo_41 : decode cX4_undo 41 = .ok (.invokevirtual 74, 3) := by decide +kernel
theorem dX4_undo_44 : decode cX4_undo 44 = .ok (.ifCond .ne 33, 3) := by decide +kernel
theorem dX4_undo_47 : decode cX4_undo 47 = .ok (.aload_n 0, 1) := by decide +kernel
theorem dX4_undo_48 : decode cX4_undo 48 = .ok (.iload_n 2, 1) := by decide +kernel
theorem dX4_undo_49 : decode cX4_undo 49 = .ok (.bipush 8, 2) := by decide +kernel
theorem dX4_undo_51 : decode cX4_undo 51 = .ok (.invokevirtual 70, 3) := by decide +kernel
theorem dX4_undo_54 : decode cX4_undo 54 = .ok (.iconst (-1), 1) := by decide +kernel
theorem dX4_undo_55 : decode cX4_undo 55 = .ok (.if_icmp .eq 41, 3) := by decide +kernel
theorem dX4_undo_58 : decode cX4_undo 58 = .ok (.aload_n 0, 1) := by decide +kernel
theorem dX4_undo_59 : decode cX4_undo 59 = .ok (.aload_n 0, 1) := by decide +kernel
theorem dX4_undo_60 : decode cX4_undo 60 = .ok (.iload_n 2, 1) := by decide +kernel
theorem dX4_undo_61 : decode cX4_undo 61 = .ok (.bipush 8, 2) := by decide +kernel
theorem dX4_undo_63 : decode cX4_undo 63 = .ok (.invokevirtual 70, 3) := by decide +kernel
theorem dX4_undo_66 : decode cX4_undo 66 = .ok (.bipush 6, 2) := by decide +kernel
theorem dX4_undo_68 : decode cX4_undo 68 = .ok (.invokevirtual 74, 3) := by decide +kernel
theorem dX4_undo_71 : decode cX4_undo 71 = .ok (.ifCond .ne 6, 3) := by decide +kernel
theorem dX4_undo_74 : decode cX4_undo 74 = .ok (.goto 22, 3) := by decide +kernel
theorem dX4_undo_77 : decode cX4_undo 77 = .ok (.aload_n 0, 1) := by decide +kernel
theorem dX4_undo_78 : decode cX4_undo 78 = .ok (.iload_n 2, 1) := by decide +kernel
theorem dX4_undo_79 : decode cX4_undo 79 = .ok (.bipush 7, 2) := by decide +kernel
theorem dX4_undo_81 : decode cX4_undo 81 = .ok (.iconst (-1), 1) := by decide +kernel
theorem dX4_undo_82 : decode cX4_undo 82 = .ok (.invokevirtual 106, 3) := by decide +kernel
theorem dX4_undo_85 : decode cX4_undo 85 = .ok (.aload_n 0, 1) := by decide +kernel
theorem dX4_undo_86 : decode cX4_undo 86 = .ok (.iload_n 2, 1) := by decide +kernel
theorem dX4_undo_87 : decode cX4_undo 87 = .ok (.bipush 8, 2) := by decide +kernel
theorem dX4_undo_89 : decode cX4_undo 89 = .ok (.iconst (-1), 1) := by decide +kernel
theorem dX4_undo_90 : decode cX4_undo 90 = .ok (.invokevirtual 106, 3) := by decide +kernel
theorem dX4_undo_93 : decode cX4_undo 93 = .ok (.iinc 1 1, 3) := by decide +kernel
theorem dX4_undo_96 : decode cX4_undo 96 = .ok (.iinc 2 1, 3) := by decide +kernel
theorem dX4_undo_99 : decode cX4_undo 99 = .ok (.goto (-90), 3) := by decide +kernel
theorem dX4_undo_102 : decode cX4_undo 102 = .ok (.iload_n 1, 1) := by decide +kernel
theorem dX4_undo_103 : decode cX4_undo 103 = .ok (.ireturn, 1) := by decide +kernel
