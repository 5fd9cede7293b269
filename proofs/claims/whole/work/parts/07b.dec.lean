theorem dd_X11_buyerOf_79 : decode mb_X11_buyerOf 79 = .ok (.iload_n 1, 1) := by decide +kernel
theorem dd_X11_buyerOf_80 : decode mb_X11_buyerOf 80 = .ok (.iaload, 1) := by decide +kernel
theorem dd_X11_buyerOf_81 : decode mb_X11_buyerOf 81 = .ok (.ireturn, 1) := by decide +kernel
theorem dd_X11_buyerOf_82 : decode mb_X11_buyerOf 82 = .ok (.aload_n 0, 1) := by decide +kernel
theorem dd_X11_buyerOf_83 : decode mb_X11_buyerOf 83 = .ok (.getfield 29, 3) := by decide +kernel
theorem dd_X11_buyerOf_86 : decode mb_X11_buyerOf 86 = .ok (.getfield 219, 3) := by decide +kernel
theorem dd_X11_buyerOf_89 : decode mb_X11_buyerOf 89 = .ok (.getfield 236, 3) := by decide +kernel
theorem dd_X11_buyerOf_92 : decode mb_X11_buyerOf 92 = .ok (.iload_n 1, 1) := by decide +kernel
theorem dd_X11_buyerOf_93 : decode mb_X11_buyerOf 93 = .ok (.iaload, 1) := by decide +kernel
theorem dd_X11_buyerOf_94 : decode mb_X11_buyerOf 94 = .ok (.ireturn, 1) := by decide +kernel
theorem dd_X11_buyerOf_95 : decode mb_X11_buyerOf 95 = .ok (.aload_n 0, 1) := by decide +kernel
theorem dd_X11_buyerOf_96 : decode mb_X11_buyerOf 96 = .ok (.getfield 29, 3) := by decide +kernel
theorem dd_X11_buyerOf_99 : decode mb_X11_buyerOf 99 = .ok (.getfield 219, 3) := by decide +kernel
theorem dd_X11_buyerOf_102 : decode mb_X11_buyerOf 102 = .ok (.getfield 239, 3) := by decide +kernel
theorem dd_X11_buyerOf_105 : decode mb_X11_buyerOf 105 = .ok (.iload_n 1, 1) := by decide +kernel
theorem dd_X11_buyerOf_106 : decode mb_X11_buyerOf 106 = .ok (.iaload, 1) := by decide +kernel
theorem dd_X11_buyerOf_107 : decode mb_X11_buyerOf 107 = .ok (.ireturn, 1) := by decide +kernel
theorem dd_X11_buyerOf_108 : decode mb_X11_buyerOf 108 = .ok (.aload_n 0, 1) := by decide +kernel
theorem dd_X11_buyerOf_109 : decode mb_X11_buyerOf 109 = .ok (.getfield 29, 3) := by decide +kernel
theorem dd_X11_buyerOf_112 : decode mb_X11_buyerOf 112 = .ok (.getfield 219, 3) := by decide +kernel
theorem dd_X11_buyerOf_115 : decode mb_X11_buyerOf 115 = .ok (.getfield 242, 3) := by decide +kernel
theorem dd_X11_buyerOf_118 : decode mb_X11_buyerOf 118 = .ok (.iload_n 1, 1) := by decide +kernel
theorem dd_X11_buyerOf_119 : decode mb_X11_buyerOf 119 = .ok (.iaload, 1) := by decide +kernel
theorem dd_X11_buyerOf_120 : decode mb_X11_buyerOf 120 = .ok (.ireturn, 1) := by decide +kernel
theorem dd_X11_buyerOf_121 : decode mb_X11_buyerOf 121 = .ok (.aload_n 0, 1) := by decide +kernel
theorem dd_X11_buyerOf_122 : decode mb_X11_buyerOf 122 = .ok (.bipush (-2), 2) := by decide +kernel
theorem dd_X11_buyerOf_124 : decode mb_X11_buyerOf 124 = .ok (.invokevirtual 63, 3) := by decide +kernel
theorem dd_X11_buyerOf_127 : decode mb_X11_buyerOf 127 = .ok (.ireturn, 1) := by decide +kernel
theorem dd_X11_chip_0 : decode mb_X11_chip 0 = .ok (.aload_n 0, 1) := by decide +kernel
theorem dd_X11_chip_1 : decode mb_X11_chip 1 = .ok (.getfield 29, 3) := by decide +kernel
theorem dd_X11_chip_4 : decode mb_X11_chip 4 = .ok (.getfield 113, 3) := by decide +kernel
theorem dd_X11_chip_7 : decode mb_X11_chip 7 = .ok (.iload_n 1, 1) := by decide +kernel
theorem dd_X11_chip_8 : decode mb_X11_chip 8 = .ok (.invokevirtual 117, 3) := by decide +kernel
theorem dd_X11_chip_11 : decode mb_X11_chip 11 = .ok (.ifCond .eq 13, 3) := by decide +kernel
theorem dd_X11_chip_14 : decode mb_X11_chip 14 = .ok (.iload_n 2, 1) := by decide +kernel
theorem dd_X11_chip_15 : decode mb_X11_chip 15 = .ok (.iconst 0, 1) := by decide +kernel
theorem dd_X11_chip_16 : decode mb_X11_chip 16 = .ok (.bipush 7, 2) := by decide +kernel
theorem dd_X11_chip_18 : decode mb_X11_chip 18 = .ok (.invokestatic 59, 3) := by decide +kernel
theorem dd_X11_chip_21 : decode mb_X11_chip 21 = .ok (.ifCond .ne 10, 3) := by decide +kernel
theorem dd_X11_chip_24 : decode mb_X11_chip 24 = .ok (.aload_n 0, 1) := by decide +kernel
theorem dd_X11_chip_25 : decode mb_X11_chip 25 = .ok (.bipush (-2), 2) := by decide +kernel
theorem dd_X11_chip_27 : decode mb_X11_chip 27 = .ok (.invokevirtual 63, 3) := by decide +kernel
theorem dd_X11_chip_30 : decode mb_X11_chip 30 = .ok (.ireturn, 1) := by decide +kernel
theorem dd_X11_chip_31 : decode mb_X11_chip 31 = .ok (.aload_n 0, 1) := by decide +kernel
theorem dd_X11_chip_32 : decode mb_X11_chip 32 = .ok (.getfield 29, 3) := by decide +kernel
theorem dd_X11_chip_35 : decode mb_X11_chip 35 = .ok (.getfield 113, 3) := by decide +kernel
theorem dd_X11_chip_38 : decode mb_X11_chip 38 = .ok (.getfield 147, 3) := by decide +kernel
theorem dd_X11_chip_41 : decode mb_X11_chip 41 = .ok (.iload_n 1, 1) := by decide +kernel
theorem dd_X11_chip_42 : decode mb_X11_chip 42 = .ok (.iaload, 1) := by decide +kernel
theorem dd_X11_chip_43 : decode mb_X11_chip 43 = .ok (.iload_n 2, 1) := by decide +kernel
theorem dd_X11_chip_44 : decode mb_X11_chip 44 = .ok (.invokestatic 162, 3) := by decide +kernel
theorem dd_X11_chip_47 : decode mb_X11_chip 47 = .ok (.ifCond .eq 5, 3) := by decide +kernel
theorem dd_X11_chip_50 : decode mb_X11_chip 50 = .ok (.iconst 0, 1) := by decide +kernel
theorem dd_X11_chip_51 : decode mb_X11_chip 51 = .ok (.ireturn, 1) := by decide +kernel
theorem dd_X11_chip_52 : decode mb_X11_chip 52 = .ok (.aload_n 0, 1) := by decide +kernel
theorem dd_X11_chip_53 : decode mb_X11_chip 53 = .ok (.getfield 29, 3) := by decide +kernel
theorem dd_X11_chip_56 : decode mb_X11_chip 56 = .ok (.getfield 113, 3) := by decide +kernel
theorem dd_X11_chip_59 : decode mb_X11_chip 59 = .ok (.getfield 147, 3) := by decide +kernel
theorem dd_X11_chip_62 : decode mb_X11_chip 62 = .ok (.iload_n 1, 1) := by decide +kernel
theorem dd_X11_chip_63 : decode mb_X11_chip 63 = .ok (.dup2, 1) := by decide +kernel
theorem dd_X11_chip_64 : decode mb_X11_chip 64 = .ok (.iaload, 1) := by decide +kernel
theorem dd_X11_chip_65 : decode mb_X11_chip 65 = .ok (.iconst 1, 1) := by decide +kernel
theorem dd_X11_chip_66 : decode mb_X11_chip 66 = .ok (.iload_n 2, 1) := by decide +kernel
theorem dd_X11_chip_67 : decode mb_X11_chip 67 = .ok (.ishl, 1) := by decide +kernel
theorem dd_X11_chip_68 : decode mb_X11_chip 68 = .ok (.ior, 1) := by decide +kernel
theorem dd_X11_chip_69 : decode mb_X11_chip 69 = .ok (.iastore, 1) := by decide +kernel
theorem dd_X11_chip_70 : decode mb_X11_chip 70 = .ok (.iconst 1, 1) := by decide +kernel
theorem dd_X11_chip_71 : decode mb_X11_chip 71 = .ok (.ireturn, 1) := by decide +kernel
theorem dd_X11_copy_0 : decode mb_X11_copy 0 = .ok (.iload_n 1, 1) := by decide +kernel
theorem dd_X11_copy_1 : decode mb_X11_copy 1 = .ok (.invokestatic 55, 3) := by decide +kernel
theorem dd_X11_copy_4 : decode mb_X11_copy 4 = .ok (.ifCond .eq 10, 3) := by decide +kernel
theorem dd_X11_copy_7 : decode mb_X11_copy 7 = .ok (.iload_n 2, 1) := by decide +kernel
theorem dd_X11_copy_8 : decode mb_X11_copy 8 = .ok (.invokestatic 55, 3) := by decide +kernel
theorem dd_X11_copy_11 : decode mb_X11_copy 11 = .ok (.ifCond .ne 10, 3) := by decide +kernel
theorem dd_X11_copy_14 : decode mb_X11_copy 14 = .ok (.aload_n 0, 1) := by decide +kernel
theorem dd_X11_copy_15 : decode mb_X11_copy 15 = .ok (.bipush (-2), 2) := by decide +kernel
theorem dd_X11_copy_17 : decode mb_X11_copy 17 = .ok (.invokevirtual 63, 3) := by decide +kernel
theorem dd_X11_copy_20 : decode mb_X11_copy 20 = .ok (.ireturn, 1) := by decide +kernel
theorem dd_X11_copy_21 : decode mb_X11_copy 21 = .ok (.aload_n 0, 1) := by decide +kernel
theorem dd_X11_copy_22 : decode mb_X11_copy 22 = .ok (.getfield 11, 3) := by decide +kernel
theorem dd_X11_copy_25 : decode mb_X11_copy 25 = .ok (.iload_n 1, 1) := by decide +kernel
theorem dd_X11_copy_26 : decode mb_X11_copy 26 = .ok (.aaload, 1) := by decide +kernel
theorem dd_X11_copy_27 : decode mb_X11_copy 27 = .ok (.astore 6, 2) := by decide +kernel
theorem dd_X11_copy_29 : decode mb_X11_copy 29 = .ok (.aload_n 0, 1) := by decide +kernel
theorem dd_X11_copy_30 : decode mb_X11_copy 30 = .ok (.getfield 11, 3) := by decide +kernel
theorem dd_X11_copy_33 : decode mb_X11_copy 33 = .ok (.iload_n 2, 1) := by decide +kernel
theorem dd_X11_copy_34 : decode mb_X11_copy 34 = .ok (.aaload, 1) := by decide +kernel
theorem dd_X11_copy_35 : decode mb_X11_copy 35 = .ok (.astore 7, 2) := by decide +kernel
theorem dd_X11_copy_37 : decode mb_X11_copy 37 = .ok (.aload 6, 2) := by decide +kernel
theorem dd_X11_copy_39 : decode mb_X11_copy 39 = .ok (.invokevirtual 82, 3) := by decide +kernel
theorem dd_X11_copy_42 : decode mb_X11_copy 42 = .ok (.ifCond .ne 11, 3) := by decide +kernel
theorem dd_X11_copy_45 : decode mb_X11_copy 45 = .ok (.aload 7, 2) := by decide +kernel
theorem dd_X11_copy_47 : decode mb_X11_copy 47 = .ok (.invokevirtual 82, 3) := by decide +kernel
theorem dd_X11_copy_50 : decode mb_X11_copy 50 = .ok (.ifCond .eq 10, 3) := by decide +kernel
theorem dd_X11_copy_53 : decode mb_X11_copy 53 = .ok (.aload_n 0, 1) := by decide +kernel
theorem dd_X11_copy_54 : decode mb_X11_copy 54 = .ok (.bipush (-3), 2) := by decide +kernel
theorem dd_X11_copy_56 : decode mb_X11_copy 56 = .ok (.invokevirtual 63, 3) := by decide +kernel
theorem dd_X11_copy_59 : decode mb_X11_copy 59 = .ok (.ireturn, 1) := by decide +kernel
theorem dd_X11_copy_60 : decode mb_X11_copy 60 = .ok (.aload 6, 2) := by decide +kernel
theorem dd_X11_copy_62 : decode mb_X11_copy 62 = .ok (.invokevirtual 86, 3) := by decide +kernel
theorem dd_X11_copy_65 : decode mb_X11_copy 65 = .ok (.ifCond .eq 31, 3) := by decide +kernel
theorem dd_X11_copy_68 : decode mb_X11_copy 68 = .ok (.aload 7, 2) := by decide +kernel
theorem dd_X11_copy_70 : decode mb_X11_copy 70 = .ok (.invokevirtual 86, 3) := by decide +kernel
theorem dd_X11_copy_73 : decode mb_X11_copy 73 = .ok (.ifCond .eq 23, 3) := by decide +kernel
theorem dd_X11_copy_76 : decode mb_X11_copy 76 = .ok (.aload 6, 2) := by decide +kernel
theorem dd_X11_copy_78 : decode mb_X11_copy 78 = .ok (.getfield 89, 3) := by decide +kernel
theorem dd_X11_copy_81 : decode mb_X11_copy 81 = .ok (.aload 7, 2) := by decide +kernel
theorem dd_X11_copy_83 : decode mb_X11_copy 83 = .ok (.getfield 89, 3) := by decide +kernel
theorem dd_X11_copy_86 : decode mb_X11_copy 86 = .ok (.if_icmp .eq 10, 3) := by decide +kernel
theorem dd_X11_copy_89 : decode mb_X11_copy 89 = .ok (.aload_n 0, 1) := by decide +kernel
theorem dd_X11_copy_90 : decode mb_X11_copy 90 = .ok (.bipush (-3), 2) := by decide +kernel
theorem dd_X11_copy_92 : decode mb_X11_copy 92 = .ok (.invokevirtual 63, 3) := by decide +kernel
theorem dd_X11_copy_95 : decode mb_X11_copy 95 = .ok (.ireturn, 1) := by decide +kernel
theorem dd_X11_copy_96 : decode mb_X11_copy 96 = .ok (.aload 6, 2) := by decide +kernel
theorem dd_X11_copy_98 : decode mb_X11_copy 98 = .ok (.invokevirtual 92, 3) := by decide +kernel
theorem dd_X11_copy_101 : decode mb_X11_copy 101 = .ok (.ifCond .ne 11, 3) := by decide +kernel
theorem dd_X11_copy_104 : decode mb_X11_copy 104 = .ok (.aload 7, 2) := by decide +kernel
theorem dd_X11_copy_106 : decode mb_X11_copy 106 = .ok (.invokevirtual 92, 3) := by decide +kernel
theorem dd_X11_copy_109 : decode mb_X11_copy 109 = .ok (.ifCond .eq 10, 3) := by decide +kernel
theorem dd_X11_copy_112 : decode mb_X11_copy 112 = .ok (.aload_n 0, 1) := by decide +kernel
theorem dd_X11_copy_113 : decode mb_X11_copy 113 = .ok (.bipush (-4), 2) := by decide +kernel
theorem dd_X11_copy_115 : decode mb_X11_copy 115 = .ok (.invokevirtual 63, 3) := by decide +kernel
theorem dd_X11_copy_118 : decode mb_X11_copy 118 = .ok (.ireturn, 1) := by decide +kernel
theorem dd_X11_copy_119 : decode mb_X11_copy 119 = .ok (.aload 6, 2) := by decide +kernel
theorem dd_X11_copy_121 : decode mb_X11_copy 121 = .ok (.iload_n 3, 1) := by decide +kernel
theorem dd_X11_copy_122 : decode mb_X11_copy 122 = .ok (.iload 5, 2) := by decide +kernel
theorem dd_X11_copy_124 : decode mb_X11_copy 124 = .ok (.invokevirtual 95, 3) := by decide +kernel
theorem dd_X11_copy_127 : decode mb_X11_copy 127 = .ok (.ifCond .eq 15, 3) := by decide +kernel
theorem dd_X11_copy_130 : decode mb_X11_copy 130 = .ok (.aload 7, 2) := by decide +kernel
theorem dd_X11_copy_132 : decode mb_X11_copy 132 = .ok (.iload 4, 2) := by decide +kernel
theorem dd_X11_copy_134 : decode mb_X11_copy 134 = .ok (.iload 5, 2) := by decide +kernel
theorem dd_X11_copy_136 : decode mb_X11_copy 136 = .ok (.invokevirtual 95, 3) := by decide +kernel
theorem dd_X11_copy_139 : decode mb_X11_copy 139 = .ok (.ifCond .ne 10, 3) := by decide +kernel
theorem dd_X11_copy_142 : decode mb_X11_copy 142 = .ok (.aload_n 0, 1) := by decide +kernel
theorem dd_X11_copy_143 : decode mb_X11_copy 143 = .ok (.bipush (-2), 2) := by decide +kernel
theorem dd_X11_copy_145 : decode mb_X11_copy 145 = .ok (.invokevirtual 63, 3) := by decide +kernel
theorem dd_X11_copy_148 : decode mb_X11_copy 148 = .ok (.ireturn, 1) := by decide +kernel
theorem dd_X11_copy_149 : decode mb_X11_copy 149 = .ok (.aload 6, 2) := by decide +kernel
theorem dd_X11_copy_151 : decode mb_X11_copy 151 = .ok (.getfield 99, 3) := by decide +kernel
theorem dd_X11_copy_154 : decode mb_X11_copy 154 = .ok (.iload_n 3, 1) := by decide +kernel
theorem dd_X11_copy_155 : decode mb_X11_copy 155 = .ok (.aload 7, 2) := by decide +kernel
theorem dd_X11_copy_157 : decode mb_X11_copy 157 = .ok (.getfield 99, 3) := by decide +kernel
theorem dd_X11_copy_160 : decode mb_X11_copy 160 = .ok (.iload 4, 2) := by decide +kernel
theorem dd_X11_copy_162 : decode mb_X11_copy 162 = .ok (.iload 5, 2) := by decide +kernel
theorem dd_X11_copy_164 : decode mb_X11_copy 164 = .ok (.invokestatic 103, 3) := by decide +kernel
theorem dd_X11_copy_167 : decode mb_X11_copy 167 = .ok (.iload 5, 2) := by decide +kernel
theorem dd_X11_copy_169 : decode mb_X11_copy 169 = .ok (.ireturn, 1) := by decide +kernel
theorem dd_X11_costs_0 : decode mb_X11_costs 0 = .ok (.aload_n 0, 1) := by decide +kernel
theorem dd_X11_costs_1 : decode mb_X11_costs 1 = .ok (.getfield 29, 3) := by decide +kernel
theorem dd_X11_costs_4 : decode mb_X11_costs 4 = .ok (.getfield 113, 3) := by decide +kernel
theorem dd_X11_costs_7 : decode mb_X11_costs 7 = .ok (.iload_n 1, 1) := by decide +kernel
theorem dd_X11_costs_8 : decode mb_X11_costs 8 = .ok (.invokevirtual 117, 3) := by decide +kernel
theorem dd_X11_costs_11 : decode mb_X11_costs 11 = .ok (.ifCond .eq 10, 3) := by decide +kernel
theorem dd_X11_costs_14 : decode mb_X11_costs 14 = .ok (.iload_n 2, 1) := by decide +kernel
theorem dd_X11_costs_15 : decode mb_X11_costs 15 = .ok (.invokestatic 216, 3) := by decide +kernel
theorem dd_X11_costs_18 : decode mb_X11_costs 18 = .ok (.ifCond .ne 10, 3) := by decide +kernel
theorem dd_X11_costs_21 : decode mb_X11_costs 21 = .ok (.aload_n 0, 1) := by decide +kernel
theorem dd_X11_costs_22 : decode mb_X11_costs 22 = .ok (.bipush (-2), 2) := by decide +kernel
theorem dd_X11_costs_24 : decode mb_X11_costs 24 = .ok (.invokevirtual 63, 3) := by decide +kernel
theorem dd_X11_costs_27 : decode mb_X11_costs 27 = .ok (.ireturn, 1) := by decide +kernel
theorem dd_X11_costs_28 : decode mb_X11_costs 28 = .ok (.aload_n 0, 1) := by decide +kernel
theorem dd_X11_costs_29 : decode mb_X11_costs 29 = .ok (.getfield 29, 3) := by decide +kernel
theorem dd_X11_costs_32 : decode mb_X11_costs 32 = .ok (.getfield 113, 3) := by decide +kernel
theorem dd_X11_costs_35 : decode mb_X11_costs 35 = .ok (.getfield 153, 3) := by decide +kernel
theorem dd_X11_costs_38 : decode mb_X11_costs 38 = .ok (.iload_n 1, 1) := by decide +kernel
theorem dd_X11_costs_39 : decode mb_X11_costs 39 = .ok (.iaload, 1) := by decide +kernel
theorem dd_X11_costs_40 : decode mb_X11_costs 40 = .ok (.iconst (-1), 1) := by decide +kernel
theorem dd_X11_costs_41 : decode mb_X11_costs 41 = .ok (.if_icmp .ne 5, 3) := by decide +kernel
theorem dd_X11_costs_44 : decode mb_X11_costs 44 = .ok (.iconst (-1), 1) := by decide +kernel
theorem dd_X11_costs_45 : decode mb_X11_costs 45 = .ok (.ireturn, 1) := by decide +kernel
theorem dd_X11_costs_46 : decode mb_X11_costs 46 = .ok (.aload_n 0, 1) := by decide +kernel
theorem dd_X11_costs_47 : decode mb_X11_costs 47 = .ok (.getfield 29, 3) := by decide +kernel
theorem dd_X11_costs_50 : decode mb_X11_costs 50 = .ok (.getfield 113, 3) := by decide +kernel
theorem dd_X11_costs_53 : decode mb_X11_costs 53 = .ok (.getfield 153, 3) := by decide +kernel
theorem dd_X11_costs_56 : decode mb_X11_costs 56 = .ok (.iload_n 1, 1) := by decide +kernel
theorem dd_X11_costs_57 : decode mb_X11_costs 57 = .ok (.iaload, 1) := by decide +kernel
theorem dd_X11_costs_58 : decode mb_X11_costs 58 = .ok (.iload_n 2, 1) := by decide +kernel
theorem dd_X11_costs_59 : decode mb_X11_costs 59 = .ok (.aload_n 0, 1) := by decide +kernel
theorem dd_X11_costs_60 : decode mb_X11_costs 60 = .ok (.getfield 29, 3) := by decide +kernel
theorem dd_X11_costs_63 : decode mb_X11_costs 63 = .ok (.getfield 245, 3) := by decide +kernel
theorem dd_X11_costs_66 : decode mb_X11_costs 66 = .ok (.aload_n 0, 1) := by decide +kernel
theorem dd_X11_costs_67 : decode mb_X11_costs 67 = .ok (.getfield 29, 3) := by decide +kernel
theorem dd_X11_costs_70 : decode mb_X11_costs 70 = .ok (.getfield 248, 3) := by decide +kernel
theorem dd_X11_costs_73 : decode mb_X11_costs 73 = .ok (.invokestatic 251, 3) := by decide +kernel
theorem dd_X11_costs_76 : decode mb_X11_costs 76 = .ok (.invokestatic 254, 3) := by decide +kernel
theorem dd_X11_costs_79 : decode mb_X11_costs 79 = .ok (.ireturn, 1) := by decide +kernel
theorem dd_X11_day_0 : decode mb_X11_day 0 = .ok (.iload_n 1, 1) := by decide +kernel
theorem dd_X11_day_1 : decode mb_X11_day 1 = .ok (.tableswitch 80 0 3 #[31, 39, 47, 69], 31) := by decide +kernel
theorem dd_X11_day_32 : decode mb_X11_day 32 = .ok (.aload_n 0, 1) := by decide +kernel
theorem dd_X11_day_33 : decode mb_X11_day 33 = .ok (.getfield 29, 3) := by decide +kernel
theorem dd_X11_day_36 : decode mb_X11_day 36 = .ok (.getfield 282, 3) := by decide +kernel
theorem dd_X11_day_39 : decode mb_X11_day 39 = .ok (.ireturn, 1) := by decide +kernel
theorem dd_X11_day_40 : decode mb_X11_day 40 = .ok (.aload_n 0, 1) := by decide +kernel
theorem dd_X11_day_41 : decode mb_X11_day 41 = .ok (.getfield 29, 3) := by decide +kernel
theorem dd_X11_day_44 : decode mb_X11_day 44 = .ok (.getfield 293, 3) := by decide +kernel
theorem dd_X11_day_47 : decode mb_X11_day 47 = .ok (.ireturn, 1) := by decide +kernel
theorem dd_X11_day_48 : decode mb_X11_day 48 = .ok (.aload_n 0, 1) := by decide +kernel
theorem dd_X11_day_49 : decode mb_X11_day 49 = .ok (.getfield 29, 3) := by decide +kernel
theorem dd_X11_day_52 : decode mb_X11_day 52 = .ok (.getfield 113, 3) := by decide +kernel
theorem dd_X11_day_55 : decode mb_X11_day 55 = .ok (.getfield 132, 3) := by decide +kernel
theorem dd_X11_day_58 : decode mb_X11_day 58 = .ok (.aload_n 0, 1) := by decide +kernel
theorem dd_X11_day_59 : decode mb_X11_day 59 = .ok (.getfield 29, 3) := by decide +kernel
theorem dd_X11_day_62 : decode mb_X11_day 62 = .ok (.getfield 113, 3) := by decide +kernel
theorem dd_X11_day_65 : decode mb_X11_day 65 = .ok (.invokevirtual 296, 3) := by decide +kernel
theorem dd_X11_day_68 : decode mb_X11_day 68 = .ok (.isub, 1) := by decide +kernel
theorem dd_X11_day_69 : decode mb_X11_day 69 = .ok (.ireturn, 1) := by decide +kernel
theorem dd_X11_day_70 : decode mb_X11_day 70 = .ok (.aload_n 0, 1) := by decide +kernel
theorem dd_X11_day_71 : decode mb_X11_day 71 = .ok (.getfield 29, 3) := by decide +kernel
theorem dd_X11_day_74 : decode mb_X11_day 74 = .ok (.getfield 113, 3) := by decide +kernel
theorem dd_X11_day_77 : decode mb_X11_day 77 = .ok (.invokevirtual 296, 3) := by decide +kernel
theorem dd_X11_day_80 : decode mb_X11_day 80 = .ok (.ireturn, 1) := by decide +kernel
theorem dd_X11_day_81 : decode mb_X11_day 81 = .ok (.aload_n 0, 1) := by decide +kernel
theorem dd_X11_day_82 : decode mb_X11_day 82 = .ok (.bipush (-2), 2) := by decide +kernel
theorem dd_X11_day_84 : decode mb_X11_day 84 = .ok (.invokevirtual 63, 3) := by decide +kernel
theorem dd_X11_day_87 : decode mb_X11_day 87 = .ok (.ireturn, 1) := by decide +kernel
theorem dd_X11_element_0 : decode mb_X11_element 0 = .ok (.iload_n 1, 1) := by decide +kernel
theorem dd_X11_element_1 : decode mb_X11_element 1 = .ok (.invokestatic 55, 3) := by decide +kernel
theorem dd_X11_element_4 : decode mb_X11_element 4 = .ok (.ifCond .eq 16, 3) := by decide +kernel
theorem dd_X11_element_7 : decode mb_X11_element 7 = .ok (.aload_n 0, 1) := by decide +kernel
theorem dd_X11_element_8 : decode mb_X11_element 8 = .ok (.getfield 11, 3) := by decide +kernel
theorem dd_X11_element_11 : decode mb_X11_element 11 = .ok (.iload_n 1, 1) := by decide +kernel
theorem dd_X11_element_12 : decode mb_X11_element 12 = .ok (.aaload, 1) := by decide +kernel
theorem dd_X11_element_13 : decode mb_X11_element 13 = .ok (.iload_n 2, 1) := by decide +kernel
theorem dd_X11_element_14 : decode mb_X11_element 14 = .ok (.invokevirtual 109, 3) := by decide +kernel
theorem dd_X11_element_17 : decode mb_X11_element 17 = .ok (.goto 4, 3) := by decide +kernel
theorem dd_X11_element_20 : decode mb_X11_element 20 = .ok (.lconst 0, 1) := by decide +kernel
theorem dd_X11_element_21 : decode mb_X11_element 21 = .ok (.lreturn, 1) := by decide +kernel
theorem dd_X11_feed_0 : decode mb_X11_feed 0 = .ok (.iload_n 2, 1) := by decide +kernel
theorem dd_X11_feed_1 : decode mb_X11_feed 1 = .ok (.iconst 1, 1) := by decide +kernel
theorem dd_X11_feed_2 : decode mb_X11_feed 2 = .ok (.iconst 4, 1) := by decide +kernel
theorem dd_X11_feed_3 : decode mb_X11_feed 3 = .ok (.invokestatic 59, 3) := by decide +kernel
theorem dd_X11_feed_6 : decode mb_X11_feed 6 = .ok (.ifCond .ne 10, 3) := by decide +kernel
theorem dd_X11_feed_9 : decode mb_X11_feed 9 = .ok (.aload_n 0, 1) := by decide +kernel
theorem dd_X11_feed_10 : decode mb_X11_feed 10 = .ok (.bipush (-2), 2) := by decide +kernel
theorem dd_X11_feed_12 : decode mb_X11_feed 12 = .ok (.invokevirtual 63, 3) := by decide +kernel
theorem dd_X11_feed_15 : decode mb_X11_feed 15 = .ok (.ireturn, 1) := by decide +kernel
theorem dd_X11_feed_16 : decode mb_X11_feed 16 = .ok (.aload_n 0, 1) := by decide +kernel
theorem dd_X11_feed_17 : decode mb_X11_feed 17 = .ok (.getfield 22, 3) := by decide +kernel
theorem dd_X11_feed_20 : decode mb_X11_feed 20 = .ok (.getfield 188, 3) := by decide +kernel
theorem dd_X11_feed_23 : decode mb_X11_feed 23 = .ok (.iload_n 2, 1) := by decide +kernel
theorem dd_X11_feed_24 : decode mb_X11_feed 24 = .ok (.iadd, 1) := by decide +kernel
theorem dd_X11_feed_25 : decode mb_X11_feed 25 = .ok (.bipush 120, 2) := by decide +kernel
theorem dd_X11_feed_27 : decode mb_X11_feed 27 = .ok (.if_icmp .le 10, 3) := by decide +kernel
theorem dd_X11_feed_30 : decode mb_X11_feed 30 = .ok (.aload_n 0, 1) := by decide +kernel
theorem dd_X11_feed_31 : decode mb_X11_feed 31 = .ok (.bipush (-6), 2) := by decide +kernel
theorem dd_X11_feed_33 : decode mb_X11_feed 33 = .ok (.invokevirtual 63, 3) := by decide +kernel
theorem dd_X11_feed_36 : decode mb_X11_feed 36 = .ok (.ireturn, 1) := by decide +kernel
theorem dd_X11_feed_37 : decode mb_X11_feed 37 = .ok (.aload_n 0, 1) := by decide +kernel
theorem dd_X11_feed_38 : decode mb_X11_feed 38 = .ok (.getfield 22, 3) := by decide +kernel
theorem dd_X11_feed_41 : decode mb_X11_feed 41 = .ok (.iload_n 1, 1) := by decide +kernel
theorem dd_X11_feed_42 : decode mb_X11_feed 42 = .ok (.iload_n 2, 1) := by decide +kernel
theorem dd_X11_feed_43 : decode mb_X11_feed 43 = .ok (.invokevirtual 189, 3) := by decide +kernel
theorem dd_X11_feed_46 : decode mb_X11_feed 46 = .ok (.aload_n 0, 1) := by decide +kernel
theorem dd_X11_feed_47 : decode mb_X11_feed 47 = .ok (.getfield 22, 3) := by decide +kernel
theorem dd_X11_feed_50 : decode mb_X11_feed 50 = .ok (.getfield 188, 3) := by decide +kernel
theorem dd_X11_feed_53 : decode mb_X11_feed 53 = .ok (.ireturn, 1) := by decide +kernel
theorem dd_X11_go_0 : decode mb_X11_go 0 = .ok (.iload_n 1, 1) := by decide +kernel
theorem dd_X11_go_1 : decode mb_X11_go 1 = .ok (.iconst 1, 1) := by decide +kernel
theorem dd_X11_go_2 : decode mb_X11_go 2 = .ok (.bipush 12, 2) := by decide +kernel
theorem dd_X11_go_4 : decode mb_X11_go 4 = .ok (.invokestatic 59, 3) := by decide +kernel
theorem dd_X11_go_7 : decode mb_X11_go 7 = .ok (.ifCond .ne 10, 3) := by decide +kernel
theorem dd_X11_go_10 : decode mb_X11_go 10 = .ok (.aload_n 0, 1) := by decide +kernel
theorem dd_X11_go_11 : decode mb_X11_go 11 = .ok (.bipush (-2), 2) := by decide +kernel
theorem dd_X11_go_13 : decode mb_X11_go 13 = .ok (.invokevirtual 63, 3) := by decide +kernel
theorem dd_X11_go_16 : decode mb_X11_go 16 = .ok (.ireturn, 1) := by decide +kernel
theorem dd_X11_go_17 : decode mb_X11_go 17 = .ok (.aload_n 0, 1) := by decide +kernel
theorem dd_X11_go_18 : decode mb_X11_go 18 = .ok (.getfield 29, 3) := by decide +kernel
theorem dd_X11_go_21 : decode mb_X11_go 21 = .ok (.getfield 282, 3) := by decide +kernel
theorem dd_X11_go_24 : decode mb_X11_go 24 = .ok (.bipush 12, 2) := by decide +kernel
theorem dd_X11_go_26 : decode mb_X11_go 26 = .ok (.if_icmp .lt 10, 3) := by decide +kernel
theorem dd_X11_go_29 : decode mb_X11_go 29 = .ok (.aload_n 0, 1) := by decide +kernel
theorem dd_X11_go_30 : decode mb_X11_go 30 = .ok (.bipush (-5), 2) := by decide +kernel
theorem dd_X11_go_32 : decode mb_X11_go 32 = .ok (.invokevirtual 63, 3) := by decide +kernel
theorem dd_X11_go_35 : decode mb_X11_go 35 = .ok (.ireturn, 1) := by decide +kernel
theorem dd_X11_go_36 : decode mb_X11_go 36 = .ok (.bipush 12, 2) := by decide +kernel
theorem dd_X11_go_38 : decode mb_X11_go 38 = .ok (.aload_n 0, 1) := by decide +kernel
theorem dd_X11_go_39 : decode mb_X11_go 39 = .ok (.getfield 29, 3) := by decide +kernel
theorem dd_X11_go_42 : decode mb_X11_go 42 = .ok (.getfield 282, 3) := by decide +kernel
theorem dd_X11_go_45 : decode mb_X11_go 45 = .ok (.iload_n 1, 1) := by decide +kernel
theorem dd_X11_go_46 : decode mb_X11_go 46 = .ok (.iadd, 1) := by decide +kernel
theorem dd_X11_go_47 : decode mb_X11_go 47 = .ok (.invokestatic 284, 3) := by decide +kernel
theorem dd_X11_go_50 : decode mb_X11_go 50 = .ok (.istore_n 2, 1) := by decide +kernel
theorem dd_X11_go_51 : decode mb_X11_go 51 = .ok (.iconst 0, 1) := by decide +kernel
theorem dd_X11_go_52 : decode mb_X11_go 52 = .ok (.istore_n 3, 1) := by decide +kernel
theorem dd_X11_go_53 : decode mb_X11_go 53 = .ok (.aload_n 0, 1) := by decide +kernel
theorem dd_X11_go_54 : decode mb_X11_go 54 = .ok (.getfield 39, 3) := by decide +kernel
theorem dd_X11_go_57 : decode mb_X11_go 57 = .ok (.aload_n 0, 1) := by decide +kernel
theorem dd_X11_go_58 : decode mb_X11_go 58 = .ok (.getfield 29, 3) := by decide +kernel
theorem dd_X11_go_61 : decode mb_X11_go 61 = .ok (.aload_n 0, 1) := by decide +kernel
theorem dd_X11_go_62 : decode mb_X11_go 62 = .ok (.getfield 29, 3) := by decide +kernel
theorem dd_X11_go_65 : decode mb_X11_go 65 = .ok (.getfield 245, 3) := by decide +kernel
theorem dd_X11_go_68 : decode mb_X11_go 68 = .ok (.aload_n 0, 1) := by decide +kernel
theorem dd_X11_go_69 : decode mb_X11_go 69 = .ok (.getfield 29, 3) := by decide +kernel
theorem dd_X11_go_72 : decode mb_X11_go 72 = .ok (.getfield 248, 3) := by decide +kernel
theorem dd_X11_go_75 : decode mb_X11_go 75 = .ok (.invokevirtual 257, 3) := by decide +kernel
theorem dd_X11_go_78 : decode mb_X11_go 78 = .ok (.aload_n 0, 1) := by decide +kernel
theorem dd_X11_go_79 : decode mb_X11_go 79 = .ok (.getfield 29, 3) := by decide +kernel
theorem dd_X11_go_82 : decode mb_X11_go 82 = .ok (.getfield 282, 3) := by decide +kernel
theorem dd_X11_go_85 : decode mb_X11_go 85 = .ok (.istore 4, 2) := by decide +kernel
theorem dd_X11_go_87 : decode mb_X11_go 87 = .ok (.iload 4, 2) := by decide +kernel
theorem dd_X11_go_89 : decode mb_X11_go 89 = .ok (.iload_n 2, 1) := by decide +kernel
theorem dd_X11_go_90 : decode mb_X11_go 90 = .ok (.if_icmp .ge 25, 3) := by decide +kernel
theorem dd_X11_go_93 : decode mb_X11_go 93 = .ok (.iload_n 3, 1) := by decide +kernel
theorem dd_X11_go_94 : decode mb_X11_go 94 = .ok (.aload_n 0, 1) := by decide +kernel
theorem dd_X11_go_95 : decode mb_X11_go 95 = .ok (.getfield 39, 3) := by decide +kernel
theorem dd_X11_go_98 : decode mb_X11_go 98 = .ok (.aload_n 0, 1) := by decide +kernel
theorem dd_X11_go_99 : decode mb_X11_go 99 = .ok (.getfield 29, 3) := by decide +kernel
theorem dd_X11_go_102 : decode mb_X11_go 102 = .ok (.iload 4, 2) := by decide +kernel
theorem dd_X11_go_104 : decode mb_X11_go 104 = .ok (.invokevirtual 272, 3) := by decide +kernel
theorem dd_X11_go_107 : decode mb_X11_go 107 = .ok (.iadd, 1) := by decide +kernel
theorem dd_X11_go_108 : decode mb_X11_go 108 = .ok (.istore_n 3, 1) := by decide +kernel
theorem dd_X11_go_109 : decode mb_X11_go 109 = .ok (.iinc 4 1, 3) := by decide +kernel
theorem dd_X11_go_112 : decode mb_X11_go 112 = .ok (.goto (-25), 3) := by decide +kernel
theorem dd_X11_go_115 : decode mb_X11_go 115 = .ok (.aload_n 0, 1) := by decide +kernel
theorem dd_X11_go_116 : decode mb_X11_go 116 = .ok (.getfield 39, 3) := by decide +kernel
theorem dd_X11_go_119 : decode mb_X11_go 119 = .ok (.aload_n 0, 1) := by decide +kernel
theorem dd_X11_go_120 : decode mb_X11_go 120 = .ok (.getfield 29, 3) := by decide +kernel
theorem dd_X11_go_123 : decode mb_X11_go 123 = .ok (.invokevirtual 289, 3) := by decide +kernel
theorem dd_X11_go_126 : decode mb_X11_go 126 = .ok (.aload_n 0, 1) := by decide +kernel
theorem dd_X11_go_127 : decode mb_X11_go 127 = .ok (.getfield 29, 3) := by decide +kernel
theorem dd_X11_go_130 : decode mb_X11_go 130 = .ok (.iload_n 2, 1) := by decide +kernel
theorem dd_X11_go_131 : decode mb_X11_go 131 = .ok (.putfield 282, 3) := by decide +kernel
theorem dd_X11_go_134 : decode mb_X11_go 134 = .ok (.aload_n 0, 1) := by decide +kernel
theorem dd_X11_go_135 : decode mb_X11_go 135 = .ok (.getfield 29, 3) := by decide +kernel
theorem dd_X11_go_138 : decode mb_X11_go 138 = .ok (.dup, 1) := by decide +kernel
theorem dd_X11_go_139 : decode mb_X11_go 139 = .ok (.getfield 293, 3) := by decide +kernel
theorem dd_X11_go_142 : decode mb_X11_go 142 = .ok (.iload_n 3, 1) := by decide +kernel
theorem dd_X11_go_143 : decode mb_X11_go 143 = .ok (.iadd, 1) := by decide +kernel
theorem dd_X11_go_144 : decode mb_X11_go 144 = .ok (.putfield 293, 3) := by decide +kernel
theorem dd_X11_go_147 : decode mb_X11_go 147 = .ok (.iload_n 3, 1) := by decide +kernel
theorem dd_X11_go_148 : decode mb_X11_go 148 = .ok (.ireturn, 1) := by decide +kernel
theorem dd_X11_goes_0 : decode mb_X11_goes 0 = .ok (.aload_n 0, 1) := by decide +kernel
theorem dd_X11_goes_1 : decode mb_X11_goes 1 = .ok (.getfield 29, 3) := by decide +kernel
theorem dd_X11_goes_4 : decode mb_X11_goes 4 = .ok (.getfield 168, 3) := by decide +kernel
theorem dd_X11_goes_7 : decode mb_X11_goes 7 = .ok (.iload_n 1, 1) := by decide +kernel
theorem dd_X11_goes_8 : decode mb_X11_goes 8 = .ok (.invokevirtual 177, 3) := by decide +kernel
theorem dd_X11_goes_11 : decode mb_X11_goes 11 = .ok (.ifCond .eq 22, 3) := by decide +kernel
theorem dd_X11_goes_14 : decode mb_X11_goes 14 = .ok (.iload_n 2, 1) := by decide +kernel
theorem dd_X11_goes_15 : decode mb_X11_goes 15 = .ok (.iconst (-1), 1) := by decide +kernel
theorem dd_X11_goes_16 : decode mb_X11_goes 16 = .ok (.if_icmp .eq 24, 3) := by decide +kernel
theorem dd_X11_goes_19 : decode mb_X11_goes 19 = .ok (.aload_n 0, 1) := by decide +kernel
theorem dd_X11_goes_20 : decode mb_X11_goes 20 = .ok (.getfield 29, 3) := by decide +kernel
theorem dd_X11_goes_23 : decode mb_X11_goes 23 = .ok (.getfield 178, 3) := by decide +kernel
theorem dd_X11_goes_26 : decode mb_X11_goes 26 = .ok (.iload_n 2, 1) := by decide +kernel
theorem dd_X11_goes_27 : decode mb_X11_goes 27 = .ok (.invokevirtual 182, 3) := by decide +kernel
theorem dd_X11_goes_30 : decode mb_X11_goes 30 = .ok (.ifCond .ne 10, 3) := by decide +kernel
theorem dd_X11_goes_33 : decode mb_X11_goes 33 = .ok (.aload_n 0, 1) := by decide +kernel
theorem dd_X11_goes_34 : decode mb_X11_goes 34 = .ok (.bipush (-2), 2) := by decide +kernel
theorem dd_X11_goes_36 : decode mb_X11_goes 36 = .ok (.invokevirtual 63, 3) := by decide +kernel
theorem dd_X11_goes_39 : decode mb_X11_goes 39 = .ok (.ireturn, 1) := by decide +kernel
theorem dd_X11_goes_40 : decode mb_X11_goes 40 = .ok (.aload_n 0, 1) := by decide +kernel
theorem dd_X11_goes_41 : decode mb_X11_goes 41 = .ok (.getfield 29, 3) := by decide +kernel
theorem dd_X11_goes_44 : decode mb_X11_goes 44 = .ok (.getfield 168, 3) := by decide +kernel
theorem dd_X11_goes_47 : decode mb_X11_goes 47 = .ok (.getfield 185, 3) := by decide +kernel
theorem dd_X11_goes_50 : decode mb_X11_goes 50 = .ok (.iload_n 1, 1) := by decide +kernel
theorem dd_X11_goes_51 : decode mb_X11_goes 51 = .ok (.iaload, 1) := by decide +kernel
theorem dd_X11_goes_52 : decode mb_X11_goes 52 = .ok (.istore_n 3, 1) := by decide +kernel
theorem dd_X11_goes_53 : decode mb_X11_goes 53 = .ok (.aload_n 0, 1) := by decide +kernel
theorem dd_X11_goes_54 : decode mb_X11_goes 54 = .ok (.getfield 29, 3) := by decide +kernel
theorem dd_X11_goes_57 : decode mb_X11_goes 57 = .ok (.getfield 168, 3) := by decide +kernel
theorem dd_X11_goes_60 : decode mb_X11_goes 60 = .ok (.getfield 185, 3) := by decide +kernel
theorem dd_X11_goes_63 : decode mb_X11_goes 63 = .ok (.iload_n 1, 1) := by decide +kernel
theorem dd_X11_goes_64 : decode mb_X11_goes 64 = .ok (.iload_n 2, 1) := by decide +kernel
theorem dd_X11_goes_65 : decode mb_X11_goes 65 = .ok (.iastore, 1) := by decide +kernel
theorem dd_X11_goes_66 : decode mb_X11_goes 66 = .ok (.iload_n 3, 1) := by decide +kernel
theorem dd_X11_goes_67 : decode mb_X11_goes 67 = .ok (.ireturn, 1) := by decide +kernel
theorem dd_X11_hall_0 : decode mb_X11_hall 0 = .ok (.iload_n 1, 1) := by decide +kernel
theorem dd_X11_hall_1 : decode mb_X11_hall 1 = .ok (.iconst 0, 1) := by decide +kernel
theorem dd_X11_hall_2 : decode mb_X11_hall 2 = .ok (.iconst 2, 1) := by decide +kernel
theorem dd_X11_hall_3 : decode mb_X11_hall 3 = .ok (.invokestatic 59, 3) := by decide +kernel
theorem dd_X11_hall_6 : decode mb_X11_hall 6 = .ok (.ifCond .eq 17, 3) := by decide +kernel
theorem dd_X11_hall_9 : decode mb_X11_hall 9 = .ok (.aload_n 0, 1) := by decide +kernel
theorem dd_X11_hall_10 : decode mb_X11_hall 10 = .ok (.getfield 29, 3) := by decide +kernel
theorem dd_X11_hall_13 : decode mb_X11_hall 13 = .ok (.getfield 113, 3) := by decide +kernel
theorem dd_X11_hall_16 : decode mb_X11_hall 16 = .ok (.iload_n 2, 1) := by decide +kernel
theorem dd_X11_hall_17 : decode mb_X11_hall 17 = .ok (.invokevirtual 117, 3) := by decide +kernel
theorem dd_X11_hall_20 : decode mb_X11_hall 20 = .ok (.ifCond .ne 10, 3) := by decide +kernel
theorem dd_X11_hall_23 : decode mb_X11_hall 23 = .ok (.aload_n 0, 1) := by decide +kernel
theorem dd_X11_hall_24 : decode mb_X11_hall 24 = .ok (.bipush (-2), 2) := by decide +kernel
theorem dd_X11_hall_26 : decode mb_X11_hall 26 = .ok (.invokevirtual 63, 3) := by decide +kernel
theorem dd_X11_hall_29 : decode mb_X11_hall 29 = .ok (.ireturn, 1) := by decide +kernel
theorem dd_X11_hall_30 : decode mb_X11_hall 30 = .ok (.aload_n 0, 1) := by decide +kernel
theorem dd_X11_hall_31 : decode mb_X11_hall 31 = .ok (.getfield 29, 3) := by decide +kernel
theorem dd_X11_hall_34 : decode mb_X11_hall 34 = .ok (.getfield 113, 3) := by decide +kernel
theorem dd_X11_hall_37 : decode mb_X11_hall 37 = .ok (.iload_n 1, 1) := by decide +kernel
theorem dd_X11_hall_38 : decode mb_X11_hall 38 = .ok (.invokevirtual 362, 3) := by decide +kernel
theorem dd_X11_hall_41 : decode mb_X11_hall 41 = .ok (.aload_n 0, 1) := by decide +kernel
theorem dd_X11_hall_42 : decode mb_X11_hall 42 = .ok (.getfield 29, 3) := by decide +kernel
theorem dd_X11_hall_45 : decode mb_X11_hall 45 = .ok (.getfield 113, 3) := by decide +kernel
theorem dd_X11_hall_48 : decode mb_X11_hall 48 = .ok (.getfield 366, 3) := by decide +kernel
theorem dd_X11_hall_51 : decode mb_X11_hall 51 = .ok (.iload_n 2, 1) := by decide +kernel
theorem dd_X11_hall_52 : decode mb_X11_hall 52 = .ok (.iaload, 1) := by decide +kernel
theorem dd_X11_hall_53 : decode mb_X11_hall 53 = .ok (.ireturn, 1) := by decide +kernel
theorem dd_X11_hasBit_0 : decode mb_X11_hasBit 0 = .ok (.iload_n 0, 1) := by decide +kernel
theorem dd_X11_hasBit_1 : decode mb_X11_hasBit 1 = .ok (.iload_n 1, 1) := by decide +kernel
theorem dd_X11_hasBit_2 : decode mb_X11_hasBit 2 = .ok (.ishr, 1) := by decide +kernel
theorem dd_X11_hasBit_3 : decode mb_X11_hasBit 3 = .ok (.iconst 1, 1) := by decide +kernel
theorem dd_X11_hasBit_4 : decode mb_X11_hasBit 4 = .ok (.iand, 1) := by decide +kernel
theorem dd_X11_hasBit_5 : decode mb_X11_hasBit 5 = .ok (.ifCond .eq 7, 3) := by decide +kernel
theorem dd_X11_hasBit_8 : decode mb_X11_hasBit 8 = .ok (.iconst 1, 1) := by decide +kernel
theorem dd_X11_hasBit_9 : decode mb_X11_hasBit 9 = .ok (.goto 4, 3) := by decide +kernel
theorem dd_X11_hasBit_12 : decode mb_X11_hasBit 12 = .ok (.iconst 0, 1) := by decide +kernel
theorem dd_X11_hasBit_13 : decode mb_X11_hasBit 13 = .ok (.ireturn, 1) := by decide +kernel
theorem dd_X11_holds_0 : decode mb_X11_holds 0 = .ok (.iload_n 1, 1) := by decide +kernel
theorem dd_X11_holds_1 : decode mb_X11_holds 1 = .ok (.invokestatic 55, 3) := by decide +kernel
theorem dd_X11_holds_4 : decode mb_X11_holds 4 = .ok (.ifCond .eq 15, 3) := by decide +kernel
theorem dd_X11_holds_7 : decode mb_X11_holds 7 = .ok (.aload_n 0, 1) := by decide +kernel
theorem dd_X11_holds_8 : decode mb_X11_holds 8 = .ok (.getfield 11, 3) := by decide +kernel
theorem dd_X11_holds_11 : decode mb_X11_holds 11 = .ok (.iload_n 1, 1) := by decide +kernel
theorem dd_X11_holds_12 : decode mb_X11_holds 12 = .ok (.aaload, 1) := by decide +kernel
theorem dd_X11_holds_13 : decode mb_X11_holds 13 = .ok (.getfield 89, 3) := by decide +kernel
theorem dd_X11_holds_16 : decode mb_X11_holds 16 = .ok (.goto 4, 3) := by decide +kernel
theorem dd_X11_holds_19 : decode mb_X11_holds 19 = .ok (.iconst (-1), 1) := by decide +kernel
theorem dd_X11_holds_20 : decode mb_X11_holds 20 = .ok (.ireturn, 1) := by decide +kernel
theorem dd_X11_image_0 : decode mb_X11_image 0 = .ok (.aload_n 0, 1) := by decide +kernel
theorem dd_X11_image_1 : decode mb_X11_image 1 = .ok (.getfield 33, 3) := by decide +kernel
theorem dd_X11_image_4 : decode mb_X11_image 4 = .ok (.aload_n 0, 1) := by decide +kernel
theorem dd_X11_image_5 : decode mb_X11_image 5 = .ok (.getfield 29, 3) := by decide +kernel
theorem dd_X11_image_8 : decode mb_X11_image 8 = .ok (.invokevirtual 369, 3) := by decide +kernel
theorem dd_X11_image_11 : decode mb_X11_image 11 = .ok (.aload_n 0, 1) := by decide +kernel
theorem dd_X11_image_12 : decode mb_X11_image 12 = .ok (.iconst 1, 1) := by decide +kernel
theorem dd_X11_image_13 : decode mb_X11_image 13 = .ok (.putfield 50, 3) := by decide +kernel
theorem dd_X11_image_16 : decode mb_X11_image 16 = .ok (.iconst 1, 1) := by decide +kernel
theorem dd_X11_image_17 : decode mb_X11_image 17 = .ok (.ireturn, 1) := by decide +kernel
theorem dd_X11_init_0 : decode mb_X11_init 0 = .ok (.aload_n 0, 1) := by decide +kernel
theorem dd_X11_init_1 : decode mb_X11_init 1 = .ok (.invokespecial 1, 3) := by decide +kernel
theorem dd_X11_init_4 : decode mb_X11_init 4 = .ok (.aload_n 0, 1) := by decide +kernel
theorem dd_X11_init_5 : decode mb_X11_init 5 = .ok (.bipush 8, 2) := by decide +kernel
theorem dd_X11_init_7 : decode mb_X11_init 7 = .ok (.anewarray 9, 3) := by decide +kernel
theorem dd_X11_init_10 : decode mb_X11_init 10 = .ok (.putfield 11, 3) := by decide +kernel
theorem dd_X11_init_13 : decode mb_X11_init 13 = .ok (.aload_n 0, 1) := by decide +kernel
theorem dd_X11_init_14 : decode mb_X11_init 14 = .ok (.iconst 5, 1) := by decide +kernel
theorem dd_X11_init_15 : decode mb_X11_init 15 = .ok (.newarray .int, 2) := by decide +kernel
theorem dd_X11_init_17 : decode mb_X11_init 17 = .ok (.putfield 15, 3) := by decide +kernel
theorem dd_X11_init_20 : decode mb_X11_init 20 = .ok (.aload_n 0, 1) := by decide +kernel
theorem dd_X11_init_21 : decode mb_X11_init 21 = .ok (.new 19, 3) := by decide +kernel
theorem dd_X11_init_24 : decode mb_X11_init 24 = .ok (.dup, 1) := by decide +kernel
theorem dd_X11_init_25 : decode mb_X11_init 25 = .ok (.invokespecial 21, 3) := by decide +kernel
theorem dd_X11_init_28 : decode mb_X11_init 28 = .ok (.putfield 22, 3) := by decide +kernel
theorem dd_X11_init_31 : decode mb_X11_init 31 = .ok (.aload_n 0, 1) := by decide +kernel
theorem dd_X11_init_32 : decode mb_X11_init 32 = .ok (.new 26, 3) := by decide +kernel
theorem dd_X11_init_35 : decode mb_X11_init 35 = .ok (.dup, 1) := by decide +kernel
theorem dd_X11_init_36 : decode mb_X11_init 36 = .ok (.invokespecial 28, 3) := by decide +kernel
theorem dd_X11_init_39 : decode mb_X11_init 39 = .ok (.putfield 29, 3) := by decide +kernel
theorem dd_X11_init_42 : decode mb_X11_init 42 = .ok (.aload_n 0, 1) := by decide +kernel
theorem dd_X11_init_43 : decode mb_X11_init 43 = .ok (.new 26, 3) := by decide +kernel
theorem dd_X11_init_46 : decode mb_X11_init 46 = .ok (.dup, 1) := by decide +kernel
theorem dd_X11_init_47 : decode mb_X11_init 47 = .ok (.invokespecial 28, 3) := by decide +kernel
theorem dd_X11_init_50 : decode mb_X11_init 50 = .ok (.putfield 33, 3) := by decide +kernel
theorem dd_X11_init_53 : decode mb_X11_init 53 = .ok (.aload_n 0, 1) := by decide +kernel
theorem dd_X11_init_54 : decode mb_X11_init 54 = .ok (.new 36, 3) := by decide +kernel
theorem dd_X11_init_57 : decode mb_X11_init 57 = .ok (.dup, 1) := by decide +kernel
theorem dd_X11_init_58 : decode mb_X11_init 58 = .ok (.invokespecial 38, 3) := by decide +kernel
theorem dd_X11_init_61 : decode mb_X11_init 61 = .ok (.putfield 39, 3) := by decide +kernel
theorem dd_X11_init_64 : decode mb_X11_init 64 = .ok (.aload_n 0, 1) := by decide +kernel
theorem dd_X11_init_65 : decode mb_X11_init 65 = .ok (.new 43, 3) := by decide +kernel
theorem dd_X11_init_68 : decode mb_X11_init 68 = .ok (.dup, 1) := by decide +kernel
theorem dd_X11_init_69 : decode mb_X11_init 69 = .ok (.invokespecial 45, 3) := by decide +kernel
theorem dd_X11_init_72 : decode mb_X11_init 72 = .ok (.putfield 46, 3) := by decide +kernel
theorem dd_X11_init_75 : decode mb_X11_init 75 = .ok (.aload_n 0, 1) := by decide +kernel
theorem dd_X11_init_76 : decode mb_X11_init 76 = .ok (.iconst 0, 1) := by decide +kernel
theorem dd_X11_init_77 : decode mb_X11_init 77 = .ok (.putfield 50, 3) := by decide +kernel
theorem dd_X11_init_80 : decode mb_X11_init 80 = .ok (.iconst 0, 1) := by decide +kernel
theorem dd_X11_init_81 : decode mb_X11_init 81 = .ok (.istore_n 1, 1) := by decide +kernel
theorem dd_X11_init_82 : decode mb_X11_init 82 = .ok (.iload_n 1, 1) := by decide +kernel
theorem dd_X11_init_83 : decode mb_X11_init 83 = .ok (.bipush 8, 2) := by decide +kernel
theorem dd_X11_init_85 : decode mb_X11_init 85 = .ok (.if_icmp .ge 22, 3) := by decide +kernel
theorem dd_X11_init_88 : decode mb_X11_init 88 = .ok (.aload_n 0, 1) := by decide +kernel
theorem dd_X11_init_89 : decode mb_X11_init 89 = .ok (.getfield 11, 3) := by decide +kernel
theorem dd_X11_init_92 : decode mb_X11_init 92 = .ok (.iload_n 1, 1) := by decide +kernel
theorem dd_X11_init_93 : decode mb_X11_init 93 = .ok (.new 9, 3) := by decide +kernel
theorem dd_X11_init_96 : decode mb_X11_init 96 = .ok (.dup, 1) := by decide +kernel
theorem dd_X11_init_97 : decode mb_X11_init 97 = .ok (.invokespecial 54, 3) := by decide +kernel
theorem dd_X11_init_100 : decode mb_X11_init 100 = .ok (.aastore, 1) := by decide +kernel
theorem dd_X11_init_101 : decode mb_X11_init 101 = .ok (.iinc 1 1, 3) := by decide +kernel
theorem dd_X11_init_104 : decode mb_X11_init 104 = .ok (.goto (-22), 3) := by decide +kernel
theorem dd_X11_init_107 : decode mb_X11_init 107 = .ok (.return_, 1) := by decide +kernel
theorem dd_X11_isHour_0 : decode mb_X11_isHour 0 = .ok (.iload_n 0, 1) := by decide +kernel
theorem dd_X11_isHour_1 : decode mb_X11_isHour 1 = .ok (.iconst 0, 1) := by decide +kernel
theorem dd_X11_isHour_2 : decode mb_X11_isHour 2 = .ok (.bipush 11, 2) := by decide +kernel
theorem dd_X11_isHour_4 : decode mb_X11_isHour 4 = .ok (.invokestatic 59, 3) := by decide +kernel
theorem dd_X11_isHour_7 : decode mb_X11_isHour 7 = .ok (.ireturn, 1) := by decide +kernel
theorem dd_X11_isKind_0 : decode mb_X11_isKind 0 = .ok (.iload_n 0, 1) := by decide +kernel
theorem dd_X11_isKind_1 : decode mb_X11_isKind 1 = .ok (.iconst 0, 1) := by decide +kernel
theorem dd_X11_isKind_2 : decode mb_X11_isKind 2 = .ok (.iconst 5, 1) := by decide +kernel
theorem dd_X11_isKind_3 : decode mb_X11_isKind 3 = .ok (.invokestatic 59, 3) := by decide +kernel
theorem dd_X11_isKind_6 : decode mb_X11_isKind 6 = .ok (.ireturn, 1) := by decide +kernel
theorem dd_X11_isKinds_0 : decode mb_X11_isKinds 0 = .ok (.iload_n 0, 1) := by decide +kernel
theorem dd_X11_isKinds_1 : decode mb_X11_isKinds 1 = .ok (.iconst 0, 1) := by decide +kernel
theorem dd_X11_isKinds_2 : decode mb_X11_isKinds 2 = .ok (.bipush 63, 2) := by decide +kernel
theorem dd_X11_isKinds_4 : decode mb_X11_isKinds 4 = .ok (.invokestatic 59, 3) := by decide +kernel
theorem dd_X11_isKinds_7 : decode mb_X11_isKinds 7 = .ok (.ireturn, 1) := by decide +kernel
theorem dd_X11_isPerson_0 : decode mb_X11_isPerson 0 = .ok (.iload_n 0, 1) := by decide +kernel
theorem dd_X11_isPerson_1 : decode mb_X11_isPerson 1 = .ok (.iconst 0, 1) := by decide +kernel
theorem dd_X11_isPerson_2 : decode mb_X11_isPerson 2 = .ok (.bipush 15, 2) := by decide +kernel
theorem dd_X11_isPerson_4 : decode mb_X11_isPerson 4 = .ok (.invokestatic 59, 3) := by decide +kernel
theorem dd_X11_isPerson_7 : decode mb_X11_isPerson 7 = .ok (.ireturn, 1) := by decide +kernel
theorem dd_X11_isPersonOrNone_0 : decode mb_X11_isPersonOrNone 0 = .ok (.iload_n 0, 1) := by decide +kernel
theorem dd_X11_isPersonOrNone_1 : decode mb_X11_isPersonOrNone 1 = .ok (.iconst (-1), 1) := by decide +kernel
theorem dd_X11_isPersonOrNone_2 : decode mb_X11_isPersonOrNone 2 = .ok (.if_icmp .eq 10, 3) := by decide +kernel
theorem dd_X11_isPersonOrNone_5 : decode mb_X11_isPersonOrNone 5 = .ok (.iload_n 0, 1) := by decide +kernel
theorem dd_X11_isPersonOrNone_6 : decode mb_X11_isPersonOrNone 6 = .ok (.invokestatic 339, 3) := by decide +kernel
theorem dd_X11_isPersonOrNone_9 : decode mb_X11_isPersonOrNone 9 = .ok (.ifCond .eq 7, 3) := by decide +kernel
theorem dd_X11_isPersonOrNone_12 : decode mb_X11_isPersonOrNone 12 = .ok (.iconst 1, 1) := by decide +kernel
theorem dd_X11_isPersonOrNone_13 : decode mb_X11_isPersonOrNone 13 = .ok (.goto 4, 3) := by decide +kernel
theorem dd_X11_isPersonOrNone_16 : decode mb_X11_isPersonOrNone 16 = .ok (.iconst 0, 1) := by decide +kernel
theorem dd_X11_isPersonOrNone_17 : decode mb_X11_isPersonOrNone 17 = .ok (.ireturn, 1) := by decide +kernel
theorem dd_X11_isShelf_0 : decode mb_X11_isShelf 0 = .ok (.iload_n 0, 1) := by decide +kernel
theorem dd_X11_isShelf_1 : decode mb_X11_isShelf 1 = .ok (.iconst 0, 1) := by decide +kernel
theorem dd_X11_isShelf_2 : decode mb_X11_isShelf 2 = .ok (.bipush 7, 2) := by decide +kernel
theorem dd_X11_isShelf_4 : decode mb_X11_isShelf 4 = .ok (.invokestatic 59, 3) := by decide +kernel
theorem dd_X11_isShelf_7 : decode mb_X11_isShelf 7 = .ok (.ireturn, 1) := by decide +kernel
theorem dd_X11_judge_0 : decode mb_X11_judge 0 = .ok (.aload_n 0, 1) := by decide +kernel
theorem dd_X11_judge_1 : decode mb_X11_judge 1 = .ok (.iload_n 1, 1) := by decide +kernel
theorem dd_X11_judge_2 : decode mb_X11_judge 2 = .ok (.invokevirtual 71, 3) := by decide +kernel
theorem dd_X11_judge_5 : decode mb_X11_judge 5 = .ok (.istore_n 2, 1) := by decide +kernel
theorem dd_X11_judge_6 : decode mb_X11_judge 6 = .ok (.iload_n 2, 1) := by decide +kernel
theorem dd_X11_judge_7 : decode mb_X11_judge 7 = .ok (.ifCond .eq 9, 3) := by decide +kernel
theorem dd_X11_judge_10 : decode mb_X11_judge 10 = .ok (.aload_n 0, 1) := by decide +kernel
theorem dd_X11_judge_11 : decode mb_X11_judge 11 = .ok (.iload_n 2, 1) := by decide +kernel
theorem dd_X11_judge_12 : decode mb_X11_judge 12 = .ok (.invokevirtual 63, 3) := by decide +kernel
theorem dd_X11_judge_15 : decode mb_X11_judge 15 = .ok (.ireturn, 1) := by decide +kernel
theorem dd_X11_judge_16 : decode mb_X11_judge 16 = .ok (.aload_n 0, 1) := by decide +kernel
theorem dd_X11_judge_17 : decode mb_X11_judge 17 = .ok (.getfield 39, 3) := by decide +kernel
theorem dd_X11_judge_20 : decode mb_X11_judge 20 = .ok (.aload_n 0, 1) := by decide +kernel
theorem dd_X11_judge_21 : decode mb_X11_judge 21 = .ok (.getfield 29, 3) := by decide +kernel
theorem dd_X11_judge_24 : decode mb_X11_judge 24 = .ok (.aload_n 0, 1) := by decide +kernel
theorem dd_X11_judge_25 : decode mb_X11_judge 25 = .ok (.getfield 29, 3) := by decide +kernel
theorem dd_X11_judge_28 : decode mb_X11_judge 28 = .ok (.getfield 245, 3) := by decide +kernel
theorem dd_X11_judge_31 : decode mb_X11_judge 31 = .ok (.aload_n 0, 1) := by decide +kernel
theorem dd_X11_judge_32 : decode mb_X11_judge 32 = .ok (.getfield 29, 3) := by decide +kernel
theorem dd_X11_judge_35 : decode mb_X11_judge 35 = .ok (.getfield 248, 3) := by decide +kernel
theorem dd_X11_judge_38 : decode mb_X11_judge 38 = .ok (.invokevirtual 257, 3) := by decide +kernel
theorem dd_X11_judge_41 : decode mb_X11_judge 41 = .ok (.iconst 0, 1) := by decide +kernel
theorem dd_X11_judge_42 : decode mb_X11_judge 42 = .ok (.istore_n 3, 1) := by decide +kernel
theorem dd_X11_judge_43 : decode mb_X11_judge 43 = .ok (.iload_n 3, 1) := by decide +kernel
theorem dd_X11_judge_44 : decode mb_X11_judge 44 = .ok (.bipush 12, 2) := by decide +kernel
theorem dd_X11_judge_46 : decode mb_X11_judge 46 = .ok (.if_icmp .ge 38, 3) := by decide +kernel
theorem dd_X11_judge_49 : decode mb_X11_judge 49 = .ok (.aload_n 0, 1) := by decide +kernel
theorem dd_X11_judge_50 : decode mb_X11_judge 50 = .ok (.getfield 39, 3) := by decide +kernel
theorem dd_X11_judge_53 : decode mb_X11_judge 53 = .ok (.aload_n 0, 1) := by decide +kernel
theorem dd_X11_judge_54 : decode mb_X11_judge 54 = .ok (.getfield 29, 3) := by decide +kernel
theorem dd_X11_judge_57 : decode mb_X11_judge 57 = .ok (.iload_n 3, 1) := by decide +kernel
theorem dd_X11_judge_58 : decode mb_X11_judge 58 = .ok (.invokevirtual 272, 3) := by decide +kernel
theorem dd_X11_judge_61 : decode mb_X11_judge 61 = .ok (.i2l, 1) := by decide +kernel
theorem dd_X11_judge_62 : decode mb_X11_judge 62 = .ok (.aload_n 0, 1) := by decide +kernel
theorem dd_X11_judge_63 : decode mb_X11_judge 63 = .ok (.getfield 11, 3) := by decide +kernel
theorem dd_X11_judge_66 : decode mb_X11_judge 66 = .ok (.iload_n 1, 1) := by decide +kernel
theorem dd_X11_judge_67 : decode mb_X11_judge 67 = .ok (.aaload, 1) := by decide +kernel
theorem dd_X11_judge_68 : decode mb_X11_judge 68 = .ok (.iload_n 3, 1) := by decide +kernel
theorem dd_X11_judge_69 : decode mb_X11_judge 69 = .ok (.invokevirtual 109, 3) := by decide +kernel
theorem dd_X11_judge_72 : decode mb_X11_judge 72 = .ok (.lcmp, 1) := by decide +kernel
theorem dd_X11_judge_73 : decode mb_X11_judge 73 = .ok (.ifCond .eq 5, 3) := by decide +kernel
theorem dd_X11_judge_76 : decode mb_X11_judge 76 = .ok (.iload_n 3, 1) := by decide +kernel
theorem dd_X11_judge_77 : decode mb_X11_judge 77 = .ok (.ireturn, 1) := by decide +kernel
theorem dd_X11_judge_78 : decode mb_X11_judge 78 = .ok (.iinc 3 1, 3) := by decide +kernel
theorem dd_X11_judge_81 : decode mb_X11_judge 81 = .ok (.goto (-38), 3) := by decide +kernel
theorem dd_X11_judge_84 : decode mb_X11_judge 84 = .ok (.iconst (-1), 1) := by decide +kernel
theorem dd_X11_judge_85 : decode mb_X11_judge 85 = .ok (.ireturn, 1) := by decide +kernel
theorem dd_X11_lady_0 : decode mb_X11_lady 0 = .ok (.iload_n 1, 1) := by decide +kernel
theorem dd_X11_lady_1 : decode mb_X11_lady 1 = .ok (.invokestatic 165, 3) := by decide +kernel
theorem dd_X11_lady_4 : decode mb_X11_lady 4 = .ok (.ifCond .eq 14, 3) := by decide +kernel
theorem dd_X11_lady_7 : decode mb_X11_lady 7 = .ok (.iload_n 2, 1) := by decide +kernel
theorem dd_X11_lady_8 : decode mb_X11_lady 8 = .ok (.iconst 0, 1) := by decide +kernel
theorem dd_X11_lady_9 : decode mb_X11_lady 9 = .ok (.sipush 999, 3) := by decide +kernel
theorem dd_X11_lady_12 : decode mb_X11_lady 12 = .ok (.invokestatic 59, 3) := by decide +kernel
theorem dd_X11_lady_15 : decode mb_X11_lady 15 = .ok (.ifCond .ne 10, 3) := by decide +kernel
theorem dd_X11_lady_18 : decode mb_X11_lady 18 = .ok (.aload_n 0, 1) := by decide +kernel
theorem dd_X11_lady_19 : decode mb_X11_lady 19 = .ok (.bipush (-2), 2) := by decide +kernel
theorem dd_X11_lady_21 : decode mb_X11_lady 21 = .ok (.invokevirtual 63, 3) := by decide +kernel
theorem dd_X11_lady_24 : decode mb_X11_lady 24 = .ok (.ireturn, 1) := by decide +kernel
theorem dd_X11_lady_25 : decode mb_X11_lady 25 = .ok (.aload_n 0, 1) := by decide +kernel
theorem dd_X11_lady_26 : decode mb_X11_lady 26 = .ok (.getfield 29, 3) := by decide +kernel
theorem dd_X11_lady_29 : decode mb_X11_lady 29 = .ok (.getfield 168, 3) := by decide +kernel
theorem dd_X11_lady_32 : decode mb_X11_lady 32 = .ok (.getfield 172, 3) := by decide +kernel
theorem dd_X11_lady_35 : decode mb_X11_lady 35 = .ok (.iconst 5, 1) := by decide +kernel
theorem dd_X11_lady_36 : decode mb_X11_lady 36 = .ok (.if_icmp .lt 10, 3) := by decide +kernel
theorem dd_X11_lady_39 : decode mb_X11_lady 39 = .ok (.aload_n 0, 1) := by decide +kernel
theorem dd_X11_lady_40 : decode mb_X11_lady 40 = .ok (.bipush (-6), 2) := by decide +kernel
theorem dd_X11_lady_42 : decode mb_X11_lady 42 = .ok (.invokevirtual 63, 3) := by decide +kernel
theorem dd_X11_lady_45 : decode mb_X11_lady 45 = .ok (.ireturn, 1) := by decide +kernel
theorem dd_X11_lady_46 : decode mb_X11_lady 46 = .ok (.aload_n 0, 1) := by decide +kernel
theorem dd_X11_lady_47 : decode mb_X11_lady 47 = .ok (.getfield 29, 3) := by decide +kernel
theorem dd_X11_lady_50 : decode mb_X11_lady 50 = .ok (.getfield 168, 3) := by decide +kernel
theorem dd_X11_lady_53 : decode mb_X11_lady 53 = .ok (.iload_n 1, 1) := by decide +kernel
theorem dd_X11_lady_54 : decode mb_X11_lady 54 = .ok (.iload_n 2, 1) := by decide +kernel
theorem dd_X11_lady_55 : decode mb_X11_lady 55 = .ok (.invokevirtual 175, 3) := by decide +kernel
theorem dd_X11_lady_58 : decode mb_X11_lady 58 = .ok (.ireturn, 1) := by decide +kernel
theorem dd_X11_laid_0 : decode mb_X11_laid 0 = .ok (.iload_n 1, 1) := by decide +kernel
theorem dd_X11_laid_1 : decode mb_X11_laid 1 = .ok (.iconst 1, 1) := by decide +kernel
theorem dd_X11_laid_2 : decode mb_X11_laid 2 = .ok (.bipush 10, 2) := by decide +kernel
theorem dd_X11_laid_4 : decode mb_X11_laid 4 = .ok (.invokestatic 59, 3) := by decide +kernel
theorem dd_X11_laid_7 : decode mb_X11_laid 7 = .ok (.ifCond .eq 17, 3) := by decide +kernel
theorem dd_X11_laid_10 : decode mb_X11_laid 10 = .ok (.aload_n 0, 1) := by decide +kernel
theorem dd_X11_laid_11 : decode mb_X11_laid 11 = .ok (.getfield 29, 3) := by decide +kernel
theorem dd_X11_laid_14 : decode mb_X11_laid 14 = .ok (.getfield 113, 3) := by decide +kernel
theorem dd_X11_laid_17 : decode mb_X11_laid 17 = .ok (.iload_n 2, 1) := by decide +kernel
theorem dd_X11_laid_18 : decode mb_X11_laid 18 = .ok (.invokevirtual 117, 3) := by decide +kernel
theorem dd_X11_laid_21 : decode mb_X11_laid 21 = .ok (.ifCond .ne 10, 3) := by decide +kernel
theorem dd_X11_laid_24 : decode mb_X11_laid 24 = .ok (.aload_n 0, 1) := by decide +kernel
theorem dd_X11_laid_25 : decode mb_X11_laid 25 = .ok (.bipush (-2), 2) := by decide +kernel
theorem dd_X11_laid_27 : decode mb_X11_laid 27 = .ok (.invokevirtual 63, 3) := by decide +kernel
theorem dd_X11_laid_30 : decode mb_X11_laid 30 = .ok (.ireturn, 1) := by decide +kernel
theorem dd_X11_laid_31 : decode mb_X11_laid 31 = .ok (.aload_n 0, 1) := by decide +kernel
theorem dd_X11_laid_32 : decode mb_X11_laid 32 = .ok (.getfield 29, 3) := by decide +kernel
theorem dd_X11_laid_35 : decode mb_X11_laid 35 = .ok (.getfield 342, 3) := by decide +kernel
theorem dd_X11_laid_38 : decode mb_X11_laid 38 = .ok (.iload_n 1, 1) := by decide +kernel
theorem dd_X11_laid_39 : decode mb_X11_laid 39 = .ok (.invokevirtual 353, 3) := by decide +kernel
theorem dd_X11_laid_42 : decode mb_X11_laid 42 = .ok (.ifCond .ne 10, 3) := by decide +kernel
theorem dd_X11_laid_45 : decode mb_X11_laid 45 = .ok (.aload_n 0, 1) := by decide +kernel
theorem dd_X11_laid_46 : decode mb_X11_laid 46 = .ok (.bipush (-5), 2) := by decide +kernel
theorem dd_X11_laid_48 : decode mb_X11_laid 48 = .ok (.invokevirtual 63, 3) := by decide +kernel
theorem dd_X11_laid_51 : decode mb_X11_laid 51 = .ok (.ireturn, 1) := by decide +kernel
theorem dd_X11_laid_52 : decode mb_X11_laid 52 = .ok (.aload_n 0, 1) := by decide +kernel
theorem dd_X11_laid_53 : decode mb_X11_laid 53 = .ok (.getfield 29, 3) := by decide +kernel
theorem dd_X11_laid_56 : decode mb_X11_laid 56 = .ok (.getfield 342, 3) := by decide +kernel
theorem dd_X11_laid_59 : decode mb_X11_laid 59 = .ok (.iload_n 2, 1) := by decide +kernel
theorem dd_X11_laid_60 : decode mb_X11_laid 60 = .ok (.invokevirtual 356, 3) := by decide +kernel
theorem dd_X11_laid_63 : decode mb_X11_laid 63 = .ok (.ireturn, 1) := by decide +kernel
theorem dd_X11_law_0 : decode mb_X11_law 0 = .ok (.aload_n 0, 1) := by decide +kernel
theorem dd_X11_law_1 : decode mb_X11_law 1 = .ok (.getfield 29, 3) := by decide +kernel
theorem dd_X11_law_4 : decode mb_X11_law 4 = .ok (.getfield 178, 3) := by decide +kernel
theorem dd_X11_law_7 : decode mb_X11_law 7 = .ok (.getfield 192, 3) := by decide +kernel
theorem dd_X11_law_10 : decode mb_X11_law 10 = .ok (.bipush 6, 2) := by decide +kernel
theorem dd_X11_law_12 : decode mb_X11_law 12 = .ok (.if_icmp .lt 10, 3) := by decide +kernel
theorem dd_X11_law_15 : decode mb_X11_law 15 = .ok (.aload_n 0, 1) := by decide +kernel
theorem dd_X11_law_16 : decode mb_X11_law 16 = .ok (.bipush (-6), 2) := by decide +kernel
theorem dd_X11_law_18 : decode mb_X11_law 18 = .ok (.invokevirtual 63, 3) := by decide +kernel
theorem dd_X11_law_21 : decode mb_X11_law 21 = .ok (.ireturn, 1) := by decide +kernel
theorem dd_X11_law_22 : decode mb_X11_law 22 = .ok (.aload_n 0, 1) := by decide +kernel
theorem dd_X11_law_23 : decode mb_X11_law 23 = .ok (.getfield 22, 3) := by decide +kernel
theorem dd_X11_law_26 : decode mb_X11_law 26 = .ok (.aload_n 0, 1) := by decide +kernel
theorem dd_X11_law_27 : decode mb_X11_law 27 = .ok (.getfield 29, 3) := by decide +kernel
theorem dd_X11_law_30 : decode mb_X11_law 30 = .ok (.getfield 178, 3) := by decide +kernel
theorem dd_X11_law_33 : decode mb_X11_law 33 = .ok (.invokevirtual 193, 3) := by decide +kernel
theorem dd_X11_law_36 : decode mb_X11_law 36 = .ok (.istore_n 1, 1) := by decide +kernel
theorem dd_X11_law_37 : decode mb_X11_law 37 = .ok (.aload_n 0, 1) := by decide +kernel
theorem dd_X11_law_38 : decode mb_X11_law 38 = .ok (.getfield 22, 3) := by decide +kernel
theorem dd_X11_law_41 : decode mb_X11_law 41 = .ok (.iconst 0, 1) := by decide +kernel
theorem dd_X11_law_42 : decode mb_X11_law 42 = .ok (.putfield 188, 3) := by decide +kernel
theorem dd_X11_law_45 : decode mb_X11_law 45 = .ok (.iload_n 1, 1) := by decide +kernel
theorem dd_X11_law_46 : decode mb_X11_law 46 = .ok (.iconst (-1), 1) := by decide +kernel
theorem dd_X11_law_47 : decode mb_X11_law 47 = .ok (.if_icmp .ne 14, 3) := by decide +kernel
theorem dd_X11_law_50 : decode mb_X11_law 50 = .ok (.aload_n 0, 1) := by decide +kernel
theorem dd_X11_law_51 : decode mb_X11_law 51 = .ok (.getfield 29, 3) := by decide +kernel
theorem dd_X11_law_54 : decode mb_X11_law 54 = .ok (.getfield 178, 3) := by decide +kernel
theorem dd_X11_law_57 : decode mb_X11_law 57 = .ok (.invokevirtual 197, 3) := by decide +kernel
theorem dd_X11_law_60 : decode mb_X11_law 60 = .ok (.ireturn, 1) := by decide +kernel
theorem dd_X11_law_61 : decode mb_X11_law 61 = .ok (.aload_n 0, 1) := by decide +kernel
theorem dd_X11_law_62 : decode mb_X11_law 62 = .ok (.bipush (-2), 2) := by decide +kernel
theorem dd_X11_law_64 : decode mb_X11_law 64 = .ok (.invokevirtual 63, 3) := by decide +kernel
theorem dd_X11_law_67 : decode mb_X11_law 67 = .ok (.pop, 1) := by decide +kernel
theorem dd_X11_law_68 : decode mb_X11_law 68 = .ok (.bipush (-20), 2) := by decide +kernel
theorem dd_X11_law_70 : decode mb_X11_law 70 = .ok (.iload_n 1, 1) := by decide +kernel
theorem dd_X11_law_71 : decode mb_X11_law 71 = .ok (.isub, 1) := by decide +kernel
theorem dd_X11_law_72 : decode mb_X11_law 72 = .ok (.ireturn, 1) := by decide +kernel
theorem dd_X11_lawOf_0 : decode mb_X11_lawOf 0 = .ok (.aload_n 0, 1) := by decide +kernel
theorem dd_X11_lawOf_1 : decode mb_X11_lawOf 1 = .ok (.getfield 29, 3) := by decide +kernel
theorem dd_X11_lawOf_4 : decode mb_X11_lawOf 4 = .ok (.getfield 178, 3) := by decide +kernel
theorem dd_X11_lawOf_7 : decode mb_X11_lawOf 7 = .ok (.iload_n 1, 1) := by decide +kernel
theorem dd_X11_lawOf_8 : decode mb_X11_lawOf 8 = .ok (.invokevirtual 182, 3) := by decide +kernel
theorem dd_X11_lawOf_11 : decode mb_X11_lawOf 11 = .ok (.ifCond .eq 12, 3) := by decide +kernel
theorem dd_X11_lawOf_14 : decode mb_X11_lawOf 14 = .ok (.iload_n 2, 1) := by decide +kernel
theorem dd_X11_lawOf_15 : decode mb_X11_lawOf 15 = .ok (.iconst 0, 1) := by decide +kernel
theorem dd_X11_lawOf_16 : decode mb_X11_lawOf 16 = .ok (.iconst 4, 1) := by decide +kernel
theorem dd_X11_lawOf_17 : decode mb_X11_lawOf 17 = .ok (.invokestatic 59, 3) := by decide +kernel
theorem dd_X11_lawOf_20 : decode mb_X11_lawOf 20 = .ok (.ifCond .ne 10, 3) := by decide +kernel
theorem dd_X11_lawOf_23 : decode mb_X11_lawOf 23 = .ok (.aload_n 0, 1) := by decide +kernel
theorem dd_X11_lawOf_24 : decode mb_X11_lawOf 24 = .ok (.bipush (-2), 2) := by decide +kernel
theorem dd_X11_lawOf_26 : decode mb_X11_lawOf 26 = .ok (.invokevirtual 63, 3) := by decide +kernel
theorem dd_X11_lawOf_29 : decode mb_X11_lawOf 29 = .ok (.ireturn, 1) := by decide +kernel
theorem dd_X11_lawOf_30 : decode mb_X11_lawOf 30 = .ok (.aload_n 0, 1) := by decide +kernel
theorem dd_X11_lawOf_31 : decode mb_X11_lawOf 31 = .ok (.getfield 29, 3) := by decide +kernel
theorem dd_X11_lawOf_34 : decode mb_X11_lawOf 34 = .ok (.getfield 178, 3) := by decide +kernel
theorem dd_X11_lawOf_37 : decode mb_X11_lawOf 37 = .ok (.iload_n 1, 1) := by decide +kernel
theorem dd_X11_lawOf_38 : decode mb_X11_lawOf 38 = .ok (.iload_n 2, 1) := by decide +kernel
theorem dd_X11_lawOf_39 : decode mb_X11_lawOf 39 = .ok (.invokevirtual 201, 3) := by decide +kernel
theorem dd_X11_lawOf_42 : decode mb_X11_lawOf 42 = .ok (.ireturn, 1) := by decide +kernel
theorem dd_X11_longest_0 : decode mb_X11_longest 0 = .ok (.aload_n 0, 1) := by decide +kernel
theorem dd_X11_longest_1 : decode mb_X11_longest 1 = .ok (.getfield 29, 3) := by decide +kernel
theorem dd_X11_longest_4 : decode mb_X11_longest 4 = .ok (.getfield 321, 3) := by decide +kernel
theorem dd_X11_longest_7 : decode mb_X11_longest 7 = .ok (.invokevirtual 336, 3) := by decide +kernel
theorem dd_X11_longest_10 : decode mb_X11_longest 10 = .ok (.ireturn, 1) := by decide +kernel
theorem dd_X11_looks_0 : decode mb_X11_looks 0 = .ok (.iload_n 1, 1) := by decide +kernel
theorem dd_X11_looks_1 : decode mb_X11_looks 1 = .ok (.invokestatic 339, 3) := by decide +kernel
theorem dd_X11_looks_4 : decode mb_X11_looks 4 = .ok (.ifCond .eq 13, 3) := by decide +kernel
theorem dd_X11_looks_7 : decode mb_X11_looks 7 = .ok (.iload_n 2, 1) := by decide +kernel
theorem dd_X11_looks_8 : decode mb_X11_looks 8 = .ok (.iconst 0, 1) := by decide +kernel
theorem dd_X11_looks_9 : decode mb_X11_looks 9 = .ok (.bipush 31, 2) := by decide +kernel
theorem dd_X11_looks_11 : decode mb_X11_looks 11 = .ok (.invokestatic 59, 3) := by decide +kernel
theorem dd_X11_looks_14 : decode mb_X11_looks 14 = .ok (.ifCond .ne 10, 3) := by decide +kernel
theorem dd_X11_looks_17 : decode mb_X11_looks 17 = .ok (.aload_n 0, 1) := by decide +kernel
theorem dd_X11_looks_18 : decode mb_X11_looks 18 = .ok (.bipush (-2), 2) := by decide +kernel
theorem dd_X11_looks_20 : decode mb_X11_looks 20 = .ok (.invokevirtual 63, 3) := by decide +kernel
theorem dd_X11_looks_23 : decode mb_X11_looks 23 = .ok (.ireturn, 1) := by decide +kernel
theorem dd_X11_looks_24 : decode mb_X11_looks 24 = .ok (.aload_n 0, 1) := by decide +kernel
theorem dd_X11_looks_25 : decode mb_X11_looks 25 = .ok (.getfield 29, 3) := by decide +kernel
theorem dd_X11_looks_28 : decode mb_X11_looks 28 = .ok (.getfield 342, 3) := by decide +kernel
theorem dd_X11_looks_31 : decode mb_X11_looks 31 = .ok (.getfield 350, 3) := by decide +kernel
theorem dd_X11_looks_34 : decode mb_X11_looks 34 = .ok (.iload_n 1, 1) := by decide +kernel
theorem dd_X11_looks_35 : decode mb_X11_looks 35 = .ok (.iaload, 1) := by decide +kernel
theorem dd_X11_looks_36 : decode mb_X11_looks 36 = .ok (.istore_n 3, 1) := by decide +kernel
theorem dd_X11_looks_37 : decode mb_X11_looks 37 = .ok (.aload_n 0, 1) := by decide +kernel
theorem dd_X11_looks_38 : decode mb_X11_looks 38 = .ok (.getfield 29, 3) := by decide +kernel
theorem dd_X11_looks_41 : decode mb_X11_looks 41 = .ok (.getfield 342, 3) := by decide +kernel
theorem dd_X11_looks_44 : decode mb_X11_looks 44 = .ok (.getfield 350, 3) := by decide +kernel
theorem dd_X11_looks_47 : decode mb_X11_looks 47 = .ok (.iload_n 1, 1) := by decide +kernel
theorem dd_X11_looks_48 : decode mb_X11_looks 48 = .ok (.iload_n 2, 1) := by decide +kernel
theorem dd_X11_looks_49 : decode mb_X11_looks 49 = .ok (.iastore, 1) := by decide +kernel
theorem dd_X11_looks_50 : decode mb_X11_looks 50 = .ok (.iload_n 3, 1) := by decide +kernel
theorem dd_X11_looks_51 : decode mb_X11_looks 51 = .ok (.ireturn, 1) := by decide +kernel
theorem dd_X11_loses_0 : decode mb_X11_loses 0 = .ok (.aload_n 0, 1) := by decide +kernel
theorem dd_X11_loses_1 : decode mb_X11_loses 1 = .ok (.getfield 29, 3) := by decide +kernel
theorem dd_X11_loses_4 : decode mb_X11_loses 4 = .ok (.getfield 168, 3) := by decide +kernel
theorem dd_X11_loses_7 : decode mb_X11_loses 7 = .ok (.iload_n 1, 1) := by decide +kernel
theorem dd_X11_loses_8 : decode mb_X11_loses 8 = .ok (.invokevirtual 177, 3) := by decide +kernel
theorem dd_X11_loses_11 : decode mb_X11_loses 11 = .ok (.ifCond .eq 10, 3) := by decide +kernel
theorem dd_X11_loses_14 : decode mb_X11_loses 14 = .ok (.iload_n 2, 1) := by decide +kernel
theorem dd_X11_loses_15 : decode mb_X11_loses 15 = .ok (.invokestatic 165, 3) := by decide +kernel
theorem dd_X11_loses_18 : decode mb_X11_loses 18 = .ok (.ifCond .ne 10, 3) := by decide +kernel
theorem dd_X11_loses_21 : decode mb_X11_loses 21 = .ok (.aload_n 0, 1) := by decide +kernel
theorem dd_X11_loses_22 : decode mb_X11_loses 22 = .ok (.bipush (-2), 2) := by decide +kernel
theorem dd_X11_loses_24 : decode mb_X11_loses 24 = .ok (.invokevirtual 63, 3) := by decide +kernel
theorem dd_X11_loses_27 : decode mb_X11_loses 27 = .ok (.ireturn, 1) := by decide +kernel
theorem dd_X11_loses_28 : decode mb_X11_loses 28 = .ok (.aload_n 0, 1) := by decide +kernel
theorem dd_X11_loses_29 : decode mb_X11_loses 29 = .ok (.getfield 29, 3) := by decide +kernel
theorem dd_X11_loses_32 : decode mb_X11_loses 32 = .ok (.iload_n 1, 1) := by decide +kernel
theorem dd_X11_loses_33 : decode mb_X11_loses 33 = .ok (.iload_n 2, 1) := by decide +kernel
theorem dd_X11_loses_34 : decode mb_X11_loses 34 = .ok (.invokevirtual 279, 3) := by decide +kernel
theorem dd_X11_loses_37 : decode mb_X11_loses 37 = .ok (.ireturn, 1) := by decide +kernel
theorem dd_X11_mark_0 : decode mb_X11_mark 0 = .ok (.aload_n 0, 1) := by decide +kernel
theorem dd_X11_mark_1 : decode mb_X11_mark 1 = .ok (.getfield 29, 3) := by decide +kernel
theorem dd_X11_mark_4 : decode mb_X11_mark 4 = .ok (.getfield 113, 3) := by decide +kernel
theorem dd_X11_mark_7 : decode mb_X11_mark 7 = .ok (.iload_n 1, 1) := by decide +kernel
theorem dd_X11_mark_8 : decode mb_X11_mark 8 = .ok (.invokevirtual 117, 3) := by decide +kernel
theorem dd_X11_mark_11 : decode mb_X11_mark 11 = .ok (.ifCond .eq 19, 3) := by decide +kernel
theorem dd_X11_mark_14 : decode mb_X11_mark 14 = .ok (.iload_n 2, 1) := by decide +kernel
theorem dd_X11_mark_15 : decode mb_X11_mark 15 = .ok (.iconst (-1), 1) := by decide +kernel
theorem dd_X11_mark_16 : decode mb_X11_mark 16 = .ok (.if_icmp .eq 21, 3) := by decide +kernel
theorem dd_X11_mark_19 : decode mb_X11_mark 19 = .ok (.iload_n 2, 1) := by decide +kernel
theorem dd_X11_mark_20 : decode mb_X11_mark 20 = .ok (.iconst 0, 1) := by decide +kernel
theorem dd_X11_mark_21 : decode mb_X11_mark 21 = .ok (.sipush 999, 3) := by decide +kernel
theorem dd_X11_mark_24 : decode mb_X11_mark 24 = .ok (.invokestatic 59, 3) := by decide +kernel
theorem dd_X11_mark_27 : decode mb_X11_mark 27 = .ok (.ifCond .ne 10, 3) := by decide +kernel
theorem dd_X11_mark_30 : decode mb_X11_mark 30 = .ok (.aload_n 0, 1) := by decide +kernel
theorem dd_X11_mark_31 : decode mb_X11_mark 31 = .ok (.bipush (-2), 2) := by decide +kernel
theorem dd_X11_mark_33 : decode mb_X11_mark 33 = .ok (.invokevirtual 63, 3) := by decide +kernel
theorem dd_X11_mark_36 : decode mb_X11_mark 36 = .ok (.ireturn, 1) := by decide +kernel
theorem dd_X11_mark_37 : decode mb_X11_mark 37 = .ok (.aload_n 0, 1) := by decide +kernel
theorem dd_X11_mark_38 : decode mb_X11_mark 38 = .ok (.getfield 29, 3) := by decide +kernel
theorem dd_X11_mark_41 : decode mb_X11_mark 41 = .ok (.getfield 113, 3) := by decide +kernel
theorem dd_X11_mark_44 : decode mb_X11_mark 44 = .ok (.iload_n 1, 1) := by decide +kernel
theorem dd_X11_mark_45 : decode mb_X11_mark 45 = .ok (.invokevirtual 213, 3) := by decide +kernel
theorem dd_X11_mark_48 : decode mb_X11_mark 48 = .ok (.ifCond .eq 10, 3) := by decide +kernel
theorem dd_X11_mark_51 : decode mb_X11_mark 51 = .ok (.aload_n 0, 1) := by decide +kernel
theorem dd_X11_mark_52 : decode mb_X11_mark 52 = .ok (.bipush (-5), 2) := by decide +kernel
theorem dd_X11_mark_54 : decode mb_X11_mark 54 = .ok (.invokevirtual 63, 3) := by decide +kernel
theorem dd_X11_mark_57 : decode mb_X11_mark 57 = .ok (.ireturn, 1) := by decide +kernel
theorem dd_X11_mark_58 : decode mb_X11_mark 58 = .ok (.aload_n 0, 1) := by decide +kernel
theorem dd_X11_mark_59 : decode mb_X11_mark 59 = .ok (.getfield 29, 3) := by decide +kernel
theorem dd_X11_mark_62 : decode mb_X11_mark 62 = .ok (.getfield 113, 3) := by decide +kernel
theorem dd_X11_mark_65 : decode mb_X11_mark 65 = .ok (.getfield 153, 3) := by decide +kernel
theorem dd_X11_mark_68 : decode mb_X11_mark 68 = .ok (.iload_n 1, 1) := by decide +kernel
theorem dd_X11_mark_69 : decode mb_X11_mark 69 = .ok (.iaload, 1) := by decide +kernel
theorem dd_X11_mark_70 : decode mb_X11_mark 70 = .ok (.istore_n 3, 1) := by decide +kernel
theorem dd_X11_mark_71 : decode mb_X11_mark 71 = .ok (.aload_n 0, 1) := by decide +kernel
theorem dd_X11_mark_72 : decode mb_X11_mark 72 = .ok (.getfield 29, 3) := by decide +kernel
theorem dd_X11_mark_75 : decode mb_X11_mark 75 = .ok (.getfield 113, 3) := by decide +kernel
theorem dd_X11_mark_78 : decode mb_X11_mark 78 = .ok (.getfield 153, 3) := by decide +kernel
theorem dd_X11_mark_81 : decode mb_X11_mark 81 = .ok (.iload_n 1, 1) := by decide +kernel
theorem dd_X11_mark_82 : decode mb_X11_mark 82 = .ok (.iload_n 2, 1) := by decide +kernel
theorem dd_X11_mark_83 : decode mb_X11_mark 83 = .ok (.iastore, 1) := by decide +kernel
theorem dd_X11_mark_84 : decode mb_X11_mark 84 = .ok (.iload_n 3, 1) := by decide +kernel
theorem dd_X11_mark_85 : decode mb_X11_mark 85 = .ok (.ireturn, 1) := by decide +kernel
theorem dd_X11_morning_0 : decode mb_X11_morning 0 = .ok (.aload_n 0, 1) := by decide +kernel
theorem dd_X11_morning_1 : decode mb_X11_morning 1 = .ok (.getfield 29, 3) := by decide +kernel
theorem dd_X11_morning_4 : decode mb_X11_morning 4 = .ok (.getfield 282, 3) := by decide +kernel
theorem dd_X11_morning_7 : decode mb_X11_morning 7 = .ok (.istore_n 1, 1) := by decide +kernel
theorem dd_X11_morning_8 : decode mb_X11_morning 8 = .ok (.aload_n 0, 1) := by decide +kernel
theorem dd_X11_morning_9 : decode mb_X11_morning 9 = .ok (.getfield 29, 3) := by decide +kernel
theorem dd_X11_morning_12 : decode mb_X11_morning 12 = .ok (.iconst 0, 1) := by decide +kernel
theorem dd_X11_morning_13 : decode mb_X11_morning 13 = .ok (.putfield 282, 3) := by decide +kernel
theorem dd_X11_morning_16 : decode mb_X11_morning 16 = .ok (.aload_n 0, 1) := by decide +kernel
theorem dd_X11_morning_17 : decode mb_X11_morning 17 = .ok (.getfield 29, 3) := by decide +kernel
theorem dd_X11_morning_20 : decode mb_X11_morning 20 = .ok (.iconst 0, 1) := by decide +kernel
theorem dd_X11_morning_21 : decode mb_X11_morning 21 = .ok (.putfield 293, 3) := by decide +kernel
theorem dd_X11_morning_24 : decode mb_X11_morning 24 = .ok (.iload_n 1, 1) := by decide +kernel
theorem dd_X11_morning_25 : decode mb_X11_morning 25 = .ok (.ireturn, 1) := by decide +kernel
theorem dd_X11_price_0 : decode mb_X11_price 0 = .ok (.aload_n 0, 1) := by decide +kernel
theorem dd_X11_price_1 : decode mb_X11_price 1 = .ok (.getfield 29, 3) := by decide +kernel
theorem dd_X11_price_4 : decode mb_X11_price 4 = .ok (.getfield 168, 3) := by decide +kernel
theorem dd_X11_price_7 : decode mb_X11_price 7 = .ok (.iload_n 1, 1) := by decide +kernel
theorem dd_X11_price_8 : decode mb_X11_price 8 = .ok (.invokevirtual 177, 3) := by decide +kernel
theorem dd_X11_price_11 : decode mb_X11_price 11 = .ok (.ifCond .eq 10, 3) := by decide +kernel
theorem dd_X11_price_14 : decode mb_X11_price 14 = .ok (.iload_n 2, 1) := by decide +kernel
theorem dd_X11_price_15 : decode mb_X11_price 15 = .ok (.invokestatic 165, 3) := by decide +kernel
theorem dd_X11_price_18 : decode mb_X11_price 18 = .ok (.ifCond .ne 10, 3) := by decide +kernel
theorem dd_X11_price_21 : decode mb_X11_price 21 = .ok (.aload_n 0, 1) := by decide +kernel
theorem dd_X11_price_22 : decode mb_X11_price 22 = .ok (.bipush (-2), 2) := by decide +kernel
theorem dd_X11_price_24 : decode mb_X11_price 24 = .ok (.invokevirtual 63, 3) := by decide +kernel
theorem dd_X11_price_27 : decode mb_X11_price 27 = .ok (.ireturn, 1) := by decide +kernel
theorem dd_X11_price_28 : decode mb_X11_price 28 = .ok (.aload_n 0, 1) := by decide +kernel
theorem dd_X11_price_29 : decode mb_X11_price 29 = .ok (.getfield 29, 3) := by decide +kernel
theorem dd_X11_price_32 : decode mb_X11_price 32 = .ok (.iload_n 1, 1) := by decide +kernel
theorem dd_X11_price_33 : decode mb_X11_price 33 = .ok (.iload_n 2, 1) := by decide +kernel
theorem dd_X11_price_34 : decode mb_X11_price 34 = .ok (.invokevirtual 210, 3) := by decide +kernel
theorem dd_X11_price_37 : decode mb_X11_price 37 = .ok (.ireturn, 1) := by decide +kernel
theorem dd_X11_refusalOfRow_0 : decode mb_X11_refusalOfRow 0 = .ok (.iload_n 1, 1) := by decide +kernel
theorem dd_X11_refusalOfRow_1 : decode mb_X11_refusalOfRow 1 = .ok (.invokestatic 55, 3) := by decide +kernel
theorem dd_X11_refusalOfRow_4 : decode mb_X11_refusalOfRow 4 = .ok (.ifCond .ne 6, 3) := by decide +kernel
theorem dd_X11_refusalOfRow_7 : decode mb_X11_refusalOfRow 7 = .ok (.bipush (-2), 2) := by decide +kernel
theorem dd_X11_refusalOfRow_9 : decode mb_X11_refusalOfRow 9 = .ok (.ireturn, 1) := by decide +kernel
theorem dd_X11_refusalOfRow_10 : decode mb_X11_refusalOfRow 10 = .ok (.aload_n 0, 1) := by decide +kernel
theorem dd_X11_refusalOfRow_11 : decode mb_X11_refusalOfRow 11 = .ok (.getfield 11, 3) := by decide +kernel
theorem dd_X11_refusalOfRow_14 : decode mb_X11_refusalOfRow 14 = .ok (.iload_n 1, 1) := by decide +kernel
theorem dd_X11_refusalOfRow_15 : decode mb_X11_refusalOfRow 15 = .ok (.aaload, 1) := by decide +kernel
theorem dd_X11_refusalOfRow_16 : decode mb_X11_refusalOfRow 16 = .ok (.invokevirtual 82, 3) := by decide +kernel
theorem dd_X11_refusalOfRow_19 : decode mb_X11_refusalOfRow 19 = .ok (.ifCond .eq 6, 3) := by decide +kernel
theorem dd_X11_refusalOfRow_22 : decode mb_X11_refusalOfRow 22 = .ok (.bipush (-3), 2) := by decide +kernel
theorem dd_X11_refusalOfRow_24 : decode mb_X11_refusalOfRow 24 = .ok (.ireturn, 1) := by decide +kernel
theorem dd_X11_refusalOfRow_25 : decode mb_X11_refusalOfRow 25 = .ok (.aload_n 0, 1) := by decide +kernel
theorem dd_X11_refusalOfRow_26 : decode mb_X11_refusalOfRow 26 = .ok (.getfield 11, 3) := by decide +kernel
theorem dd_X11_refusalOfRow_29 : decode mb_X11_refusalOfRow 29 = .ok (.iload_n 1, 1) := by decide +kernel
theorem dd_X11_refusalOfRow_30 : decode mb_X11_refusalOfRow 30 = .ok (.aaload, 1) := by decide +kernel
theorem dd_X11_refusalOfRow_31 : decode mb_X11_refusalOfRow 31 = .ok (.invokevirtual 92, 3) := by decide +kernel
theorem dd_X11_refusalOfRow_34 : decode mb_X11_refusalOfRow 34 = .ok (.ifCond .eq 8, 3) := by decide +kernel
theorem dd_X11_refusalOfRow_37 : decode mb_X11_refusalOfRow 37 = .ok (.bipush (-4), 2) := by decide +kernel
theorem dd_X11_refusalOfRow_39 : decode mb_X11_refusalOfRow 39 = .ok (.goto 4, 3) := by decide +kernel
theorem dd_X11_refusalOfRow_42 : decode mb_X11_refusalOfRow 42 = .ok (.iconst 0, 1) := by decide +kernel
theorem dd_X11_refusalOfRow_43 : decode mb_X11_refusalOfRow 43 = .ok (.ireturn, 1) := by decide +kernel
theorem dd_X11_refuse_0 : decode mb_X11_refuse 0 = .ok (.bipush (-2), 2) := by decide +kernel
theorem dd_X11_refuse_2 : decode mb_X11_refuse 2 = .ok (.iload_n 1, 1) := by decide +kernel
theorem dd_X11_refuse_3 : decode mb_X11_refuse 3 = .ok (.isub, 1) := by decide +kernel
theorem dd_X11_refuse_4 : decode mb_X11_refuse 4 = .ok (.istore_n 2, 1) := by decide +kernel
theorem dd_X11_refuse_5 : decode mb_X11_refuse 5 = .ok (.iload_n 2, 1) := by decide +kernel
theorem dd_X11_refuse_6 : decode mb_X11_refuse 6 = .ok (.iconst 0, 1) := by decide +kernel
theorem dd_X11_refuse_7 : decode mb_X11_refuse 7 = .ok (.iconst 4, 1) := by decide +kernel
theorem dd_X11_refuse_8 : decode mb_X11_refuse 8 = .ok (.invokestatic 59, 3) := by decide +kernel
theorem dd_X11_refuse_11 : decode mb_X11_refuse 11 = .ok (.ifCond .eq 13, 3) := by decide +kernel
theorem dd_X11_refuse_14 : decode mb_X11_refuse 14 = .ok (.aload_n 0, 1) := by decide +kernel
theorem dd_X11_refuse_15 : decode mb_X11_refuse 15 = .ok (.getfield 15, 3) := by decide +kernel
theorem dd_X11_refuse_18 : decode mb_X11_refuse 18 = .ok (.iload_n 2, 1) := by decide +kernel
theorem dd_X11_refuse_19 : decode mb_X11_refuse 19 = .ok (.dup2, 1) := by decide +kernel
theorem dd_X11_refuse_20 : decode mb_X11_refuse 20 = .ok (.iaload, 1) := by decide +kernel
theorem dd_X11_refuse_21 : decode mb_X11_refuse 21 = .ok (.iconst 1, 1) := by decide +kernel
theorem dd_X11_refuse_22 : decode mb_X11_refuse 22 = .ok (.iadd, 1) := by decide +kernel
theorem dd_X11_refuse_23 : decode mb_X11_refuse 23 = .ok (.iastore, 1) := by decide +kernel
theorem dd_X11_refuse_24 : decode mb_X11_refuse 24 = .ok (.iload_n 1, 1) := by decide +kernel
theorem dd_X11_refuse_25 : decode mb_X11_refuse 25 = .ok (.ireturn, 1) := by decide +kernel
theorem dd_X11_rest_0 : decode mb_X11_rest 0 = .ok (.iload_n 1, 1) := by decide +kernel
theorem dd_X11_rest_1 : decode mb_X11_rest 1 = .ok (.iconst (-1), 1) := by decide +kernel
theorem dd_X11_rest_2 : decode mb_X11_rest 2 = .ok (.if_icmp .eq 17, 3) := by decide +kernel
theorem dd_X11_rest_5 : decode mb_X11_rest 5 = .ok (.iload_n 1, 1) := by decide +kernel
theorem dd_X11_rest_6 : decode mb_X11_rest 6 = .ok (.invokestatic 122, 3) := by decide +kernel
theorem dd_X11_rest_9 : decode mb_X11_rest 9 = .ok (.ifCond .ne 10, 3) := by decide +kernel
theorem dd_X11_rest_12 : decode mb_X11_rest 12 = .ok (.aload_n 0, 1) := by decide +kernel
theorem dd_X11_rest_13 : decode mb_X11_rest 13 = .ok (.bipush (-2), 2) := by decide +kernel
theorem dd_X11_rest_15 : decode mb_X11_rest 15 = .ok (.invokevirtual 63, 3) := by decide +kernel
theorem dd_X11_rest_18 : decode mb_X11_rest 18 = .ok (.ireturn, 1) := by decide +kernel
theorem dd_X11_rest_19 : decode mb_X11_rest 19 = .ok (.aload_n 0, 1) := by decide +kernel
theorem dd_X11_rest_20 : decode mb_X11_rest 20 = .ok (.getfield 29, 3) := by decide +kernel
theorem dd_X11_rest_23 : decode mb_X11_rest 23 = .ok (.getfield 113, 3) := by decide +kernel
theorem dd_X11_rest_26 : decode mb_X11_rest 26 = .ok (.iload_n 1, 1) := by decide +kernel
theorem dd_X11_rest_27 : decode mb_X11_rest 27 = .ok (.iconst (-1), 1) := by decide +kernel
theorem dd_X11_rest_28 : decode mb_X11_rest 28 = .ok (.if_icmp .ne 8, 3) := by decide +kernel
theorem dd_X11_rest_31 : decode mb_X11_rest 31 = .ok (.bipush 63, 2) := by decide +kernel
theorem dd_X11_rest_33 : decode mb_X11_rest 33 = .ok (.goto 6, 3) := by decide +kernel
theorem dd_X11_rest_36 : decode mb_X11_rest 36 = .ok (.iconst 1, 1) := by decide +kernel
theorem dd_X11_rest_37 : decode mb_X11_rest 37 = .ok (.iload_n 1, 1) := by decide +kernel
theorem dd_X11_rest_38 : decode mb_X11_rest 38 = .ok (.ishl, 1) := by decide +kernel
theorem dd_X11_rest_39 : decode mb_X11_rest 39 = .ok (.invokevirtual 276, 3) := by decide +kernel
theorem dd_X11_rest_42 : decode mb_X11_rest 42 = .ok (.ireturn, 1) := by decide +kernel
theorem dd_X11_row_0 : decode mb_X11_row 0 = .ok (.iload_n 1, 1) := by decide +kernel
theorem dd_X11_row_1 : decode mb_X11_row 1 = .ok (.invokestatic 55, 3) := by decide +kernel
theorem dd_X11_row_4 : decode mb_X11_row 4 = .ok (.ifCond .eq 22, 3) := by decide +kernel
theorem dd_X11_row_7 : decode mb_X11_row 7 = .ok (.iload_n 2, 1) := by decide +kernel
theorem dd_X11_row_8 : decode mb_X11_row 8 = .ok (.iconst 0, 1) := by decide +kernel
theorem dd_X11_row_9 : decode mb_X11_row 9 = .ok (.iconst 4, 1) := by decide +kernel
theorem dd_X11_row_10 : decode mb_X11_row 10 = .ok (.invokestatic 59, 3) := by decide +kernel
theorem dd_X11_row_13 : decode mb_X11_row 13 = .ok (.ifCond .eq 13, 3) := by decide +kernel
theorem dd_X11_row_16 : decode mb_X11_row 16 = .ok (.iload_n 3, 1) := by decide +kernel
theorem dd_X11_row_17 : decode mb_X11_row 17 = .ok (.iconst 0, 1) := by decide +kernel
theorem dd_X11_row_18 : decode mb_X11_row 18 = .ok (.bipush 40, 2) := by decide +kernel
theorem dd_X11_row_20 : decode mb_X11_row 20 = .ok (.invokestatic 59, 3) := by decide +kernel
theorem dd_X11_row_23 : decode mb_X11_row 23 = .ok (.ifCond .ne 10, 3) := by decide +kernel
theorem dd_X11_row_26 : decode mb_X11_row 26 = .ok (.aload_n 0, 1) := by decide +kernel
theorem dd_X11_row_27 : decode mb_X11_row 27 = .ok (.bipush (-2), 2) := by decide +kernel
theorem dd_X11_row_29 : decode mb_X11_row 29 = .ok (.invokevirtual 63, 3) := by decide +kernel
theorem dd_X11_row_32 : decode mb_X11_row 32 = .ok (.ireturn, 1) := by decide +kernel
theorem dd_X11_row_33 : decode mb_X11_row 33 = .ok (.aload_n 0, 1) := by decide +kernel
theorem dd_X11_row_34 : decode mb_X11_row 34 = .ok (.getfield 11, 3) := by decide +kernel
theorem dd_X11_row_37 : decode mb_X11_row 37 = .ok (.iload_n 1, 1) := by decide +kernel
theorem dd_X11_row_38 : decode mb_X11_row 38 = .ok (.aaload, 1) := by decide +kernel
theorem dd_X11_row_39 : decode mb_X11_row 39 = .ok (.iload_n 2, 1) := by decide +kernel
theorem dd_X11_row_40 : decode mb_X11_row 40 = .ok (.iload_n 3, 1) := by decide +kernel
theorem dd_X11_row_41 : decode mb_X11_row 41 = .ok (.invokevirtual 67, 3) := by decide +kernel
theorem dd_X11_row_44 : decode mb_X11_row 44 = .ok (.iconst 1, 1) := by decide +kernel
theorem dd_X11_row_45 : decode mb_X11_row 45 = .ok (.ireturn, 1) := by decide +kernel
theorem dd_X11_same_0 : decode mb_X11_same 0 = .ok (.aload_n 0, 1) := by decide +kernel
theorem dd_X11_same_1 : decode mb_X11_same 1 = .ok (.getfield 29, 3) := by decide +kernel
theorem dd_X11_same_4 : decode mb_X11_same 4 = .ok (.getfield 321, 3) := by decide +kernel
theorem dd_X11_same_7 : decode mb_X11_same 7 = .ok (.iload_n 1, 1) := by decide +kernel
theorem dd_X11_same_8 : decode mb_X11_same 8 = .ok (.invokevirtual 329, 3) := by decide +kernel
theorem dd_X11_same_11 : decode mb_X11_same 11 = .ok (.ifCond .eq 17, 3) := by decide +kernel
theorem dd_X11_same_14 : decode mb_X11_same 14 = .ok (.aload_n 0, 1) := by decide +kernel
theorem dd_X11_same_15 : decode mb_X11_same 15 = .ok (.getfield 29, 3) := by decide +kernel
theorem dd_X11_same_18 : decode mb_X11_same 18 = .ok (.getfield 321, 3) := by decide +kernel
theorem dd_X11_same_21 : decode mb_X11_same 21 = .ok (.iload_n 2, 1) := by decide +kernel
theorem dd_X11_same_22 : decode mb_X11_same 22 = .ok (.invokevirtual 329, 3) := by decide +kernel
theorem dd_X11_same_25 : decode mb_X11_same 25 = .ok (.ifCond .ne 10, 3) := by decide +kernel
theorem dd_X11_same_28 : decode mb_X11_same 28 = .ok (.aload_n 0, 1) := by decide +kernel
theorem dd_X11_same_29 : decode mb_X11_same 29 = .ok (.bipush (-2), 2) := by decide +kernel
theorem dd_X11_same_31 : decode mb_X11_same 31 = .ok (.invokevirtual 63, 3) := by decide +kernel
theorem dd_X11_same_34 : decode mb_X11_same 34 = .ok (.ireturn, 1) := by decide +kernel
theorem dd_X11_same_35 : decode mb_X11_same 35 = .ok (.aload_n 0, 1) := by decide +kernel
theorem dd_X11_same_36 : decode mb_X11_same 36 = .ok (.getfield 29, 3) := by decide +kernel
theorem dd_X11_same_39 : decode mb_X11_same 39 = .ok (.getfield 321, 3) := by decide +kernel
theorem dd_X11_same_42 : decode mb_X11_same 42 = .ok (.iload_n 1, 1) := by decide +kernel
theorem dd_X11_same_43 : decode mb_X11_same 43 = .ok (.iload_n 2, 1) := by decide +kernel
theorem dd_X11_same_44 : decode mb_X11_same 44 = .ok (.invokevirtual 330, 3) := by decide +kernel
theorem dd_X11_same_47 : decode mb_X11_same 47 = .ok (.ifCond .eq 7, 3) := by decide +kernel
theorem dd_X11_same_50 : decode mb_X11_same 50 = .ok (.iconst 1, 1) := by decide +kernel
theorem dd_X11_same_51 : decode mb_X11_same 51 = .ok (.goto 4, 3) := by decide +kernel
theorem dd_X11_same_54 : decode mb_X11_same 54 = .ok (.iconst 0, 1) := by decide +kernel
theorem dd_X11_same_55 : decode mb_X11_same 55 = .ok (.ireturn, 1) := by decide +kernel
theorem dd_X11_says_0 : decode mb_X11_says 0 = .ok (.iload_n 1, 1) := by decide +kernel
theorem dd_X11_says_1 : decode mb_X11_says 1 = .ok (.invokestatic 55, 3) := by decide +kernel
theorem dd_X11_says_4 : decode mb_X11_says 4 = .ok (.ifCond .eq 10, 3) := by decide +kernel
theorem dd_X11_says_7 : decode mb_X11_says 7 = .ok (.iload_n 2, 1) := by decide +kernel
theorem dd_X11_says_8 : decode mb_X11_says 8 = .ok (.invokestatic 122, 3) := by decide +kernel
theorem dd_X11_says_11 : decode mb_X11_says 11 = .ok (.ifCond .ne 10, 3) := by decide +kernel
theorem dd_X11_says_14 : decode mb_X11_says 14 = .ok (.aload_n 0, 1) := by decide +kernel
theorem dd_X11_says_15 : decode mb_X11_says 15 = .ok (.bipush (-2), 2) := by decide +kernel
theorem dd_X11_says_17 : decode mb_X11_says 17 = .ok (.invokevirtual 63, 3) := by decide +kernel
theorem dd_X11_says_20 : decode mb_X11_says 20 = .ok (.ireturn, 1) := by decide +kernel
theorem dd_X11_says_21 : decode mb_X11_says 21 = .ok (.aload_n 0, 1) := by decide +kernel
theorem dd_X11_says_22 : decode mb_X11_says 22 = .ok (.getfield 11, 3) := by decide +kernel
theorem dd_X11_says_25 : decode mb_X11_says 25 = .ok (.iload_n 1, 1) := by decide +kernel
theorem dd_X11_says_26 : decode mb_X11_says 26 = .ok (.aaload, 1) := by decide +kernel
theorem dd_X11_says_27 : decode mb_X11_says 27 = .ok (.astore_n 3, 1) := by decide +kernel
theorem dd_X11_says_28 : decode mb_X11_says 28 = .ok (.aload_n 3, 1) := by decide +kernel
theorem dd_X11_says_29 : decode mb_X11_says 29 = .ok (.invokevirtual 92, 3) := by decide +kernel
theorem dd_X11_says_32 : decode mb_X11_says 32 = .ok (.ifCond .eq 10, 3) := by decide +kernel
theorem dd_X11_says_35 : decode mb_X11_says 35 = .ok (.aload_n 0, 1) := by decide +kernel
theorem dd_X11_says_36 : decode mb_X11_says 36 = .ok (.bipush (-4), 2) := by decide +kernel
theorem dd_X11_says_38 : decode mb_X11_says 38 = .ok (.invokevirtual 63, 3) := by decide +kernel
theorem dd_X11_says_41 : decode mb_X11_says 41 = .ok (.ireturn, 1) := by decide +kernel
theorem dd_X11_says_42 : decode mb_X11_says 42 = .ok (.aload_n 3, 1) := by decide +kernel
theorem dd_X11_says_43 : decode mb_X11_says 43 = .ok (.getfield 89, 3) := by decide +kernel
theorem dd_X11_says_46 : decode mb_X11_says 46 = .ok (.bipush 10, 2) := by decide +kernel
theorem dd_X11_says_48 : decode mb_X11_says 48 = .ok (.isub, 1) := by decide +kernel
theorem dd_X11_says_49 : decode mb_X11_says 49 = .ok (.istore 4, 2) := by decide +kernel
theorem dd_X11_says_51 : decode mb_X11_says 51 = .ok (.aload_n 0, 1) := by decide +kernel
theorem dd_X11_says_52 : decode mb_X11_says 52 = .ok (.getfield 29, 3) := by decide +kernel
theorem dd_X11_says_55 : decode mb_X11_says 55 = .ok (.getfield 113, 3) := by decide +kernel
theorem dd_X11_says_58 : decode mb_X11_says 58 = .ok (.iload 4, 2) := by decide +kernel
theorem dd_X11_says_60 : decode mb_X11_says 60 = .ok (.invokevirtual 117, 3) := by decide +kernel
theorem dd_X11_says_63 : decode mb_X11_says 63 = .ok (.ifCond .eq 19, 3) := by decide +kernel
theorem dd_X11_says_66 : decode mb_X11_says 66 = .ok (.aload_n 0, 1) := by decide +kernel
theorem dd_X11_says_67 : decode mb_X11_says 67 = .ok (.getfield 29, 3) := by decide +kernel
theorem dd_X11_says_70 : decode mb_X11_says 70 = .ok (.getfield 113, 3) := by decide +kernel
theorem dd_X11_says_73 : decode mb_X11_says 73 = .ok (.iload 4, 2) := by decide +kernel
theorem dd_X11_says_75 : decode mb_X11_says 75 = .ok (.iload_n 2, 1) := by decide +kernel
theorem dd_X11_says_76 : decode mb_X11_says 76 = .ok (.invokevirtual 125, 3) := by decide +kernel
theorem dd_X11_says_79 : decode mb_X11_says 79 = .ok (.ifCond .ne 10, 3) := by decide +kernel
theorem dd_X11_says_82 : decode mb_X11_says 82 = .ok (.aload_n 0, 1) := by decide +kernel
theorem dd_X11_says_83 : decode mb_X11_says 83 = .ok (.bipush (-3), 2) := by decide +kernel
theorem dd_X11_says_85 : decode mb_X11_says 85 = .ok (.invokevirtual 63, 3) := by decide +kernel
theorem dd_X11_says_88 : decode mb_X11_says 88 = .ok (.ireturn, 1) := by decide +kernel
theorem dd_X11_says_89 : decode mb_X11_says 89 = .ok (.aload_n 0, 1) := by decide +kernel
theorem dd_X11_says_90 : decode mb_X11_says 90 = .ok (.getfield 29, 3) := by decide +kernel
theorem dd_X11_says_93 : decode mb_X11_says 93 = .ok (.getfield 113, 3) := by decide +kernel
theorem dd_X11_says_96 : decode mb_X11_says 96 = .ok (.iload 4, 2) := by decide +kernel
theorem dd_X11_says_98 : decode mb_X11_says 98 = .ok (.iload_n 2, 1) := by decide +kernel
theorem dd_X11_says_99 : decode mb_X11_says 99 = .ok (.invokevirtual 128, 3) := by decide +kernel
theorem dd_X11_says_102 : decode mb_X11_says 102 = .ok (.ireturn, 1) := by decide +kernel
theorem dd_X11_secret_0 : decode mb_X11_secret 0 = .ok (.aload_n 0, 1) := by decide +kernel
theorem dd_X11_secret_1 : decode mb_X11_secret 1 = .ok (.getfield 29, 3) := by decide +kernel
theorem dd_X11_secret_4 : decode mb_X11_secret 4 = .ok (.getfield 113, 3) := by decide +kernel
theorem dd_X11_secret_7 : decode mb_X11_secret 7 = .ok (.iload_n 1, 1) := by decide +kernel
theorem dd_X11_secret_8 : decode mb_X11_secret 8 = .ok (.invokevirtual 117, 3) := by decide +kernel
theorem dd_X11_secret_11 : decode mb_X11_secret 11 = .ok (.ifCond .eq 10, 3) := by decide +kernel
theorem dd_X11_secret_14 : decode mb_X11_secret 14 = .ok (.iload_n 2, 1) := by decide +kernel
theorem dd_X11_secret_15 : decode mb_X11_secret 15 = .ok (.invokestatic 339, 3) := by decide +kernel
theorem dd_X11_secret_18 : decode mb_X11_secret 18 = .ok (.ifCond .ne 10, 3) := by decide +kernel
theorem dd_X11_secret_21 : decode mb_X11_secret 21 = .ok (.aload_n 0, 1) := by decide +kernel
theorem dd_X11_secret_22 : decode mb_X11_secret 22 = .ok (.bipush (-2), 2) := by decide +kernel
theorem dd_X11_secret_24 : decode mb_X11_secret 24 = .ok (.invokevirtual 63, 3) := by decide +kernel
theorem dd_X11_secret_27 : decode mb_X11_secret 27 = .ok (.ireturn, 1) := by decide +kernel
theorem dd_X11_secret_28 : decode mb_X11_secret 28 = .ok (.aload_n 0, 1) := by decide +kernel
theorem dd_X11_secret_29 : decode mb_X11_secret 29 = .ok (.getfield 29, 3) := by decide +kernel
theorem dd_X11_secret_32 : decode mb_X11_secret 32 = .ok (.getfield 342, 3) := by decide +kernel
theorem dd_X11_secret_35 : decode mb_X11_secret 35 = .ok (.getfield 346, 3) := by decide +kernel
theorem dd_X11_secret_38 : decode mb_X11_secret 38 = .ok (.bipush 10, 2) := by decide +kernel
theorem dd_X11_secret_40 : decode mb_X11_secret 40 = .ok (.if_icmp .lt 10, 3) := by decide +kernel
theorem dd_X11_secret_43 : decode mb_X11_secret 43 = .ok (.aload_n 0, 1) := by decide +kernel
theorem dd_X11_secret_44 : decode mb_X11_secret 44 = .ok (.bipush (-6), 2) := by decide +kernel
theorem dd_X11_secret_46 : decode mb_X11_secret 46 = .ok (.invokevirtual 63, 3) := by decide +kernel
theorem dd_X11_secret_49 : decode mb_X11_secret 49 = .ok (.ireturn, 1) := by decide +kernel
theorem dd_X11_secret_50 : decode mb_X11_secret 50 = .ok (.aload_n 0, 1) := by decide +kernel
theorem dd_X11_secret_51 : decode mb_X11_secret 51 = .ok (.getfield 29, 3) := by decide +kernel
theorem dd_X11_secret_54 : decode mb_X11_secret 54 = .ok (.getfield 342, 3) := by decide +kernel
theorem dd_X11_secret_57 : decode mb_X11_secret 57 = .ok (.iload_n 1, 1) := by decide +kernel
theorem dd_X11_secret_58 : decode mb_X11_secret 58 = .ok (.iload_n 2, 1) := by decide +kernel
theorem dd_X11_secret_59 : decode mb_X11_secret 59 = .ok (.invokevirtual 349, 3) := by decide +kernel
theorem dd_X11_secret_62 : decode mb_X11_secret 62 = .ok (.ireturn, 1) := by decide +kernel
theorem dd_X11_set_0 : decode mb_X11_set 0 = .ok (.aload_n 0, 1) := by decide +kernel
theorem dd_X11_set_1 : decode mb_X11_set 1 = .ok (.iload_n 1, 1) := by decide +kernel
theorem dd_X11_set_2 : decode mb_X11_set 2 = .ok (.invokevirtual 71, 3) := by decide +kernel
theorem dd_X11_set_5 : decode mb_X11_set 5 = .ok (.istore 5, 2) := by decide +kernel
theorem dd_X11_set_7 : decode mb_X11_set 7 = .ok (.iload 5, 2) := by decide +kernel
theorem dd_X11_set_9 : decode mb_X11_set 9 = .ok (.ifCond .eq 10, 3) := by decide +kernel
theorem dd_X11_set_12 : decode mb_X11_set 12 = .ok (.aload_n 0, 1) := by decide +kernel
theorem dd_X11_set_13 : decode mb_X11_set 13 = .ok (.iload 5, 2) := by decide +kernel
theorem dd_X11_set_15 : decode mb_X11_set 15 = .ok (.invokevirtual 63, 3) := by decide +kernel
theorem dd_X11_set_18 : decode mb_X11_set 18 = .ok (.ireturn, 1) := by decide +kernel
theorem dd_X11_set_19 : decode mb_X11_set 19 = .ok (.iload_n 2, 1) := by decide +kernel
theorem dd_X11_set_20 : decode mb_X11_set 20 = .ok (.iconst 0, 1) := by decide +kernel
theorem dd_X11_set_21 : decode mb_X11_set 21 = .ok (.aload_n 0, 1) := by decide +kernel
theorem dd_X11_set_22 : decode mb_X11_set 22 = .ok (.getfield 11, 3) := by decide +kernel
theorem dd_X11_set_25 : decode mb_X11_set 25 = .ok (.iload_n 1, 1) := by decide +kernel
theorem dd_X11_set_26 : decode mb_X11_set 26 = .ok (.aaload, 1) := by decide +kernel
theorem dd_X11_set_27 : decode mb_X11_set 27 = .ok (.getfield 74, 3) := by decide +kernel
theorem dd_X11_set_30 : decode mb_X11_set 30 = .ok (.iconst 1, 1) := by decide +kernel
theorem dd_X11_set_31 : decode mb_X11_set 31 = .ok (.isub, 1) := by decide +kernel
theorem dd_X11_set_32 : decode mb_X11_set 32 = .ok (.invokestatic 59, 3) := by decide +kernel
theorem dd_X11_set_35 : decode mb_X11_set 35 = .ok (.ifCond .ne 10, 3) := by decide +kernel
theorem dd_X11_set_38 : decode mb_X11_set 38 = .ok (.aload_n 0, 1) := by decide +kernel
theorem dd_X11_set_39 : decode mb_X11_set 39 = .ok (.bipush (-2), 2) := by decide +kernel
theorem dd_X11_set_41 : decode mb_X11_set 41 = .ok (.invokevirtual 63, 3) := by decide +kernel
theorem dd_X11_set_44 : decode mb_X11_set 44 = .ok (.ireturn, 1) := by decide +kernel
theorem dd_X11_set_45 : decode mb_X11_set 45 = .ok (.aload_n 0, 1) := by decide +kernel
theorem dd_X11_set_46 : decode mb_X11_set 46 = .ok (.getfield 11, 3) := by decide +kernel
theorem dd_X11_set_49 : decode mb_X11_set 49 = .ok (.iload_n 1, 1) := by decide +kernel
theorem dd_X11_set_50 : decode mb_X11_set 50 = .ok (.aaload, 1) := by decide +kernel
theorem dd_X11_set_51 : decode mb_X11_set 51 = .ok (.iload_n 2, 1) := by decide +kernel
theorem dd_X11_set_52 : decode mb_X11_set 52 = .ok (.lload_n 3, 1) := by decide +kernel
theorem dd_X11_set_53 : decode mb_X11_set 53 = .ok (.invokevirtual 78, 3) := by decide +kernel
theorem dd_X11_set_56 : decode mb_X11_set 56 = .ok (.iconst 1, 1) := by decide +kernel
theorem dd_X11_set_57 : decode mb_X11_set 57 = .ok (.ireturn, 1) := by decide +kernel
theorem dd_X11_shelvesInUse_0 : decode mb_X11_shelvesInUse 0 = .ok (.iconst 0, 1) := by decide +kernel
theorem dd_X11_shelvesInUse_1 : decode mb_X11_shelvesInUse 1 = .ok (.istore_n 1, 1) := by decide +kernel
theorem dd_X11_shelvesInUse_2 : decode mb_X11_shelvesInUse 2 = .ok (.iconst 0, 1) := by decide +kernel
theorem dd_X11_shelvesInUse_3 : decode mb_X11_shelvesInUse 3 = .ok (.istore_n 2, 1) := by decide +kernel
theorem dd_X11_shelvesInUse_4 : decode mb_X11_shelvesInUse 4 = .ok (.iload_n 2, 1) := by decide +kernel
theorem dd_X11_shelvesInUse_5 : decode mb_X11_shelvesInUse 5 = .ok (.bipush 8, 2) := by decide +kernel
theorem dd_X11_shelvesInUse_7 : decode mb_X11_shelvesInUse 7 = .ok (.if_icmp .ge 24, 3) := by decide +kernel
theorem dd_X11_shelvesInUse_10 : decode mb_X11_shelvesInUse 10 = .ok (.aload_n 0, 1) := by decide +kernel
theorem dd_X11_shelvesInUse_11 : decode mb_X11_shelvesInUse 11 = .ok (.getfield 11, 3) := by decide +kernel
theorem dd_X11_shelvesInUse_14 : decode mb_X11_shelvesInUse 14 = .ok (.iload_n 2, 1) := by decide +kernel
theorem dd_X11_shelvesInUse_15 : decode mb_X11_shelvesInUse 15 = .ok (.aaload, 1) := by decide +kernel
theorem dd_X11_shelvesInUse_16 : decode mb_X11_shelvesInUse 16 = .ok (.invokevirtual 92, 3) := by decide +kernel
theorem dd_X11_shelvesInUse_19 : decode mb_X11_shelvesInUse 19 = .ok (.ifCond .ne 6, 3) := by decide +kernel
theorem dd_X11_shelvesInUse_22 : decode mb_X11_shelvesInUse 22 = .ok (.iinc 1 1, 3) := by decide +kernel
theorem dd_X11_shelvesInUse_25 : decode mb_X11_shelvesInUse 25 = .ok (.iinc 2 1, 3) := by decide +kernel
theorem dd_X11_shelvesInUse_28 : decode mb_X11_shelvesInUse 28 = .ok (.goto (-24), 3) := by decide +kernel
theorem dd_X11_shelvesInUse_31 : decode mb_X11_shelvesInUse 31 = .ok (.iload_n 1, 1) := by decide +kernel
theorem dd_X11_shelvesInUse_32 : decode mb_X11_shelvesInUse 32 = .ok (.ireturn, 1) := by decide +kernel
theorem dd_X11_shortBy_0 : decode mb_X11_shortBy 0 = .ok (.iload_n 1, 1) := by decide +kernel
theorem dd_X11_shortBy_1 : decode mb_X11_shortBy 1 = .ok (.iconst 1, 1) := by decide +kernel
theorem dd_X11_shortBy_2 : decode mb_X11_shortBy 2 = .ok (.sipush 9999, 3) := by decide +kernel
theorem dd_X11_shortBy_5 : decode mb_X11_shortBy 5 = .ok (.invokestatic 59, 3) := by decide +kernel
theorem dd_X11_shortBy_8 : decode mb_X11_shortBy 8 = .ok (.ifCond .ne 10, 3) := by decide +kernel
theorem dd_X11_shortBy_11 : decode mb_X11_shortBy 11 = .ok (.aload_n 0, 1) := by decide +kernel
theorem dd_X11_shortBy_12 : decode mb_X11_shortBy 12 = .ok (.bipush (-2), 2) := by decide +kernel
theorem dd_X11_shortBy_14 : decode mb_X11_shortBy 14 = .ok (.invokevirtual 63, 3) := by decide +kernel
theorem dd_X11_shortBy_17 : decode mb_X11_shortBy 17 = .ok (.ireturn, 1) := by decide +kernel
theorem dd_X11_shortBy_18 : decode mb_X11_shortBy 18 = .ok (.aload_n 0, 1) := by decide +kernel
theorem dd_X11_shortBy_19 : decode mb_X11_shortBy 19 = .ok (.getfield 46, 3) := by decide +kernel
theorem dd_X11_shortBy_22 : decode mb_X11_shortBy 22 = .ok (.aload_n 0, 1) := by decide +kernel
theorem dd_X11_shortBy_23 : decode mb_X11_shortBy 23 = .ok (.getfield 29, 3) := by decide +kernel
theorem dd_X11_shortBy_26 : decode mb_X11_shortBy 26 = .ok (.getfield 113, 3) := by decide +kernel
theorem dd_X11_shortBy_29 : decode mb_X11_shortBy 29 = .ok (.iload_n 1, 1) := by decide +kernel
theorem dd_X11_shortBy_30 : decode mb_X11_shortBy 30 = .ok (.invokevirtual 359, 3) := by decide +kernel
theorem dd_X11_shortBy_33 : decode mb_X11_shortBy 33 = .ok (.ireturn, 1) := by decide +kernel
theorem dd_X11_show_0 : decode mb_X11_show 0 = .ok (.iload_n 1, 1) := by decide +kernel
theorem dd_X11_show_1 : decode mb_X11_show 1 = .ok (.invokestatic 55, 3) := by decide +kernel
theorem dd_X11_show_4 : decode mb_X11_show 4 = .ok (.ifCond .eq 22, 3) := by decide +kernel
theorem dd_X11_show_7 : decode mb_X11_show 7 = .ok (.iload_n 2, 1) := by decide +kernel
theorem dd_X11_show_8 : decode mb_X11_show 8 = .ok (.iconst (-1), 1) := by decide +kernel
theorem dd_X11_show_9 : decode mb_X11_show 9 = .ok (.if_icmp .eq 24, 3) := by decide +kernel
theorem dd_X11_show_12 : decode mb_X11_show 12 = .ok (.aload_n 0, 1) := by decide +kernel
theorem dd_X11_show_13 : decode mb_X11_show 13 = .ok (.getfield 29, 3) := by decide +kernel
theorem dd_X11_show_16 : decode mb_X11_show 16 = .ok (.getfield 113, 3) := by decide +kernel
theorem dd_X11_show_19 : decode mb_X11_show 19 = .ok (.iload_n 2, 1) := by decide +kernel
theorem dd_X11_show_20 : decode mb_X11_show 20 = .ok (.invokevirtual 117, 3) := by decide +kernel
theorem dd_X11_show_23 : decode mb_X11_show 23 = .ok (.ifCond .ne 10, 3) := by decide +kernel
theorem dd_X11_show_26 : decode mb_X11_show 26 = .ok (.aload_n 0, 1) := by decide +kernel
theorem dd_X11_show_27 : decode mb_X11_show 27 = .ok (.bipush (-2), 2) := by decide +kernel
theorem dd_X11_show_29 : decode mb_X11_show 29 = .ok (.invokevirtual 63, 3) := by decide +kernel
theorem dd_X11_show_32 : decode mb_X11_show 32 = .ok (.ireturn, 1) := by decide +kernel
theorem dd_X11_show_33 : decode mb_X11_show 33 = .ok (.aload_n 0, 1) := by decide +kernel
theorem dd_X11_show_34 : decode mb_X11_show 34 = .ok (.getfield 11, 3) := by decide +kernel
theorem dd_X11_show_37 : decode mb_X11_show 37 = .ok (.iload_n 1, 1) := by decide +kernel
theorem dd_X11_show_38 : decode mb_X11_show 38 = .ok (.aaload, 1) := by decide +kernel
theorem dd_X11_show_39 : decode mb_X11_show 39 = .ok (.iload_n 2, 1) := by decide +kernel
theorem dd_X11_show_40 : decode mb_X11_show 40 = .ok (.iconst (-1), 1) := by decide +kernel
theorem dd_X11_show_41 : decode mb_X11_show 41 = .ok (.if_icmp .ne 7, 3) := by decide +kernel
theorem dd_X11_show_44 : decode mb_X11_show 44 = .ok (.iconst (-1), 1) := by decide +kernel
theorem dd_X11_show_45 : decode mb_X11_show 45 = .ok (.goto 7, 3) := by decide +kernel
theorem dd_X11_show_48 : decode mb_X11_show 48 = .ok (.bipush 10, 2) := by decide +kernel
theorem dd_X11_show_50 : decode mb_X11_show 50 = .ok (.iload_n 2, 1) := by decide +kernel
theorem dd_X11_show_51 : decode mb_X11_show 51 = .ok (.iadd, 1) := by decide +kernel
theorem dd_X11_show_52 : decode mb_X11_show 52 = .ok (.putfield 89, 3) := by decide +kernel
theorem dd_X11_show_55 : decode mb_X11_show 55 = .ok (.iconst 1, 1) := by decide +kernel
theorem dd_X11_show_56 : decode mb_X11_show 56 = .ok (.ireturn, 1) := by decide +kernel
theorem dd_X11_shown_0 : decode mb_X11_shown 0 = .ok (.iload_n 1, 1) := by decide +kernel
theorem dd_X11_shown_1 : decode mb_X11_shown 1 = .ok (.iconst 0, 1) := by decide +kernel
theorem dd_X11_shown_2 : decode mb_X11_shown 2 = .ok (.sipush 200, 3) := by decide +kernel
theorem dd_X11_shown_5 : decode mb_X11_shown 5 = .ok (.invokestatic 59, 3) := by decide +kernel
theorem dd_X11_shown_8 : decode mb_X11_shown 8 = .ok (.ifCond .ne 10, 3) := by decide +kernel
theorem dd_X11_shown_11 : decode mb_X11_shown 11 = .ok (.aload_n 0, 1) := by decide +kernel
theorem dd_X11_shown_12 : decode mb_X11_shown 12 = .ok (.bipush (-2), 2) := by decide +kernel
theorem dd_X11_shown_14 : decode mb_X11_shown 14 = .ok (.invokevirtual 63, 3) := by decide +kernel
theorem dd_X11_shown_17 : decode mb_X11_shown 17 = .ok (.ireturn, 1) := by decide +kernel
theorem dd_X11_shown_18 : decode mb_X11_shown 18 = .ok (.aload_n 0, 1) := by decide +kernel
theorem dd_X11_shown_19 : decode mb_X11_shown 19 = .ok (.getfield 46, 3) := by decide +kernel
theorem dd_X11_shown_22 : decode mb_X11_shown 22 = .ok (.aload_n 0, 1) := by decide +kernel
theorem dd_X11_shown_23 : decode mb_X11_shown 23 = .ok (.getfield 29, 3) := by decide +kernel
theorem dd_X11_shown_26 : decode mb_X11_shown 26 = .ok (.getfield 113, 3) := by decide +kernel
theorem dd_X11_shown_29 : decode mb_X11_shown 29 = .ok (.iload_n 1, 1) := by decide +kernel
theorem dd_X11_shown_30 : decode mb_X11_shown 30 = .ok (.invokevirtual 299, 3) := by decide +kernel
theorem dd_X11_shown_33 : decode mb_X11_shown 33 = .ok (.ireturn, 1) := by decide +kernel
theorem dd_X11_sight_0 : decode mb_X11_sight 0 = .ok (.iload_n 1, 1) := by decide +kernel
theorem dd_X11_sight_1 : decode mb_X11_sight 1 = .ok (.iconst 0, 1) := by decide +kernel
theorem dd_X11_sight_2 : decode mb_X11_sight 2 = .ok (.bipush 99, 2) := by decide +kernel
theorem dd_X11_sight_4 : decode mb_X11_sight 4 = .ok (.invokestatic 59, 3) := by decide +kernel
theorem dd_X11_sight_7 : decode mb_X11_sight 7 = .ok (.ifCond .eq 29, 3) := by decide +kernel
theorem dd_X11_sight_10 : decode mb_X11_sight 10 = .ok (.iload_n 2, 1) := by decide +kernel
theorem dd_X11_sight_11 : decode mb_X11_sight 11 = .ok (.iconst 0, 1) := by decide +kernel
theorem dd_X11_sight_12 : decode mb_X11_sight 12 = .ok (.sipush 255, 3) := by decide +kernel
theorem dd_X11_sight_15 : decode mb_X11_sight 15 = .ok (.invokestatic 59, 3) := by decide +kernel
theorem dd_X11_sight_18 : decode mb_X11_sight 18 = .ok (.ifCond .eq 18, 3) := by decide +kernel
theorem dd_X11_sight_21 : decode mb_X11_sight 21 = .ok (.iload_n 3, 1) := by decide +kernel
theorem dd_X11_sight_22 : decode mb_X11_sight 22 = .ok (.invokestatic 318, 3) := by decide +kernel
theorem dd_X11_sight_25 : decode mb_X11_sight 25 = .ok (.ifCond .eq 11, 3) := by decide +kernel
theorem dd_X11_sight_28 : decode mb_X11_sight 28 = .ok (.iload 4, 2) := by decide +kernel
theorem dd_X11_sight_30 : decode mb_X11_sight 30 = .ok (.invokestatic 318, 3) := by decide +kernel
theorem dd_X11_sight_33 : decode mb_X11_sight 33 = .ok (.ifCond .ne 10, 3) := by decide +kernel
theorem dd_X11_sight_36 : decode mb_X11_sight 36 = .ok (.aload_n 0, 1) := by decide +kernel
theorem dd_X11_sight_37 : decode mb_X11_sight 37 = .ok (.bipush (-2), 2) := by decide +kernel
theorem dd_X11_sight_39 : decode mb_X11_sight 39 = .ok (.invokevirtual 63, 3) := by decide +kernel
theorem dd_X11_sight_42 : decode mb_X11_sight 42 = .ok (.ireturn, 1) := by decide +kernel
theorem dd_X11_sight_43 : decode mb_X11_sight 43 = .ok (.aload_n 0, 1) := by decide +kernel
theorem dd_X11_sight_44 : decode mb_X11_sight 44 = .ok (.getfield 29, 3) := by decide +kernel
theorem dd_X11_sight_47 : decode mb_X11_sight 47 = .ok (.getfield 321, 3) := by decide +kernel
theorem dd_X11_sight_50 : decode mb_X11_sight 50 = .ok (.getfield 325, 3) := by decide +kernel
theorem dd_X11_sight_53 : decode mb_X11_sight 53 = .ok (.bipush 20, 2) := by decide +kernel
theorem dd_X11_sight_55 : decode mb_X11_sight 55 = .ok (.if_icmp .lt 10, 3) := by decide +kernel
theorem dd_X11_sight_58 : decode mb_X11_sight 58 = .ok (.aload_n 0, 1) := by decide +kernel
theorem dd_X11_sight_59 : decode mb_X11_sight 59 = .ok (.bipush (-6), 2) := by decide +kernel
theorem dd_X11_sight_61 : decode mb_X11_sight 61 = .ok (.invokevirtual 63, 3) := by decide +kernel
theorem dd_X11_sight_64 : decode mb_X11_sight 64 = .ok (.ireturn, 1) := by decide +kernel
theorem dd_X11_sight_65 : decode mb_X11_sight 65 = .ok (.aload_n 0, 1) := by decide +kernel
theorem dd_X11_sight_66 : decode mb_X11_sight 66 = .ok (.getfield 29, 3) := by decide +kernel
theorem dd_X11_sight_69 : decode mb_X11_sight 69 = .ok (.getfield 321, 3) := by decide +kernel
theorem dd_X11_sight_72 : decode mb_X11_sight 72 = .ok (.iload_n 1, 1) := by decide +kernel
theorem dd_X11_sight_73 : decode mb_X11_sight 73 = .ok (.iload_n 2, 1) := by decide +kernel
theorem dd_X11_sight_74 : decode mb_X11_sight 74 = .ok (.iload_n 3, 1) := by decide +kernel
theorem dd_X11_sight_75 : decode mb_X11_sight 75 = .ok (.iload 4, 2) := by decide +kernel
theorem dd_X11_sight_77 : decode mb_X11_sight 77 = .ok (.invokevirtual 328, 3) := by decide +kernel
theorem dd_X11_sight_80 : decode mb_X11_sight 80 = .ok (.ireturn, 1) := by decide +kernel
theorem dd_X11_status_0 : decode mb_X11_status 0 = .ok (.iload_n 1, 1) := by decide +kernel
theorem dd_X11_status_1 : decode mb_X11_status 1 = .ok (.tableswitch 138 0 8 #[51, 62, 73, 84, 95, 103, 114, 125, 133], 51) := by decide +kernel
theorem dd_X11_status_52 : decode mb_X11_status 52 = .ok (.aload_n 0, 1) := by decide +kernel
theorem dd_X11_status_53 : decode mb_X11_status 53 = .ok (.getfield 29, 3) := by decide +kernel
theorem dd_X11_status_56 : decode mb_X11_status 56 = .ok (.getfield 113, 3) := by decide +kernel
theorem dd_X11_status_59 : decode mb_X11_status 59 = .ok (.getfield 132, 3) := by decide +kernel
theorem dd_X11_status_62 : decode mb_X11_status 62 = .ok (.ireturn, 1) := by decide +kernel
theorem dd_X11_status_63 : decode mb_X11_status 63 = .ok (.aload_n 0, 1) := by decide +kernel
theorem dd_X11_status_64 : decode mb_X11_status 64 = .ok (.getfield 29, 3) := by decide +kernel
theorem dd_X11_status_67 : decode mb_X11_status 67 = .ok (.getfield 168, 3) := by decide +kernel
theorem dd_X11_status_70 : decode mb_X11_status 70 = .ok (.getfield 172, 3) := by decide +kernel
theorem dd_X11_status_73 : decode mb_X11_status 73 = .ok (.ireturn, 1) := by decide +kernel
theorem dd_X11_status_74 : decode mb_X11_status 74 = .ok (.aload_n 0, 1) := by decide +kernel
theorem dd_X11_status_75 : decode mb_X11_status 75 = .ok (.getfield 29, 3) := by decide +kernel
theorem dd_X11_status_78 : decode mb_X11_status 78 = .ok (.getfield 178, 3) := by decide +kernel
theorem dd_X11_status_81 : decode mb_X11_status 81 = .ok (.getfield 192, 3) := by decide +kernel
theorem dd_X11_status_84 : decode mb_X11_status 84 = .ok (.ireturn, 1) := by decide +kernel
theorem dd_X11_status_85 : decode mb_X11_status 85 = .ok (.aload_n 0, 1) := by decide +kernel
theorem dd_X11_status_86 : decode mb_X11_status 86 = .ok (.getfield 29, 3) := by decide +kernel
theorem dd_X11_status_89 : decode mb_X11_status 89 = .ok (.getfield 219, 3) := by decide +kernel
theorem dd_X11_status_92 : decode mb_X11_status 92 = .ok (.getfield 223, 3) := by decide +kernel
theorem dd_X11_status_95 : decode mb_X11_status 95 = .ok (.ireturn, 1) := by decide +kernel
theorem dd_X11_status_96 : decode mb_X11_status 96 = .ok (.aload_n 0, 1) := by decide +kernel
theorem dd_X11_status_97 : decode mb_X11_status 97 = .ok (.getfield 29, 3) := by decide +kernel
theorem dd_X11_status_100 : decode mb_X11_status 100 = .ok (.getfield 303, 3) := by decide +kernel
theorem dd_X11_status_103 : decode mb_X11_status 103 = .ok (.ireturn, 1) := by decide +kernel
theorem dd_X11_status_104 : decode mb_X11_status 104 = .ok (.aload_n 0, 1) := by decide +kernel
theorem dd_X11_status_105 : decode mb_X11_status 105 = .ok (.getfield 29, 3) := by decide +kernel
theorem dd_X11_status_108 : decode mb_X11_status 108 = .ok (.getfield 321, 3) := by decide +kernel
theorem dd_X11_status_111 : decode mb_X11_status 111 = .ok (.getfield 325, 3) := by decide +kernel
theorem dd_X11_status_114 : decode mb_X11_status 114 = .ok (.ireturn, 1) := by decide +kernel
theorem dd_X11_status_115 : decode mb_X11_status 115 = .ok (.aload_n 0, 1) := by decide +kernel
theorem dd_X11_status_116 : decode mb_X11_status 116 = .ok (.getfield 29, 3) := by decide +kernel
theorem dd_X11_status_119 : decode mb_X11_status 119 = .ok (.getfield 342, 3) := by decide +kernel
theorem dd_X11_status_122 : decode mb_X11_status 122 = .ok (.getfield 346, 3) := by decide +kernel
theorem dd_X11_status_125 : decode mb_X11_status 125 = .ok (.ireturn, 1) := by decide +kernel
theorem dd_X11_status_126 : decode mb_X11_status 126 = .ok (.aload_n 0, 1) := by decide +kernel
theorem dd_X11_status_127 : decode mb_X11_status 127 = .ok (.getfield 22, 3) := by decide +kernel
theorem dd_X11_status_130 : decode mb_X11_status 130 = .ok (.getfield 188, 3) := by decide +kernel
theorem dd_X11_status_133 : decode mb_X11_status 133 = .ok (.ireturn, 1) := by decide +kernel
theorem dd_X11_status_134 : decode mb_X11_status 134 = .ok (.aload_n 0, 1) := by decide +kernel
theorem dd_X11_status_135 : decode mb_X11_status 135 = .ok (.invokevirtual 372, 3) := by decide +kernel
theorem dd_X11_status_138 : decode mb_X11_status 138 = .ok (.ireturn, 1) := by decide +kernel
theorem dd_X11_status_139 : decode mb_X11_status 139 = .ok (.iload_n 1, 1) := by decide +kernel
theorem dd_X11_status_140 : decode mb_X11_status 140 = .ok (.bipush 12, 2) := by decide +kernel
theorem dd_X11_status_142 : decode mb_X11_status 142 = .ok (.bipush 16, 2) := by decide +kernel
theorem dd_X11_status_144 : decode mb_X11_status 144 = .ok (.invokestatic 59, 3) := by decide +kernel
theorem dd_X11_status_147 : decode mb_X11_status 147 = .ok (.ifCond .eq 15, 3) := by decide +kernel
theorem dd_X11_status_150 : decode mb_X11_status 150 = .ok (.aload_n 0, 1) := by decide +kernel
theorem dd_X11_status_151 : decode mb_X11_status 151 = .ok (.getfield 15, 3) := by decide +kernel
theorem dd_X11_status_154 : decode mb_X11_status 154 = .ok (.iload_n 1, 1) := by decide +kernel
theorem dd_X11_status_155 : decode mb_X11_status 155 = .ok (.bipush 12, 2) := by decide +kernel
theorem dd_X11_status_157 : decode mb_X11_status 157 = .ok (.isub, 1) := by decide +kernel
theorem dd_X11_status_158 : decode mb_X11_status 158 = .ok (.iaload, 1) := by decide +kernel
theorem dd_X11_status_159 : decode mb_X11_status 159 = .ok (.goto 4, 3) := by decide +kernel
theorem dd_X11_status_162 : decode mb_X11_status 162 = .ok (.iconst (-1), 1) := by decide +kernel
theorem dd_X11_status_163 : decode mb_X11_status 163 = .ok (.ireturn, 1) := by decide +kernel
theorem dd_X11_table_0 : decode mb_X11_table 0 = .ok (.iload_n 1, 1) := by decide +kernel
theorem dd_X11_table_1 : decode mb_X11_table 1 = .ok (.invokestatic 165, 3) := by decide +kernel
theorem dd_X11_table_4 : decode mb_X11_table 4 = .ok (.ifCond .ne 10, 3) := by decide +kernel
theorem dd_X11_table_7 : decode mb_X11_table 7 = .ok (.aload_n 0, 1) := by decide +kernel
theorem dd_X11_table_8 : decode mb_X11_table 8 = .ok (.bipush (-2), 2) := by decide +kernel
theorem dd_X11_table_10 : decode mb_X11_table 10 = .ok (.invokevirtual 63, 3) := by decide +kernel
theorem dd_X11_table_13 : decode mb_X11_table 13 = .ok (.ireturn, 1) := by decide +kernel
theorem dd_X11_table_14 : decode mb_X11_table 14 = .ok (.aload_n 0, 1) := by decide +kernel
theorem dd_X11_table_15 : decode mb_X11_table 15 = .ok (.getfield 29, 3) := by decide +kernel
theorem dd_X11_table_18 : decode mb_X11_table 18 = .ok (.getfield 303, 3) := by decide +kernel
theorem dd_X11_table_21 : decode mb_X11_table 21 = .ok (.iconst 5, 1) := by decide +kernel
theorem dd_X11_table_22 : decode mb_X11_table 22 = .ok (.if_icmp .lt 10, 3) := by decide +kernel
theorem dd_X11_table_25 : decode mb_X11_table 25 = .ok (.aload_n 0, 1) := by decide +kernel
theorem dd_X11_table_26 : decode mb_X11_table 26 = .ok (.bipush (-6), 2) := by decide +kernel
theorem dd_X11_table_28 : decode mb_X11_table 28 = .ok (.invokevirtual 63, 3) := by decide +kernel
theorem dd_X11_table_31 : decode mb_X11_table 31 = .ok (.ireturn, 1) := by decide +kernel
theorem dd_X11_table_32 : decode mb_X11_table 32 = .ok (.aload_n 0, 1) := by decide +kernel
theorem dd_X11_table_33 : decode mb_X11_table 33 = .ok (.getfield 29, 3) := by decide +kernel
theorem dd_X11_table_36 : decode mb_X11_table 36 = .ok (.getfield 306, 3) := by decide +kernel
theorem dd_X11_table_39 : decode mb_X11_table 39 = .ok (.aload_n 0, 1) := by decide +kernel
theorem dd_X11_table_40 : decode mb_X11_table 40 = .ok (.getfield 29, 3) := by decide +kernel
theorem dd_X11_table_43 : decode mb_X11_table 43 = .ok (.getfield 303, 3) := by decide +kernel
theorem dd_X11_table_46 : decode mb_X11_table 46 = .ok (.iload_n 1, 1) := by decide +kernel
theorem dd_X11_table_47 : decode mb_X11_table 47 = .ok (.iastore, 1) := by decide +kernel
theorem dd_X11_table_48 : decode mb_X11_table 48 = .ok (.aload_n 0, 1) := by decide +kernel
theorem dd_X11_table_49 : decode mb_X11_table 49 = .ok (.getfield 29, 3) := by decide +kernel
theorem dd_X11_table_52 : decode mb_X11_table 52 = .ok (.dup, 1) := by decide +kernel
theorem dd_X11_table_53 : decode mb_X11_table 53 = .ok (.getfield 303, 3) := by decide +kernel
theorem dd_X11_table_56 : decode mb_X11_table 56 = .ok (.iconst 1, 1) := by decide +kernel
theorem dd_X11_table_57 : decode mb_X11_table 57 = .ok (.iadd, 1) := by decide +kernel
theorem dd_X11_table_58 : decode mb_X11_table 58 = .ok (.putfield 303, 3) := by decide +kernel
theorem dd_X11_table_61 : decode mb_X11_table 61 = .ok (.aload_n 0, 1) := by decide +kernel
theorem dd_X11_table_62 : decode mb_X11_table 62 = .ok (.getfield 29, 3) := by decide +kernel
theorem dd_X11_table_65 : decode mb_X11_table 65 = .ok (.getfield 303, 3) := by decide +kernel
theorem dd_X11_table_68 : decode mb_X11_table 68 = .ok (.iconst 1, 1) := by decide +kernel
theorem dd_X11_table_69 : decode mb_X11_table 69 = .ok (.isub, 1) := by decide +kernel
theorem dd_X11_table_70 : decode mb_X11_table 70 = .ok (.ireturn, 1) := by decide +kernel
theorem dd_X11_takes_0 : decode mb_X11_takes 0 = .ok (.aload_n 0, 1) := by decide +kernel
theorem dd_X11_takes_1 : decode mb_X11_takes 1 = .ok (.getfield 29, 3) := by decide +kernel
theorem dd_X11_takes_4 : decode mb_X11_takes 4 = .ok (.getfield 219, 3) := by decide +kernel
theorem dd_X11_takes_7 : decode mb_X11_takes 7 = .ok (.iload_n 1, 1) := by decide +kernel
theorem dd_X11_takes_8 : decode mb_X11_takes 8 = .ok (.invokevirtual 229, 3) := by decide +kernel
theorem dd_X11_takes_11 : decode mb_X11_takes 11 = .ok (.ifCond .eq 10, 3) := by decide +kernel
theorem dd_X11_takes_14 : decode mb_X11_takes 14 = .ok (.iload_n 2, 1) := by decide +kernel
theorem dd_X11_takes_15 : decode mb_X11_takes 15 = .ok (.invokestatic 216, 3) := by decide +kernel
theorem dd_X11_takes_18 : decode mb_X11_takes 18 = .ok (.ifCond .ne 10, 3) := by decide +kernel
theorem dd_X11_takes_21 : decode mb_X11_takes 21 = .ok (.aload_n 0, 1) := by decide +kernel
theorem dd_X11_takes_22 : decode mb_X11_takes 22 = .ok (.bipush (-2), 2) := by decide +kernel
theorem dd_X11_takes_24 : decode mb_X11_takes 24 = .ok (.invokevirtual 63, 3) := by decide +kernel
theorem dd_X11_takes_27 : decode mb_X11_takes 27 = .ok (.ireturn, 1) := by decide +kernel
theorem dd_X11_takes_28 : decode mb_X11_takes 28 = .ok (.aload_n 0, 1) := by decide +kernel
theorem dd_X11_takes_29 : decode mb_X11_takes 29 = .ok (.getfield 39, 3) := by decide +kernel
theorem dd_X11_takes_32 : decode mb_X11_takes 32 = .ok (.aload_n 0, 1) := by decide +kernel
theorem dd_X11_takes_33 : decode mb_X11_takes 33 = .ok (.getfield 29, 3) := by decide +kernel
theorem dd_X11_takes_36 : decode mb_X11_takes 36 = .ok (.aload_n 0, 1) := by decide +kernel
theorem dd_X11_takes_37 : decode mb_X11_takes 37 = .ok (.getfield 29, 3) := by decide +kernel
theorem dd_X11_takes_40 : decode mb_X11_takes 40 = .ok (.getfield 245, 3) := by decide +kernel
theorem dd_X11_takes_43 : decode mb_X11_takes 43 = .ok (.aload_n 0, 1) := by decide +kernel
theorem dd_X11_takes_44 : decode mb_X11_takes 44 = .ok (.getfield 29, 3) := by decide +kernel
theorem dd_X11_takes_47 : decode mb_X11_takes 47 = .ok (.getfield 248, 3) := by decide +kernel
theorem dd_X11_takes_50 : decode mb_X11_takes 50 = .ok (.invokevirtual 257, 3) := by decide +kernel
theorem dd_X11_takes_53 : decode mb_X11_takes 53 = .ok (.aload_n 0, 1) := by decide +kernel
theorem dd_X11_takes_54 : decode mb_X11_takes 54 = .ok (.getfield 39, 3) := by decide +kernel
theorem dd_X11_takes_57 : decode mb_X11_takes 57 = .ok (.aload_n 0, 1) := by decide +kernel
theorem dd_X11_takes_58 : decode mb_X11_takes 58 = .ok (.getfield 29, 3) := by decide +kernel
theorem dd_X11_takes_61 : decode mb_X11_takes 61 = .ok (.iload_n 1, 1) := by decide +kernel
theorem dd_X11_takes_62 : decode mb_X11_takes 62 = .ok (.iload_n 2, 1) := by decide +kernel
theorem dd_X11_takes_63 : decode mb_X11_takes 63 = .ok (.invokevirtual 261, 3) := by decide +kernel
theorem dd_X11_takes_66 : decode mb_X11_takes 66 = .ok (.ireturn, 1) := by decide +kernel
theorem dd_X11_takings_0 : decode mb_X11_takings 0 = .ok (.iload_n 1, 1) := by decide +kernel
theorem dd_X11_takings_1 : decode mb_X11_takings 1 = .ok (.iconst 0, 1) := by decide +kernel
theorem dd_X11_takings_2 : decode mb_X11_takings 2 = .ok (.bipush 12, 2) := by decide +kernel
theorem dd_X11_takings_4 : decode mb_X11_takings 4 = .ok (.invokestatic 59, 3) := by decide +kernel
theorem dd_X11_takings_7 : decode mb_X11_takings 7 = .ok (.ifCond .eq 13, 3) := by decide +kernel
theorem dd_X11_takings_10 : decode mb_X11_takings 10 = .ok (.iload_n 2, 1) := by decide +kernel
theorem dd_X11_takings_11 : decode mb_X11_takings 11 = .ok (.iconst 0, 1) := by decide +kernel
theorem dd_X11_takings_12 : decode mb_X11_takings 12 = .ok (.bipush 12, 2) := by decide +kernel
theorem dd_X11_takings_14 : decode mb_X11_takings 14 = .ok (.invokestatic 59, 3) := by decide +kernel
theorem dd_X11_takings_17 : decode mb_X11_takings 17 = .ok (.ifCond .ne 10, 3) := by decide +kernel
theorem dd_X11_takings_20 : decode mb_X11_takings 20 = .ok (.aload_n 0, 1) := by decide +kernel
theorem dd_X11_takings_21 : decode mb_X11_takings 21 = .ok (.bipush (-2), 2) := by decide +kernel
theorem dd_X11_takings_23 : decode mb_X11_takings 23 = .ok (.invokevirtual 63, 3) := by decide +kernel
theorem dd_X11_takings_26 : decode mb_X11_takings 26 = .ok (.ireturn, 1) := by decide +kernel
theorem dd_X11_takings_27 : decode mb_X11_takings 27 = .ok (.aload_n 0, 1) := by decide +kernel
theorem dd_X11_takings_28 : decode mb_X11_takings 28 = .ok (.getfield 39, 3) := by decide +kernel
theorem dd_X11_takings_31 : decode mb_X11_takings 31 = .ok (.aload_n 0, 1) := by decide +kernel
theorem dd_X11_takings_32 : decode mb_X11_takings 32 = .ok (.getfield 29, 3) := by decide +kernel
theorem dd_X11_takings_35 : decode mb_X11_takings 35 = .ok (.iload_n 1, 1) := by decide +kernel
theorem dd_X11_takings_36 : decode mb_X11_takings 36 = .ok (.iload_n 2, 1) := by decide +kernel
theorem dd_X11_takings_37 : decode mb_X11_takings 37 = .ok (.invokevirtual 265, 3) := by decide +kernel
theorem dd_X11_takings_40 : decode mb_X11_takings 40 = .ok (.ireturn, 1) := by decide +kernel
theorem dd_X11_thing_0 : decode mb_X11_thing 0 = .ok (.iload_n 1, 1) := by decide +kernel
theorem dd_X11_thing_1 : decode mb_X11_thing 1 = .ok (.invokestatic 122, 3) := by decide +kernel
theorem dd_X11_thing_4 : decode mb_X11_thing 4 = .ok (.ifCond .eq 25, 3) := by decide +kernel
theorem dd_X11_thing_7 : decode mb_X11_thing 7 = .ok (.iload_n 2, 1) := by decide +kernel
theorem dd_X11_thing_8 : decode mb_X11_thing 8 = .ok (.iconst 0, 1) := by decide +kernel
theorem dd_X11_thing_9 : decode mb_X11_thing 9 = .ok (.sipush 999, 3) := by decide +kernel
theorem dd_X11_thing_12 : decode mb_X11_thing 12 = .ok (.invokestatic 59, 3) := by decide +kernel
theorem dd_X11_thing_15 : decode mb_X11_thing 15 = .ok (.ifCond .eq 14, 3) := by decide +kernel
theorem dd_X11_thing_18 : decode mb_X11_thing 18 = .ok (.iload_n 3, 1) := by decide +kernel
theorem dd_X11_thing_19 : decode mb_X11_thing 19 = .ok (.iconst 0, 1) := by decide +kernel
theorem dd_X11_thing_20 : decode mb_X11_thing 20 = .ok (.sipush 255, 3) := by decide +kernel
theorem dd_X11_thing_23 : decode mb_X11_thing 23 = .ok (.invokestatic 59, 3) := by decide +kernel
theorem dd_X11_thing_26 : decode mb_X11_thing 26 = .ok (.ifCond .ne 10, 3) := by decide +kernel
theorem dd_X11_thing_29 : decode mb_X11_thing 29 = .ok (.aload_n 0, 1) := by decide +kernel
theorem dd_X11_thing_30 : decode mb_X11_thing 30 = .ok (.bipush (-2), 2) := by decide +kernel
theorem dd_X11_thing_32 : decode mb_X11_thing 32 = .ok (.invokevirtual 63, 3) := by decide +kernel
theorem dd_X11_thing_35 : decode mb_X11_thing 35 = .ok (.ireturn, 1) := by decide +kernel
theorem dd_X11_thing_36 : decode mb_X11_thing 36 = .ok (.aload_n 0, 1) := by decide +kernel
theorem dd_X11_thing_37 : decode mb_X11_thing 37 = .ok (.getfield 29, 3) := by decide +kernel
theorem dd_X11_thing_40 : decode mb_X11_thing 40 = .ok (.getfield 113, 3) := by decide +kernel
theorem dd_X11_thing_43 : decode mb_X11_thing 43 = .ok (.getfield 132, 3) := by decide +kernel
theorem dd_X11_thing_46 : decode mb_X11_thing 46 = .ok (.bipush 30, 2) := by decide +kernel
theorem dd_X11_thing_48 : decode mb_X11_thing 48 = .ok (.if_icmp .lt 10, 3) := by decide +kernel
theorem dd_X11_thing_51 : decode mb_X11_thing 51 = .ok (.aload_n 0, 1) := by decide +kernel
theorem dd_X11_thing_52 : decode mb_X11_thing 52 = .ok (.bipush (-6), 2) := by decide +kernel
theorem dd_X11_thing_54 : decode mb_X11_thing 54 = .ok (.invokevirtual 63, 3) := by decide +kernel
theorem dd_X11_thing_57 : decode mb_X11_thing 57 = .ok (.ireturn, 1) := by decide +kernel
theorem dd_X11_thing_58 : decode mb_X11_thing 58 = .ok (.aload_n 0, 1) := by decide +kernel
theorem dd_X11_thing_59 : decode mb_X11_thing 59 = .ok (.getfield 29, 3) := by decide +kernel
theorem dd_X11_thing_62 : decode mb_X11_thing 62 = .ok (.getfield 113, 3) := by decide +kernel
theorem dd_X11_thing_65 : decode mb_X11_thing 65 = .ok (.iload_n 1, 1) := by decide +kernel
theorem dd_X11_thing_66 : decode mb_X11_thing 66 = .ok (.iload_n 2, 1) := by decide +kernel
theorem dd_X11_thing_67 : decode mb_X11_thing 67 = .ok (.iload_n 3, 1) := by decide +kernel
theorem dd_X11_thing_68 : decode mb_X11_thing 68 = .ok (.invokevirtual 135, 3) := by decide +kernel
theorem dd_X11_thing_71 : decode mb_X11_thing 71 = .ok (.ireturn, 1) := by decide +kernel
theorem dd_X11_thingOf_0 : decode mb_X11_thingOf 0 = .ok (.aload_n 0, 1) := by decide +kernel
theorem dd_X11_thingOf_1 : decode mb_X11_thingOf 1 = .ok (.getfield 29, 3) := by decide +kernel
theorem dd_X11_thingOf_4 : decode mb_X11_thingOf 4 = .ok (.getfield 113, 3) := by decide +kernel
theorem dd_X11_thingOf_7 : decode mb_X11_thingOf 7 = .ok (.iload_n 1, 1) := by decide +kernel
theorem dd_X11_thingOf_8 : decode mb_X11_thingOf 8 = .ok (.invokevirtual 117, 3) := by decide +kernel
theorem dd_X11_thingOf_11 : decode mb_X11_thingOf 11 = .ok (.ifCond .ne 10, 3) := by decide +kernel
theorem dd_X11_thingOf_14 : decode mb_X11_thingOf 14 = .ok (.aload_n 0, 1) := by decide +kernel
theorem dd_X11_thingOf_15 : decode mb_X11_thingOf 15 = .ok (.bipush (-2), 2) := by decide +kernel
theorem dd_X11_thingOf_17 : decode mb_X11_thingOf 17 = .ok (.invokevirtual 63, 3) := by decide +kernel
theorem dd_X11_thingOf_20 : decode mb_X11_thingOf 20 = .ok (.ireturn, 1) := by decide +kernel
theorem dd_X11_thingOf_21 : decode mb_X11_thingOf 21 = .ok (.iload_n 2, 1) := by decide +kernel
theorem dd_X11_thingOf_22 : decode mb_X11_thingOf 22 = .ok (.tableswitch 132 0 6 #[42, 55, 68, 81, 93, 106, 119], 42) := by decide +kernel
theorem dd_X11_thingOf_64 : decode mb_X11_thingOf 64 = .ok (.aload_n 0, 1) := by decide +kernel
theorem dd_X11_thingOf_65 : decode mb_X11_thingOf 65 = .ok (.getfield 29, 3) := by decide +kernel
theorem dd_X11_thingOf_68 : decode mb_X11_thingOf 68 = .ok (.getfield 113, 3) := by decide +kernel
theorem dd_X11_thingOf_71 : decode mb_X11_thingOf 71 = .ok (.getfield 141, 3) := by decide +kernel
theorem dd_X11_thingOf_74 : decode mb_X11_thingOf 74 = .ok (.iload_n 1, 1) := by decide +kernel
theorem dd_X11_thingOf_75 : decode mb_X11_thingOf 75 = .ok (.iaload, 1) := by decide +kernel
theorem dd_X11_thingOf_76 : decode mb_X11_thingOf 76 = .ok (.ireturn, 1) := by decide +kernel
theorem dd_X11_thingOf_77 : decode mb_X11_thingOf 77 = .ok (.aload_n 0, 1) := by decide +kernel
theorem dd_X11_thingOf_78 : decode mb_X11_thingOf 78 = .ok (.getfield 29, 3) := by decide +kernel
theorem dd_X11_thingOf_81 : decode mb_X11_thingOf 81 = .ok (.getfield 113, 3) := by decide +kernel
theorem dd_X11_thingOf_84 : decode mb_X11_thingOf 84 = .ok (.getfield 144, 3) := by decide +kernel
theorem dd_X11_thingOf_87 : decode mb_X11_thingOf 87 = .ok (.iload_n 1, 1) := by decide +kernel
theorem dd_X11_thingOf_88 : decode mb_X11_thingOf 88 = .ok (.iaload, 1) := by decide +kernel
theorem dd_X11_thingOf_89 : decode mb_X11_thingOf 89 = .ok (.ireturn, 1) := by decide +kernel
theorem dd_X11_thingOf_90 : decode mb_X11_thingOf 90 = .ok (.aload_n 0, 1) := by decide +kernel
theorem dd_X11_thingOf_91 : decode mb_X11_thingOf 91 = .ok (.getfield 29, 3) := by decide +kernel
theorem dd_X11_thingOf_94 : decode mb_X11_thingOf 94 = .ok (.getfield 113, 3) := by decide +kernel
theorem dd_X11_thingOf_97 : decode mb_X11_thingOf 97 = .ok (.getfield 147, 3) := by decide +kernel
theorem dd_X11_thingOf_100 : decode mb_X11_thingOf 100 = .ok (.iload_n 1, 1) := by decide +kernel
theorem dd_X11_thingOf_101 : decode mb_X11_thingOf 101 = .ok (.iaload, 1) := by decide +kernel
theorem dd_X11_thingOf_102 : decode mb_X11_thingOf 102 = .ok (.ireturn, 1) := by decide +kernel
theorem dd_X11_thingOf_103 : decode mb_X11_thingOf 103 = .ok (.aload_n 0, 1) := by decide +kernel
theorem dd_X11_thingOf_104 : decode mb_X11_thingOf 104 = .ok (.getfield 29, 3) := by decide +kernel
theorem dd_X11_thingOf_107 : decode mb_X11_thingOf 107 = .ok (.getfield 113, 3) := by decide +kernel
theorem dd_X11_thingOf_110 : decode mb_X11_thingOf 110 = .ok (.iload_n 1, 1) := by decide +kernel
theorem dd_X11_thingOf_111 : decode mb_X11_thingOf 111 = .ok (.invokevirtual 150, 3) := by decide +kernel
theorem dd_X11_thingOf_114 : decode mb_X11_thingOf 114 = .ok (.ireturn, 1) := by decide +kernel
theorem dd_X11_thingOf_115 : decode mb_X11_thingOf 115 = .ok (.aload_n 0, 1) := by decide +kernel
theorem dd_X11_thingOf_116 : decode mb_X11_thingOf 116 = .ok (.getfield 29, 3) := by decide +kernel
theorem dd_X11_thingOf_119 : decode mb_X11_thingOf 119 = .ok (.getfield 113, 3) := by decide +kernel
theorem dd_X11_thingOf_122 : decode mb_X11_thingOf 122 = .ok (.getfield 153, 3) := by decide +kernel
theorem dd_X11_thingOf_125 : decode mb_X11_thingOf 125 = .ok (.iload_n 1, 1) := by decide +kernel
theorem dd_X11_thingOf_126 : decode mb_X11_thingOf 126 = .ok (.iaload, 1) := by decide +kernel
theorem dd_X11_thingOf_127 : decode mb_X11_thingOf 127 = .ok (.ireturn, 1) := by decide +kernel
theorem dd_X11_thingOf_128 : decode mb_X11_thingOf 128 = .ok (.aload_n 0, 1) := by decide +kernel
theorem dd_X11_thingOf_129 : decode mb_X11_thingOf 129 = .ok (.getfield 29, 3) := by decide +kernel
theorem dd_X11_thingOf_132 : decode mb_X11_thingOf 132 = .ok (.getfield 113, 3) := by decide +kernel
theorem dd_X11_thingOf_135 : decode mb_X11_thingOf 135 = .ok (.getfield 156, 3) := by decide +kernel
theorem dd_X11_thingOf_138 : decode mb_X11_thingOf 138 = .ok (.iload_n 1, 1) := by decide +kernel
theorem dd_X11_thingOf_139 : decode mb_X11_thingOf 139 = .ok (.iaload, 1) := by decide +kernel
theorem dd_X11_thingOf_140 : decode mb_X11_thingOf 140 = .ok (.ireturn, 1) := by decide +kernel
theorem dd_X11_thingOf_141 : decode mb_X11_thingOf 141 = .ok (.aload_n 0, 1) := by decide +kernel
theorem dd_X11_thingOf_142 : decode mb_X11_thingOf 142 = .ok (.getfield 29, 3) := by decide +kernel
theorem dd_X11_thingOf_145 : decode mb_X11_thingOf 145 = .ok (.getfield 113, 3) := by decide +kernel
theorem dd_X11_thingOf_148 : decode mb_X11_thingOf 148 = .ok (.getfield 159, 3) := by decide +kernel
theorem dd_X11_thingOf_151 : decode mb_X11_thingOf 151 = .ok (.iload_n 1, 1) := by decide +kernel
theorem dd_X11_thingOf_152 : decode mb_X11_thingOf 152 = .ok (.iaload, 1) := by decide +kernel
theorem dd_X11_thingOf_153 : decode mb_X11_thingOf 153 = .ok (.ireturn, 1) := by decide +kernel
theorem dd_X11_thingOf_154 : decode mb_X11_thingOf 154 = .ok (.aload_n 0, 1) := by decide +kernel
theorem dd_X11_thingOf_155 : decode mb_X11_thingOf 155 = .ok (.bipush (-2), 2) := by decide +kernel
theorem dd_X11_thingOf_157 : decode mb_X11_thingOf 157 = .ok (.invokevirtual 63, 3) := by decide +kernel
theorem dd_X11_thingOf_160 : decode mb_X11_thingOf 160 = .ok (.ireturn, 1) := by decide +kernel
theorem dd_X11_things_0 : decode mb_X11_things 0 = .ok (.iload_n 1, 1) := by decide +kernel
theorem dd_X11_things_1 : decode mb_X11_things 1 = .ok (.invokestatic 55, 3) := by decide +kernel
theorem dd_X11_things_4 : decode mb_X11_things 4 = .ok (.ifCond .eq 10, 3) := by decide +kernel
theorem dd_X11_things_7 : decode mb_X11_things 7 = .ok (.iload_n 2, 1) := by decide +kernel
theorem dd_X11_things_8 : decode mb_X11_things 8 = .ok (.invokestatic 122, 3) := by decide +kernel
theorem dd_X11_things_11 : decode mb_X11_things 11 = .ok (.ifCond .ne 10, 3) := by decide +kernel
theorem dd_X11_things_14 : decode mb_X11_things 14 = .ok (.aload_n 0, 1) := by decide +kernel
theorem dd_X11_things_15 : decode mb_X11_things 15 = .ok (.bipush (-2), 2) := by decide +kernel
theorem dd_X11_things_17 : decode mb_X11_things 17 = .ok (.invokevirtual 63, 3) := by decide +kernel
theorem dd_X11_things_20 : decode mb_X11_things 20 = .ok (.ireturn, 1) := by decide +kernel
theorem dd_X11_things_21 : decode mb_X11_things 21 = .ok (.aload_n 0, 1) := by decide +kernel
theorem dd_X11_things_22 : decode mb_X11_things 22 = .ok (.iload_n 1, 1) := by decide +kernel
theorem dd_X11_things_23 : decode mb_X11_things 23 = .ok (.invokevirtual 71, 3) := by decide +kernel
theorem dd_X11_things_26 : decode mb_X11_things 26 = .ok (.istore 4, 2) := by decide +kernel
theorem dd_X11_things_28 : decode mb_X11_things 28 = .ok (.iload 4, 2) := by decide +kernel
theorem dd_X11_things_30 : decode mb_X11_things 30 = .ok (.ifCond .eq 10, 3) := by decide +kernel
theorem dd_X11_things_33 : decode mb_X11_things 33 = .ok (.aload_n 0, 1) := by decide +kernel
theorem dd_X11_things_34 : decode mb_X11_things 34 = .ok (.iload 4, 2) := by decide +kernel
theorem dd_X11_things_36 : decode mb_X11_things 36 = .ok (.invokevirtual 63, 3) := by decide +kernel
theorem dd_X11_things_39 : decode mb_X11_things 39 = .ok (.ireturn, 1) := by decide +kernel
theorem dd_X11_things_40 : decode mb_X11_things 40 = .ok (.aload_n 0, 1) := by decide +kernel
theorem dd_X11_things_41 : decode mb_X11_things 41 = .ok (.getfield 11, 3) := by decide +kernel
theorem dd_X11_things_44 : decode mb_X11_things 44 = .ok (.iload_n 1, 1) := by decide +kernel
theorem dd_X11_things_45 : decode mb_X11_things 45 = .ok (.aaload, 1) := by decide +kernel
theorem dd_X11_things_46 : decode mb_X11_things 46 = .ok (.astore 5, 2) := by decide +kernel
theorem dd_X11_things_48 : decode mb_X11_things 48 = .ok (.iload_n 3, 1) := by decide +kernel
theorem dd_X11_things_49 : decode mb_X11_things 49 = .ok (.iconst 0, 1) := by decide +kernel
theorem dd_X11_things_50 : decode mb_X11_things 50 = .ok (.aload 5, 2) := by decide +kernel
theorem dd_X11_things_52 : decode mb_X11_things 52 = .ok (.getfield 74, 3) := by decide +kernel
theorem dd_X11_things_55 : decode mb_X11_things 55 = .ok (.invokestatic 59, 3) := by decide +kernel
theorem dd_X11_things_58 : decode mb_X11_things 58 = .ok (.ifCond .ne 10, 3) := by decide +kernel
theorem dd_X11_things_61 : decode mb_X11_things 61 = .ok (.aload_n 0, 1) := by decide +kernel
theorem dd_X11_things_62 : decode mb_X11_things 62 = .ok (.bipush (-2), 2) := by decide +kernel
theorem dd_X11_things_64 : decode mb_X11_things 64 = .ok (.invokevirtual 63, 3) := by decide +kernel
theorem dd_X11_things_67 : decode mb_X11_things 67 = .ok (.ireturn, 1) := by decide +kernel
theorem dd_X11_things_68 : decode mb_X11_things 68 = .ok (.iconst 0, 1) := by decide +kernel
theorem dd_X11_things_69 : decode mb_X11_things 69 = .ok (.istore 6, 2) := by decide +kernel
theorem dd_X11_things_71 : decode mb_X11_things 71 = .ok (.iload 6, 2) := by decide +kernel
theorem dd_X11_things_73 : decode mb_X11_things 73 = .ok (.iload_n 3, 1) := by decide +kernel
theorem dd_X11_things_74 : decode mb_X11_things 74 = .ok (.if_icmp .ge 68, 3) := by decide +kernel
theorem dd_X11_things_77 : decode mb_X11_things 77 = .ok (.aload 5, 2) := by decide +kernel
theorem dd_X11_things_79 : decode mb_X11_things 79 = .ok (.iload 6, 2) := by decide +kernel
theorem dd_X11_things_81 : decode mb_X11_things 81 = .ok (.invokevirtual 109, 3) := by decide +kernel
theorem dd_X11_things_84 : decode mb_X11_things 84 = .ok (.lstore 7, 2) := by decide +kernel
theorem dd_X11_things_86 : decode mb_X11_things 86 = .ok (.lload 7, 2) := by decide +kernel
theorem dd_X11_things_88 : decode mb_X11_things 88 = .ok (.lconst 0, 1) := by decide +kernel
theorem dd_X11_things_89 : decode mb_X11_things 89 = .ok (.lcmp, 1) := by decide +kernel
theorem dd_X11_things_90 : decode mb_X11_things 90 = .ok (.ifCond .lt 27, 3) := by decide +kernel
theorem dd_X11_things_93 : decode mb_X11_things 93 = .ok (.lload 7, 2) := by decide +kernel
theorem dd_X11_things_95 : decode mb_X11_things 95 = .ok (.ldc2_w 139, 3) := by decide +kernel
theorem dd_X11_things_98 : decode mb_X11_things 98 = .ok (.lcmp, 1) := by decide +kernel
theorem dd_X11_things_99 : decode mb_X11_things 99 = .ok (.ifCond .gt 18, 3) := by decide +kernel
theorem dd_X11_things_102 : decode mb_X11_things 102 = .ok (.aload_n 0, 1) := by decide +kernel
theorem dd_X11_things_103 : decode mb_X11_things 103 = .ok (.getfield 29, 3) := by decide +kernel
theorem dd_X11_things_106 : decode mb_X11_things 106 = .ok (.getfield 113, 3) := by decide +kernel
theorem dd_X11_things_109 : decode mb_X11_things 109 = .ok (.getfield 132, 3) := by decide +kernel
theorem dd_X11_things_112 : decode mb_X11_things 112 = .ok (.bipush 30, 2) := by decide +kernel
theorem dd_X11_things_114 : decode mb_X11_things 114 = .ok (.if_icmp .lt 6, 3) := by decide +kernel
theorem dd_X11_things_117 : decode mb_X11_things 117 = .ok (.iload 6, 2) := by decide +kernel
theorem dd_X11_things_119 : decode mb_X11_things 119 = .ok (.ireturn, 1) := by decide +kernel
theorem dd_X11_things_120 : decode mb_X11_things 120 = .ok (.aload_n 0, 1) := by decide +kernel
theorem dd_X11_things_121 : decode mb_X11_things 121 = .ok (.getfield 29, 3) := by decide +kernel
theorem dd_X11_things_124 : decode mb_X11_things 124 = .ok (.getfield 113, 3) := by decide +kernel
theorem dd_X11_things_127 : decode mb_X11_things 127 = .ok (.iload_n 2, 1) := by decide +kernel
theorem dd_X11_things_128 : decode mb_X11_things 128 = .ok (.lload 7, 2) := by decide +kernel
theorem dd_X11_things_130 : decode mb_X11_things 130 = .ok (.l2i, 1) := by decide +kernel
theorem dd_X11_things_131 : decode mb_X11_things 131 = .ok (.iconst 0, 1) := by decide +kernel
theorem dd_X11_things_132 : decode mb_X11_things 132 = .ok (.invokevirtual 135, 3) := by decide +kernel
theorem dd_X11_things_135 : decode mb_X11_things 135 = .ok (.pop, 1) := by decide +kernel
theorem dd_X11_things_136 : decode mb_X11_things 136 = .ok (.iinc 6 1, 3) := by decide +kernel
theorem dd_X11_things_139 : decode mb_X11_things 139 = .ok (.goto (-68), 3) := by decide +kernel
theorem dd_X11_things_142 : decode mb_X11_things 142 = .ok (.iload_n 3, 1) := by decide +kernel
theorem dd_X11_things_143 : decode mb_X11_things 143 = .ok (.ireturn, 1) := by decide +kernel
theorem dd_X11_thinks_0 : decode mb_X11_thinks 0 = .ok (.aload_n 0, 1) := by decide +kernel
theorem dd_X11_thinks_1 : decode mb_X11_thinks 1 = .ok (.getfield 29, 3) := by decide +kernel
theorem dd_X11_thinks_4 : decode mb_X11_thinks 4 = .ok (.getfield 168, 3) := by decide +kernel
theorem dd_X11_thinks_7 : decode mb_X11_thinks 7 = .ok (.iload_n 1, 1) := by decide +kernel
theorem dd_X11_thinks_8 : decode mb_X11_thinks 8 = .ok (.invokevirtual 177, 3) := by decide +kernel
theorem dd_X11_thinks_11 : decode mb_X11_thinks 11 = .ok (.ifCond .eq 17, 3) := by decide +kernel
theorem dd_X11_thinks_14 : decode mb_X11_thinks 14 = .ok (.aload_n 0, 1) := by decide +kernel
theorem dd_X11_thinks_15 : decode mb_X11_thinks 15 = .ok (.getfield 29, 3) := by decide +kernel
theorem dd_X11_thinks_18 : decode mb_X11_thinks 18 = .ok (.getfield 113, 3) := by decide +kernel
theorem dd_X11_thinks_21 : decode mb_X11_thinks 21 = .ok (.iload_n 2, 1) := by decide +kernel
theorem dd_X11_thinks_22 : decode mb_X11_thinks 22 = .ok (.invokevirtual 117, 3) := by decide +kernel
theorem dd_X11_thinks_25 : decode mb_X11_thinks 25 = .ok (.ifCond .ne 10, 3) := by decide +kernel
theorem dd_X11_thinks_28 : decode mb_X11_thinks 28 = .ok (.aload_n 0, 1) := by decide +kernel
theorem dd_X11_thinks_29 : decode mb_X11_thinks 29 = .ok (.bipush (-2), 2) := by decide +kernel
theorem dd_X11_thinks_31 : decode mb_X11_thinks 31 = .ok (.invokevirtual 63, 3) := by decide +kernel
theorem dd_X11_thinks_34 : decode mb_X11_thinks 34 = .ok (.ireturn, 1) := by decide +kernel
theorem dd_X11_thinks_35 : decode mb_X11_thinks 35 = .ok (.iload_n 3, 1) := by decide +kernel
theorem dd_X11_thinks_36 : decode mb_X11_thinks 36 = .ok (.ifCond .eq 15, 3) := by decide +kernel
theorem dd_X11_thinks_39 : decode mb_X11_thinks 39 = .ok (.aload_n 0, 1) := by decide +kernel
theorem dd_X11_thinks_40 : decode mb_X11_thinks 40 = .ok (.getfield 29, 3) := by decide +kernel
theorem dd_X11_thinks_43 : decode mb_X11_thinks 43 = .ok (.iload_n 1, 1) := by decide +kernel
theorem dd_X11_thinks_44 : decode mb_X11_thinks 44 = .ok (.iload_n 2, 1) := by decide +kernel
theorem dd_X11_thinks_45 : decode mb_X11_thinks 45 = .ok (.invokevirtual 204, 3) := by decide +kernel
theorem dd_X11_thinks_48 : decode mb_X11_thinks 48 = .ok (.goto 12, 3) := by decide +kernel
theorem dd_X11_thinks_51 : decode mb_X11_thinks 51 = .ok (.aload_n 0, 1) := by decide +kernel
theorem dd_X11_thinks_52 : decode mb_X11_thinks 52 = .ok (.getfield 29, 3) := by decide +kernel
theorem dd_X11_thinks_55 : decode mb_X11_thinks 55 = .ok (.iload_n 1, 1) := by decide +kernel
theorem dd_X11_thinks_56 : decode mb_X11_thinks 56 = .ok (.iload_n 2, 1) := by decide +kernel
theorem dd_X11_thinks_57 : decode mb_X11_thinks 57 = .ok (.invokevirtual 207, 3) := by decide +kernel
theorem dd_X11_thinks_60 : decode mb_X11_thinks 60 = .ok (.ireturn, 1) := by decide +kernel
theorem dd_X11_turn_0 : decode mb_X11_turn 0 = .ok (.iload_n 1, 1) := by decide +kernel
theorem dd_X11_turn_1 : decode mb_X11_turn 1 = .ok (.iconst 0, 1) := by decide +kernel
theorem dd_X11_turn_2 : decode mb_X11_turn 2 = .ok (.iconst 1, 1) := by decide +kernel
theorem dd_X11_turn_3 : decode mb_X11_turn 3 = .ok (.invokestatic 59, 3) := by decide +kernel
theorem dd_X11_turn_6 : decode mb_X11_turn 6 = .ok (.ifCond .eq 13, 3) := by decide +kernel
theorem dd_X11_turn_9 : decode mb_X11_turn 9 = .ok (.iload_n 2, 1) := by decide +kernel
theorem dd_X11_turn_10 : decode mb_X11_turn 10 = .ok (.iconst 0, 1) := by decide +kernel
theorem dd_X11_turn_11 : decode mb_X11_turn 11 = .ok (.bipush 12, 2) := by decide +kernel
theorem dd_X11_turn_13 : decode mb_X11_turn 13 = .ok (.invokestatic 59, 3) := by decide +kernel
theorem dd_X11_turn_16 : decode mb_X11_turn 16 = .ok (.ifCond .ne 10, 3) := by decide +kernel
theorem dd_X11_turn_19 : decode mb_X11_turn 19 = .ok (.aload_n 0, 1) := by decide +kernel
theorem dd_X11_turn_20 : decode mb_X11_turn 20 = .ok (.bipush (-2), 2) := by decide +kernel
theorem dd_X11_turn_22 : decode mb_X11_turn 22 = .ok (.invokevirtual 63, 3) := by decide +kernel
theorem dd_X11_turn_25 : decode mb_X11_turn 25 = .ok (.ireturn, 1) := by decide +kernel
theorem dd_X11_turn_26 : decode mb_X11_turn 26 = .ok (.iload_n 1, 1) := by decide +kernel
theorem dd_X11_turn_27 : decode mb_X11_turn 27 = .ok (.ifCond .ne 13, 3) := by decide +kernel
theorem dd_X11_turn_30 : decode mb_X11_turn 30 = .ok (.aload_n 0, 1) := by decide +kernel
theorem dd_X11_turn_31 : decode mb_X11_turn 31 = .ok (.getfield 29, 3) := by decide +kernel
theorem dd_X11_turn_34 : decode mb_X11_turn 34 = .ok (.getfield 245, 3) := by decide +kernel
theorem dd_X11_turn_37 : decode mb_X11_turn 37 = .ok (.goto 10, 3) := by decide +kernel
theorem dd_X11_turn_40 : decode mb_X11_turn 40 = .ok (.aload_n 0, 1) := by decide +kernel
theorem dd_X11_turn_41 : decode mb_X11_turn 41 = .ok (.getfield 29, 3) := by decide +kernel
theorem dd_X11_turn_44 : decode mb_X11_turn 44 = .ok (.getfield 248, 3) := by decide +kernel
theorem dd_X11_turn_47 : decode mb_X11_turn 47 = .ok (.istore_n 3, 1) := by decide +kernel
theorem dd_X11_turn_48 : decode mb_X11_turn 48 = .ok (.iload_n 1, 1) := by decide +kernel
theorem dd_X11_turn_49 : decode mb_X11_turn 49 = .ok (.ifCond .ne 14, 3) := by decide +kernel
theorem dd_X11_turn_52 : decode mb_X11_turn 52 = .ok (.aload_n 0, 1) := by decide +kernel
theorem dd_X11_turn_53 : decode mb_X11_turn 53 = .ok (.getfield 29, 3) := by decide +kernel
theorem dd_X11_turn_56 : decode mb_X11_turn 56 = .ok (.iload_n 2, 1) := by decide +kernel
theorem dd_X11_turn_57 : decode mb_X11_turn 57 = .ok (.putfield 245, 3) := by decide +kernel
theorem dd_X11_turn_60 : decode mb_X11_turn 60 = .ok (.goto 11, 3) := by decide +kernel
theorem dd_X11_turn_63 : decode mb_X11_turn 63 = .ok (.aload_n 0, 1) := by decide +kernel
theorem dd_X11_turn_64 : decode mb_X11_turn 64 = .ok (.getfield 29, 3) := by decide +kernel
theorem dd_X11_turn_67 : decode mb_X11_turn 67 = .ok (.iload_n 2, 1) := by decide +kernel
theorem dd_X11_turn_68 : decode mb_X11_turn 68 = .ok (.putfield 248, 3) := by decide +kernel
theorem dd_X11_turn_71 : decode mb_X11_turn 71 = .ok (.iload_n 3, 1) := by decide +kernel
theorem dd_X11_turn_72 : decode mb_X11_turn 72 = .ok (.ireturn, 1) := by decide +kernel
theorem dd_X11_vases_0 : decode mb_X11_vases 0 = .ok (.aload_n 0, 1) := by decide +kernel
theorem dd_X11_vases_1 : decode mb_X11_vases 1 = .ok (.getfield 29, 3) := by decide +kernel
theorem dd_X11_vases_4 : decode mb_X11_vases 4 = .ok (.getfield 321, 3) := by decide +kernel
theorem dd_X11_vases_7 : decode mb_X11_vases 7 = .ok (.invokevirtual 333, 3) := by decide +kernel
theorem dd_X11_vases_10 : decode mb_X11_vases 10 = .ok (.ireturn, 1) := by decide +kernel
theorem dd_X11_who_0 : decode mb_X11_who 0 = .ok (.iload_n 1, 1) := by decide +kernel
theorem dd_X11_who_1 : decode mb_X11_who 1 = .ok (.iconst (-1), 1) := by decide +kernel
theorem dd_X11_who_2 : decode mb_X11_who 2 = .ok (.if_icmp .eq 27, 3) := by decide +kernel
theorem dd_X11_who_5 : decode mb_X11_who 5 = .ok (.iload_n 1, 1) := by decide +kernel
theorem dd_X11_who_6 : decode mb_X11_who 6 = .ok (.iconst 0, 1) := by decide +kernel
theorem dd_X11_who_7 : decode mb_X11_who 7 = .ok (.aload_n 0, 1) := by decide +kernel
theorem dd_X11_who_8 : decode mb_X11_who 8 = .ok (.getfield 29, 3) := by decide +kernel
theorem dd_X11_who_11 : decode mb_X11_who 11 = .ok (.getfield 303, 3) := by decide +kernel
theorem dd_X11_who_14 : decode mb_X11_who 14 = .ok (.iconst 1, 1) := by decide +kernel
theorem dd_X11_who_15 : decode mb_X11_who 15 = .ok (.isub, 1) := by decide +kernel
theorem dd_X11_who_16 : decode mb_X11_who 16 = .ok (.invokestatic 59, 3) := by decide +kernel
theorem dd_X11_who_19 : decode mb_X11_who 19 = .ok (.ifCond .ne 10, 3) := by decide +kernel
theorem dd_X11_who_22 : decode mb_X11_who 22 = .ok (.aload_n 0, 1) := by decide +kernel
theorem dd_X11_who_23 : decode mb_X11_who 23 = .ok (.bipush (-2), 2) := by decide +kernel
theorem dd_X11_who_25 : decode mb_X11_who 25 = .ok (.invokevirtual 63, 3) := by decide +kernel
theorem dd_X11_who_28 : decode mb_X11_who 28 = .ok (.ireturn, 1) := by decide +kernel
theorem dd_X11_who_29 : decode mb_X11_who 29 = .ok (.aload_n 0, 1) := by decide +kernel
theorem dd_X11_who_30 : decode mb_X11_who 30 = .ok (.getfield 29, 3) := by decide +kernel
theorem dd_X11_who_33 : decode mb_X11_who 33 = .ok (.getfield 303, 3) := by decide +kernel
theorem dd_X11_who_36 : decode mb_X11_who 36 = .ok (.aload_n 0, 1) := by decide +kernel
theorem dd_X11_who_37 : decode mb_X11_who 37 = .ok (.getfield 29, 3) := by decide +kernel
theorem dd_X11_who_40 : decode mb_X11_who 40 = .ok (.getfield 168, 3) := by decide +kernel
theorem dd_X11_who_43 : decode mb_X11_who 43 = .ok (.getfield 172, 3) := by decide +kernel
theorem dd_X11_who_46 : decode mb_X11_who 46 = .ok (.if_icmp .le 10, 3) := by decide +kernel
theorem dd_X11_who_49 : decode mb_X11_who 49 = .ok (.aload_n 0, 1) := by decide +kernel
theorem dd_X11_who_50 : decode mb_X11_who 50 = .ok (.bipush (-5), 2) := by decide +kernel
theorem dd_X11_who_52 : decode mb_X11_who 52 = .ok (.invokevirtual 63, 3) := by decide +kernel
theorem dd_X11_who_55 : decode mb_X11_who 55 = .ok (.ireturn, 1) := by decide +kernel
theorem dd_X11_who_56 : decode mb_X11_who 56 = .ok (.aload_n 0, 1) := by decide +kernel
theorem dd_X11_who_57 : decode mb_X11_who 57 = .ok (.getfield 29, 3) := by decide +kernel
theorem dd_X11_who_60 : decode mb_X11_who 60 = .ok (.invokevirtual 309, 3) := by decide +kernel
theorem dd_X11_who_63 : decode mb_X11_who 63 = .ok (.iload_n 1, 1) := by decide +kernel
theorem dd_X11_who_64 : decode mb_X11_who 64 = .ok (.iconst (-1), 1) := by decide +kernel
theorem dd_X11_who_65 : decode mb_X11_who 65 = .ok (.if_icmp .ne 15, 3) := by decide +kernel
theorem dd_X11_who_68 : decode mb_X11_who 68 = .ok (.aload_n 0, 1) := by decide +kernel
theorem dd_X11_who_69 : decode mb_X11_who 69 = .ok (.getfield 29, 3) := by decide +kernel
theorem dd_X11_who_72 : decode mb_X11_who 72 = .ok (.getfield 312, 3) := by decide +kernel
theorem dd_X11_who_75 : decode mb_X11_who 75 = .ok (.iconst 0, 1) := by decide +kernel
theorem dd_X11_who_76 : decode mb_X11_who 76 = .ok (.iaload, 1) := by decide +kernel
theorem dd_X11_who_77 : decode mb_X11_who 77 = .ok (.goto 11, 3) := by decide +kernel
theorem dd_X11_who_80 : decode mb_X11_who 80 = .ok (.aload_n 0, 1) := by decide +kernel
theorem dd_X11_who_81 : decode mb_X11_who 81 = .ok (.getfield 29, 3) := by decide +kernel
theorem dd_X11_who_84 : decode mb_X11_who 84 = .ok (.iload_n 1, 1) := by decide +kernel
theorem dd_X11_who_85 : decode mb_X11_who 85 = .ok (.invokevirtual 315, 3) := by decide +kernel
theorem dd_X11_who_88 : decode mb_X11_who 88 = .ok (.ireturn, 1) := by decide +kernel
theorem dd_X11_wipe_0 : decode mb_X11_wipe 0 = .ok (.aload_n 0, 1) := by decide +kernel
theorem dd_X11_wipe_1 : decode mb_X11_wipe 1 = .ok (.getfield 22, 3) := by decide +kernel
theorem dd_X11_wipe_4 : decode mb_X11_wipe 4 = .ok (.getfield 188, 3) := by decide +kernel
theorem dd_X11_wipe_7 : decode mb_X11_wipe 7 = .ok (.istore_n 1, 1) := by decide +kernel
theorem dd_X11_wipe_8 : decode mb_X11_wipe 8 = .ok (.aload_n 0, 1) := by decide +kernel
theorem dd_X11_wipe_9 : decode mb_X11_wipe 9 = .ok (.getfield 22, 3) := by decide +kernel
theorem dd_X11_wipe_12 : decode mb_X11_wipe 12 = .ok (.iconst 0, 1) := by decide +kernel
theorem dd_X11_wipe_13 : decode mb_X11_wipe 13 = .ok (.putfield 188, 3) := by decide +kernel
theorem dd_X11_wipe_16 : decode mb_X11_wipe 16 = .ok (.iload_n 1, 1) := by decide +kernel
theorem dd_X11_wipe_17 : decode mb_X11_wipe 17 = .ok (.ireturn, 1) := by decide +kernel
theorem dd_X11_within_0 : decode mb_X11_within 0 = .ok (.iload_n 0, 1) := by decide +kernel
theorem dd_X11_within_1 : decode mb_X11_within 1 = .ok (.iload_n 1, 1) := by decide +kernel
theorem dd_X11_within_2 : decode mb_X11_within 2 = .ok (.if_icmp .lt 12, 3) := by decide +kernel
theorem dd_X11_within_5 : decode mb_X11_within 5 = .ok (.iload_n 0, 1) := by decide +kernel
theorem dd_X11_within_6 : decode mb_X11_within 6 = .ok (.iload_n 2, 1) := by decide +kernel
theorem dd_X11_within_7 : decode mb_X11_within 7 = .ok (.if_icmp .gt 7, 3) := by decide +kernel
theorem dd_X11_within_10 : decode mb_X11_within 10 = .ok (.iconst 1, 1) := by decide +kernel
theorem dd_X11_within_11 : decode mb_X11_within 11 = .ok (.goto 4, 3) := by decide +kernel
theorem dd_X11_within_14 : decode mb_X11_within 14 = .ok (.iconst 0, 1) := by decide +kernel
theorem dd_X11_within_15 : decode mb_X11_within 15 = .ok (.ireturn, 1) := by decide +kernel
theorem dd_X12_areKinds_0 : decode mb_X12_areKinds 0 = .ok (.iload_n 1, 1) := by decide +kernel
theorem dd_X12_areKinds_1 : decode mb_X12_areKinds 1 = .ok (.ifCond .lt 13, 3) := by decide +kernel
theorem dd_X12_areKinds_4 : decode mb_X12_areKinds 4 = .ok (.iload_n 1, 1) := by decide +kernel
theorem dd_X12_areKinds_5 : decode mb_X12_areKinds 5 = .ok (.bipush 64, 2) := by decide +kernel
theorem dd_X12_areKinds_7 : decode mb_X12_areKinds 7 = .ok (.if_icmp .ge 7, 3) := by decide +kernel
theorem dd_X12_areKinds_10 : decode mb_X12_areKinds 10 = .ok (.iconst 1, 1) := by decide +kernel
theorem dd_X12_areKinds_11 : decode mb_X12_areKinds 11 = .ok (.goto 4, 3) := by decide +kernel
theorem dd_X12_areKinds_14 : decode mb_X12_areKinds 14 = .ok (.iconst 0, 1) := by decide +kernel
theorem dd_X12_areKinds_15 : decode mb_X12_areKinds 15 = .ok (.ireturn, 1) := by decide +kernel
theorem dd_X12_asNow_0 : decode mb_X12_asNow 0 = .ok (.iconst 0, 1) := by decide +kernel
theorem dd_X12_asNow_1 : decode mb_X12_asNow 1 = .ok (.istore_n 1, 1) := by decide +kernel
theorem dd_X12_asNow_2 : decode mb_X12_asNow 2 = .ok (.iload_n 1, 1) := by decide +kernel
theorem dd_X12_asNow_3 : decode mb_X12_asNow 3 = .ok (.aload_n 0, 1) := by decide +kernel
theorem dd_X12_asNow_4 : decode mb_X12_asNow 4 = .ok (.getfield 135, 3) := by decide +kernel
theorem dd_X12_asNow_7 : decode mb_X12_asNow 7 = .ok (.if_icmp .ge 29, 3) := by decide +kernel
theorem dd_X12_asNow_10 : decode mb_X12_asNow 10 = .ok (.aload_n 0, 1) := by decide +kernel
theorem dd_X12_asNow_11 : decode mb_X12_asNow 11 = .ok (.getfield 104, 3) := by decide +kernel
theorem dd_X12_asNow_14 : decode mb_X12_asNow 14 = .ok (.iload_n 1, 1) := by decide +kernel
theorem dd_X12_asNow_15 : decode mb_X12_asNow 15 = .ok (.aload_n 0, 1) := by decide +kernel
theorem dd_X12_asNow_16 : decode mb_X12_asNow 16 = .ok (.getfield 32, 3) := by decide +kernel
theorem dd_X12_asNow_19 : decode mb_X12_asNow 19 = .ok (.iload_n 1, 1) := by decide +kernel
theorem dd_X12_asNow_20 : decode mb_X12_asNow 20 = .ok (.iaload, 1) := by decide +kernel
theorem dd_X12_asNow_21 : decode mb_X12_asNow 21 = .ok (.ifCond .lt 7, 3) := by decide +kernel
theorem dd_X12_asNow_24 : decode mb_X12_asNow 24 = .ok (.iconst 1, 1) := by decide +kernel
theorem dd_X12_asNow_25 : decode mb_X12_asNow 25 = .ok (.goto 4, 3) := by decide +kernel
theorem dd_X12_asNow_28 : decode mb_X12_asNow 28 = .ok (.iconst 0, 1) := by decide +kernel
theorem dd_X12_asNow_29 : decode mb_X12_asNow 29 = .ok (.bastore, 1) := by decide +kernel
theorem dd_X12_asNow_30 : decode mb_X12_asNow 30 = .ok (.iinc 1 1, 3) := by decide +kernel
theorem dd_X12_asNow_33 : decode mb_X12_asNow 33 = .ok (.goto (-31), 3) := by decide +kernel
theorem dd_X12_asNow_36 : decode mb_X12_asNow 36 = .ok (.iconst 0, 1) := by decide +kernel
theorem dd_X12_asNow_37 : decode mb_X12_asNow 37 = .ok (.istore_n 1, 1) := by decide +kernel
theorem dd_X12_asNow_38 : decode mb_X12_asNow 38 = .ok (.iload_n 1, 1) := by decide +kernel
theorem dd_X12_asNow_39 : decode mb_X12_asNow 39 = .ok (.aload_n 0, 1) := by decide +kernel
theorem dd_X12_asNow_40 : decode mb_X12_asNow 40 = .ok (.getfield 145, 3) := by decide +kernel
theorem dd_X12_asNow_43 : decode mb_X12_asNow 43 = .ok (.if_icmp .ge 21, 3) := by decide +kernel
theorem dd_X12_asNow_46 : decode mb_X12_asNow 46 = .ok (.aload_n 0, 1) := by decide +kernel
theorem dd_X12_asNow_47 : decode mb_X12_asNow 47 = .ok (.getfield 108, 3) := by decide +kernel
theorem dd_X12_asNow_50 : decode mb_X12_asNow 50 = .ok (.iload_n 1, 1) := by decide +kernel
theorem dd_X12_asNow_51 : decode mb_X12_asNow 51 = .ok (.aload_n 0, 1) := by decide +kernel
theorem dd_X12_asNow_52 : decode mb_X12_asNow 52 = .ok (.getfield 56, 3) := by decide +kernel
theorem dd_X12_asNow_55 : decode mb_X12_asNow 55 = .ok (.iload_n 1, 1) := by decide +kernel
theorem dd_X12_asNow_56 : decode mb_X12_asNow 56 = .ok (.iaload, 1) := by decide +kernel
theorem dd_X12_asNow_57 : decode mb_X12_asNow 57 = .ok (.iastore, 1) := by decide +kernel
theorem dd_X12_asNow_58 : decode mb_X12_asNow 58 = .ok (.iinc 1 1, 3) := by decide +kernel
theorem dd_X12_asNow_61 : decode mb_X12_asNow 61 = .ok (.goto (-23), 3) := by decide +kernel
theorem dd_X12_asNow_64 : decode mb_X12_asNow 64 = .ok (.return_, 1) := by decide +kernel
theorem dd_X12_back_0 : decode mb_X12_back 0 = .ok (.aload_n 0, 1) := by decide +kernel
theorem dd_X12_back_1 : decode mb_X12_back 1 = .ok (.getfield 310, 3) := by decide +kernel
theorem dd_X12_back_4 : decode mb_X12_back 4 = .ok (.ifCond .ne 10, 3) := by decide +kernel
theorem dd_X12_back_7 : decode mb_X12_back 7 = .ok (.aload_n 0, 1) := by decide +kernel
theorem dd_X12_back_8 : decode mb_X12_back 8 = .ok (.bipush (-5), 2) := by decide +kernel
theorem dd_X12_back_10 : decode mb_X12_back 10 = .ok (.invokevirtual 152, 3) := by decide +kernel
theorem dd_X12_back_13 : decode mb_X12_back 13 = .ok (.ireturn, 1) := by decide +kernel
theorem dd_X12_back_14 : decode mb_X12_back 14 = .ok (.aload_n 0, 1) := by decide +kernel
theorem dd_X12_back_15 : decode mb_X12_back 15 = .ok (.iconst 0, 1) := by decide +kernel
theorem dd_X12_back_16 : decode mb_X12_back 16 = .ok (.invokevirtual 306, 3) := by decide +kernel
theorem dd_X12_back_19 : decode mb_X12_back 19 = .ok (.aload_n 0, 1) := by decide +kernel
theorem dd_X12_back_20 : decode mb_X12_back 20 = .ok (.aload_n 0, 1) := by decide +kernel
theorem dd_X12_back_21 : decode mb_X12_back 21 = .ok (.getfield 101, 3) := by decide +kernel
theorem dd_X12_back_24 : decode mb_X12_back 24 = .ok (.iconst 0, 1) := by decide +kernel
theorem dd_X12_back_25 : decode mb_X12_back 25 = .ok (.iaload, 1) := by decide +kernel
theorem dd_X12_back_26 : decode mb_X12_back 26 = .ok (.putfield 135, 3) := by decide +kernel
theorem dd_X12_back_29 : decode mb_X12_back 29 = .ok (.aload_n 0, 1) := by decide +kernel
theorem dd_X12_back_30 : decode mb_X12_back 30 = .ok (.aload_n 0, 1) := by decide +kernel
theorem dd_X12_back_31 : decode mb_X12_back 31 = .ok (.getfield 101, 3) := by decide +kernel
theorem dd_X12_back_34 : decode mb_X12_back 34 = .ok (.iconst 1, 1) := by decide +kernel
theorem dd_X12_back_35 : decode mb_X12_back 35 = .ok (.iaload, 1) := by decide +kernel
theorem dd_X12_back_36 : decode mb_X12_back 36 = .ok (.putfield 139, 3) := by decide +kernel
theorem dd_X12_back_39 : decode mb_X12_back 39 = .ok (.aload_n 0, 1) := by decide +kernel
theorem dd_X12_back_40 : decode mb_X12_back 40 = .ok (.aload_n 0, 1) := by decide +kernel
theorem dd_X12_back_41 : decode mb_X12_back 41 = .ok (.getfield 101, 3) := by decide +kernel
theorem dd_X12_back_44 : decode mb_X12_back 44 = .ok (.iconst 2, 1) := by decide +kernel
theorem dd_X12_back_45 : decode mb_X12_back 45 = .ok (.iaload, 1) := by decide +kernel
theorem dd_X12_back_46 : decode mb_X12_back 46 = .ok (.putfield 142, 3) := by decide +kernel
theorem dd_X12_back_49 : decode mb_X12_back 49 = .ok (.aload_n 0, 1) := by decide +kernel
theorem dd_X12_back_50 : decode mb_X12_back 50 = .ok (.aload_n 0, 1) := by decide +kernel
theorem dd_X12_back_51 : decode mb_X12_back 51 = .ok (.getfield 101, 3) := by decide +kernel
theorem dd_X12_back_54 : decode mb_X12_back 54 = .ok (.iconst 3, 1) := by decide +kernel
theorem dd_X12_back_55 : decode mb_X12_back 55 = .ok (.iaload, 1) := by decide +kernel
theorem dd_X12_back_56 : decode mb_X12_back 56 = .ok (.putfield 145, 3) := by decide +kernel
theorem dd_X12_back_59 : decode mb_X12_back 59 = .ok (.aload_n 0, 1) := by decide +kernel
theorem dd_X12_back_60 : decode mb_X12_back 60 = .ok (.aload_n 0, 1) := by decide +kernel
theorem dd_X12_back_61 : decode mb_X12_back 61 = .ok (.getfield 101, 3) := by decide +kernel
theorem dd_X12_back_64 : decode mb_X12_back 64 = .ok (.iconst 4, 1) := by decide +kernel
theorem dd_X12_back_65 : decode mb_X12_back 65 = .ok (.iaload, 1) := by decide +kernel
theorem dd_X12_back_66 : decode mb_X12_back 66 = .ok (.putfield 273, 3) := by decide +kernel
theorem dd_X12_back_69 : decode mb_X12_back 69 = .ok (.aload_n 0, 1) := by decide +kernel
theorem dd_X12_back_70 : decode mb_X12_back 70 = .ok (.aload_n 0, 1) := by decide +kernel
theorem dd_X12_back_71 : decode mb_X12_back 71 = .ok (.getfield 101, 3) := by decide +kernel
theorem dd_X12_back_74 : decode mb_X12_back 74 = .ok (.iconst 5, 1) := by decide +kernel
theorem dd_X12_back_75 : decode mb_X12_back 75 = .ok (.iaload, 1) := by decide +kernel
theorem dd_X12_back_76 : decode mb_X12_back 76 = .ok (.putfield 279, 3) := by decide +kernel
theorem dd_X12_back_79 : decode mb_X12_back 79 = .ok (.aload_n 0, 1) := by decide +kernel
theorem dd_X12_back_80 : decode mb_X12_back 80 = .ok (.aload_n 0, 1) := by decide +kernel
theorem dd_X12_back_81 : decode mb_X12_back 81 = .ok (.getfield 101, 3) := by decide +kernel
theorem dd_X12_back_84 : decode mb_X12_back 84 = .ok (.bipush 6, 2) := by decide +kernel
theorem dd_X12_back_86 : decode mb_X12_back 86 = .ok (.iaload, 1) := by decide +kernel
theorem dd_X12_back_87 : decode mb_X12_back 87 = .ok (.putfield 288, 3) := by decide +kernel
theorem dd_X12_back_90 : decode mb_X12_back 90 = .ok (.iconst 0, 1) := by decide +kernel
theorem dd_X12_back_91 : decode mb_X12_back 91 = .ok (.istore_n 1, 1) := by decide +kernel
theorem dd_X12_back_92 : decode mb_X12_back 92 = .ok (.iload_n 1, 1) := by decide +kernel
theorem dd_X12_back_93 : decode mb_X12_back 93 = .ok (.bipush 8, 2) := by decide +kernel
theorem dd_X12_back_95 : decode mb_X12_back 95 = .ok (.if_icmp .ge 37, 3) := by decide +kernel
theorem dd_X12_back_98 : decode mb_X12_back 98 = .ok (.aload_n 0, 1) := by decide +kernel
theorem dd_X12_back_99 : decode mb_X12_back 99 = .ok (.iload_n 1, 1) := by decide +kernel
theorem dd_X12_back_100 : decode mb_X12_back 100 = .ok (.invokevirtual 156, 3) := by decide +kernel
theorem dd_X12_back_103 : decode mb_X12_back 103 = .ok (.ifCond .eq 23, 3) := by decide +kernel
theorem dd_X12_back_106 : decode mb_X12_back 106 = .ok (.aload_n 0, 1) := by decide +kernel
theorem dd_X12_back_107 : decode mb_X12_back 107 = .ok (.getfield 7, 3) := by decide +kernel
theorem dd_X12_back_110 : decode mb_X12_back 110 = .ok (.iload_n 1, 1) := by decide +kernel
theorem dd_X12_back_111 : decode mb_X12_back 111 = .ok (.iaload, 1) := by decide +kernel
theorem dd_X12_back_112 : decode mb_X12_back 112 = .ok (.aload_n 0, 1) := by decide +kernel
theorem dd_X12_back_113 : decode mb_X12_back 113 = .ok (.getfield 135, 3) := by decide +kernel
theorem dd_X12_back_116 : decode mb_X12_back 116 = .ok (.if_icmp .lt 10, 3) := by decide +kernel
theorem dd_X12_back_119 : decode mb_X12_back 119 = .ok (.aload_n 0, 1) := by decide +kernel
theorem dd_X12_back_120 : decode mb_X12_back 120 = .ok (.getfield 7, 3) := by decide +kernel
theorem dd_X12_back_123 : decode mb_X12_back 123 = .ok (.iload_n 1, 1) := by decide +kernel
theorem dd_X12_back_124 : decode mb_X12_back 124 = .ok (.iconst (-1), 1) := by decide +kernel
theorem dd_X12_back_125 : decode mb_X12_back 125 = .ok (.iastore, 1) := by decide +kernel
theorem dd_X12_back_126 : decode mb_X12_back 126 = .ok (.iinc 1 1, 3) := by decide +kernel
theorem dd_X12_back_129 : decode mb_X12_back 129 = .ok (.goto (-37), 3) := by decide +kernel
theorem dd_X12_back_132 : decode mb_X12_back 132 = .ok (.iconst 1, 1) := by decide +kernel
theorem dd_X12_back_133 : decode mb_X12_back 133 = .ok (.ireturn, 1) := by decide +kernel
theorem dd_X12_best_0 : decode mb_X12_best 0 = .ok (.iconst 0, 1) := by decide +kernel
theorem dd_X12_best_1 : decode mb_X12_best 1 = .ok (.istore_n 1, 1) := by decide +kernel
theorem dd_X12_best_2 : decode mb_X12_best 2 = .ok (.iconst (-1), 1) := by decide +kernel
theorem dd_X12_best_3 : decode mb_X12_best 3 = .ok (.istore_n 2, 1) := by decide +kernel
theorem dd_X12_best_4 : decode mb_X12_best 4 = .ok (.iconst 0, 1) := by decide +kernel
theorem dd_X12_best_5 : decode mb_X12_best 5 = .ok (.istore_n 3, 1) := by decide +kernel
theorem dd_X12_best_6 : decode mb_X12_best 6 = .ok (.iload_n 3, 1) := by decide +kernel
theorem dd_X12_best_7 : decode mb_X12_best 7 = .ok (.bipush 12, 2) := by decide +kernel
theorem dd_X12_best_9 : decode mb_X12_best 9 = .ok (.if_icmp .gt 51, 3) := by decide +kernel
theorem dd_X12_best_12 : decode mb_X12_best 12 = .ok (.iload_n 3, 1) := by decide +kernel
theorem dd_X12_best_13 : decode mb_X12_best 13 = .ok (.istore 4, 2) := by decide +kernel
theorem dd_X12_best_15 : decode mb_X12_best 15 = .ok (.iload 4, 2) := by decide +kernel
theorem dd_X12_best_17 : decode mb_X12_best 17 = .ok (.bipush 12, 2) := by decide +kernel
theorem dd_X12_best_19 : decode mb_X12_best 19 = .ok (.if_icmp .gt 35, 3) := by decide +kernel
theorem dd_X12_best_22 : decode mb_X12_best 22 = .ok (.aload_n 0, 1) := by decide +kernel
theorem dd_X12_best_23 : decode mb_X12_best 23 = .ok (.iload_n 3, 1) := by decide +kernel
theorem dd_X12_best_24 : decode mb_X12_best 24 = .ok (.iload 4, 2) := by decide +kernel
theorem dd_X12_best_26 : decode mb_X12_best 26 = .ok (.invokevirtual 264, 3) := by decide +kernel
theorem dd_X12_best_29 : decode mb_X12_best 29 = .ok (.istore 5, 2) := by decide +kernel
theorem dd_X12_best_31 : decode mb_X12_best 31 = .ok (.iload 5, 2) := by decide +kernel
theorem dd_X12_best_33 : decode mb_X12_best 33 = .ok (.iload_n 2, 1) := by decide +kernel
theorem dd_X12_best_34 : decode mb_X12_best 34 = .ok (.if_icmp .lt 14, 3) := by decide +kernel
theorem dd_X12_best_37 : decode mb_X12_best 37 = .ok (.iload 5, 2) := by decide +kernel
theorem dd_X12_best_39 : decode mb_X12_best 39 = .ok (.istore_n 2, 1) := by decide +kernel
theorem dd_X12_best_40 : decode mb_X12_best 40 = .ok (.bipush 100, 2) := by decide +kernel
theorem dd_X12_best_42 : decode mb_X12_best 42 = .ok (.iload_n 3, 1) := by decide +kernel
theorem dd_X12_best_43 : decode mb_X12_best 43 = .ok (.imul, 1) := by decide +kernel
theorem dd_X12_best_44 : decode mb_X12_best 44 = .ok (.iload 4, 2) := by decide +kernel
theorem dd_X12_best_46 : decode mb_X12_best 46 = .ok (.iadd, 1) := by decide +kernel
theorem dd_X12_best_47 : decode mb_X12_best 47 = .ok (.istore_n 1, 1) := by decide +kernel
theorem dd_X12_best_48 : decode mb_X12_best 48 = .ok (.iinc 4 1, 3) := by decide +kernel
theorem dd_X12_best_51 : decode mb_X12_best 51 = .ok (.goto (-36), 3) := by decide +kernel
theorem dd_X12_best_54 : decode mb_X12_best 54 = .ok (.iinc 3 1, 3) := by decide +kernel
theorem dd_X12_best_57 : decode mb_X12_best 57 = .ok (.goto (-51), 3) := by decide +kernel
theorem dd_X12_best_60 : decode mb_X12_best 60 = .ok (.iload_n 1, 1) := by decide +kernel
theorem dd_X12_best_61 : decode mb_X12_best 61 = .ok (.ireturn, 1) := by decide +kernel
theorem dd_X12_buyer_0 : decode mb_X12_buyer 0 = .ok (.aload_n 0, 1) := by decide +kernel
theorem dd_X12_buyer_1 : decode mb_X12_buyer 1 = .ok (.iload_n 1, 1) := by decide +kernel
theorem dd_X12_buyer_2 : decode mb_X12_buyer 2 = .ok (.invokevirtual 248, 3) := by decide +kernel
theorem dd_X12_buyer_5 : decode mb_X12_buyer 5 = .ok (.ifCond .eq 35, 3) := by decide +kernel
theorem dd_X12_buyer_8 : decode mb_X12_buyer 8 = .ok (.iload_n 2, 1) := by decide +kernel
theorem dd_X12_buyer_9 : decode mb_X12_buyer 9 = .ok (.ifCond .lt 31, 3) := by decide +kernel
theorem dd_X12_buyer_12 : decode mb_X12_buyer 12 = .ok (.iload_n 2, 1) := by decide +kernel
theorem dd_X12_buyer_13 : decode mb_X12_buyer 13 = .ok (.sipush 9999, 3) := by decide +kernel
theorem dd_X12_buyer_16 : decode mb_X12_buyer 16 = .ok (.if_icmp .gt 24, 3) := by decide +kernel
theorem dd_X12_buyer_19 : decode mb_X12_buyer 19 = .ok (.aload_n 0, 1) := by decide +kernel
theorem dd_X12_buyer_20 : decode mb_X12_buyer 20 = .ok (.iload_n 3, 1) := by decide +kernel
theorem dd_X12_buyer_21 : decode mb_X12_buyer 21 = .ok (.invokevirtual 190, 3) := by decide +kernel
theorem dd_X12_buyer_24 : decode mb_X12_buyer 24 = .ok (.ifCond .eq 16, 3) := by decide +kernel
theorem dd_X12_buyer_27 : decode mb_X12_buyer 27 = .ok (.iload 4, 2) := by decide +kernel
theorem dd_X12_buyer_29 : decode mb_X12_buyer 29 = .ok (.ifCond .lt 11, 3) := by decide +kernel
theorem dd_X12_buyer_32 : decode mb_X12_buyer 32 = .ok (.iload 4, 2) := by decide +kernel
theorem dd_X12_buyer_34 : decode mb_X12_buyer 34 = .ok (.sipush 300, 3) := by decide +kernel
theorem dd_X12_buyer_37 : decode mb_X12_buyer 37 = .ok (.if_icmp .le 10, 3) := by decide +kernel
theorem dd_X12_buyer_40 : decode mb_X12_buyer 40 = .ok (.aload_n 0, 1) := by decide +kernel
theorem dd_X12_buyer_41 : decode mb_X12_buyer 41 = .ok (.bipush (-2), 2) := by decide +kernel
theorem dd_X12_buyer_43 : decode mb_X12_buyer 43 = .ok (.invokevirtual 152, 3) := by decide +kernel
theorem dd_X12_buyer_46 : decode mb_X12_buyer 46 = .ok (.ireturn, 1) := by decide +kernel
theorem dd_X12_buyer_47 : decode mb_X12_buyer 47 = .ok (.aload_n 0, 1) := by decide +kernel
theorem dd_X12_buyer_48 : decode mb_X12_buyer 48 = .ok (.getfield 145, 3) := by decide +kernel
theorem dd_X12_buyer_51 : decode mb_X12_buyer 51 = .ok (.bipush 12, 2) := by decide +kernel
theorem dd_X12_buyer_53 : decode mb_X12_buyer 53 = .ok (.if_icmp .ne 10, 3) := by decide +kernel
theorem dd_X12_buyer_56 : decode mb_X12_buyer 56 = .ok (.aload_n 0, 1) := by decide +kernel
theorem dd_X12_buyer_57 : decode mb_X12_buyer 57 = .ok (.bipush (-6), 2) := by decide +kernel
theorem dd_X12_buyer_59 : decode mb_X12_buyer 59 = .ok (.invokevirtual 152, 3) := by decide +kernel
theorem dd_X12_buyer_62 : decode mb_X12_buyer 62 = .ok (.ireturn, 1) := by decide +kernel
theorem dd_X12_buyer_63 : decode mb_X12_buyer 63 = .ok (.aload_n 0, 1) := by decide +kernel
theorem dd_X12_buyer_64 : decode mb_X12_buyer 64 = .ok (.getfield 53, 3) := by decide +kernel
theorem dd_X12_buyer_67 : decode mb_X12_buyer 67 = .ok (.aload_n 0, 1) := by decide +kernel
theorem dd_X12_buyer_68 : decode mb_X12_buyer 68 = .ok (.getfield 145, 3) := by decide +kernel
theorem dd_X12_buyer_71 : decode mb_X12_buyer 71 = .ok (.iload_n 1, 1) := by decide +kernel
theorem dd_X12_buyer_72 : decode mb_X12_buyer 72 = .ok (.iastore, 1) := by decide +kernel
theorem dd_X12_buyer_73 : decode mb_X12_buyer 73 = .ok (.aload_n 0, 1) := by decide +kernel
theorem dd_X12_buyer_74 : decode mb_X12_buyer 74 = .ok (.getfield 56, 3) := by decide +kernel
theorem dd_X12_buyer_77 : decode mb_X12_buyer 77 = .ok (.aload_n 0, 1) := by decide +kernel
theorem dd_X12_buyer_78 : decode mb_X12_buyer 78 = .ok (.getfield 145, 3) := by decide +kernel
theorem dd_X12_buyer_81 : decode mb_X12_buyer 81 = .ok (.iload_n 2, 1) := by decide +kernel
theorem dd_X12_buyer_82 : decode mb_X12_buyer 82 = .ok (.iastore, 1) := by decide +kernel
theorem dd_X12_buyer_83 : decode mb_X12_buyer 83 = .ok (.aload_n 0, 1) := by decide +kernel
theorem dd_X12_buyer_84 : decode mb_X12_buyer 84 = .ok (.getfield 59, 3) := by decide +kernel
theorem dd_X12_buyer_87 : decode mb_X12_buyer 87 = .ok (.aload_n 0, 1) := by decide +kernel
theorem dd_X12_buyer_88 : decode mb_X12_buyer 88 = .ok (.getfield 145, 3) := by decide +kernel
theorem dd_X12_buyer_91 : decode mb_X12_buyer 91 = .ok (.iload_n 3, 1) := by decide +kernel
theorem dd_X12_buyer_92 : decode mb_X12_buyer 92 = .ok (.iastore, 1) := by decide +kernel
theorem dd_X12_buyer_93 : decode mb_X12_buyer 93 = .ok (.aload_n 0, 1) := by decide +kernel
theorem dd_X12_buyer_94 : decode mb_X12_buyer 94 = .ok (.getfield 62, 3) := by decide +kernel
theorem dd_X12_buyer_97 : decode mb_X12_buyer 97 = .ok (.aload_n 0, 1) := by decide +kernel
theorem dd_X12_buyer_98 : decode mb_X12_buyer 98 = .ok (.getfield 145, 3) := by decide +kernel
theorem dd_X12_buyer_101 : decode mb_X12_buyer 101 = .ok (.iload 4, 2) := by decide +kernel
theorem dd_X12_buyer_103 : decode mb_X12_buyer 103 = .ok (.iastore, 1) := by decide +kernel
theorem dd_X12_buyer_104 : decode mb_X12_buyer 104 = .ok (.aload_n 0, 1) := by decide +kernel
theorem dd_X12_buyer_105 : decode mb_X12_buyer 105 = .ok (.getfield 65, 3) := by decide +kernel
theorem dd_X12_buyer_108 : decode mb_X12_buyer 108 = .ok (.aload_n 0, 1) := by decide +kernel
theorem dd_X12_buyer_109 : decode mb_X12_buyer 109 = .ok (.getfield 145, 3) := by decide +kernel
theorem dd_X12_buyer_112 : decode mb_X12_buyer 112 = .ok (.iconst 0, 1) := by decide +kernel
theorem dd_X12_buyer_113 : decode mb_X12_buyer 113 = .ok (.iastore, 1) := by decide +kernel
theorem dd_X12_buyer_114 : decode mb_X12_buyer 114 = .ok (.aload_n 0, 1) := by decide +kernel
theorem dd_X12_buyer_115 : decode mb_X12_buyer 115 = .ok (.dup, 1) := by decide +kernel
theorem dd_X12_buyer_116 : decode mb_X12_buyer 116 = .ok (.getfield 145, 3) := by decide +kernel
theorem dd_X12_buyer_119 : decode mb_X12_buyer 119 = .ok (.dup_x1, 1) := by decide +kernel
theorem dd_X12_buyer_120 : decode mb_X12_buyer 120 = .ok (.iconst 1, 1) := by decide +kernel
theorem dd_X12_buyer_121 : decode mb_X12_buyer 121 = .ok (.iadd, 1) := by decide +kernel
theorem dd_X12_buyer_122 : decode mb_X12_buyer 122 = .ok (.putfield 145, 3) := by decide +kernel
theorem dd_X12_buyer_125 : decode mb_X12_buyer 125 = .ok (.ireturn, 1) := by decide +kernel
theorem dd_X12_buyerOf_0 : decode mb_X12_buyerOf 0 = .ok (.aload_n 0, 1) := by decide +kernel
theorem dd_X12_buyerOf_1 : decode mb_X12_buyerOf 1 = .ok (.iload_n 1, 1) := by decide +kernel
theorem dd_X12_buyerOf_2 : decode mb_X12_buyerOf 2 = .ok (.invokevirtual 251, 3) := by decide +kernel
theorem dd_X12_buyerOf_5 : decode mb_X12_buyerOf 5 = .ok (.ifCond .eq 12, 3) := by decide +kernel
theorem dd_X12_buyerOf_8 : decode mb_X12_buyerOf 8 = .ok (.iload_n 2, 1) := by decide +kernel
theorem dd_X12_buyerOf_9 : decode mb_X12_buyerOf 9 = .ok (.ifCond .lt 8, 3) := by decide +kernel
theorem dd_X12_buyerOf_12 : decode mb_X12_buyerOf 12 = .ok (.iload_n 2, 1) := by decide +kernel
theorem dd_X12_buyerOf_13 : decode mb_X12_buyerOf 13 = .ok (.iconst 4, 1) := by decide +kernel
theorem dd_X12_buyerOf_14 : decode mb_X12_buyerOf 14 = .ok (.if_icmp .le 10, 3) := by decide +kernel
theorem dd_X12_buyerOf_17 : decode mb_X12_buyerOf 17 = .ok (.aload_n 0, 1) := by decide +kernel
theorem dd_X12_buyerOf_18 : decode mb_X12_buyerOf 18 = .ok (.bipush (-2), 2) := by decide +kernel
theorem dd_X12_buyerOf_20 : decode mb_X12_buyerOf 20 = .ok (.invokevirtual 152, 3) := by decide +kernel
theorem dd_X12_buyerOf_23 : decode mb_X12_buyerOf 23 = .ok (.ireturn, 1) := by decide +kernel
theorem dd_X12_buyerOf_24 : decode mb_X12_buyerOf 24 = .ok (.iload_n 2, 1) := by decide +kernel
theorem dd_X12_buyerOf_25 : decode mb_X12_buyerOf 25 = .ok (.ifCond .ne 10, 3) := by decide +kernel
theorem dd_X12_buyerOf_28 : decode mb_X12_buyerOf 28 = .ok (.aload_n 0, 1) := by decide +kernel
theorem dd_X12_buyerOf_29 : decode mb_X12_buyerOf 29 = .ok (.getfield 53, 3) := by decide +kernel
theorem dd_X12_buyerOf_32 : decode mb_X12_buyerOf 32 = .ok (.iload_n 1, 1) := by decide +kernel
theorem dd_X12_buyerOf_33 : decode mb_X12_buyerOf 33 = .ok (.iaload, 1) := by decide +kernel
theorem dd_X12_buyerOf_34 : decode mb_X12_buyerOf 34 = .ok (.ireturn, 1) := by decide +kernel
theorem dd_X12_buyerOf_35 : decode mb_X12_buyerOf 35 = .ok (.iload_n 2, 1) := by decide +kernel
theorem dd_X12_buyerOf_36 : decode mb_X12_buyerOf 36 = .ok (.iconst 1, 1) := by decide +kernel
theorem dd_X12_buyerOf_37 : decode mb_X12_buyerOf 37 = .ok (.if_icmp .ne 10, 3) := by decide +kernel
theorem dd_X12_buyerOf_40 : decode mb_X12_buyerOf 40 = .ok (.aload_n 0, 1) := by decide +kernel
theorem dd_X12_buyerOf_41 : decode mb_X12_buyerOf 41 = .ok (.getfield 56, 3) := by decide +kernel
theorem dd_X12_buyerOf_44 : decode mb_X12_buyerOf 44 = .ok (.iload_n 1, 1) := by decide +kernel
theorem dd_X12_buyerOf_45 : decode mb_X12_buyerOf 45 = .ok (.iaload, 1) := by decide +kernel
theorem dd_X12_buyerOf_46 : decode mb_X12_buyerOf 46 = .ok (.ireturn, 1) := by decide +kernel
theorem dd_X12_buyerOf_47 : decode mb_X12_buyerOf 47 = .ok (.iload_n 2, 1) := by decide +kernel
theorem dd_X12_buyerOf_48 : decode mb_X12_buyerOf 48 = .ok (.iconst 2, 1) := by decide +kernel
theorem dd_X12_buyerOf_49 : decode mb_X12_buyerOf 49 = .ok (.if_icmp .ne 10, 3) := by decide +kernel
theorem dd_X12_buyerOf_52 : decode mb_X12_buyerOf 52 = .ok (.aload_n 0, 1) := by decide +kernel
theorem dd_X12_buyerOf_53 : decode mb_X12_buyerOf 53 = .ok (.getfield 59, 3) := by decide +kernel
theorem dd_X12_buyerOf_56 : decode mb_X12_buyerOf 56 = .ok (.iload_n 1, 1) := by decide +kernel
theorem dd_X12_buyerOf_57 : decode mb_X12_buyerOf 57 = .ok (.iaload, 1) := by decide +kernel
theorem dd_X12_buyerOf_58 : decode mb_X12_buyerOf 58 = .ok (.ireturn, 1) := by decide +kernel
theorem dd_X12_buyerOf_59 : decode mb_X12_buyerOf 59 = .ok (.iload_n 2, 1) := by decide +kernel
theorem dd_X12_buyerOf_60 : decode mb_X12_buyerOf 60 = .ok (.iconst 3, 1) := by decide +kernel
theorem dd_X12_buyerOf_61 : decode mb_X12_buyerOf 61 = .ok (.if_icmp .ne 12, 3) := by decide +kernel
theorem dd_X12_buyerOf_64 : decode mb_X12_buyerOf 64 = .ok (.aload_n 0, 1) := by decide +kernel
theorem dd_X12_buyerOf_65 : decode mb_X12_buyerOf 65 = .ok (.getfield 62, 3) := by decide +kernel
theorem dd_X12_buyerOf_68 : decode mb_X12_buyerOf 68 = .ok (.iload_n 1, 1) := by decide +kernel
theorem dd_X12_buyerOf_69 : decode mb_X12_buyerOf 69 = .ok (.iaload, 1) := by decide +kernel
theorem dd_X12_buyerOf_70 : decode mb_X12_buyerOf 70 = .ok (.goto 9, 3) := by decide +kernel
theorem dd_X12_buyerOf_73 : decode mb_X12_buyerOf 73 = .ok (.aload_n 0, 1) := by decide +kernel
theorem dd_X12_buyerOf_74 : decode mb_X12_buyerOf 74 = .ok (.getfield 65, 3) := by decide +kernel
theorem dd_X12_buyerOf_77 : decode mb_X12_buyerOf 77 = .ok (.iload_n 1, 1) := by decide +kernel
theorem dd_X12_buyerOf_78 : decode mb_X12_buyerOf 78 = .ok (.iaload, 1) := by decide +kernel
theorem dd_X12_buyerOf_79 : decode mb_X12_buyerOf 79 = .ok (.ireturn, 1) := by decide +kernel
theorem dd_X12_chip_0 : decode mb_X12_chip 0 = .ok (.aload_n 0, 1) := by decide +kernel
theorem dd_X12_chip_1 : decode mb_X12_chip 1 = .ok (.iload_n 1, 1) := by decide +kernel
theorem dd_X12_chip_2 : decode mb_X12_chip 2 = .ok (.invokevirtual 165, 3) := by decide +kernel
theorem dd_X12_chip_5 : decode mb_X12_chip 5 = .ok (.ifCond .eq 13, 3) := by decide +kernel
theorem dd_X12_chip_8 : decode mb_X12_chip 8 = .ok (.iload_n 2, 1) := by decide +kernel
theorem dd_X12_chip_9 : decode mb_X12_chip 9 = .ok (.ifCond .lt 9, 3) := by decide +kernel
theorem dd_X12_chip_12 : decode mb_X12_chip 12 = .ok (.iload_n 2, 1) := by decide +kernel
theorem dd_X12_chip_13 : decode mb_X12_chip 13 = .ok (.bipush 7, 2) := by decide +kernel
theorem dd_X12_chip_15 : decode mb_X12_chip 15 = .ok (.if_icmp .le 10, 3) := by decide +kernel
theorem dd_X12_chip_18 : decode mb_X12_chip 18 = .ok (.aload_n 0, 1) := by decide +kernel
theorem dd_X12_chip_19 : decode mb_X12_chip 19 = .ok (.bipush (-2), 2) := by decide +kernel
theorem dd_X12_chip_21 : decode mb_X12_chip 21 = .ok (.invokevirtual 152, 3) := by decide +kernel
theorem dd_X12_chip_24 : decode mb_X12_chip 24 = .ok (.ireturn, 1) := by decide +kernel
theorem dd_X12_chip_25 : decode mb_X12_chip 25 = .ok (.aload_n 0, 1) := by decide +kernel
theorem dd_X12_chip_26 : decode mb_X12_chip 26 = .ok (.aload_n 0, 1) := by decide +kernel
theorem dd_X12_chip_27 : decode mb_X12_chip 27 = .ok (.getfield 26, 3) := by decide +kernel
theorem dd_X12_chip_30 : decode mb_X12_chip 30 = .ok (.iload_n 1, 1) := by decide +kernel
theorem dd_X12_chip_31 : decode mb_X12_chip 31 = .ok (.iaload, 1) := by decide +kernel
theorem dd_X12_chip_32 : decode mb_X12_chip 32 = .ok (.iload_n 2, 1) := by decide +kernel
theorem dd_X12_chip_33 : decode mb_X12_chip 33 = .ok (.invokevirtual 181, 3) := by decide +kernel
theorem dd_X12_chip_36 : decode mb_X12_chip 36 = .ok (.ifCond .eq 5, 3) := by decide +kernel
theorem dd_X12_chip_39 : decode mb_X12_chip 39 = .ok (.iconst 0, 1) := by decide +kernel
theorem dd_X12_chip_40 : decode mb_X12_chip 40 = .ok (.ireturn, 1) := by decide +kernel
theorem dd_X12_chip_41 : decode mb_X12_chip 41 = .ok (.aload_n 0, 1) := by decide +kernel
theorem dd_X12_chip_42 : decode mb_X12_chip 42 = .ok (.getfield 26, 3) := by decide +kernel
theorem dd_X12_chip_45 : decode mb_X12_chip 45 = .ok (.iload_n 1, 1) := by decide +kernel
theorem dd_X12_chip_46 : decode mb_X12_chip 46 = .ok (.dup2, 1) := by decide +kernel
theorem dd_X12_chip_47 : decode mb_X12_chip 47 = .ok (.iaload, 1) := by decide +kernel
theorem dd_X12_chip_48 : decode mb_X12_chip 48 = .ok (.iconst 1, 1) := by decide +kernel
theorem dd_X12_chip_49 : decode mb_X12_chip 49 = .ok (.iload_n 2, 1) := by decide +kernel
theorem dd_X12_chip_50 : decode mb_X12_chip 50 = .ok (.ishl, 1) := by decide +kernel
theorem dd_X12_chip_51 : decode mb_X12_chip 51 = .ok (.ior, 1) := by decide +kernel
theorem dd_X12_chip_52 : decode mb_X12_chip 52 = .ok (.iastore, 1) := by decide +kernel
theorem dd_X12_chip_53 : decode mb_X12_chip 53 = .ok (.iconst 1, 1) := by decide +kernel
theorem dd_X12_chip_54 : decode mb_X12_chip 54 = .ok (.ireturn, 1) := by decide +kernel
theorem dd_X12_chipsOf_0 : decode mb_X12_chipsOf 0 = .ok (.iconst 0, 1) := by decide +kernel
theorem dd_X12_chipsOf_1 : decode mb_X12_chipsOf 1 = .ok (.istore_n 2, 1) := by decide +kernel
theorem dd_X12_chipsOf_2 : decode mb_X12_chipsOf 2 = .ok (.iconst 0, 1) := by decide +kernel
theorem dd_X12_chipsOf_3 : decode mb_X12_chipsOf 3 = .ok (.istore_n 3, 1) := by decide +kernel
theorem dd_X12_chipsOf_4 : decode mb_X12_chipsOf 4 = .ok (.iload_n 3, 1) := by decide +kernel
theorem dd_X12_chipsOf_5 : decode mb_X12_chipsOf 5 = .ok (.bipush 8, 2) := by decide +kernel
theorem dd_X12_chipsOf_7 : decode mb_X12_chipsOf 7 = .ok (.if_icmp .ge 26, 3) := by decide +kernel
theorem dd_X12_chipsOf_10 : decode mb_X12_chipsOf 10 = .ok (.aload_n 0, 1) := by decide +kernel
theorem dd_X12_chipsOf_11 : decode mb_X12_chipsOf 11 = .ok (.aload_n 0, 1) := by decide +kernel
theorem dd_X12_chipsOf_12 : decode mb_X12_chipsOf 12 = .ok (.getfield 26, 3) := by decide +kernel
theorem dd_X12_chipsOf_15 : decode mb_X12_chipsOf 15 = .ok (.iload_n 1, 1) := by decide +kernel
theorem dd_X12_chipsOf_16 : decode mb_X12_chipsOf 16 = .ok (.iaload, 1) := by decide +kernel
theorem dd_X12_chipsOf_17 : decode mb_X12_chipsOf 17 = .ok (.iload_n 3, 1) := by decide +kernel
theorem dd_X12_chipsOf_18 : decode mb_X12_chipsOf 18 = .ok (.invokevirtual 181, 3) := by decide +kernel
theorem dd_X12_chipsOf_21 : decode mb_X12_chipsOf 21 = .ok (.ifCond .eq 6, 3) := by decide +kernel
theorem dd_X12_chipsOf_24 : decode mb_X12_chipsOf 24 = .ok (.iinc 2 1, 3) := by decide +kernel
theorem dd_X12_chipsOf_27 : decode mb_X12_chipsOf 27 = .ok (.iinc 3 1, 3) := by decide +kernel
theorem dd_X12_chipsOf_30 : decode mb_X12_chipsOf 30 = .ok (.goto (-26), 3) := by decide +kernel
theorem dd_X12_chipsOf_33 : decode mb_X12_chipsOf 33 = .ok (.iload_n 2, 1) := by decide +kernel
theorem dd_X12_chipsOf_34 : decode mb_X12_chipsOf 34 = .ok (.ireturn, 1) := by decide +kernel
theorem dd_X12_choice_0 : decode mb_X12_choice 0 = .ok (.iload_n 2, 1) := by decide +kernel
theorem dd_X12_choice_1 : decode mb_X12_choice 1 = .ok (.aload_n 0, 1) := by decide +kernel
theorem dd_X12_choice_2 : decode mb_X12_choice 2 = .ok (.getfield 53, 3) := by decide +kernel
theorem dd_X12_choice_5 : decode mb_X12_choice 5 = .ok (.iload_n 1, 1) := by decide +kernel
theorem dd_X12_choice_6 : decode mb_X12_choice 6 = .ok (.iaload, 1) := by decide +kernel
theorem dd_X12_choice_7 : decode mb_X12_choice 7 = .ok (.if_icmp .ge 5, 3) := by decide +kernel
theorem dd_X12_choice_10 : decode mb_X12_choice 10 = .ok (.iconst (-1), 1) := by decide +kernel
theorem dd_X12_choice_11 : decode mb_X12_choice 11 = .ok (.ireturn, 1) := by decide +kernel
theorem dd_X12_choice_12 : decode mb_X12_choice 12 = .ok (.iconst (-1), 1) := by decide +kernel
theorem dd_X12_choice_13 : decode mb_X12_choice 13 = .ok (.istore 5, 2) := by decide +kernel
theorem dd_X12_choice_15 : decode mb_X12_choice 15 = .ok (.iconst (-1), 1) := by decide +kernel
theorem dd_X12_choice_16 : decode mb_X12_choice 16 = .ok (.istore 6, 2) := by decide +kernel
theorem dd_X12_choice_18 : decode mb_X12_choice 18 = .ok (.iconst 0, 1) := by decide +kernel
theorem dd_X12_choice_19 : decode mb_X12_choice 19 = .ok (.istore 7, 2) := by decide +kernel
theorem dd_X12_choice_21 : decode mb_X12_choice 21 = .ok (.iload 7, 2) := by decide +kernel
theorem dd_X12_choice_23 : decode mb_X12_choice 23 = .ok (.aload_n 0, 1) := by decide +kernel
theorem dd_X12_choice_24 : decode mb_X12_choice 24 = .ok (.getfield 135, 3) := by decide +kernel
theorem dd_X12_choice_27 : decode mb_X12_choice 27 = .ok (.if_icmp .ge 114, 3) := by decide +kernel
theorem dd_X12_choice_30 : decode mb_X12_choice 30 = .ok (.aload_n 0, 1) := by decide +kernel
theorem dd_X12_choice_31 : decode mb_X12_choice 31 = .ok (.getfield 104, 3) := by decide +kernel
theorem dd_X12_choice_34 : decode mb_X12_choice 34 = .ok (.iload 7, 2) := by decide +kernel
theorem dd_X12_choice_36 : decode mb_X12_choice 36 = .ok (.baload, 1) := by decide +kernel
theorem dd_X12_choice_37 : decode mb_X12_choice 37 = .ok (.ifCond .ne 98, 3) := by decide +kernel
theorem dd_X12_choice_40 : decode mb_X12_choice 40 = .ok (.aload_n 0, 1) := by decide +kernel
theorem dd_X12_choice_41 : decode mb_X12_choice 41 = .ok (.getfield 29, 3) := by decide +kernel
theorem dd_X12_choice_44 : decode mb_X12_choice 44 = .ok (.iload 7, 2) := by decide +kernel
theorem dd_X12_choice_46 : decode mb_X12_choice 46 = .ok (.iaload, 1) := by decide +kernel
theorem dd_X12_choice_47 : decode mb_X12_choice 47 = .ok (.ifCond .lt 88, 3) := by decide +kernel
theorem dd_X12_choice_50 : decode mb_X12_choice 50 = .ok (.aload_n 0, 1) := by decide +kernel
theorem dd_X12_choice_51 : decode mb_X12_choice 51 = .ok (.aload_n 0, 1) := by decide +kernel
theorem dd_X12_choice_52 : decode mb_X12_choice 52 = .ok (.getfield 59, 3) := by decide +kernel
theorem dd_X12_choice_55 : decode mb_X12_choice 55 = .ok (.iload_n 1, 1) := by decide +kernel
theorem dd_X12_choice_56 : decode mb_X12_choice 56 = .ok (.iaload, 1) := by decide +kernel
theorem dd_X12_choice_57 : decode mb_X12_choice 57 = .ok (.aload_n 0, 1) := by decide +kernel
theorem dd_X12_choice_58 : decode mb_X12_choice 58 = .ok (.getfield 20, 3) := by decide +kernel
theorem dd_X12_choice_61 : decode mb_X12_choice 61 = .ok (.iload 7, 2) := by decide +kernel
theorem dd_X12_choice_63 : decode mb_X12_choice 63 = .ok (.iaload, 1) := by decide +kernel
theorem dd_X12_choice_64 : decode mb_X12_choice 64 = .ok (.invokevirtual 181, 3) := by decide +kernel
theorem dd_X12_choice_67 : decode mb_X12_choice 67 = .ok (.ifCond .ne 6, 3) := by decide +kernel
theorem dd_X12_choice_70 : decode mb_X12_choice 70 = .ok (.goto 65, 3) := by decide +kernel
theorem dd_X12_choice_73 : decode mb_X12_choice 73 = .ok (.aload_n 0, 1) := by decide +kernel
theorem dd_X12_choice_74 : decode mb_X12_choice 74 = .ok (.iload 7, 2) := by decide +kernel
theorem dd_X12_choice_76 : decode mb_X12_choice 76 = .ok (.iload_n 2, 1) := by decide +kernel
theorem dd_X12_choice_77 : decode mb_X12_choice 77 = .ok (.iload_n 3, 1) := by decide +kernel
theorem dd_X12_choice_78 : decode mb_X12_choice 78 = .ok (.iload 4, 2) := by decide +kernel
theorem dd_X12_choice_80 : decode mb_X12_choice 80 = .ok (.invokevirtual 254, 3) := by decide +kernel
theorem dd_X12_choice_83 : decode mb_X12_choice 83 = .ok (.istore 8, 2) := by decide +kernel
theorem dd_X12_choice_85 : decode mb_X12_choice 85 = .ok (.iload 8, 2) := by decide +kernel
theorem dd_X12_choice_87 : decode mb_X12_choice 87 = .ok (.aload_n 0, 1) := by decide +kernel
theorem dd_X12_choice_88 : decode mb_X12_choice 88 = .ok (.getfield 108, 3) := by decide +kernel
theorem dd_X12_choice_91 : decode mb_X12_choice 91 = .ok (.iload_n 1, 1) := by decide +kernel
theorem dd_X12_choice_92 : decode mb_X12_choice 92 = .ok (.iaload, 1) := by decide +kernel
theorem dd_X12_choice_93 : decode mb_X12_choice 93 = .ok (.if_icmp .le 6, 3) := by decide +kernel
theorem dd_X12_choice_96 : decode mb_X12_choice 96 = .ok (.goto 39, 3) := by decide +kernel
theorem dd_X12_choice_99 : decode mb_X12_choice 99 = .ok (.aload_n 0, 1) := by decide +kernel
theorem dd_X12_choice_100 : decode mb_X12_choice 100 = .ok (.getfield 62, 3) := by decide +kernel
theorem dd_X12_choice_103 : decode mb_X12_choice 103 = .ok (.iload_n 1, 1) := by decide +kernel
theorem dd_X12_choice_104 : decode mb_X12_choice 104 = .ok (.iaload, 1) := by decide +kernel
theorem dd_X12_choice_105 : decode mb_X12_choice 105 = .ok (.aload_n 0, 1) := by decide +kernel
theorem dd_X12_choice_106 : decode mb_X12_choice 106 = .ok (.iload 7, 2) := by decide +kernel
theorem dd_X12_choice_108 : decode mb_X12_choice 108 = .ok (.invokevirtual 175, 3) := by decide +kernel
theorem dd_X12_choice_111 : decode mb_X12_choice 111 = .ok (.imul, 1) := by decide +kernel
theorem dd_X12_choice_112 : decode mb_X12_choice 112 = .ok (.bipush 100, 2) := by decide +kernel
theorem dd_X12_choice_114 : decode mb_X12_choice 114 = .ok (.idiv, 1) := by decide +kernel
theorem dd_X12_choice_115 : decode mb_X12_choice 115 = .ok (.iload 8, 2) := by decide +kernel
theorem dd_X12_choice_117 : decode mb_X12_choice 117 = .ok (.isub, 1) := by decide +kernel
theorem dd_X12_choice_118 : decode mb_X12_choice 118 = .ok (.istore 9, 2) := by decide +kernel
theorem dd_X12_choice_120 : decode mb_X12_choice 120 = .ok (.iload 9, 2) := by decide +kernel
theorem dd_X12_choice_122 : decode mb_X12_choice 122 = .ok (.iload 6, 2) := by decide +kernel
theorem dd_X12_choice_124 : decode mb_X12_choice 124 = .ok (.if_icmp .le 11, 3) := by decide +kernel
theorem dd_X12_choice_127 : decode mb_X12_choice 127 = .ok (.iload 9, 2) := by decide +kernel
theorem dd_X12_choice_129 : decode mb_X12_choice 129 = .ok (.istore 6, 2) := by decide +kernel
theorem dd_X12_choice_131 : decode mb_X12_choice 131 = .ok (.iload 7, 2) := by decide +kernel
theorem dd_X12_choice_133 : decode mb_X12_choice 133 = .ok (.istore 5, 2) := by decide +kernel
theorem dd_X12_choice_135 : decode mb_X12_choice 135 = .ok (.iinc 7 1, 3) := by decide +kernel
theorem dd_X12_choice_138 : decode mb_X12_choice 138 = .ok (.goto (-117), 3) := by decide +kernel
theorem dd_X12_choice_141 : decode mb_X12_choice 141 = .ok (.iload 5, 2) := by decide +kernel
theorem dd_X12_choice_143 : decode mb_X12_choice 143 = .ok (.ireturn, 1) := by decide +kernel
theorem dd_X12_copy_0 : decode mb_X12_copy 0 = .ok (.aload_n 0, 1) := by decide +kernel
theorem dd_X12_copy_1 : decode mb_X12_copy 1 = .ok (.iload_n 1, 1) := by decide +kernel
theorem dd_X12_copy_2 : decode mb_X12_copy 2 = .ok (.invokevirtual 148, 3) := by decide +kernel
theorem dd_X12_copy_5 : decode mb_X12_copy 5 = .ok (.ifCond .eq 11, 3) := by decide +kernel
theorem dd_X12_copy_8 : decode mb_X12_copy 8 = .ok (.aload_n 0, 1) := by decide +kernel
theorem dd_X12_copy_9 : decode mb_X12_copy 9 = .ok (.iload_n 2, 1) := by decide +kernel
theorem dd_X12_copy_10 : decode mb_X12_copy 10 = .ok (.invokevirtual 148, 3) := by decide +kernel
theorem dd_X12_copy_13 : decode mb_X12_copy 13 = .ok (.ifCond .ne 10, 3) := by decide +kernel
theorem dd_X12_copy_16 : decode mb_X12_copy 16 = .ok (.aload_n 0, 1) := by decide +kernel
theorem dd_X12_copy_17 : decode mb_X12_copy 17 = .ok (.bipush (-2), 2) := by decide +kernel
theorem dd_X12_copy_19 : decode mb_X12_copy 19 = .ok (.invokevirtual 152, 3) := by decide +kernel
theorem dd_X12_copy_22 : decode mb_X12_copy 22 = .ok (.ireturn, 1) := by decide +kernel
theorem dd_X12_copy_23 : decode mb_X12_copy 23 = .ok (.aload_n 0, 1) := by decide +kernel
theorem dd_X12_copy_24 : decode mb_X12_copy 24 = .ok (.iload_n 1, 1) := by decide +kernel
theorem dd_X12_copy_25 : decode mb_X12_copy 25 = .ok (.invokevirtual 156, 3) := by decide +kernel
theorem dd_X12_copy_28 : decode mb_X12_copy 28 = .ok (.ifCond .ne 42, 3) := by decide +kernel
theorem dd_X12_copy_31 : decode mb_X12_copy 31 = .ok (.aload_n 0, 1) := by decide +kernel
theorem dd_X12_copy_32 : decode mb_X12_copy 32 = .ok (.iload_n 2, 1) := by decide +kernel
theorem dd_X12_copy_33 : decode mb_X12_copy 33 = .ok (.invokevirtual 156, 3) := by decide +kernel
theorem dd_X12_copy_36 : decode mb_X12_copy 36 = .ok (.ifCond .ne 34, 3) := by decide +kernel
theorem dd_X12_copy_39 : decode mb_X12_copy 39 = .ok (.aload_n 0, 1) := by decide +kernel
theorem dd_X12_copy_40 : decode mb_X12_copy 40 = .ok (.iload_n 1, 1) := by decide +kernel
theorem dd_X12_copy_41 : decode mb_X12_copy 41 = .ok (.invokevirtual 162, 3) := by decide +kernel
theorem dd_X12_copy_44 : decode mb_X12_copy 44 = .ok (.ifCond .eq 33, 3) := by decide +kernel
theorem dd_X12_copy_47 : decode mb_X12_copy 47 = .ok (.aload_n 0, 1) := by decide +kernel
theorem dd_X12_copy_48 : decode mb_X12_copy 48 = .ok (.iload_n 2, 1) := by decide +kernel
theorem dd_X12_copy_49 : decode mb_X12_copy 49 = .ok (.invokevirtual 162, 3) := by decide +kernel
theorem dd_X12_copy_52 : decode mb_X12_copy 52 = .ok (.ifCond .eq 25, 3) := by decide +kernel
theorem dd_X12_copy_55 : decode mb_X12_copy 55 = .ok (.aload_n 0, 1) := by decide +kernel
theorem dd_X12_copy_56 : decode mb_X12_copy 56 = .ok (.getfield 7, 3) := by decide +kernel
theorem dd_X12_copy_59 : decode mb_X12_copy 59 = .ok (.iload_n 1, 1) := by decide +kernel
theorem dd_X12_copy_60 : decode mb_X12_copy 60 = .ok (.iaload, 1) := by decide +kernel
theorem dd_X12_copy_61 : decode mb_X12_copy 61 = .ok (.aload_n 0, 1) := by decide +kernel
theorem dd_X12_copy_62 : decode mb_X12_copy 62 = .ok (.getfield 7, 3) := by decide +kernel
theorem dd_X12_copy_65 : decode mb_X12_copy 65 = .ok (.iload_n 2, 1) := by decide +kernel
theorem dd_X12_copy_66 : decode mb_X12_copy 66 = .ok (.iaload, 1) := by decide +kernel
theorem dd_X12_copy_67 : decode mb_X12_copy 67 = .ok (.if_icmp .eq 10, 3) := by decide +kernel
theorem dd_X12_copy_70 : decode mb_X12_copy 70 = .ok (.aload_n 0, 1) := by decide +kernel
theorem dd_X12_copy_71 : decode mb_X12_copy 71 = .ok (.bipush (-3), 2) := by decide +kernel
theorem dd_X12_copy_73 : decode mb_X12_copy 73 = .ok (.invokevirtual 152, 3) := by decide +kernel
theorem dd_X12_copy_76 : decode mb_X12_copy 76 = .ok (.ireturn, 1) := by decide +kernel
theorem dd_X12_copy_77 : decode mb_X12_copy 77 = .ok (.aload_n 0, 1) := by decide +kernel
theorem dd_X12_copy_78 : decode mb_X12_copy 78 = .ok (.getfield 7, 3) := by decide +kernel
theorem dd_X12_copy_81 : decode mb_X12_copy 81 = .ok (.iload_n 1, 1) := by decide +kernel
theorem dd_X12_copy_82 : decode mb_X12_copy 82 = .ok (.iaload, 1) := by decide +kernel
theorem dd_X12_copy_83 : decode mb_X12_copy 83 = .ok (.ifCond .lt 12, 3) := by decide +kernel
theorem dd_X12_copy_86 : decode mb_X12_copy 86 = .ok (.aload_n 0, 1) := by decide +kernel
theorem dd_X12_copy_87 : decode mb_X12_copy 87 = .ok (.getfield 7, 3) := by decide +kernel
theorem dd_X12_copy_90 : decode mb_X12_copy 90 = .ok (.iload_n 2, 1) := by decide +kernel
theorem dd_X12_copy_91 : decode mb_X12_copy 91 = .ok (.iaload, 1) := by decide +kernel
theorem dd_X12_copy_92 : decode mb_X12_copy 92 = .ok (.ifCond .ge 10, 3) := by decide +kernel
theorem dd_X12_copy_95 : decode mb_X12_copy 95 = .ok (.aload_n 0, 1) := by decide +kernel
theorem dd_X12_copy_96 : decode mb_X12_copy 96 = .ok (.bipush (-4), 2) := by decide +kernel
theorem dd_X12_copy_98 : decode mb_X12_copy 98 = .ok (.invokevirtual 152, 3) := by decide +kernel
theorem dd_X12_copy_101 : decode mb_X12_copy 101 = .ok (.ireturn, 1) := by decide +kernel
theorem dd_X12_copy_102 : decode mb_X12_copy 102 = .ok (.iload 5, 2) := by decide +kernel
theorem dd_X12_copy_104 : decode mb_X12_copy 104 = .ok (.ifCond .lt 47, 3) := by decide +kernel
theorem dd_X12_copy_107 : decode mb_X12_copy 107 = .ok (.iload_n 3, 1) := by decide +kernel
theorem dd_X12_copy_108 : decode mb_X12_copy 108 = .ok (.ifCond .lt 43, 3) := by decide +kernel
theorem dd_X12_copy_111 : decode mb_X12_copy 111 = .ok (.iload 4, 2) := by decide +kernel
theorem dd_X12_copy_113 : decode mb_X12_copy 113 = .ok (.ifCond .lt 38, 3) := by decide +kernel
theorem dd_X12_copy_116 : decode mb_X12_copy 116 = .ok (.iload_n 3, 1) := by decide +kernel
theorem dd_X12_copy_117 : decode mb_X12_copy 117 = .ok (.i2l, 1) := by decide +kernel
theorem dd_X12_copy_118 : decode mb_X12_copy 118 = .ok (.iload 5, 2) := by decide +kernel
theorem dd_X12_copy_120 : decode mb_X12_copy 120 = .ok (.i2l, 1) := by decide +kernel
theorem dd_X12_copy_121 : decode mb_X12_copy 121 = .ok (.ladd, 1) := by decide +kernel
theorem dd_X12_copy_122 : decode mb_X12_copy 122 = .ok (.aload_n 0, 1) := by decide +kernel
theorem dd_X12_copy_123 : decode mb_X12_copy 123 = .ok (.getfield 13, 3) := by decide +kernel
theorem dd_X12_copy_126 : decode mb_X12_copy 126 = .ok (.iload_n 1, 1) := by decide +kernel
theorem dd_X12_copy_127 : decode mb_X12_copy 127 = .ok (.iaload, 1) := by decide +kernel
theorem dd_X12_copy_128 : decode mb_X12_copy 128 = .ok (.i2l, 1) := by decide +kernel
theorem dd_X12_copy_129 : decode mb_X12_copy 129 = .ok (.lcmp, 1) := by decide +kernel
