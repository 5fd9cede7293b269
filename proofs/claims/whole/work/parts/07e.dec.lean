theorem dd_X1_planTables_83 : decode mb_X1_planTables 83 = .ok (.istore_n 3, 1) := by decide +kernel
theorem dd_X1_planTables_84 : decode mb_X1_planTables 84 = .ok (.aload_n 0, 1) := by decide +kernel
theorem dd_X1_planTables_85 : decode mb_X1_planTables 85 = .ok (.getfield 76, 3) := by decide +kernel
theorem dd_X1_planTables_88 : decode mb_X1_planTables 88 = .ok (.iload_n 1, 1) := by decide +kernel
theorem dd_X1_planTables_89 : decode mb_X1_planTables 89 = .ok (.iload_n 3, 1) := by decide +kernel
theorem dd_X1_planTables_90 : decode mb_X1_planTables 90 = .ok (.iconst (-1), 1) := by decide +kernel
theorem dd_X1_planTables_91 : decode mb_X1_planTables 91 = .ok (.if_icmp .ne 7, 3) := by decide +kernel
theorem dd_X1_planTables_94 : decode mb_X1_planTables 94 = .ok (.iconst 0, 1) := by decide +kernel
theorem dd_X1_planTables_95 : decode mb_X1_planTables 95 = .ok (.goto 10, 3) := by decide +kernel
theorem dd_X1_planTables_98 : decode mb_X1_planTables 98 = .ok (.aload_n 0, 1) := by decide +kernel
theorem dd_X1_planTables_99 : decode mb_X1_planTables 99 = .ok (.iload_n 1, 1) := by decide +kernel
theorem dd_X1_planTables_100 : decode mb_X1_planTables 100 = .ok (.iload_n 2, 1) := by decide +kernel
theorem dd_X1_planTables_101 : decode mb_X1_planTables 101 = .ok (.iload_n 3, 1) := by decide +kernel
theorem dd_X1_planTables_102 : decode mb_X1_planTables 102 = .ok (.invokevirtual 142, 3) := by decide +kernel
theorem dd_X1_planTables_105 : decode mb_X1_planTables 105 = .ok (.iastore, 1) := by decide +kernel
theorem dd_X1_planTables_106 : decode mb_X1_planTables 106 = .ok (.iinc 1 (-1), 3) := by decide +kernel
theorem dd_X1_planTables_109 : decode mb_X1_planTables 109 = .ok (.goto (-41), 3) := by decide +kernel
theorem dd_X1_planTables_112 : decode mb_X1_planTables 112 = .ok (.return_, 1) := by decide +kernel
theorem dd_X1_priceAll_0 : decode mb_X1_priceAll 0 = .ok (.iconst 0, 1) := by decide +kernel
theorem dd_X1_priceAll_1 : decode mb_X1_priceAll 1 = .ok (.istore_n 3, 1) := by decide +kernel
theorem dd_X1_priceAll_2 : decode mb_X1_priceAll 2 = .ok (.iconst 0, 1) := by decide +kernel
theorem dd_X1_priceAll_3 : decode mb_X1_priceAll 3 = .ok (.istore 4, 2) := by decide +kernel
theorem dd_X1_priceAll_5 : decode mb_X1_priceAll 5 = .ok (.iload 4, 2) := by decide +kernel
theorem dd_X1_priceAll_7 : decode mb_X1_priceAll 7 = .ok (.aload_n 0, 1) := by decide +kernel
theorem dd_X1_priceAll_8 : decode mb_X1_priceAll 8 = .ok (.getfield 12, 3) := by decide +kernel
theorem dd_X1_priceAll_11 : decode mb_X1_priceAll 11 = .ok (.getfield 115, 3) := by decide +kernel
theorem dd_X1_priceAll_14 : decode mb_X1_priceAll 14 = .ok (.if_icmp .ge 56, 3) := by decide +kernel
theorem dd_X1_priceAll_17 : decode mb_X1_priceAll 17 = .ok (.aload_n 0, 1) := by decide +kernel
theorem dd_X1_priceAll_18 : decode mb_X1_priceAll 18 = .ok (.getfield 12, 3) := by decide +kernel
theorem dd_X1_priceAll_21 : decode mb_X1_priceAll 21 = .ok (.getfield 124, 3) := by decide +kernel
theorem dd_X1_priceAll_24 : decode mb_X1_priceAll 24 = .ok (.iload 4, 2) := by decide +kernel
theorem dd_X1_priceAll_26 : decode mb_X1_priceAll 26 = .ok (.iaload, 1) := by decide +kernel
theorem dd_X1_priceAll_27 : decode mb_X1_priceAll 27 = .ok (.iconst (-1), 1) := by decide +kernel
theorem dd_X1_priceAll_28 : decode mb_X1_priceAll 28 = .ok (.if_icmp .ne 36, 3) := by decide +kernel
theorem dd_X1_priceAll_31 : decode mb_X1_priceAll 31 = .ok (.aload_n 0, 1) := by decide +kernel
theorem dd_X1_priceAll_32 : decode mb_X1_priceAll 32 = .ok (.getfield 12, 3) := by decide +kernel
theorem dd_X1_priceAll_35 : decode mb_X1_priceAll 35 = .ok (.iload 4, 2) := by decide +kernel
theorem dd_X1_priceAll_37 : decode mb_X1_priceAll 37 = .ok (.iload_n 2, 1) := by decide +kernel
theorem dd_X1_priceAll_38 : decode mb_X1_priceAll 38 = .ok (.invokevirtual 118, 3) := by decide +kernel
theorem dd_X1_priceAll_41 : decode mb_X1_priceAll 41 = .ok (.ifCond .eq 23, 3) := by decide +kernel
theorem dd_X1_priceAll_44 : decode mb_X1_priceAll 44 = .ok (.aload_n 0, 1) := by decide +kernel
theorem dd_X1_priceAll_45 : decode mb_X1_priceAll 45 = .ok (.getfield 12, 3) := by decide +kernel
theorem dd_X1_priceAll_48 : decode mb_X1_priceAll 48 = .ok (.getfield 124, 3) := by decide +kernel
theorem dd_X1_priceAll_51 : decode mb_X1_priceAll 51 = .ok (.iload 4, 2) := by decide +kernel
theorem dd_X1_priceAll_53 : decode mb_X1_priceAll 53 = .ok (.aload_n 0, 1) := by decide +kernel
theorem dd_X1_priceAll_54 : decode mb_X1_priceAll 54 = .ok (.iload_n 1, 1) := by decide +kernel
theorem dd_X1_priceAll_55 : decode mb_X1_priceAll 55 = .ok (.iload 4, 2) := by decide +kernel
theorem dd_X1_priceAll_57 : decode mb_X1_priceAll 57 = .ok (.invokevirtual 127, 3) := by decide +kernel
theorem dd_X1_priceAll_60 : decode mb_X1_priceAll 60 = .ok (.iastore, 1) := by decide +kernel
theorem dd_X1_priceAll_61 : decode mb_X1_priceAll 61 = .ok (.iinc 3 1, 3) := by decide +kernel
theorem dd_X1_priceAll_64 : decode mb_X1_priceAll 64 = .ok (.iinc 4 1, 3) := by decide +kernel
theorem dd_X1_priceAll_67 : decode mb_X1_priceAll 67 = .ok (.goto (-62), 3) := by decide +kernel
theorem dd_X1_priceAll_70 : decode mb_X1_priceAll 70 = .ok (.iload_n 3, 1) := by decide +kernel
theorem dd_X1_priceAll_71 : decode mb_X1_priceAll 71 = .ok (.ireturn, 1) := by decide +kernel
theorem dd_X1_priceBy_0 : decode mb_X1_priceBy 0 = .ok (.aload_n 0, 1) := by decide +kernel
theorem dd_X1_priceBy_1 : decode mb_X1_priceBy 1 = .ok (.iload_n 1, 1) := by decide +kernel
theorem dd_X1_priceBy_2 : decode mb_X1_priceBy 2 = .ok (.iload_n 2, 1) := by decide +kernel
theorem dd_X1_priceBy_3 : decode mb_X1_priceBy 3 = .ok (.aload_n 0, 1) := by decide +kernel
theorem dd_X1_priceBy_4 : decode mb_X1_priceBy 4 = .ok (.getfield 12, 3) := by decide +kernel
theorem dd_X1_priceBy_7 : decode mb_X1_priceBy 7 = .ok (.iload_n 2, 1) := by decide +kernel
theorem dd_X1_priceBy_8 : decode mb_X1_priceBy 8 = .ok (.invokevirtual 79, 3) := by decide +kernel
theorem dd_X1_priceBy_11 : decode mb_X1_priceBy 11 = .ok (.invokevirtual 83, 3) := by decide +kernel
theorem dd_X1_priceBy_14 : decode mb_X1_priceBy 14 = .ok (.ireturn, 1) := by decide +kernel
theorem dd_X1_priceOf_0 : decode mb_X1_priceOf 0 = .ok (.aload_n 0, 1) := by decide +kernel
theorem dd_X1_priceOf_1 : decode mb_X1_priceOf 1 = .ok (.getfield 21, 3) := by decide +kernel
theorem dd_X1_priceOf_4 : decode mb_X1_priceOf 4 = .ok (.getfield 87, 3) := by decide +kernel
theorem dd_X1_priceOf_7 : decode mb_X1_priceOf 7 = .ok (.iload_n 1, 1) := by decide +kernel
theorem dd_X1_priceOf_8 : decode mb_X1_priceOf 8 = .ok (.iaload, 1) := by decide +kernel
theorem dd_X1_priceOf_9 : decode mb_X1_priceOf 9 = .ok (.istore 4, 2) := by decide +kernel
theorem dd_X1_priceOf_11 : decode mb_X1_priceOf 11 = .ok (.aload_n 0, 1) := by decide +kernel
theorem dd_X1_priceOf_12 : decode mb_X1_priceOf 12 = .ok (.getfield 21, 3) := by decide +kernel
theorem dd_X1_priceOf_15 : decode mb_X1_priceOf 15 = .ok (.getfield 90, 3) := by decide +kernel
theorem dd_X1_priceOf_18 : decode mb_X1_priceOf 18 = .ok (.iload_n 1, 1) := by decide +kernel
theorem dd_X1_priceOf_19 : decode mb_X1_priceOf 19 = .ok (.iaload, 1) := by decide +kernel
theorem dd_X1_priceOf_20 : decode mb_X1_priceOf 20 = .ok (.aload_n 0, 1) := by decide +kernel
theorem dd_X1_priceOf_21 : decode mb_X1_priceOf 21 = .ok (.getfield 12, 3) := by decide +kernel
theorem dd_X1_priceOf_24 : decode mb_X1_priceOf 24 = .ok (.getfield 93, 3) := by decide +kernel
theorem dd_X1_priceOf_27 : decode mb_X1_priceOf 27 = .ok (.iload_n 2, 1) := by decide +kernel
theorem dd_X1_priceOf_28 : decode mb_X1_priceOf 28 = .ok (.iaload, 1) := by decide +kernel
theorem dd_X1_priceOf_29 : decode mb_X1_priceOf 29 = .ok (.invokestatic 96, 3) := by decide +kernel
theorem dd_X1_priceOf_32 : decode mb_X1_priceOf 32 = .ok (.ifCond .eq 21, 3) := by decide +kernel
theorem dd_X1_priceOf_35 : decode mb_X1_priceOf 35 = .ok (.aload_n 0, 1) := by decide +kernel
theorem dd_X1_priceOf_36 : decode mb_X1_priceOf 36 = .ok (.getfield 28, 3) := by decide +kernel
theorem dd_X1_priceOf_39 : decode mb_X1_priceOf 39 = .ok (.iload 4, 2) := by decide +kernel
theorem dd_X1_priceOf_41 : decode mb_X1_priceOf 41 = .ok (.iconst 0, 1) := by decide +kernel
theorem dd_X1_priceOf_42 : decode mb_X1_priceOf 42 = .ok (.invokevirtual 100, 3) := by decide +kernel
theorem dd_X1_priceOf_45 : decode mb_X1_priceOf 45 = .ok (.iload_n 3, 1) := by decide +kernel
theorem dd_X1_priceOf_46 : decode mb_X1_priceOf 46 = .ok (.imul, 1) := by decide +kernel
theorem dd_X1_priceOf_47 : decode mb_X1_priceOf 47 = .ok (.bipush 100, 2) := by decide +kernel
theorem dd_X1_priceOf_49 : decode mb_X1_priceOf 49 = .ok (.idiv, 1) := by decide +kernel
theorem dd_X1_priceOf_50 : decode mb_X1_priceOf 50 = .ok (.goto 26, 3) := by decide +kernel
theorem dd_X1_priceOf_53 : decode mb_X1_priceOf 53 = .ok (.aload_n 0, 1) := by decide +kernel
theorem dd_X1_priceOf_54 : decode mb_X1_priceOf 54 = .ok (.getfield 28, 3) := by decide +kernel
theorem dd_X1_priceOf_57 : decode mb_X1_priceOf 57 = .ok (.iload 4, 2) := by decide +kernel
theorem dd_X1_priceOf_59 : decode mb_X1_priceOf 59 = .ok (.iconst 1, 1) := by decide +kernel
theorem dd_X1_priceOf_60 : decode mb_X1_priceOf 60 = .ok (.invokevirtual 100, 3) := by decide +kernel
theorem dd_X1_priceOf_63 : decode mb_X1_priceOf 63 = .ok (.aload_n 0, 1) := by decide +kernel
theorem dd_X1_priceOf_64 : decode mb_X1_priceOf 64 = .ok (.getfield 21, 3) := by decide +kernel
theorem dd_X1_priceOf_67 : decode mb_X1_priceOf 67 = .ok (.getfield 104, 3) := by decide +kernel
theorem dd_X1_priceOf_70 : decode mb_X1_priceOf 70 = .ok (.iload_n 1, 1) := by decide +kernel
theorem dd_X1_priceOf_71 : decode mb_X1_priceOf 71 = .ok (.iaload, 1) := by decide +kernel
theorem dd_X1_priceOf_72 : decode mb_X1_priceOf 72 = .ok (.imul, 1) := by decide +kernel
theorem dd_X1_priceOf_73 : decode mb_X1_priceOf 73 = .ok (.bipush 100, 2) := by decide +kernel
theorem dd_X1_priceOf_75 : decode mb_X1_priceOf 75 = .ok (.idiv, 1) := by decide +kernel
theorem dd_X1_priceOf_76 : decode mb_X1_priceOf 76 = .ok (.istore 5, 2) := by decide +kernel
theorem dd_X1_priceOf_78 : decode mb_X1_priceOf 78 = .ok (.aload_n 0, 1) := by decide +kernel
theorem dd_X1_priceOf_79 : decode mb_X1_priceOf 79 = .ok (.getfield 28, 3) := by decide +kernel
theorem dd_X1_priceOf_82 : decode mb_X1_priceOf 82 = .ok (.iload 4, 2) := by decide +kernel
theorem dd_X1_priceOf_84 : decode mb_X1_priceOf 84 = .ok (.iconst 2, 1) := by decide +kernel
theorem dd_X1_priceOf_85 : decode mb_X1_priceOf 85 = .ok (.invokevirtual 100, 3) := by decide +kernel
theorem dd_X1_priceOf_88 : decode mb_X1_priceOf 88 = .ok (.istore 6, 2) := by decide +kernel
theorem dd_X1_priceOf_90 : decode mb_X1_priceOf 90 = .ok (.iload 6, 2) := by decide +kernel
theorem dd_X1_priceOf_92 : decode mb_X1_priceOf 92 = .ok (.iconst 1, 1) := by decide +kernel
theorem dd_X1_priceOf_93 : decode mb_X1_priceOf 93 = .ok (.if_icmp .le 13, 3) := by decide +kernel
theorem dd_X1_priceOf_96 : decode mb_X1_priceOf 96 = .ok (.iload 5, 2) := by decide +kernel
theorem dd_X1_priceOf_98 : decode mb_X1_priceOf 98 = .ok (.iload 5, 2) := by decide +kernel
theorem dd_X1_priceOf_100 : decode mb_X1_priceOf 100 = .ok (.iload 6, 2) := by decide +kernel
theorem dd_X1_priceOf_102 : decode mb_X1_priceOf 102 = .ok (.irem, 1) := by decide +kernel
theorem dd_X1_priceOf_103 : decode mb_X1_priceOf 103 = .ok (.isub, 1) := by decide +kernel
theorem dd_X1_priceOf_104 : decode mb_X1_priceOf 104 = .ok (.istore 5, 2) := by decide +kernel
theorem dd_X1_priceOf_106 : decode mb_X1_priceOf 106 = .ok (.iload 5, 2) := by decide +kernel
theorem dd_X1_priceOf_108 : decode mb_X1_priceOf 108 = .ok (.aload_n 0, 1) := by decide +kernel
theorem dd_X1_priceOf_109 : decode mb_X1_priceOf 109 = .ok (.getfield 28, 3) := by decide +kernel
theorem dd_X1_priceOf_112 : decode mb_X1_priceOf 112 = .ok (.iload 4, 2) := by decide +kernel
theorem dd_X1_priceOf_114 : decode mb_X1_priceOf 114 = .ok (.iconst 3, 1) := by decide +kernel
theorem dd_X1_priceOf_115 : decode mb_X1_priceOf 115 = .ok (.invokevirtual 100, 3) := by decide +kernel
theorem dd_X1_priceOf_118 : decode mb_X1_priceOf 118 = .ok (.invokestatic 107, 3) := by decide +kernel
theorem dd_X1_priceOf_121 : decode mb_X1_priceOf 121 = .ok (.istore 5, 2) := by decide +kernel
theorem dd_X1_priceOf_123 : decode mb_X1_priceOf 123 = .ok (.iload 5, 2) := by decide +kernel
theorem dd_X1_priceOf_125 : decode mb_X1_priceOf 125 = .ok (.aload_n 0, 1) := by decide +kernel
theorem dd_X1_priceOf_126 : decode mb_X1_priceOf 126 = .ok (.getfield 28, 3) := by decide +kernel
theorem dd_X1_priceOf_129 : decode mb_X1_priceOf 129 = .ok (.iload 4, 2) := by decide +kernel
theorem dd_X1_priceOf_131 : decode mb_X1_priceOf 131 = .ok (.iconst 4, 1) := by decide +kernel
theorem dd_X1_priceOf_132 : decode mb_X1_priceOf 132 = .ok (.invokevirtual 100, 3) := by decide +kernel
theorem dd_X1_priceOf_135 : decode mb_X1_priceOf 135 = .ok (.invokestatic 112, 3) := by decide +kernel
theorem dd_X1_priceOf_138 : decode mb_X1_priceOf 138 = .ok (.ireturn, 1) := by decide +kernel
theorem dd_X2_add_0 : decode mb_X2_add 0 = .ok (.aload_n 0, 1) := by decide +kernel
theorem dd_X2_add_1 : decode mb_X2_add 1 = .ok (.getfield 9, 3) := by decide +kernel
theorem dd_X2_add_4 : decode mb_X2_add 4 = .ok (.aload_n 0, 1) := by decide +kernel
theorem dd_X2_add_5 : decode mb_X2_add 5 = .ok (.getfield 21, 3) := by decide +kernel
theorem dd_X2_add_8 : decode mb_X2_add 8 = .ok (.iload_n 1, 1) := by decide +kernel
theorem dd_X2_add_9 : decode mb_X2_add 9 = .ok (.iastore, 1) := by decide +kernel
theorem dd_X2_add_10 : decode mb_X2_add 10 = .ok (.aload_n 0, 1) := by decide +kernel
theorem dd_X2_add_11 : decode mb_X2_add 11 = .ok (.getfield 15, 3) := by decide +kernel
theorem dd_X2_add_14 : decode mb_X2_add 14 = .ok (.aload_n 0, 1) := by decide +kernel
theorem dd_X2_add_15 : decode mb_X2_add 15 = .ok (.getfield 21, 3) := by decide +kernel
theorem dd_X2_add_18 : decode mb_X2_add 18 = .ok (.iload_n 2, 1) := by decide +kernel
theorem dd_X2_add_19 : decode mb_X2_add 19 = .ok (.iastore, 1) := by decide +kernel
theorem dd_X2_add_20 : decode mb_X2_add 20 = .ok (.aload_n 0, 1) := by decide +kernel
theorem dd_X2_add_21 : decode mb_X2_add 21 = .ok (.getfield 18, 3) := by decide +kernel
theorem dd_X2_add_24 : decode mb_X2_add 24 = .ok (.aload_n 0, 1) := by decide +kernel
theorem dd_X2_add_25 : decode mb_X2_add 25 = .ok (.getfield 21, 3) := by decide +kernel
theorem dd_X2_add_28 : decode mb_X2_add 28 = .ok (.iconst (-1), 1) := by decide +kernel
theorem dd_X2_add_29 : decode mb_X2_add 29 = .ok (.iastore, 1) := by decide +kernel
theorem dd_X2_add_30 : decode mb_X2_add 30 = .ok (.aload_n 0, 1) := by decide +kernel
theorem dd_X2_add_31 : decode mb_X2_add 31 = .ok (.dup, 1) := by decide +kernel
theorem dd_X2_add_32 : decode mb_X2_add 32 = .ok (.getfield 21, 3) := by decide +kernel
theorem dd_X2_add_35 : decode mb_X2_add 35 = .ok (.iconst 1, 1) := by decide +kernel
theorem dd_X2_add_36 : decode mb_X2_add 36 = .ok (.iadd, 1) := by decide +kernel
theorem dd_X2_add_37 : decode mb_X2_add 37 = .ok (.putfield 21, 3) := by decide +kernel
theorem dd_X2_add_40 : decode mb_X2_add 40 = .ok (.aload_n 0, 1) := by decide +kernel
theorem dd_X2_add_41 : decode mb_X2_add 41 = .ok (.getfield 21, 3) := by decide +kernel
theorem dd_X2_add_44 : decode mb_X2_add 44 = .ok (.iconst 1, 1) := by decide +kernel
theorem dd_X2_add_45 : decode mb_X2_add 45 = .ok (.isub, 1) := by decide +kernel
theorem dd_X2_add_46 : decode mb_X2_add 46 = .ok (.ireturn, 1) := by decide +kernel
theorem dd_X2_become_0 : decode mb_X2_become 0 = .ok (.aload_n 1, 1) := by decide +kernel
theorem dd_X2_become_1 : decode mb_X2_become 1 = .ok (.getfield 9, 3) := by decide +kernel
theorem dd_X2_become_4 : decode mb_X2_become 4 = .ok (.iconst 0, 1) := by decide +kernel
theorem dd_X2_become_5 : decode mb_X2_become 5 = .ok (.aload_n 0, 1) := by decide +kernel
theorem dd_X2_become_6 : decode mb_X2_become 6 = .ok (.getfield 9, 3) := by decide +kernel
theorem dd_X2_become_9 : decode mb_X2_become 9 = .ok (.iconst 0, 1) := by decide +kernel
theorem dd_X2_become_10 : decode mb_X2_become 10 = .ok (.iconst 5, 1) := by decide +kernel
theorem dd_X2_become_11 : decode mb_X2_become 11 = .ok (.invokestatic 29, 3) := by decide +kernel
theorem dd_X2_become_14 : decode mb_X2_become 14 = .ok (.aload_n 1, 1) := by decide +kernel
theorem dd_X2_become_15 : decode mb_X2_become 15 = .ok (.getfield 15, 3) := by decide +kernel
theorem dd_X2_become_18 : decode mb_X2_become 18 = .ok (.iconst 0, 1) := by decide +kernel
theorem dd_X2_become_19 : decode mb_X2_become 19 = .ok (.aload_n 0, 1) := by decide +kernel
theorem dd_X2_become_20 : decode mb_X2_become 20 = .ok (.getfield 15, 3) := by decide +kernel
theorem dd_X2_become_23 : decode mb_X2_become 23 = .ok (.iconst 0, 1) := by decide +kernel
theorem dd_X2_become_24 : decode mb_X2_become 24 = .ok (.iconst 5, 1) := by decide +kernel
theorem dd_X2_become_25 : decode mb_X2_become 25 = .ok (.invokestatic 29, 3) := by decide +kernel
theorem dd_X2_become_28 : decode mb_X2_become 28 = .ok (.aload_n 1, 1) := by decide +kernel
theorem dd_X2_become_29 : decode mb_X2_become 29 = .ok (.getfield 18, 3) := by decide +kernel
theorem dd_X2_become_32 : decode mb_X2_become 32 = .ok (.iconst 0, 1) := by decide +kernel
theorem dd_X2_become_33 : decode mb_X2_become 33 = .ok (.aload_n 0, 1) := by decide +kernel
theorem dd_X2_become_34 : decode mb_X2_become 34 = .ok (.getfield 18, 3) := by decide +kernel
theorem dd_X2_become_37 : decode mb_X2_become 37 = .ok (.iconst 0, 1) := by decide +kernel
theorem dd_X2_become_38 : decode mb_X2_become 38 = .ok (.iconst 5, 1) := by decide +kernel
theorem dd_X2_become_39 : decode mb_X2_become 39 = .ok (.invokestatic 29, 3) := by decide +kernel
theorem dd_X2_become_42 : decode mb_X2_become 42 = .ok (.aload_n 0, 1) := by decide +kernel
theorem dd_X2_become_43 : decode mb_X2_become 43 = .ok (.aload_n 1, 1) := by decide +kernel
theorem dd_X2_become_44 : decode mb_X2_become 44 = .ok (.getfield 21, 3) := by decide +kernel
theorem dd_X2_become_47 : decode mb_X2_become 47 = .ok (.putfield 21, 3) := by decide +kernel
theorem dd_X2_become_50 : decode mb_X2_become 50 = .ok (.return_, 1) := by decide +kernel
theorem dd_X2_has_0 : decode mb_X2_has 0 = .ok (.iload_n 1, 1) := by decide +kernel
theorem dd_X2_has_1 : decode mb_X2_has 1 = .ok (.iconst 0, 1) := by decide +kernel
theorem dd_X2_has_2 : decode mb_X2_has 2 = .ok (.aload_n 0, 1) := by decide +kernel
theorem dd_X2_has_3 : decode mb_X2_has 3 = .ok (.getfield 21, 3) := by decide +kernel
theorem dd_X2_has_6 : decode mb_X2_has 6 = .ok (.iconst 1, 1) := by decide +kernel
theorem dd_X2_has_7 : decode mb_X2_has 7 = .ok (.isub, 1) := by decide +kernel
theorem dd_X2_has_8 : decode mb_X2_has 8 = .ok (.invokestatic 25, 3) := by decide +kernel
theorem dd_X2_has_11 : decode mb_X2_has 11 = .ok (.ireturn, 1) := by decide +kernel
theorem dd_X2_init_0 : decode mb_X2_init 0 = .ok (.aload_n 0, 1) := by decide +kernel
theorem dd_X2_init_1 : decode mb_X2_init 1 = .ok (.invokespecial 3, 3) := by decide +kernel
theorem dd_X2_init_4 : decode mb_X2_init 4 = .ok (.aload_n 0, 1) := by decide +kernel
theorem dd_X2_init_5 : decode mb_X2_init 5 = .ok (.iconst 5, 1) := by decide +kernel
theorem dd_X2_init_6 : decode mb_X2_init 6 = .ok (.newarray .int, 2) := by decide +kernel
theorem dd_X2_init_8 : decode mb_X2_init 8 = .ok (.putfield 9, 3) := by decide +kernel
theorem dd_X2_init_11 : decode mb_X2_init 11 = .ok (.aload_n 0, 1) := by decide +kernel
theorem dd_X2_init_12 : decode mb_X2_init 12 = .ok (.iconst 5, 1) := by decide +kernel
theorem dd_X2_init_13 : decode mb_X2_init 13 = .ok (.newarray .int, 2) := by decide +kernel
theorem dd_X2_init_15 : decode mb_X2_init 15 = .ok (.putfield 15, 3) := by decide +kernel
theorem dd_X2_init_18 : decode mb_X2_init 18 = .ok (.aload_n 0, 1) := by decide +kernel
theorem dd_X2_init_19 : decode mb_X2_init 19 = .ok (.iconst 5, 1) := by decide +kernel
theorem dd_X2_init_20 : decode mb_X2_init 20 = .ok (.newarray .int, 2) := by decide +kernel
theorem dd_X2_init_22 : decode mb_X2_init 22 = .ok (.putfield 18, 3) := by decide +kernel
theorem dd_X2_init_25 : decode mb_X2_init 25 = .ok (.aload_n 0, 1) := by decide +kernel
theorem dd_X2_init_26 : decode mb_X2_init 26 = .ok (.iconst 0, 1) := by decide +kernel
theorem dd_X2_init_27 : decode mb_X2_init 27 = .ok (.putfield 21, 3) := by decide +kernel
theorem dd_X2_init_30 : decode mb_X2_init 30 = .ok (.return_, 1) := by decide +kernel
theorem dd_X3_addDraft_0 : decode mb_X3_addDraft 0 = .ok (.aload_n 0, 1) := by decide +kernel
theorem dd_X3_addDraft_1 : decode mb_X3_addDraft 1 = .ok (.getfield 15, 3) := by decide +kernel
theorem dd_X3_addDraft_4 : decode mb_X3_addDraft 4 = .ok (.iconst 0, 1) := by decide +kernel
theorem dd_X3_addDraft_5 : decode mb_X3_addDraft 5 = .ok (.aload_n 0, 1) := by decide +kernel
theorem dd_X3_addDraft_6 : decode mb_X3_addDraft 6 = .ok (.getfield 11, 3) := by decide +kernel
theorem dd_X3_addDraft_9 : decode mb_X3_addDraft 9 = .ok (.aload_n 0, 1) := by decide +kernel
theorem dd_X3_addDraft_10 : decode mb_X3_addDraft 10 = .ok (.getfield 18, 3) := by decide +kernel
theorem dd_X3_addDraft_13 : decode mb_X3_addDraft 13 = .ok (.iconst 5, 1) := by decide +kernel
theorem dd_X3_addDraft_14 : decode mb_X3_addDraft 14 = .ok (.imul, 1) := by decide +kernel
theorem dd_X3_addDraft_15 : decode mb_X3_addDraft 15 = .ok (.iconst 5, 1) := by decide +kernel
theorem dd_X3_addDraft_16 : decode mb_X3_addDraft 16 = .ok (.invokestatic 39, 3) := by decide +kernel
theorem dd_X3_addDraft_19 : decode mb_X3_addDraft 19 = .ok (.aload_n 0, 1) := by decide +kernel
theorem dd_X3_addDraft_20 : decode mb_X3_addDraft 20 = .ok (.dup, 1) := by decide +kernel
theorem dd_X3_addDraft_21 : decode mb_X3_addDraft 21 = .ok (.getfield 18, 3) := by decide +kernel
theorem dd_X3_addDraft_24 : decode mb_X3_addDraft 24 = .ok (.iconst 1, 1) := by decide +kernel
theorem dd_X3_addDraft_25 : decode mb_X3_addDraft 25 = .ok (.iadd, 1) := by decide +kernel
theorem dd_X3_addDraft_26 : decode mb_X3_addDraft 26 = .ok (.putfield 18, 3) := by decide +kernel
theorem dd_X3_addDraft_29 : decode mb_X3_addDraft 29 = .ok (.aload_n 0, 1) := by decide +kernel
theorem dd_X3_addDraft_30 : decode mb_X3_addDraft 30 = .ok (.getfield 18, 3) := by decide +kernel
theorem dd_X3_addDraft_33 : decode mb_X3_addDraft 33 = .ok (.iconst 1, 1) := by decide +kernel
theorem dd_X3_addDraft_34 : decode mb_X3_addDraft 34 = .ok (.isub, 1) := by decide +kernel
theorem dd_X3_addDraft_35 : decode mb_X3_addDraft 35 = .ok (.ireturn, 1) := by decide +kernel
theorem dd_X3_become_0 : decode mb_X3_become 0 = .ok (.aload_n 1, 1) := by decide +kernel
theorem dd_X3_become_1 : decode mb_X3_become 1 = .ok (.getfield 11, 3) := by decide +kernel
theorem dd_X3_become_4 : decode mb_X3_become 4 = .ok (.iconst 0, 1) := by decide +kernel
theorem dd_X3_become_5 : decode mb_X3_become 5 = .ok (.aload_n 0, 1) := by decide +kernel
theorem dd_X3_become_6 : decode mb_X3_become 6 = .ok (.getfield 11, 3) := by decide +kernel
theorem dd_X3_become_9 : decode mb_X3_become 9 = .ok (.iconst 0, 1) := by decide +kernel
theorem dd_X3_become_10 : decode mb_X3_become 10 = .ok (.aload_n 0, 1) := by decide +kernel
theorem dd_X3_become_11 : decode mb_X3_become 11 = .ok (.getfield 11, 3) := by decide +kernel
theorem dd_X3_become_14 : decode mb_X3_become 14 = .ok (.arraylength, 1) := by decide +kernel
theorem dd_X3_become_15 : decode mb_X3_become 15 = .ok (.invokestatic 39, 3) := by decide +kernel
theorem dd_X3_become_18 : decode mb_X3_become 18 = .ok (.aload_n 0, 1) := by decide +kernel
theorem dd_X3_become_19 : decode mb_X3_become 19 = .ok (.aload_n 1, 1) := by decide +kernel
theorem dd_X3_become_20 : decode mb_X3_become 20 = .ok (.getfield 18, 3) := by decide +kernel
theorem dd_X3_become_23 : decode mb_X3_become 23 = .ok (.putfield 18, 3) := by decide +kernel
theorem dd_X3_become_26 : decode mb_X3_become 26 = .ok (.return_, 1) := by decide +kernel
theorem dd_X3_clearDraft_0 : decode mb_X3_clearDraft 0 = .ok (.getstatic 36, 3) := by decide +kernel
theorem dd_X3_clearDraft_3 : decode mb_X3_clearDraft 3 = .ok (.iconst 0, 1) := by decide +kernel
theorem dd_X3_clearDraft_4 : decode mb_X3_clearDraft 4 = .ok (.aload_n 0, 1) := by decide +kernel
theorem dd_X3_clearDraft_5 : decode mb_X3_clearDraft 5 = .ok (.getfield 15, 3) := by decide +kernel
theorem dd_X3_clearDraft_8 : decode mb_X3_clearDraft 8 = .ok (.iconst 0, 1) := by decide +kernel
theorem dd_X3_clearDraft_9 : decode mb_X3_clearDraft 9 = .ok (.iconst 5, 1) := by decide +kernel
theorem dd_X3_clearDraft_10 : decode mb_X3_clearDraft 10 = .ok (.invokestatic 39, 3) := by decide +kernel
theorem dd_X3_clearDraft_13 : decode mb_X3_clearDraft 13 = .ok (.return_, 1) := by decide +kernel
theorem dd_X3_has_0 : decode mb_X3_has 0 = .ok (.iload_n 1, 1) := by decide +kernel
theorem dd_X3_has_1 : decode mb_X3_has 1 = .ok (.iconst 0, 1) := by decide +kernel
theorem dd_X3_has_2 : decode mb_X3_has 2 = .ok (.aload_n 0, 1) := by decide +kernel
theorem dd_X3_has_3 : decode mb_X3_has 3 = .ok (.getfield 18, 3) := by decide +kernel
theorem dd_X3_has_6 : decode mb_X3_has 6 = .ok (.iconst 1, 1) := by decide +kernel
theorem dd_X3_has_7 : decode mb_X3_has 7 = .ok (.isub, 1) := by decide +kernel
theorem dd_X3_has_8 : decode mb_X3_has 8 = .ok (.invokestatic 28, 3) := by decide +kernel
theorem dd_X3_has_11 : decode mb_X3_has 11 = .ok (.ireturn, 1) := by decide +kernel
theorem dd_X3_init_0 : decode mb_X3_init 0 = .ok (.aload_n 0, 1) := by decide +kernel
theorem dd_X3_init_1 : decode mb_X3_init 1 = .ok (.invokespecial 3, 3) := by decide +kernel
theorem dd_X3_init_4 : decode mb_X3_init 4 = .ok (.aload_n 0, 1) := by decide +kernel
theorem dd_X3_init_5 : decode mb_X3_init 5 = .ok (.bipush 30, 2) := by decide +kernel
theorem dd_X3_init_7 : decode mb_X3_init 7 = .ok (.newarray .int, 2) := by decide +kernel
theorem dd_X3_init_9 : decode mb_X3_init 9 = .ok (.putfield 11, 3) := by decide +kernel
theorem dd_X3_init_12 : decode mb_X3_init 12 = .ok (.aload_n 0, 1) := by decide +kernel
theorem dd_X3_init_13 : decode mb_X3_init 13 = .ok (.iconst 5, 1) := by decide +kernel
theorem dd_X3_init_14 : decode mb_X3_init 14 = .ok (.newarray .int, 2) := by decide +kernel
theorem dd_X3_init_16 : decode mb_X3_init 16 = .ok (.putfield 15, 3) := by decide +kernel
theorem dd_X3_init_19 : decode mb_X3_init 19 = .ok (.aload_n 0, 1) := by decide +kernel
theorem dd_X3_init_20 : decode mb_X3_init 20 = .ok (.iconst 0, 1) := by decide +kernel
theorem dd_X3_init_21 : decode mb_X3_init 21 = .ok (.putfield 18, 3) := by decide +kernel
theorem dd_X3_init_24 : decode mb_X3_init 24 = .ok (.return_, 1) := by decide +kernel
theorem dd_X3_mayTell_0 : decode mb_X3_mayTell 0 = .ok (.iload_n 1, 1) := by decide +kernel
theorem dd_X3_mayTell_1 : decode mb_X3_mayTell 1 = .ok (.getstatic 22, 3) := by decide +kernel
theorem dd_X3_mayTell_4 : decode mb_X3_mayTell 4 = .ok (.iload_n 0, 1) := by decide +kernel
theorem dd_X3_mayTell_5 : decode mb_X3_mayTell 5 = .ok (.iaload, 1) := by decide +kernel
theorem dd_X3_mayTell_6 : decode mb_X3_mayTell 6 = .ok (.getstatic 25, 3) := by decide +kernel
theorem dd_X3_mayTell_9 : decode mb_X3_mayTell 9 = .ok (.iload_n 0, 1) := by decide +kernel
theorem dd_X3_mayTell_10 : decode mb_X3_mayTell 10 = .ok (.iaload, 1) := by decide +kernel
theorem dd_X3_mayTell_11 : decode mb_X3_mayTell 11 = .ok (.invokestatic 28, 3) := by decide +kernel
theorem dd_X3_mayTell_14 : decode mb_X3_mayTell 14 = .ok (.ireturn, 1) := by decide +kernel
theorem dd_X3_part_0 : decode mb_X3_part 0 = .ok (.aload_n 0, 1) := by decide +kernel
theorem dd_X3_part_1 : decode mb_X3_part 1 = .ok (.iload_n 1, 1) := by decide +kernel
theorem dd_X3_part_2 : decode mb_X3_part 2 = .ok (.invokevirtual 32, 3) := by decide +kernel
theorem dd_X3_part_5 : decode mb_X3_part 5 = .ok (.ifCond .eq 16, 3) := by decide +kernel
theorem dd_X3_part_8 : decode mb_X3_part 8 = .ok (.aload_n 0, 1) := by decide +kernel
theorem dd_X3_part_9 : decode mb_X3_part 9 = .ok (.getfield 11, 3) := by decide +kernel
theorem dd_X3_part_12 : decode mb_X3_part 12 = .ok (.iload_n 1, 1) := by decide +kernel
theorem dd_X3_part_13 : decode mb_X3_part 13 = .ok (.iconst 5, 1) := by decide +kernel
theorem dd_X3_part_14 : decode mb_X3_part 14 = .ok (.imul, 1) := by decide +kernel
theorem dd_X3_part_15 : decode mb_X3_part 15 = .ok (.iload_n 2, 1) := by decide +kernel
theorem dd_X3_part_16 : decode mb_X3_part 16 = .ok (.iadd, 1) := by decide +kernel
theorem dd_X3_part_17 : decode mb_X3_part 17 = .ok (.iaload, 1) := by decide +kernel
theorem dd_X3_part_18 : decode mb_X3_part 18 = .ok (.goto 8, 3) := by decide +kernel
theorem dd_X3_part_21 : decode mb_X3_part 21 = .ok (.getstatic 36, 3) := by decide +kernel
theorem dd_X3_part_24 : decode mb_X3_part 24 = .ok (.iload_n 2, 1) := by decide +kernel
theorem dd_X3_part_25 : decode mb_X3_part 25 = .ok (.iaload, 1) := by decide +kernel
theorem dd_X3_part_26 : decode mb_X3_part 26 = .ok (.ireturn, 1) := by decide +kernel
theorem dd_X4_addBargain_0 : decode mb_X4_addBargain 0 = .ok (.iload 4, 2) := by decide +kernel
theorem dd_X4_addBargain_2 : decode mb_X4_addBargain 2 = .ok (.istore 5, 2) := by decide +kernel
theorem dd_X4_addBargain_4 : decode mb_X4_addBargain 4 = .ok (.iload 5, 2) := by decide +kernel
theorem dd_X4_addBargain_6 : decode mb_X4_addBargain 6 = .ok (.iload_n 2, 1) := by decide +kernel
theorem dd_X4_addBargain_7 : decode mb_X4_addBargain 7 = .ok (.if_icmp .lt 68, 3) := by decide +kernel
theorem dd_X4_addBargain_10 : decode mb_X4_addBargain 10 = .ok (.aload_n 0, 1) := by decide +kernel
theorem dd_X4_addBargain_11 : decode mb_X4_addBargain 11 = .ok (.getfield 15, 3) := by decide +kernel
theorem dd_X4_addBargain_14 : decode mb_X4_addBargain 14 = .ok (.iload 5, 2) := by decide +kernel
theorem dd_X4_addBargain_16 : decode mb_X4_addBargain 16 = .ok (.iload_n 2, 1) := by decide +kernel
theorem dd_X4_addBargain_17 : decode mb_X4_addBargain 17 = .ok (.isub, 1) := by decide +kernel
theorem dd_X4_addBargain_18 : decode mb_X4_addBargain 18 = .ok (.iaload, 1) := by decide +kernel
theorem dd_X4_addBargain_19 : decode mb_X4_addBargain 19 = .ok (.iload_n 3, 1) := by decide +kernel
theorem dd_X4_addBargain_20 : decode mb_X4_addBargain 20 = .ok (.iadd, 1) := by decide +kernel
theorem dd_X4_addBargain_21 : decode mb_X4_addBargain 21 = .ok (.aload_n 0, 1) := by decide +kernel
theorem dd_X4_addBargain_22 : decode mb_X4_addBargain 22 = .ok (.getfield 15, 3) := by decide +kernel
theorem dd_X4_addBargain_25 : decode mb_X4_addBargain 25 = .ok (.iload 5, 2) := by decide +kernel
theorem dd_X4_addBargain_27 : decode mb_X4_addBargain 27 = .ok (.iaload, 1) := by decide +kernel
theorem dd_X4_addBargain_28 : decode mb_X4_addBargain 28 = .ok (.if_icmp .le 41, 3) := by decide +kernel
theorem dd_X4_addBargain_31 : decode mb_X4_addBargain 31 = .ok (.aload_n 0, 1) := by decide +kernel
theorem dd_X4_addBargain_32 : decode mb_X4_addBargain 32 = .ok (.getfield 15, 3) := by decide +kernel
theorem dd_X4_addBargain_35 : decode mb_X4_addBargain 35 = .ok (.iload 5, 2) := by decide +kernel
theorem dd_X4_addBargain_37 : decode mb_X4_addBargain 37 = .ok (.aload_n 0, 1) := by decide +kernel
theorem dd_X4_addBargain_38 : decode mb_X4_addBargain 38 = .ok (.getfield 15, 3) := by decide +kernel
theorem dd_X4_addBargain_41 : decode mb_X4_addBargain 41 = .ok (.iload 5, 2) := by decide +kernel
theorem dd_X4_addBargain_43 : decode mb_X4_addBargain 43 = .ok (.iload_n 2, 1) := by decide +kernel
theorem dd_X4_addBargain_44 : decode mb_X4_addBargain 44 = .ok (.isub, 1) := by decide +kernel
theorem dd_X4_addBargain_45 : decode mb_X4_addBargain 45 = .ok (.iaload, 1) := by decide +kernel
theorem dd_X4_addBargain_46 : decode mb_X4_addBargain 46 = .ok (.iload_n 3, 1) := by decide +kernel
theorem dd_X4_addBargain_47 : decode mb_X4_addBargain 47 = .ok (.iadd, 1) := by decide +kernel
theorem dd_X4_addBargain_48 : decode mb_X4_addBargain 48 = .ok (.iastore, 1) := by decide +kernel
theorem dd_X4_addBargain_49 : decode mb_X4_addBargain 49 = .ok (.aload_n 0, 1) := by decide +kernel
theorem dd_X4_addBargain_50 : decode mb_X4_addBargain 50 = .ok (.getfield 9, 3) := by decide +kernel
theorem dd_X4_addBargain_53 : decode mb_X4_addBargain 53 = .ok (.iload 5, 2) := by decide +kernel
theorem dd_X4_addBargain_55 : decode mb_X4_addBargain 55 = .ok (.aload_n 0, 1) := by decide +kernel
theorem dd_X4_addBargain_56 : decode mb_X4_addBargain 56 = .ok (.getfield 9, 3) := by decide +kernel
theorem dd_X4_addBargain_59 : decode mb_X4_addBargain 59 = .ok (.iload 5, 2) := by decide +kernel
theorem dd_X4_addBargain_61 : decode mb_X4_addBargain 61 = .ok (.iload_n 2, 1) := by decide +kernel
theorem dd_X4_addBargain_62 : decode mb_X4_addBargain 62 = .ok (.isub, 1) := by decide +kernel
theorem dd_X4_addBargain_63 : decode mb_X4_addBargain 63 = .ok (.iaload, 1) := by decide +kernel
theorem dd_X4_addBargain_64 : decode mb_X4_addBargain 64 = .ok (.iconst 1, 1) := by decide +kernel
theorem dd_X4_addBargain_65 : decode mb_X4_addBargain 65 = .ok (.iload_n 1, 1) := by decide +kernel
theorem dd_X4_addBargain_66 : decode mb_X4_addBargain 66 = .ok (.ishl, 1) := by decide +kernel
theorem dd_X4_addBargain_67 : decode mb_X4_addBargain 67 = .ok (.ior, 1) := by decide +kernel
theorem dd_X4_addBargain_68 : decode mb_X4_addBargain 68 = .ok (.iastore, 1) := by decide +kernel
theorem dd_X4_addBargain_69 : decode mb_X4_addBargain 69 = .ok (.iinc 5 (-1), 3) := by decide +kernel
theorem dd_X4_addBargain_72 : decode mb_X4_addBargain 72 = .ok (.goto (-68), 3) := by decide +kernel
theorem dd_X4_addBargain_75 : decode mb_X4_addBargain 75 = .ok (.return_, 1) := by decide +kernel
theorem dd_X4_addPaid_0 : decode mb_X4_addPaid 0 = .ok (.iload_n 3, 1) := by decide +kernel
theorem dd_X4_addPaid_1 : decode mb_X4_addPaid 1 = .ok (.istore 4, 2) := by decide +kernel
theorem dd_X4_addPaid_3 : decode mb_X4_addPaid 3 = .ok (.iload 4, 2) := by decide +kernel
theorem dd_X4_addPaid_5 : decode mb_X4_addPaid 5 = .ok (.iload_n 2, 1) := by decide +kernel
theorem dd_X4_addPaid_6 : decode mb_X4_addPaid 6 = .ok (.if_icmp .lt 69, 3) := by decide +kernel
theorem dd_X4_addPaid_9 : decode mb_X4_addPaid 9 = .ok (.aload_n 0, 1) := by decide +kernel
theorem dd_X4_addPaid_10 : decode mb_X4_addPaid 10 = .ok (.getfield 9, 3) := by decide +kernel
theorem dd_X4_addPaid_13 : decode mb_X4_addPaid 13 = .ok (.iload 4, 2) := by decide +kernel
theorem dd_X4_addPaid_15 : decode mb_X4_addPaid 15 = .ok (.iaload, 1) := by decide +kernel
theorem dd_X4_addPaid_16 : decode mb_X4_addPaid 16 = .ok (.istore 5, 2) := by decide +kernel
theorem dd_X4_addPaid_18 : decode mb_X4_addPaid 18 = .ok (.aload_n 0, 1) := by decide +kernel
theorem dd_X4_addPaid_19 : decode mb_X4_addPaid 19 = .ok (.getfield 9, 3) := by decide +kernel
theorem dd_X4_addPaid_22 : decode mb_X4_addPaid 22 = .ok (.iload 4, 2) := by decide +kernel
theorem dd_X4_addPaid_24 : decode mb_X4_addPaid 24 = .ok (.iload_n 2, 1) := by decide +kernel
theorem dd_X4_addPaid_25 : decode mb_X4_addPaid 25 = .ok (.isub, 1) := by decide +kernel
theorem dd_X4_addPaid_26 : decode mb_X4_addPaid 26 = .ok (.iaload, 1) := by decide +kernel
theorem dd_X4_addPaid_27 : decode mb_X4_addPaid 27 = .ok (.istore 6, 2) := by decide +kernel
theorem dd_X4_addPaid_29 : decode mb_X4_addPaid 29 = .ok (.iload 6, 2) := by decide +kernel
theorem dd_X4_addPaid_31 : decode mb_X4_addPaid 31 = .ok (.iconst (-1), 1) := by decide +kernel
theorem dd_X4_addPaid_32 : decode mb_X4_addPaid 32 = .ok (.if_icmp .eq 37, 3) := by decide +kernel
theorem dd_X4_addPaid_35 : decode mb_X4_addPaid 35 = .ok (.iload 5, 2) := by decide +kernel
theorem dd_X4_addPaid_37 : decode mb_X4_addPaid 37 = .ok (.iconst (-1), 1) := by decide +kernel
theorem dd_X4_addPaid_38 : decode mb_X4_addPaid 38 = .ok (.if_icmp .eq 18, 3) := by decide +kernel
theorem dd_X4_addPaid_41 : decode mb_X4_addPaid 41 = .ok (.iload 6, 2) := by decide +kernel
theorem dd_X4_addPaid_43 : decode mb_X4_addPaid 43 = .ok (.invokestatic 58, 3) := by decide +kernel
theorem dd_X4_addPaid_46 : decode mb_X4_addPaid 46 = .ok (.iconst 1, 1) := by decide +kernel
theorem dd_X4_addPaid_47 : decode mb_X4_addPaid 47 = .ok (.iadd, 1) := by decide +kernel
theorem dd_X4_addPaid_48 : decode mb_X4_addPaid 48 = .ok (.iload 5, 2) := by decide +kernel
theorem dd_X4_addPaid_50 : decode mb_X4_addPaid 50 = .ok (.invokestatic 58, 3) := by decide +kernel
theorem dd_X4_addPaid_53 : decode mb_X4_addPaid 53 = .ok (.if_icmp .ge 16, 3) := by decide +kernel
theorem dd_X4_addPaid_56 : decode mb_X4_addPaid 56 = .ok (.aload_n 0, 1) := by decide +kernel
theorem dd_X4_addPaid_57 : decode mb_X4_addPaid 57 = .ok (.getfield 9, 3) := by decide +kernel
theorem dd_X4_addPaid_60 : decode mb_X4_addPaid 60 = .ok (.iload 4, 2) := by decide +kernel
theorem dd_X4_addPaid_62 : decode mb_X4_addPaid 62 = .ok (.iload 6, 2) := by decide +kernel
theorem dd_X4_addPaid_64 : decode mb_X4_addPaid 64 = .ok (.iconst 1, 1) := by decide +kernel
theorem dd_X4_addPaid_65 : decode mb_X4_addPaid 65 = .ok (.iload_n 1, 1) := by decide +kernel
theorem dd_X4_addPaid_66 : decode mb_X4_addPaid 66 = .ok (.ishl, 1) := by decide +kernel
theorem dd_X4_addPaid_67 : decode mb_X4_addPaid 67 = .ok (.ior, 1) := by decide +kernel
theorem dd_X4_addPaid_68 : decode mb_X4_addPaid 68 = .ok (.iastore, 1) := by decide +kernel
theorem dd_X4_addPaid_69 : decode mb_X4_addPaid 69 = .ok (.iinc 4 (-1), 3) := by decide +kernel
theorem dd_X4_addPaid_72 : decode mb_X4_addPaid 72 = .ok (.goto (-69), 3) := by decide +kernel
theorem dd_X4_addPaid_75 : decode mb_X4_addPaid 75 = .ok (.return_, 1) := by decide +kernel
theorem dd_X4_bargains_0 : decode mb_X4_bargains 0 = .ok (.iconst 0, 1) := by decide +kernel
theorem dd_X4_bargains_1 : decode mb_X4_bargains 1 = .ok (.istore_n 3, 1) := by decide +kernel
theorem dd_X4_bargains_2 : decode mb_X4_bargains 2 = .ok (.iload_n 3, 1) := by decide +kernel
theorem dd_X4_bargains_3 : decode mb_X4_bargains 3 = .ok (.iload_n 2, 1) := by decide +kernel
theorem dd_X4_bargains_4 : decode mb_X4_bargains 4 = .ok (.if_icmp .gt 23, 3) := by decide +kernel
theorem dd_X4_bargains_7 : decode mb_X4_bargains 7 = .ok (.aload_n 0, 1) := by decide +kernel
theorem dd_X4_bargains_8 : decode mb_X4_bargains 8 = .ok (.getfield 9, 3) := by decide +kernel
theorem dd_X4_bargains_11 : decode mb_X4_bargains 11 = .ok (.iload_n 3, 1) := by decide +kernel
theorem dd_X4_bargains_12 : decode mb_X4_bargains 12 = .ok (.iconst 0, 1) := by decide +kernel
theorem dd_X4_bargains_13 : decode mb_X4_bargains 13 = .ok (.iastore, 1) := by decide +kernel
theorem dd_X4_bargains_14 : decode mb_X4_bargains 14 = .ok (.aload_n 0, 1) := by decide +kernel
theorem dd_X4_bargains_15 : decode mb_X4_bargains 15 = .ok (.getfield 15, 3) := by decide +kernel
theorem dd_X4_bargains_18 : decode mb_X4_bargains 18 = .ok (.iload_n 3, 1) := by decide +kernel
theorem dd_X4_bargains_19 : decode mb_X4_bargains 19 = .ok (.iconst 0, 1) := by decide +kernel
theorem dd_X4_bargains_20 : decode mb_X4_bargains 20 = .ok (.iastore, 1) := by decide +kernel
theorem dd_X4_bargains_21 : decode mb_X4_bargains 21 = .ok (.iinc 3 1, 3) := by decide +kernel
theorem dd_X4_bargains_24 : decode mb_X4_bargains 24 = .ok (.goto (-22), 3) := by decide +kernel
theorem dd_X4_bargains_27 : decode mb_X4_bargains 27 = .ok (.iconst 0, 1) := by decide +kernel
theorem dd_X4_bargains_28 : decode mb_X4_bargains 28 = .ok (.istore_n 3, 1) := by decide +kernel
theorem dd_X4_bargains_29 : decode mb_X4_bargains 29 = .ok (.iload_n 3, 1) := by decide +kernel
theorem dd_X4_bargains_30 : decode mb_X4_bargains 30 = .ok (.aload_n 1, 1) := by decide +kernel
theorem dd_X4_bargains_31 : decode mb_X4_bargains 31 = .ok (.getfield 18, 3) := by decide +kernel
theorem dd_X4_bargains_34 : decode mb_X4_bargains 34 = .ok (.if_icmp .ge 43, 3) := by decide +kernel
theorem dd_X4_bargains_37 : decode mb_X4_bargains 37 = .ok (.aload_n 1, 1) := by decide +kernel
theorem dd_X4_bargains_38 : decode mb_X4_bargains 38 = .ok (.iload_n 3, 1) := by decide +kernel
theorem dd_X4_bargains_39 : decode mb_X4_bargains 39 = .ok (.invokevirtual 24, 3) := by decide +kernel
theorem dd_X4_bargains_42 : decode mb_X4_bargains 42 = .ok (.ifCond .eq 29, 3) := by decide +kernel
theorem dd_X4_bargains_45 : decode mb_X4_bargains 45 = .ok (.aload_n 0, 1) := by decide +kernel
theorem dd_X4_bargains_46 : decode mb_X4_bargains 46 = .ok (.iload_n 3, 1) := by decide +kernel
theorem dd_X4_bargains_47 : decode mb_X4_bargains 47 = .ok (.iconst 2, 1) := by decide +kernel
theorem dd_X4_bargains_48 : decode mb_X4_bargains 48 = .ok (.aload_n 1, 1) := by decide +kernel
theorem dd_X4_bargains_49 : decode mb_X4_bargains 49 = .ok (.getfield 28, 3) := by decide +kernel
theorem dd_X4_bargains_52 : decode mb_X4_bargains 52 = .ok (.iload_n 3, 1) := by decide +kernel
theorem dd_X4_bargains_53 : decode mb_X4_bargains 53 = .ok (.iaload, 1) := by decide +kernel
theorem dd_X4_bargains_54 : decode mb_X4_bargains 54 = .ok (.iadd, 1) := by decide +kernel
theorem dd_X4_bargains_55 : decode mb_X4_bargains 55 = .ok (.aload_n 1, 1) := by decide +kernel
theorem dd_X4_bargains_56 : decode mb_X4_bargains 56 = .ok (.iload_n 3, 1) := by decide +kernel
theorem dd_X4_bargains_57 : decode mb_X4_bargains 57 = .ok (.invokevirtual 31, 3) := by decide +kernel
theorem dd_X4_bargains_60 : decode mb_X4_bargains 60 = .ok (.aload_n 1, 1) := by decide +kernel
theorem dd_X4_bargains_61 : decode mb_X4_bargains 61 = .ok (.getfield 35, 3) := by decide +kernel
theorem dd_X4_bargains_64 : decode mb_X4_bargains 64 = .ok (.iload_n 3, 1) := by decide +kernel
theorem dd_X4_bargains_65 : decode mb_X4_bargains 65 = .ok (.iaload, 1) := by decide +kernel
theorem dd_X4_bargains_66 : decode mb_X4_bargains 66 = .ok (.isub, 1) := by decide +kernel
theorem dd_X4_bargains_67 : decode mb_X4_bargains 67 = .ok (.iload_n 2, 1) := by decide +kernel
theorem dd_X4_bargains_68 : decode mb_X4_bargains 68 = .ok (.invokevirtual 38, 3) := by decide +kernel
theorem dd_X4_bargains_71 : decode mb_X4_bargains 71 = .ok (.iinc 3 1, 3) := by decide +kernel
theorem dd_X4_bargains_74 : decode mb_X4_bargains 74 = .ok (.goto (-45), 3) := by decide +kernel
theorem dd_X4_bargains_77 : decode mb_X4_bargains 77 = .ok (.aload_n 0, 1) := by decide +kernel
theorem dd_X4_bargains_78 : decode mb_X4_bargains 78 = .ok (.getfield 9, 3) := by decide +kernel
theorem dd_X4_bargains_81 : decode mb_X4_bargains 81 = .ok (.iload_n 2, 1) := by decide +kernel
theorem dd_X4_bargains_82 : decode mb_X4_bargains 82 = .ok (.iaload, 1) := by decide +kernel
theorem dd_X4_bargains_83 : decode mb_X4_bargains 83 = .ok (.ireturn, 1) := by decide +kernel
theorem dd_X4_fewestPaid_0 : decode mb_X4_fewestPaid 0 = .ok (.aload_n 0, 1) := by decide +kernel
theorem dd_X4_fewestPaid_1 : decode mb_X4_fewestPaid 1 = .ok (.getfield 9, 3) := by decide +kernel
theorem dd_X4_fewestPaid_4 : decode mb_X4_fewestPaid 4 = .ok (.iconst 0, 1) := by decide +kernel
theorem dd_X4_fewestPaid_5 : decode mb_X4_fewestPaid 5 = .ok (.iconst 0, 1) := by decide +kernel
theorem dd_X4_fewestPaid_6 : decode mb_X4_fewestPaid 6 = .ok (.iastore, 1) := by decide +kernel
theorem dd_X4_fewestPaid_7 : decode mb_X4_fewestPaid 7 = .ok (.iconst 1, 1) := by decide +kernel
theorem dd_X4_fewestPaid_8 : decode mb_X4_fewestPaid 8 = .ok (.istore_n 3, 1) := by decide +kernel
theorem dd_X4_fewestPaid_9 : decode mb_X4_fewestPaid 9 = .ok (.iload_n 3, 1) := by decide +kernel
theorem dd_X4_fewestPaid_10 : decode mb_X4_fewestPaid 10 = .ok (.iload_n 2, 1) := by decide +kernel
theorem dd_X4_fewestPaid_11 : decode mb_X4_fewestPaid 11 = .ok (.if_icmp .gt 16, 3) := by decide +kernel
theorem dd_X4_fewestPaid_14 : decode mb_X4_fewestPaid 14 = .ok (.aload_n 0, 1) := by decide +kernel
theorem dd_X4_fewestPaid_15 : decode mb_X4_fewestPaid 15 = .ok (.getfield 9, 3) := by decide +kernel
theorem dd_X4_fewestPaid_18 : decode mb_X4_fewestPaid 18 = .ok (.iload_n 3, 1) := by decide +kernel
theorem dd_X4_fewestPaid_19 : decode mb_X4_fewestPaid 19 = .ok (.iconst (-1), 1) := by decide +kernel
theorem dd_X4_fewestPaid_20 : decode mb_X4_fewestPaid 20 = .ok (.iastore, 1) := by decide +kernel
theorem dd_X4_fewestPaid_21 : decode mb_X4_fewestPaid 21 = .ok (.iinc 3 1, 3) := by decide +kernel
theorem dd_X4_fewestPaid_24 : decode mb_X4_fewestPaid 24 = .ok (.goto (-15), 3) := by decide +kernel
theorem dd_X4_fewestPaid_27 : decode mb_X4_fewestPaid 27 = .ok (.iconst 0, 1) := by decide +kernel
theorem dd_X4_fewestPaid_28 : decode mb_X4_fewestPaid 28 = .ok (.istore_n 3, 1) := by decide +kernel
theorem dd_X4_fewestPaid_29 : decode mb_X4_fewestPaid 29 = .ok (.iconst 0, 1) := by decide +kernel
theorem dd_X4_fewestPaid_30 : decode mb_X4_fewestPaid 30 = .ok (.istore 4, 2) := by decide +kernel
theorem dd_X4_fewestPaid_32 : decode mb_X4_fewestPaid 32 = .ok (.iload 4, 2) := by decide +kernel
theorem dd_X4_fewestPaid_34 : decode mb_X4_fewestPaid 34 = .ok (.aload_n 1, 1) := by decide +kernel
theorem dd_X4_fewestPaid_35 : decode mb_X4_fewestPaid 35 = .ok (.getfield 18, 3) := by decide +kernel
theorem dd_X4_fewestPaid_38 : decode mb_X4_fewestPaid 38 = .ok (.if_icmp .ge 46, 3) := by decide +kernel
theorem dd_X4_fewestPaid_41 : decode mb_X4_fewestPaid 41 = .ok (.aload_n 1, 1) := by decide +kernel
theorem dd_X4_fewestPaid_42 : decode mb_X4_fewestPaid 42 = .ok (.iload 4, 2) := by decide +kernel
theorem dd_X4_fewestPaid_44 : decode mb_X4_fewestPaid 44 = .ok (.invokevirtual 42, 3) := by decide +kernel
theorem dd_X4_fewestPaid_47 : decode mb_X4_fewestPaid 47 = .ok (.ifCond .eq 31, 3) := by decide +kernel
theorem dd_X4_fewestPaid_50 : decode mb_X4_fewestPaid 50 = .ok (.iload_n 2, 1) := by decide +kernel
theorem dd_X4_fewestPaid_51 : decode mb_X4_fewestPaid 51 = .ok (.iload_n 3, 1) := by decide +kernel
theorem dd_X4_fewestPaid_52 : decode mb_X4_fewestPaid 52 = .ok (.aload_n 1, 1) := by decide +kernel
theorem dd_X4_fewestPaid_53 : decode mb_X4_fewestPaid 53 = .ok (.getfield 45, 3) := by decide +kernel
theorem dd_X4_fewestPaid_56 : decode mb_X4_fewestPaid 56 = .ok (.iload 4, 2) := by decide +kernel
theorem dd_X4_fewestPaid_58 : decode mb_X4_fewestPaid 58 = .ok (.iaload, 1) := by decide +kernel
theorem dd_X4_fewestPaid_59 : decode mb_X4_fewestPaid 59 = .ok (.iadd, 1) := by decide +kernel
theorem dd_X4_fewestPaid_60 : decode mb_X4_fewestPaid 60 = .ok (.invokestatic 48, 3) := by decide +kernel
theorem dd_X4_fewestPaid_63 : decode mb_X4_fewestPaid 63 = .ok (.istore_n 3, 1) := by decide +kernel
theorem dd_X4_fewestPaid_64 : decode mb_X4_fewestPaid 64 = .ok (.aload_n 0, 1) := by decide +kernel
theorem dd_X4_fewestPaid_65 : decode mb_X4_fewestPaid 65 = .ok (.iload 4, 2) := by decide +kernel
theorem dd_X4_fewestPaid_67 : decode mb_X4_fewestPaid 67 = .ok (.aload_n 1, 1) := by decide +kernel
theorem dd_X4_fewestPaid_68 : decode mb_X4_fewestPaid 68 = .ok (.getfield 45, 3) := by decide +kernel
theorem dd_X4_fewestPaid_71 : decode mb_X4_fewestPaid 71 = .ok (.iload 4, 2) := by decide +kernel
theorem dd_X4_fewestPaid_73 : decode mb_X4_fewestPaid 73 = .ok (.iaload, 1) := by decide +kernel
theorem dd_X4_fewestPaid_74 : decode mb_X4_fewestPaid 74 = .ok (.iload_n 3, 1) := by decide +kernel
theorem dd_X4_fewestPaid_75 : decode mb_X4_fewestPaid 75 = .ok (.invokevirtual 54, 3) := by decide +kernel
theorem dd_X4_fewestPaid_78 : decode mb_X4_fewestPaid 78 = .ok (.iinc 4 1, 3) := by decide +kernel
theorem dd_X4_fewestPaid_81 : decode mb_X4_fewestPaid 81 = .ok (.goto (-49), 3) := by decide +kernel
theorem dd_X4_fewestPaid_84 : decode mb_X4_fewestPaid 84 = .ok (.aload_n 0, 1) := by decide +kernel
theorem dd_X4_fewestPaid_85 : decode mb_X4_fewestPaid 85 = .ok (.getfield 9, 3) := by decide +kernel
theorem dd_X4_fewestPaid_88 : decode mb_X4_fewestPaid 88 = .ok (.iload_n 2, 1) := by decide +kernel
theorem dd_X4_fewestPaid_89 : decode mb_X4_fewestPaid 89 = .ok (.iaload, 1) := by decide +kernel
theorem dd_X4_fewestPaid_90 : decode mb_X4_fewestPaid 90 = .ok (.ireturn, 1) := by decide +kernel
theorem dd_X4_init_0 : decode mb_X4_init 0 = .ok (.aload_n 0, 1) := by decide +kernel
theorem dd_X4_init_1 : decode mb_X4_init 1 = .ok (.invokespecial 3, 3) := by decide +kernel
theorem dd_X4_init_4 : decode mb_X4_init 4 = .ok (.aload_n 0, 1) := by decide +kernel
theorem dd_X4_init_5 : decode mb_X4_init 5 = .ok (.sipush 10000, 3) := by decide +kernel
theorem dd_X4_init_8 : decode mb_X4_init 8 = .ok (.newarray .int, 2) := by decide +kernel
theorem dd_X4_init_10 : decode mb_X4_init 10 = .ok (.putfield 9, 3) := by decide +kernel
theorem dd_X4_init_13 : decode mb_X4_init 13 = .ok (.aload_n 0, 1) := by decide +kernel
theorem dd_X4_init_14 : decode mb_X4_init 14 = .ok (.sipush 201, 3) := by decide +kernel
theorem dd_X4_init_17 : decode mb_X4_init 17 = .ok (.newarray .int, 2) := by decide +kernel
theorem dd_X4_init_19 : decode mb_X4_init 19 = .ok (.putfield 15, 3) := by decide +kernel
theorem dd_X4_init_22 : decode mb_X4_init 22 = .ok (.return_, 1) := by decide +kernel
theorem dd_X5_bestTurns_0 : decode mb_X5_bestTurns 0 = .ok (.iconst (-1), 1) := by decide +kernel
theorem dd_X5_bestTurns_1 : decode mb_X5_bestTurns 1 = .ok (.istore_n 2, 1) := by decide +kernel
theorem dd_X5_bestTurns_2 : decode mb_X5_bestTurns 2 = .ok (.iconst (-1), 1) := by decide +kernel
theorem dd_X5_bestTurns_3 : decode mb_X5_bestTurns 3 = .ok (.istore_n 3, 1) := by decide +kernel
theorem dd_X5_bestTurns_4 : decode mb_X5_bestTurns 4 = .ok (.bipush 12, 2) := by decide +kernel
theorem dd_X5_bestTurns_6 : decode mb_X5_bestTurns 6 = .ok (.istore 4, 2) := by decide +kernel
theorem dd_X5_bestTurns_8 : decode mb_X5_bestTurns 8 = .ok (.iload 4, 2) := by decide +kernel
theorem dd_X5_bestTurns_10 : decode mb_X5_bestTurns 10 = .ok (.ifCond .lt 55, 3) := by decide +kernel
theorem dd_X5_bestTurns_13 : decode mb_X5_bestTurns 13 = .ok (.bipush 12, 2) := by decide +kernel
theorem dd_X5_bestTurns_15 : decode mb_X5_bestTurns 15 = .ok (.istore 5, 2) := by decide +kernel
theorem dd_X5_bestTurns_17 : decode mb_X5_bestTurns 17 = .ok (.iload 5, 2) := by decide +kernel
theorem dd_X5_bestTurns_19 : decode mb_X5_bestTurns 19 = .ok (.iload 4, 2) := by decide +kernel
theorem dd_X5_bestTurns_21 : decode mb_X5_bestTurns 21 = .ok (.if_icmp .lt 38, 3) := by decide +kernel
theorem dd_X5_bestTurns_24 : decode mb_X5_bestTurns 24 = .ok (.aload_n 0, 1) := by decide +kernel
theorem dd_X5_bestTurns_25 : decode mb_X5_bestTurns 25 = .ok (.aload_n 1, 1) := by decide +kernel
theorem dd_X5_bestTurns_26 : decode mb_X5_bestTurns 26 = .ok (.iload 4, 2) := by decide +kernel
theorem dd_X5_bestTurns_28 : decode mb_X5_bestTurns 28 = .ok (.iload 5, 2) := by decide +kernel
theorem dd_X5_bestTurns_30 : decode mb_X5_bestTurns 30 = .ok (.invokevirtual 112, 3) := by decide +kernel
theorem dd_X5_bestTurns_33 : decode mb_X5_bestTurns 33 = .ok (.istore 6, 2) := by decide +kernel
theorem dd_X5_bestTurns_35 : decode mb_X5_bestTurns 35 = .ok (.iload 6, 2) := by decide +kernel
theorem dd_X5_bestTurns_37 : decode mb_X5_bestTurns 37 = .ok (.iload_n 3, 1) := by decide +kernel
theorem dd_X5_bestTurns_38 : decode mb_X5_bestTurns 38 = .ok (.if_icmp .le 15, 3) := by decide +kernel
theorem dd_X5_bestTurns_41 : decode mb_X5_bestTurns 41 = .ok (.bipush 100, 2) := by decide +kernel
theorem dd_X5_bestTurns_43 : decode mb_X5_bestTurns 43 = .ok (.iload 4, 2) := by decide +kernel
theorem dd_X5_bestTurns_45 : decode mb_X5_bestTurns 45 = .ok (.imul, 1) := by decide +kernel
theorem dd_X5_bestTurns_46 : decode mb_X5_bestTurns 46 = .ok (.iload 5, 2) := by decide +kernel
theorem dd_X5_bestTurns_48 : decode mb_X5_bestTurns 48 = .ok (.iadd, 1) := by decide +kernel
theorem dd_X5_bestTurns_49 : decode mb_X5_bestTurns 49 = .ok (.istore_n 2, 1) := by decide +kernel
theorem dd_X5_bestTurns_50 : decode mb_X5_bestTurns 50 = .ok (.iload 6, 2) := by decide +kernel
theorem dd_X5_bestTurns_52 : decode mb_X5_bestTurns 52 = .ok (.istore_n 3, 1) := by decide +kernel
theorem dd_X5_bestTurns_53 : decode mb_X5_bestTurns 53 = .ok (.iinc 5 (-1), 3) := by decide +kernel
theorem dd_X5_bestTurns_56 : decode mb_X5_bestTurns 56 = .ok (.goto (-39), 3) := by decide +kernel
theorem dd_X5_bestTurns_59 : decode mb_X5_bestTurns 59 = .ok (.iinc 4 (-1), 3) := by decide +kernel
theorem dd_X5_bestTurns_62 : decode mb_X5_bestTurns 62 = .ok (.goto (-54), 3) := by decide +kernel
theorem dd_X5_bestTurns_65 : decode mb_X5_bestTurns 65 = .ok (.iload_n 2, 1) := by decide +kernel
theorem dd_X5_bestTurns_66 : decode mb_X5_bestTurns 66 = .ok (.ireturn, 1) := by decide +kernel
theorem dd_X5_cost_0 : decode mb_X5_cost 0 = .ok (.iload_n 1, 1) := by decide +kernel
theorem dd_X5_cost_1 : decode mb_X5_cost 1 = .ok (.iconst 2, 1) := by decide +kernel
theorem dd_X5_cost_2 : decode mb_X5_cost 2 = .ok (.if_icmp .ne 6, 3) := by decide +kernel
theorem dd_X5_cost_5 : decode mb_X5_cost 5 = .ok (.bipush 10, 2) := by decide +kernel
theorem dd_X5_cost_7 : decode mb_X5_cost 7 = .ok (.ireturn, 1) := by decide +kernel
theorem dd_X5_cost_8 : decode mb_X5_cost 8 = .ok (.iload_n 1, 1) := by decide +kernel
theorem dd_X5_cost_9 : decode mb_X5_cost 9 = .ok (.iconst 1, 1) := by decide +kernel
theorem dd_X5_cost_10 : decode mb_X5_cost 10 = .ok (.if_icmp .ne 9, 3) := by decide +kernel
theorem dd_X5_cost_13 : decode mb_X5_cost 13 = .ok (.iload_n 0, 1) := by decide +kernel
theorem dd_X5_cost_14 : decode mb_X5_cost 14 = .ok (.iconst 2, 1) := by decide +kernel
theorem dd_X5_cost_15 : decode mb_X5_cost 15 = .ok (.idiv, 1) := by decide +kernel
theorem dd_X5_cost_16 : decode mb_X5_cost 16 = .ok (.goto 4, 3) := by decide +kernel
theorem dd_X5_cost_19 : decode mb_X5_cost 19 = .ok (.iload_n 0, 1) := by decide +kernel
theorem dd_X5_cost_20 : decode mb_X5_cost 20 = .ok (.ireturn, 1) := by decide +kernel
theorem dd_X5_init_0 : decode mb_X5_init 0 = .ok (.aload_n 0, 1) := by decide +kernel
theorem dd_X5_init_1 : decode mb_X5_init 1 = .ok (.invokespecial 3, 3) := by decide +kernel
theorem dd_X5_init_4 : decode mb_X5_init 4 = .ok (.aload_n 0, 1) := by decide +kernel
theorem dd_X5_init_5 : decode mb_X5_init 5 = .ok (.bipush 12, 2) := by decide +kernel
theorem dd_X5_init_7 : decode mb_X5_init 7 = .ok (.putfield 9, 3) := by decide +kernel
theorem dd_X5_init_10 : decode mb_X5_init 10 = .ok (.aload_n 0, 1) := by decide +kernel
theorem dd_X5_init_11 : decode mb_X5_init 11 = .ok (.bipush 12, 2) := by decide +kernel
theorem dd_X5_init_13 : decode mb_X5_init 13 = .ok (.putfield 15, 3) := by decide +kernel
theorem dd_X5_init_16 : decode mb_X5_init 16 = .ok (.aload_n 0, 1) := by decide +kernel
theorem dd_X5_init_17 : decode mb_X5_init 17 = .ok (.bipush 30, 2) := by decide +kernel
theorem dd_X5_init_19 : decode mb_X5_init 19 = .ok (.newarray .int, 2) := by decide +kernel
theorem dd_X5_init_21 : decode mb_X5_init 21 = .ok (.putfield 18, 3) := by decide +kernel
theorem dd_X5_init_24 : decode mb_X5_init 24 = .ok (.aload_n 0, 1) := by decide +kernel
theorem dd_X5_init_25 : decode mb_X5_init 25 = .ok (.iconst 0, 1) := by decide +kernel
theorem dd_X5_init_26 : decode mb_X5_init 26 = .ok (.putfield 22, 3) := by decide +kernel
theorem dd_X5_init_29 : decode mb_X5_init 29 = .ok (.aload_n 0, 1) := by decide +kernel
theorem dd_X5_init_30 : decode mb_X5_init 30 = .ok (.bipush 30, 2) := by decide +kernel
theorem dd_X5_init_32 : decode mb_X5_init 32 = .ok (.newarray .int, 2) := by decide +kernel
theorem dd_X5_init_34 : decode mb_X5_init 34 = .ok (.putfield 25, 3) := by decide +kernel
theorem dd_X5_init_37 : decode mb_X5_init 37 = .ok (.aload_n 0, 1) := by decide +kernel
theorem dd_X5_init_38 : decode mb_X5_init 38 = .ok (.bipush 30, 2) := by decide +kernel
theorem dd_X5_init_40 : decode mb_X5_init 40 = .ok (.newarray .int, 2) := by decide +kernel
theorem dd_X5_init_42 : decode mb_X5_init 42 = .ok (.putfield 28, 3) := by decide +kernel
theorem dd_X5_init_45 : decode mb_X5_init 45 = .ok (.aload_n 0, 1) := by decide +kernel
theorem dd_X5_init_46 : decode mb_X5_init 46 = .ok (.bipush 30, 2) := by decide +kernel
theorem dd_X5_init_48 : decode mb_X5_init 48 = .ok (.newarray .int, 2) := by decide +kernel
theorem dd_X5_init_50 : decode mb_X5_init 50 = .ok (.putfield 31, 3) := by decide +kernel
theorem dd_X5_init_53 : decode mb_X5_init 53 = .ok (.aload_n 0, 1) := by decide +kernel
theorem dd_X5_init_54 : decode mb_X5_init 54 = .ok (.bipush 12, 2) := by decide +kernel
theorem dd_X5_init_56 : decode mb_X5_init 56 = .ok (.newarray .int, 2) := by decide +kernel
theorem dd_X5_init_58 : decode mb_X5_init 58 = .ok (.putfield 34, 3) := by decide +kernel
theorem dd_X5_init_61 : decode mb_X5_init 61 = .ok (.aload_n 0, 1) := by decide +kernel
theorem dd_X5_init_62 : decode mb_X5_init 62 = .ok (.bipush 12, 2) := by decide +kernel
theorem dd_X5_init_64 : decode mb_X5_init 64 = .ok (.newarray .int, 2) := by decide +kernel
theorem dd_X5_init_66 : decode mb_X5_init 66 = .ok (.putfield 37, 3) := by decide +kernel
theorem dd_X5_init_69 : decode mb_X5_init 69 = .ok (.return_, 1) := by decide +kernel
theorem dd_X5_open_0 : decode mb_X5_open 0 = .ok (.aload_n 1, 1) := by decide +kernel
theorem dd_X5_open_1 : decode mb_X5_open 1 = .ok (.getfield 40, 3) := by decide +kernel
theorem dd_X5_open_4 : decode mb_X5_open 4 = .ok (.astore 4, 2) := by decide +kernel
theorem dd_X5_open_6 : decode mb_X5_open 6 = .ok (.aload_n 0, 1) := by decide +kernel
theorem dd_X5_open_7 : decode mb_X5_open 7 = .ok (.iload_n 2, 1) := by decide +kernel
theorem dd_X5_open_8 : decode mb_X5_open 8 = .ok (.putfield 9, 3) := by decide +kernel
theorem dd_X5_open_11 : decode mb_X5_open 11 = .ok (.aload_n 0, 1) := by decide +kernel
theorem dd_X5_open_12 : decode mb_X5_open 12 = .ok (.iload_n 3, 1) := by decide +kernel
theorem dd_X5_open_13 : decode mb_X5_open 13 = .ok (.putfield 15, 3) := by decide +kernel
theorem dd_X5_open_16 : decode mb_X5_open 16 = .ok (.aload_n 0, 1) := by decide +kernel
theorem dd_X5_open_17 : decode mb_X5_open 17 = .ok (.iconst 0, 1) := by decide +kernel
theorem dd_X5_open_18 : decode mb_X5_open 18 = .ok (.putfield 22, 3) := by decide +kernel
theorem dd_X5_open_21 : decode mb_X5_open 21 = .ok (.iconst 0, 1) := by decide +kernel
theorem dd_X5_open_22 : decode mb_X5_open 22 = .ok (.istore 5, 2) := by decide +kernel
theorem dd_X5_open_24 : decode mb_X5_open 24 = .ok (.iload 5, 2) := by decide +kernel
theorem dd_X5_open_26 : decode mb_X5_open 26 = .ok (.aload 4, 2) := by decide +kernel
theorem dd_X5_open_28 : decode mb_X5_open 28 = .ok (.getfield 46, 3) := by decide +kernel
theorem dd_X5_open_31 : decode mb_X5_open 31 = .ok (.if_icmp .ge 62, 3) := by decide +kernel
theorem dd_X5_open_34 : decode mb_X5_open 34 = .ok (.aload_n 0, 1) := by decide +kernel
theorem dd_X5_open_35 : decode mb_X5_open 35 = .ok (.getfield 28, 3) := by decide +kernel
theorem dd_X5_open_38 : decode mb_X5_open 38 = .ok (.iload 5, 2) := by decide +kernel
theorem dd_X5_open_40 : decode mb_X5_open 40 = .ok (.iconst (-1), 1) := by decide +kernel
theorem dd_X5_open_41 : decode mb_X5_open 41 = .ok (.iastore, 1) := by decide +kernel
theorem dd_X5_open_42 : decode mb_X5_open 42 = .ok (.aload 4, 2) := by decide +kernel
theorem dd_X5_open_44 : decode mb_X5_open 44 = .ok (.iload 5, 2) := by decide +kernel
theorem dd_X5_open_46 : decode mb_X5_open 46 = .ok (.invokevirtual 51, 3) := by decide +kernel
theorem dd_X5_open_49 : decode mb_X5_open 49 = .ok (.ifCond .eq 38, 3) := by decide +kernel
theorem dd_X5_open_52 : decode mb_X5_open 52 = .ok (.aload_n 0, 1) := by decide +kernel
theorem dd_X5_open_53 : decode mb_X5_open 53 = .ok (.getfield 25, 3) := by decide +kernel
theorem dd_X5_open_56 : decode mb_X5_open 56 = .ok (.iload 5, 2) := by decide +kernel
theorem dd_X5_open_58 : decode mb_X5_open 58 = .ok (.aload 4, 2) := by decide +kernel
theorem dd_X5_open_60 : decode mb_X5_open 60 = .ok (.iload 5, 2) := by decide +kernel
theorem dd_X5_open_62 : decode mb_X5_open 62 = .ok (.invokevirtual 55, 3) := by decide +kernel
theorem dd_X5_open_65 : decode mb_X5_open 65 = .ok (.iastore, 1) := by decide +kernel
theorem dd_X5_open_66 : decode mb_X5_open 66 = .ok (.aload_n 0, 1) := by decide +kernel
theorem dd_X5_open_67 : decode mb_X5_open 67 = .ok (.getfield 18, 3) := by decide +kernel
theorem dd_X5_open_70 : decode mb_X5_open 70 = .ok (.aload_n 0, 1) := by decide +kernel
theorem dd_X5_open_71 : decode mb_X5_open 71 = .ok (.getfield 22, 3) := by decide +kernel
theorem dd_X5_open_74 : decode mb_X5_open 74 = .ok (.iload 5, 2) := by decide +kernel
theorem dd_X5_open_76 : decode mb_X5_open 76 = .ok (.iastore, 1) := by decide +kernel
theorem dd_X5_open_77 : decode mb_X5_open 77 = .ok (.aload_n 0, 1) := by decide +kernel
theorem dd_X5_open_78 : decode mb_X5_open 78 = .ok (.dup, 1) := by decide +kernel
theorem dd_X5_open_79 : decode mb_X5_open 79 = .ok (.getfield 22, 3) := by decide +kernel
theorem dd_X5_open_82 : decode mb_X5_open 82 = .ok (.iconst 1, 1) := by decide +kernel
theorem dd_X5_open_83 : decode mb_X5_open 83 = .ok (.iadd, 1) := by decide +kernel
theorem dd_X5_open_84 : decode mb_X5_open 84 = .ok (.putfield 22, 3) := by decide +kernel
theorem dd_X5_open_87 : decode mb_X5_open 87 = .ok (.iinc 5 1, 3) := by decide +kernel
theorem dd_X5_open_90 : decode mb_X5_open 90 = .ok (.goto (-66), 3) := by decide +kernel
theorem dd_X5_open_93 : decode mb_X5_open 93 = .ok (.iconst 0, 1) := by decide +kernel
theorem dd_X5_open_94 : decode mb_X5_open 94 = .ok (.istore 5, 2) := by decide +kernel
theorem dd_X5_open_96 : decode mb_X5_open 96 = .ok (.iload 5, 2) := by decide +kernel
theorem dd_X5_open_98 : decode mb_X5_open 98 = .ok (.aload_n 1, 1) := by decide +kernel
theorem dd_X5_open_99 : decode mb_X5_open 99 = .ok (.getfield 59, 3) := by decide +kernel
theorem dd_X5_open_102 : decode mb_X5_open 102 = .ok (.getfield 63, 3) := by decide +kernel
theorem dd_X5_open_105 : decode mb_X5_open 105 = .ok (.if_icmp .ge 34, 3) := by decide +kernel
theorem dd_X5_open_108 : decode mb_X5_open 108 = .ok (.aload_n 0, 1) := by decide +kernel
theorem dd_X5_open_109 : decode mb_X5_open 109 = .ok (.getfield 34, 3) := by decide +kernel
theorem dd_X5_open_112 : decode mb_X5_open 112 = .ok (.iload 5, 2) := by decide +kernel
theorem dd_X5_open_114 : decode mb_X5_open 114 = .ok (.aload_n 1, 1) := by decide +kernel
theorem dd_X5_open_115 : decode mb_X5_open 115 = .ok (.getfield 59, 3) := by decide +kernel
theorem dd_X5_open_118 : decode mb_X5_open 118 = .ok (.getfield 66, 3) := by decide +kernel
theorem dd_X5_open_121 : decode mb_X5_open 121 = .ok (.iload 5, 2) := by decide +kernel
theorem dd_X5_open_123 : decode mb_X5_open 123 = .ok (.iaload, 1) := by decide +kernel
theorem dd_X5_open_124 : decode mb_X5_open 124 = .ok (.iastore, 1) := by decide +kernel
theorem dd_X5_open_125 : decode mb_X5_open 125 = .ok (.aload_n 0, 1) := by decide +kernel
theorem dd_X5_open_126 : decode mb_X5_open 126 = .ok (.getfield 37, 3) := by decide +kernel
theorem dd_X5_open_129 : decode mb_X5_open 129 = .ok (.iload 5, 2) := by decide +kernel
theorem dd_X5_open_131 : decode mb_X5_open 131 = .ok (.iconst (-1), 1) := by decide +kernel
theorem dd_X5_open_132 : decode mb_X5_open 132 = .ok (.iastore, 1) := by decide +kernel
theorem dd_X5_open_133 : decode mb_X5_open 133 = .ok (.iinc 5 1, 3) := by decide +kernel
theorem dd_X5_open_136 : decode mb_X5_open 136 = .ok (.goto (-40), 3) := by decide +kernel
theorem dd_X5_open_139 : decode mb_X5_open 139 = .ok (.return_, 1) := by decide +kernel
theorem dd_X5_placeWanted_0 : decode mb_X5_placeWanted 0 = .ok (.aload_n 1, 1) := by decide +kernel
theorem dd_X5_placeWanted_1 : decode mb_X5_placeWanted 1 = .ok (.getfield 40, 3) := by decide +kernel
theorem dd_X5_placeWanted_4 : decode mb_X5_placeWanted 4 = .ok (.astore 4, 2) := by decide +kernel
theorem dd_X5_placeWanted_6 : decode mb_X5_placeWanted 6 = .ok (.aload_n 1, 1) := by decide +kernel
theorem dd_X5_placeWanted_7 : decode mb_X5_placeWanted 7 = .ok (.getfield 59, 3) := by decide +kernel
theorem dd_X5_placeWanted_10 : decode mb_X5_placeWanted 10 = .ok (.astore 5, 2) := by decide +kernel
theorem dd_X5_placeWanted_12 : decode mb_X5_placeWanted 12 = .ok (.iconst (-1), 1) := by decide +kernel
theorem dd_X5_placeWanted_13 : decode mb_X5_placeWanted 13 = .ok (.istore 6, 2) := by decide +kernel
theorem dd_X5_placeWanted_15 : decode mb_X5_placeWanted 15 = .ok (.iconst (-1), 1) := by decide +kernel
theorem dd_X5_placeWanted_16 : decode mb_X5_placeWanted 16 = .ok (.istore 7, 2) := by decide +kernel
theorem dd_X5_placeWanted_18 : decode mb_X5_placeWanted 18 = .ok (.iconst 0, 1) := by decide +kernel
theorem dd_X5_placeWanted_19 : decode mb_X5_placeWanted 19 = .ok (.istore 8, 2) := by decide +kernel
theorem dd_X5_placeWanted_21 : decode mb_X5_placeWanted 21 = .ok (.iload 8, 2) := by decide +kernel
theorem dd_X5_placeWanted_23 : decode mb_X5_placeWanted 23 = .ok (.aload_n 0, 1) := by decide +kernel
theorem dd_X5_placeWanted_24 : decode mb_X5_placeWanted 24 = .ok (.getfield 22, 3) := by decide +kernel
theorem dd_X5_placeWanted_27 : decode mb_X5_placeWanted 27 = .ok (.if_icmp .ge 98, 3) := by decide +kernel
theorem dd_X5_placeWanted_30 : decode mb_X5_placeWanted 30 = .ok (.aload_n 0, 1) := by decide +kernel
theorem dd_X5_placeWanted_31 : decode mb_X5_placeWanted 31 = .ok (.getfield 18, 3) := by decide +kernel
theorem dd_X5_placeWanted_34 : decode mb_X5_placeWanted 34 = .ok (.iload 8, 2) := by decide +kernel
theorem dd_X5_placeWanted_36 : decode mb_X5_placeWanted 36 = .ok (.iaload, 1) := by decide +kernel
theorem dd_X5_placeWanted_37 : decode mb_X5_placeWanted 37 = .ok (.istore 9, 2) := by decide +kernel
theorem dd_X5_placeWanted_39 : decode mb_X5_placeWanted 39 = .ok (.aload 4, 2) := by decide +kernel
theorem dd_X5_placeWanted_41 : decode mb_X5_placeWanted 41 = .ok (.getfield 78, 3) := by decide +kernel
theorem dd_X5_placeWanted_44 : decode mb_X5_placeWanted 44 = .ok (.iload 9, 2) := by decide +kernel
theorem dd_X5_placeWanted_46 : decode mb_X5_placeWanted 46 = .ok (.iaload, 1) := by decide +kernel
theorem dd_X5_placeWanted_47 : decode mb_X5_placeWanted 47 = .ok (.iload_n 3, 1) := by decide +kernel
theorem dd_X5_placeWanted_48 : decode mb_X5_placeWanted 48 = .ok (.invokestatic 81, 3) := by decide +kernel
theorem dd_X5_placeWanted_51 : decode mb_X5_placeWanted 51 = .ok (.istore 10, 2) := by decide +kernel
theorem dd_X5_placeWanted_53 : decode mb_X5_placeWanted 53 = .ok (.aload 4, 2) := by decide +kernel
theorem dd_X5_placeWanted_55 : decode mb_X5_placeWanted 55 = .ok (.iload 9, 2) := by decide +kernel
theorem dd_X5_placeWanted_57 : decode mb_X5_placeWanted 57 = .ok (.aload 5, 2) := by decide +kernel
theorem dd_X5_placeWanted_59 : decode mb_X5_placeWanted 59 = .ok (.getfield 88, 3) := by decide +kernel
theorem dd_X5_placeWanted_62 : decode mb_X5_placeWanted 62 = .ok (.iload_n 2, 1) := by decide +kernel
theorem dd_X5_placeWanted_63 : decode mb_X5_placeWanted 63 = .ok (.iaload, 1) := by decide +kernel
theorem dd_X5_placeWanted_64 : decode mb_X5_placeWanted 64 = .ok (.invokevirtual 91, 3) := by decide +kernel
theorem dd_X5_placeWanted_67 : decode mb_X5_placeWanted 67 = .ok (.ifCond .eq 52, 3) := by decide +kernel
theorem dd_X5_placeWanted_70 : decode mb_X5_placeWanted 70 = .ok (.iload 10, 2) := by decide +kernel
theorem dd_X5_placeWanted_72 : decode mb_X5_placeWanted 72 = .ok (.aload_n 0, 1) := by decide +kernel
theorem dd_X5_placeWanted_73 : decode mb_X5_placeWanted 73 = .ok (.getfield 34, 3) := by decide +kernel
theorem dd_X5_placeWanted_76 : decode mb_X5_placeWanted 76 = .ok (.iload_n 2, 1) := by decide +kernel
theorem dd_X5_placeWanted_77 : decode mb_X5_placeWanted 77 = .ok (.iaload, 1) := by decide +kernel
theorem dd_X5_placeWanted_78 : decode mb_X5_placeWanted 78 = .ok (.if_icmp .gt 41, 3) := by decide +kernel
theorem dd_X5_placeWanted_81 : decode mb_X5_placeWanted 81 = .ok (.aload 5, 2) := by decide +kernel
theorem dd_X5_placeWanted_83 : decode mb_X5_placeWanted 83 = .ok (.getfield 95, 3) := by decide +kernel
theorem dd_X5_placeWanted_86 : decode mb_X5_placeWanted 86 = .ok (.iload_n 2, 1) := by decide +kernel
theorem dd_X5_placeWanted_87 : decode mb_X5_placeWanted 87 = .ok (.iaload, 1) := by decide +kernel
theorem dd_X5_placeWanted_88 : decode mb_X5_placeWanted 88 = .ok (.aload_n 0, 1) := by decide +kernel
theorem dd_X5_placeWanted_89 : decode mb_X5_placeWanted 89 = .ok (.getfield 25, 3) := by decide +kernel
theorem dd_X5_placeWanted_92 : decode mb_X5_placeWanted 92 = .ok (.iload 9, 2) := by decide +kernel
theorem dd_X5_placeWanted_94 : decode mb_X5_placeWanted 94 = .ok (.iaload, 1) := by decide +kernel
theorem dd_X5_placeWanted_95 : decode mb_X5_placeWanted 95 = .ok (.imul, 1) := by decide +kernel
theorem dd_X5_placeWanted_96 : decode mb_X5_placeWanted 96 = .ok (.bipush 100, 2) := by decide +kernel
theorem dd_X5_placeWanted_98 : decode mb_X5_placeWanted 98 = .ok (.idiv, 1) := by decide +kernel
theorem dd_X5_placeWanted_99 : decode mb_X5_placeWanted 99 = .ok (.iload 10, 2) := by decide +kernel
theorem dd_X5_placeWanted_101 : decode mb_X5_placeWanted 101 = .ok (.isub, 1) := by decide +kernel
theorem dd_X5_placeWanted_102 : decode mb_X5_placeWanted 102 = .ok (.istore 11, 2) := by decide +kernel
theorem dd_X5_placeWanted_104 : decode mb_X5_placeWanted 104 = .ok (.iload 11, 2) := by decide +kernel
theorem dd_X5_placeWanted_106 : decode mb_X5_placeWanted 106 = .ok (.iload 7, 2) := by decide +kernel
theorem dd_X5_placeWanted_108 : decode mb_X5_placeWanted 108 = .ok (.if_icmp .le 11, 3) := by decide +kernel
theorem dd_X5_placeWanted_111 : decode mb_X5_placeWanted 111 = .ok (.iload 8, 2) := by decide +kernel
theorem dd_X5_placeWanted_113 : decode mb_X5_placeWanted 113 = .ok (.istore 6, 2) := by decide +kernel
theorem dd_X5_placeWanted_115 : decode mb_X5_placeWanted 115 = .ok (.iload 11, 2) := by decide +kernel
theorem dd_X5_placeWanted_117 : decode mb_X5_placeWanted 117 = .ok (.istore 7, 2) := by decide +kernel
theorem dd_X5_placeWanted_119 : decode mb_X5_placeWanted 119 = .ok (.iinc 8 1, 3) := by decide +kernel
theorem dd_X5_placeWanted_122 : decode mb_X5_placeWanted 122 = .ok (.goto (-101), 3) := by decide +kernel
theorem dd_X5_placeWanted_125 : decode mb_X5_placeWanted 125 = .ok (.iload 6, 2) := by decide +kernel
theorem dd_X5_placeWanted_127 : decode mb_X5_placeWanted 127 = .ok (.ireturn, 1) := by decide +kernel
theorem dd_X5_playHour_0 : decode mb_X5_playHour 0 = .ok (.iload_n 2, 1) := by decide +kernel
theorem dd_X5_playHour_1 : decode mb_X5_playHour 1 = .ok (.aload_n 0, 1) := by decide +kernel
theorem dd_X5_playHour_2 : decode mb_X5_playHour 2 = .ok (.getfield 9, 3) := by decide +kernel
theorem dd_X5_playHour_5 : decode mb_X5_playHour 5 = .ok (.aload_n 0, 1) := by decide +kernel
theorem dd_X5_playHour_6 : decode mb_X5_playHour 6 = .ok (.getfield 15, 3) := by decide +kernel
theorem dd_X5_playHour_9 : decode mb_X5_playHour 9 = .ok (.invokestatic 70, 3) := by decide +kernel
theorem dd_X5_playHour_12 : decode mb_X5_playHour 12 = .ok (.istore_n 3, 1) := by decide +kernel
theorem dd_X5_playHour_13 : decode mb_X5_playHour 13 = .ok (.iconst 0, 1) := by decide +kernel
theorem dd_X5_playHour_14 : decode mb_X5_playHour 14 = .ok (.istore 4, 2) := by decide +kernel
theorem dd_X5_playHour_16 : decode mb_X5_playHour 16 = .ok (.iconst 0, 1) := by decide +kernel
theorem dd_X5_playHour_17 : decode mb_X5_playHour 17 = .ok (.istore 5, 2) := by decide +kernel
theorem dd_X5_playHour_19 : decode mb_X5_playHour 19 = .ok (.iload 5, 2) := by decide +kernel
theorem dd_X5_playHour_21 : decode mb_X5_playHour 21 = .ok (.aload_n 1, 1) := by decide +kernel
theorem dd_X5_playHour_22 : decode mb_X5_playHour 22 = .ok (.getfield 59, 3) := by decide +kernel
theorem dd_X5_playHour_25 : decode mb_X5_playHour 25 = .ok (.getfield 63, 3) := by decide +kernel
theorem dd_X5_playHour_28 : decode mb_X5_playHour 28 = .ok (.if_icmp .ge 93, 3) := by decide +kernel
theorem dd_X5_playHour_31 : decode mb_X5_playHour 31 = .ok (.aload_n 1, 1) := by decide +kernel
theorem dd_X5_playHour_32 : decode mb_X5_playHour 32 = .ok (.getfield 59, 3) := by decide +kernel
theorem dd_X5_playHour_35 : decode mb_X5_playHour 35 = .ok (.getfield 67, 3) := by decide +kernel
theorem dd_X5_playHour_38 : decode mb_X5_playHour 38 = .ok (.iload 5, 2) := by decide +kernel
theorem dd_X5_playHour_40 : decode mb_X5_playHour 40 = .ok (.iaload, 1) := by decide +kernel
theorem dd_X5_playHour_41 : decode mb_X5_playHour 41 = .ok (.iload_n 2, 1) := by decide +kernel
theorem dd_X5_playHour_42 : decode mb_X5_playHour 42 = .ok (.if_icmp .gt 73, 3) := by decide +kernel
theorem dd_X5_playHour_45 : decode mb_X5_playHour 45 = .ok (.aload_n 0, 1) := by decide +kernel
theorem dd_X5_playHour_46 : decode mb_X5_playHour 46 = .ok (.getfield 37, 3) := by decide +kernel
theorem dd_X5_playHour_49 : decode mb_X5_playHour 49 = .ok (.iload 5, 2) := by decide +kernel
theorem dd_X5_playHour_51 : decode mb_X5_playHour 51 = .ok (.iaload, 1) := by decide +kernel
theorem dd_X5_playHour_52 : decode mb_X5_playHour 52 = .ok (.iload_n 3, 1) := by decide +kernel
theorem dd_X5_playHour_53 : decode mb_X5_playHour 53 = .ok (.if_icmp .eq 62, 3) := by decide +kernel
theorem dd_X5_playHour_56 : decode mb_X5_playHour 56 = .ok (.aload_n 0, 1) := by decide +kernel
theorem dd_X5_playHour_57 : decode mb_X5_playHour 57 = .ok (.aload_n 1, 1) := by decide +kernel
theorem dd_X5_playHour_58 : decode mb_X5_playHour 58 = .ok (.iload 5, 2) := by decide +kernel
theorem dd_X5_playHour_60 : decode mb_X5_playHour 60 = .ok (.iload_n 3, 1) := by decide +kernel
theorem dd_X5_playHour_61 : decode mb_X5_playHour 61 = .ok (.invokevirtual 74, 3) := by decide +kernel
theorem dd_X5_playHour_64 : decode mb_X5_playHour 64 = .ok (.istore 6, 2) := by decide +kernel
theorem dd_X5_playHour_66 : decode mb_X5_playHour 66 = .ok (.iload 6, 2) := by decide +kernel
theorem dd_X5_playHour_68 : decode mb_X5_playHour 68 = .ok (.iconst (-1), 1) := by decide +kernel
theorem dd_X5_playHour_69 : decode mb_X5_playHour 69 = .ok (.if_icmp .ne 14, 3) := by decide +kernel
theorem dd_X5_playHour_72 : decode mb_X5_playHour 72 = .ok (.aload_n 0, 1) := by decide +kernel
theorem dd_X5_playHour_73 : decode mb_X5_playHour 73 = .ok (.getfield 37, 3) := by decide +kernel
theorem dd_X5_playHour_76 : decode mb_X5_playHour 76 = .ok (.iload 5, 2) := by decide +kernel
theorem dd_X5_playHour_78 : decode mb_X5_playHour 78 = .ok (.iload_n 3, 1) := by decide +kernel
theorem dd_X5_playHour_79 : decode mb_X5_playHour 79 = .ok (.iastore, 1) := by decide +kernel
theorem dd_X5_playHour_80 : decode mb_X5_playHour 80 = .ok (.goto 35, 3) := by decide +kernel
theorem dd_X5_playHour_83 : decode mb_X5_playHour 83 = .ok (.iload 4, 2) := by decide +kernel
theorem dd_X5_playHour_85 : decode mb_X5_playHour 85 = .ok (.aload_n 0, 1) := by decide +kernel
theorem dd_X5_playHour_86 : decode mb_X5_playHour 86 = .ok (.iload 6, 2) := by decide +kernel
theorem dd_X5_playHour_88 : decode mb_X5_playHour 88 = .ok (.iload 5, 2) := by decide +kernel
theorem dd_X5_playHour_90 : decode mb_X5_playHour 90 = .ok (.aload_n 1, 1) := by decide +kernel
theorem dd_X5_playHour_91 : decode mb_X5_playHour 91 = .ok (.getfield 40, 3) := by decide +kernel
theorem dd_X5_playHour_94 : decode mb_X5_playHour 94 = .ok (.getfield 78, 3) := by decide +kernel
theorem dd_X5_playHour_97 : decode mb_X5_playHour 97 = .ok (.aload_n 0, 1) := by decide +kernel
theorem dd_X5_playHour_98 : decode mb_X5_playHour 98 = .ok (.getfield 18, 3) := by decide +kernel
theorem dd_X5_playHour_101 : decode mb_X5_playHour 101 = .ok (.iload 6, 2) := by decide +kernel
theorem dd_X5_playHour_103 : decode mb_X5_playHour 103 = .ok (.iaload, 1) := by decide +kernel
theorem dd_X5_playHour_104 : decode mb_X5_playHour 104 = .ok (.iaload, 1) := by decide +kernel
theorem dd_X5_playHour_105 : decode mb_X5_playHour 105 = .ok (.iload_n 3, 1) := by decide +kernel
theorem dd_X5_playHour_106 : decode mb_X5_playHour 106 = .ok (.invokestatic 81, 3) := by decide +kernel
theorem dd_X5_playHour_109 : decode mb_X5_playHour 109 = .ok (.invokevirtual 85, 3) := by decide +kernel
theorem dd_X5_playHour_112 : decode mb_X5_playHour 112 = .ok (.iadd, 1) := by decide +kernel
theorem dd_X5_playHour_113 : decode mb_X5_playHour 113 = .ok (.istore 4, 2) := by decide +kernel
theorem dd_X5_playHour_115 : decode mb_X5_playHour 115 = .ok (.iinc 5 1, 3) := by decide +kernel
theorem dd_X5_playHour_118 : decode mb_X5_playHour 118 = .ok (.goto (-99), 3) := by decide +kernel
theorem dd_X5_playHour_121 : decode mb_X5_playHour 121 = .ok (.iload 4, 2) := by decide +kernel
theorem dd_X5_playHour_123 : decode mb_X5_playHour 123 = .ok (.ireturn, 1) := by decide +kernel
theorem dd_X5_sell_0 : decode mb_X5_sell 0 = .ok (.aload_n 0, 1) := by decide +kernel
theorem dd_X5_sell_1 : decode mb_X5_sell 1 = .ok (.getfield 18, 3) := by decide +kernel
theorem dd_X5_sell_4 : decode mb_X5_sell 4 = .ok (.iload_n 1, 1) := by decide +kernel
theorem dd_X5_sell_5 : decode mb_X5_sell 5 = .ok (.iaload, 1) := by decide +kernel
theorem dd_X5_sell_6 : decode mb_X5_sell 6 = .ok (.istore 4, 2) := by decide +kernel
theorem dd_X5_sell_8 : decode mb_X5_sell 8 = .ok (.aload_n 0, 1) := by decide +kernel
theorem dd_X5_sell_9 : decode mb_X5_sell 9 = .ok (.getfield 28, 3) := by decide +kernel
theorem dd_X5_sell_12 : decode mb_X5_sell 12 = .ok (.iload 4, 2) := by decide +kernel
theorem dd_X5_sell_14 : decode mb_X5_sell 14 = .ok (.iload_n 2, 1) := by decide +kernel
theorem dd_X5_sell_15 : decode mb_X5_sell 15 = .ok (.iastore, 1) := by decide +kernel
theorem dd_X5_sell_16 : decode mb_X5_sell 16 = .ok (.aload_n 0, 1) := by decide +kernel
theorem dd_X5_sell_17 : decode mb_X5_sell 17 = .ok (.getfield 31, 3) := by decide +kernel
theorem dd_X5_sell_20 : decode mb_X5_sell 20 = .ok (.iload 4, 2) := by decide +kernel
theorem dd_X5_sell_22 : decode mb_X5_sell 22 = .ok (.iload_n 3, 1) := by decide +kernel
theorem dd_X5_sell_23 : decode mb_X5_sell 23 = .ok (.iastore, 1) := by decide +kernel
theorem dd_X5_sell_24 : decode mb_X5_sell 24 = .ok (.aload_n 0, 1) := by decide +kernel
theorem dd_X5_sell_25 : decode mb_X5_sell 25 = .ok (.getfield 34, 3) := by decide +kernel
theorem dd_X5_sell_28 : decode mb_X5_sell 28 = .ok (.iload_n 2, 1) := by decide +kernel
theorem dd_X5_sell_29 : decode mb_X5_sell 29 = .ok (.dup2, 1) := by decide +kernel
theorem dd_X5_sell_30 : decode mb_X5_sell 30 = .ok (.iaload, 1) := by decide +kernel
theorem dd_X5_sell_31 : decode mb_X5_sell 31 = .ok (.iload_n 3, 1) := by decide +kernel
theorem dd_X5_sell_32 : decode mb_X5_sell 32 = .ok (.isub, 1) := by decide +kernel
theorem dd_X5_sell_33 : decode mb_X5_sell 33 = .ok (.iastore, 1) := by decide +kernel
theorem dd_X5_sell_34 : decode mb_X5_sell 34 = .ok (.aload_n 0, 1) := by decide +kernel
theorem dd_X5_sell_35 : decode mb_X5_sell 35 = .ok (.dup, 1) := by decide +kernel
theorem dd_X5_sell_36 : decode mb_X5_sell 36 = .ok (.getfield 22, 3) := by decide +kernel
theorem dd_X5_sell_39 : decode mb_X5_sell 39 = .ok (.iconst 1, 1) := by decide +kernel
theorem dd_X5_sell_40 : decode mb_X5_sell 40 = .ok (.isub, 1) := by decide +kernel
theorem dd_X5_sell_41 : decode mb_X5_sell 41 = .ok (.putfield 22, 3) := by decide +kernel
theorem dd_X5_sell_44 : decode mb_X5_sell 44 = .ok (.aload_n 0, 1) := by decide +kernel
theorem dd_X5_sell_45 : decode mb_X5_sell 45 = .ok (.getfield 18, 3) := by decide +kernel
theorem dd_X5_sell_48 : decode mb_X5_sell 48 = .ok (.iload_n 1, 1) := by decide +kernel
theorem dd_X5_sell_49 : decode mb_X5_sell 49 = .ok (.iconst 1, 1) := by decide +kernel
theorem dd_X5_sell_50 : decode mb_X5_sell 50 = .ok (.iadd, 1) := by decide +kernel
theorem dd_X5_sell_51 : decode mb_X5_sell 51 = .ok (.aload_n 0, 1) := by decide +kernel
theorem dd_X5_sell_52 : decode mb_X5_sell 52 = .ok (.getfield 18, 3) := by decide +kernel
theorem dd_X5_sell_55 : decode mb_X5_sell 55 = .ok (.iload_n 1, 1) := by decide +kernel
theorem dd_X5_sell_56 : decode mb_X5_sell 56 = .ok (.aload_n 0, 1) := by decide +kernel
theorem dd_X5_sell_57 : decode mb_X5_sell 57 = .ok (.getfield 22, 3) := by decide +kernel
theorem dd_X5_sell_60 : decode mb_X5_sell 60 = .ok (.iload_n 1, 1) := by decide +kernel
theorem dd_X5_sell_61 : decode mb_X5_sell 61 = .ok (.isub, 1) := by decide +kernel
theorem dd_X5_sell_62 : decode mb_X5_sell 62 = .ok (.invokestatic 98, 3) := by decide +kernel
theorem dd_X5_sell_65 : decode mb_X5_sell 65 = .ok (.iload_n 3, 1) := by decide +kernel
theorem dd_X5_sell_66 : decode mb_X5_sell 66 = .ok (.ireturn, 1) := by decide +kernel
theorem dd_X5_settle_0 : decode mb_X5_settle 0 = .ok (.aload_n 1, 1) := by decide +kernel
theorem dd_X5_settle_1 : decode mb_X5_settle 1 = .ok (.getfield 40, 3) := by decide +kernel
theorem dd_X5_settle_4 : decode mb_X5_settle 4 = .ok (.astore_n 2, 1) := by decide +kernel
theorem dd_X5_settle_5 : decode mb_X5_settle 5 = .ok (.aload_n 1, 1) := by decide +kernel
theorem dd_X5_settle_6 : decode mb_X5_settle 6 = .ok (.getfield 59, 3) := by decide +kernel
theorem dd_X5_settle_9 : decode mb_X5_settle 9 = .ok (.astore_n 3, 1) := by decide +kernel
theorem dd_X5_settle_10 : decode mb_X5_settle 10 = .ok (.iconst 0, 1) := by decide +kernel
theorem dd_X5_settle_11 : decode mb_X5_settle 11 = .ok (.istore 4, 2) := by decide +kernel
theorem dd_X5_settle_13 : decode mb_X5_settle 13 = .ok (.iload 4, 2) := by decide +kernel
theorem dd_X5_settle_15 : decode mb_X5_settle 15 = .ok (.aload_n 2, 1) := by decide +kernel
theorem dd_X5_settle_16 : decode mb_X5_settle 16 = .ok (.getfield 46, 3) := by decide +kernel
theorem dd_X5_settle_19 : decode mb_X5_settle 19 = .ok (.if_icmp .ge 78, 3) := by decide +kernel
theorem dd_X5_settle_22 : decode mb_X5_settle 22 = .ok (.aload_n 0, 1) := by decide +kernel
theorem dd_X5_settle_23 : decode mb_X5_settle 23 = .ok (.getfield 28, 3) := by decide +kernel
theorem dd_X5_settle_26 : decode mb_X5_settle 26 = .ok (.iload 4, 2) := by decide +kernel
theorem dd_X5_settle_28 : decode mb_X5_settle 28 = .ok (.iaload, 1) := by decide +kernel
theorem dd_X5_settle_29 : decode mb_X5_settle 29 = .ok (.istore 5, 2) := by decide +kernel
theorem dd_X5_settle_31 : decode mb_X5_settle 31 = .ok (.aload_n 3, 1) := by decide +kernel
theorem dd_X5_settle_32 : decode mb_X5_settle 32 = .ok (.iload 5, 2) := by decide +kernel
theorem dd_X5_settle_34 : decode mb_X5_settle 34 = .ok (.invokevirtual 115, 3) := by decide +kernel
theorem dd_X5_settle_37 : decode mb_X5_settle 37 = .ok (.ifCond .eq 54, 3) := by decide +kernel
theorem dd_X5_settle_40 : decode mb_X5_settle 40 = .ok (.aload_n 2, 1) := by decide +kernel
theorem dd_X5_settle_41 : decode mb_X5_settle 41 = .ok (.getfield 118, 3) := by decide +kernel
theorem dd_X5_settle_44 : decode mb_X5_settle 44 = .ok (.iload 4, 2) := by decide +kernel
theorem dd_X5_settle_46 : decode mb_X5_settle 46 = .ok (.iload 5, 2) := by decide +kernel
theorem dd_X5_settle_48 : decode mb_X5_settle 48 = .ok (.iastore, 1) := by decide +kernel
theorem dd_X5_settle_49 : decode mb_X5_settle 49 = .ok (.aload_n 2, 1) := by decide +kernel
theorem dd_X5_settle_50 : decode mb_X5_settle 50 = .ok (.getfield 119, 3) := by decide +kernel
theorem dd_X5_settle_53 : decode mb_X5_settle 53 = .ok (.iload 4, 2) := by decide +kernel
theorem dd_X5_settle_55 : decode mb_X5_settle 55 = .ok (.aload_n 0, 1) := by decide +kernel
theorem dd_X5_settle_56 : decode mb_X5_settle 56 = .ok (.getfield 31, 3) := by decide +kernel
theorem dd_X5_settle_59 : decode mb_X5_settle 59 = .ok (.iload 4, 2) := by decide +kernel
theorem dd_X5_settle_61 : decode mb_X5_settle 61 = .ok (.iaload, 1) := by decide +kernel
theorem dd_X5_settle_62 : decode mb_X5_settle 62 = .ok (.iastore, 1) := by decide +kernel
theorem dd_X5_settle_63 : decode mb_X5_settle 63 = .ok (.aload_n 3, 1) := by decide +kernel
theorem dd_X5_settle_64 : decode mb_X5_settle 64 = .ok (.getfield 66, 3) := by decide +kernel
theorem dd_X5_settle_67 : decode mb_X5_settle 67 = .ok (.iload 5, 2) := by decide +kernel
theorem dd_X5_settle_69 : decode mb_X5_settle 69 = .ok (.dup2, 1) := by decide +kernel
theorem dd_X5_settle_70 : decode mb_X5_settle 70 = .ok (.iaload, 1) := by decide +kernel
theorem dd_X5_settle_71 : decode mb_X5_settle 71 = .ok (.aload_n 0, 1) := by decide +kernel
theorem dd_X5_settle_72 : decode mb_X5_settle 72 = .ok (.getfield 31, 3) := by decide +kernel
theorem dd_X5_settle_75 : decode mb_X5_settle 75 = .ok (.iload 4, 2) := by decide +kernel
theorem dd_X5_settle_77 : decode mb_X5_settle 77 = .ok (.iaload, 1) := by decide +kernel
theorem dd_X5_settle_78 : decode mb_X5_settle 78 = .ok (.isub, 1) := by decide +kernel
theorem dd_X5_settle_79 : decode mb_X5_settle 79 = .ok (.iastore, 1) := by decide +kernel
theorem dd_X5_settle_80 : decode mb_X5_settle 80 = .ok (.aload_n 3, 1) := by decide +kernel
theorem dd_X5_settle_81 : decode mb_X5_settle 81 = .ok (.getfield 120, 3) := by decide +kernel
theorem dd_X5_settle_84 : decode mb_X5_settle 84 = .ok (.iload 5, 2) := by decide +kernel
theorem dd_X5_settle_86 : decode mb_X5_settle 86 = .ok (.dup2, 1) := by decide +kernel
theorem dd_X5_settle_87 : decode mb_X5_settle 87 = .ok (.iaload, 1) := by decide +kernel
theorem dd_X5_settle_88 : decode mb_X5_settle 88 = .ok (.iconst 1, 1) := by decide +kernel
theorem dd_X5_settle_89 : decode mb_X5_settle 89 = .ok (.iadd, 1) := by decide +kernel
theorem dd_X5_settle_90 : decode mb_X5_settle 90 = .ok (.iastore, 1) := by decide +kernel
theorem dd_X5_settle_91 : decode mb_X5_settle 91 = .ok (.iinc 4 1, 3) := by decide +kernel
theorem dd_X5_settle_94 : decode mb_X5_settle 94 = .ok (.goto (-81), 3) := by decide +kernel
theorem dd_X5_settle_97 : decode mb_X5_settle 97 = .ok (.return_, 1) := by decide +kernel
theorem dd_X5_stage_0 : decode mb_X5_stage 0 = .ok (.iload_n 0, 1) := by decide +kernel
theorem dd_X5_stage_1 : decode mb_X5_stage 1 = .ok (.iload_n 2, 1) := by decide +kernel
theorem dd_X5_stage_2 : decode mb_X5_stage 2 = .ok (.if_icmp .lt 5, 3) := by decide +kernel
theorem dd_X5_stage_5 : decode mb_X5_stage 5 = .ok (.iconst 2, 1) := by decide +kernel
theorem dd_X5_stage_6 : decode mb_X5_stage 6 = .ok (.ireturn, 1) := by decide +kernel
theorem dd_X5_stage_7 : decode mb_X5_stage 7 = .ok (.iload_n 0, 1) := by decide +kernel
theorem dd_X5_stage_8 : decode mb_X5_stage 8 = .ok (.iload_n 1, 1) := by decide +kernel
theorem dd_X5_stage_9 : decode mb_X5_stage 9 = .ok (.if_icmp .lt 7, 3) := by decide +kernel
theorem dd_X5_stage_12 : decode mb_X5_stage 12 = .ok (.iconst 1, 1) := by decide +kernel
theorem dd_X5_stage_13 : decode mb_X5_stage 13 = .ok (.goto 4, 3) := by decide +kernel
theorem dd_X5_stage_16 : decode mb_X5_stage 16 = .ok (.iconst 0, 1) := by decide +kernel
theorem dd_X5_stage_17 : decode mb_X5_stage 17 = .ok (.ireturn, 1) := by decide +kernel
theorem dd_X5_wanted_0 : decode mb_X5_wanted 0 = .ok (.aload_n 1, 1) := by decide +kernel
theorem dd_X5_wanted_1 : decode mb_X5_wanted 1 = .ok (.getfield 59, 3) := by decide +kernel
theorem dd_X5_wanted_4 : decode mb_X5_wanted 4 = .ok (.getfield 67, 3) := by decide +kernel
theorem dd_X5_wanted_7 : decode mb_X5_wanted 7 = .ok (.iload_n 2, 1) := by decide +kernel
theorem dd_X5_wanted_8 : decode mb_X5_wanted 8 = .ok (.iaload, 1) := by decide +kernel
theorem dd_X5_wanted_9 : decode mb_X5_wanted 9 = .ok (.iload_n 3, 1) := by decide +kernel
theorem dd_X5_wanted_10 : decode mb_X5_wanted 10 = .ok (.if_icmp .le 5, 3) := by decide +kernel
theorem dd_X5_wanted_13 : decode mb_X5_wanted 13 = .ok (.iconst (-1), 1) := by decide +kernel
theorem dd_X5_wanted_14 : decode mb_X5_wanted 14 = .ok (.ireturn, 1) := by decide +kernel
theorem dd_X5_wanted_15 : decode mb_X5_wanted 15 = .ok (.aload_n 0, 1) := by decide +kernel
theorem dd_X5_wanted_16 : decode mb_X5_wanted 16 = .ok (.aload_n 1, 1) := by decide +kernel
theorem dd_X5_wanted_17 : decode mb_X5_wanted 17 = .ok (.iload_n 2, 1) := by decide +kernel
theorem dd_X5_wanted_18 : decode mb_X5_wanted 18 = .ok (.iload_n 3, 1) := by decide +kernel
theorem dd_X5_wanted_19 : decode mb_X5_wanted 19 = .ok (.aload_n 0, 1) := by decide +kernel
theorem dd_X5_wanted_20 : decode mb_X5_wanted 20 = .ok (.getfield 9, 3) := by decide +kernel
theorem dd_X5_wanted_23 : decode mb_X5_wanted 23 = .ok (.aload_n 0, 1) := by decide +kernel
theorem dd_X5_wanted_24 : decode mb_X5_wanted 24 = .ok (.getfield 15, 3) := by decide +kernel
theorem dd_X5_wanted_27 : decode mb_X5_wanted 27 = .ok (.invokestatic 70, 3) := by decide +kernel
theorem dd_X5_wanted_30 : decode mb_X5_wanted 30 = .ok (.invokevirtual 74, 3) := by decide +kernel
theorem dd_X5_wanted_33 : decode mb_X5_wanted 33 = .ok (.istore 4, 2) := by decide +kernel
theorem dd_X5_wanted_35 : decode mb_X5_wanted 35 = .ok (.iload 4, 2) := by decide +kernel
theorem dd_X5_wanted_37 : decode mb_X5_wanted 37 = .ok (.iconst (-1), 1) := by decide +kernel
theorem dd_X5_wanted_38 : decode mb_X5_wanted 38 = .ok (.if_icmp .ne 7, 3) := by decide +kernel
theorem dd_X5_wanted_41 : decode mb_X5_wanted 41 = .ok (.iconst (-1), 1) := by decide +kernel
theorem dd_X5_wanted_42 : decode mb_X5_wanted 42 = .ok (.goto 10, 3) := by decide +kernel
theorem dd_X5_wanted_45 : decode mb_X5_wanted 45 = .ok (.aload_n 0, 1) := by decide +kernel
theorem dd_X5_wanted_46 : decode mb_X5_wanted 46 = .ok (.getfield 18, 3) := by decide +kernel
theorem dd_X5_wanted_49 : decode mb_X5_wanted 49 = .ok (.iload 4, 2) := by decide +kernel
theorem dd_X5_wanted_51 : decode mb_X5_wanted 51 = .ok (.iaload, 1) := by decide +kernel
theorem dd_X5_wanted_52 : decode mb_X5_wanted 52 = .ok (.ireturn, 1) := by decide +kernel
theorem dd_X5_wholeDay_0 : decode mb_X5_wholeDay 0 = .ok (.aload_n 0, 1) := by decide +kernel
theorem dd_X5_wholeDay_1 : decode mb_X5_wholeDay 1 = .ok (.aload_n 1, 1) := by decide +kernel
theorem dd_X5_wholeDay_2 : decode mb_X5_wholeDay 2 = .ok (.iload_n 2, 1) := by decide +kernel
theorem dd_X5_wholeDay_3 : decode mb_X5_wholeDay 3 = .ok (.iload_n 3, 1) := by decide +kernel
theorem dd_X5_wholeDay_4 : decode mb_X5_wholeDay 4 = .ok (.invokevirtual 104, 3) := by decide +kernel
theorem dd_X5_wholeDay_7 : decode mb_X5_wholeDay 7 = .ok (.iconst 0, 1) := by decide +kernel
theorem dd_X5_wholeDay_8 : decode mb_X5_wholeDay 8 = .ok (.istore 4, 2) := by decide +kernel
theorem dd_X5_wholeDay_10 : decode mb_X5_wholeDay 10 = .ok (.iconst 0, 1) := by decide +kernel
theorem dd_X5_wholeDay_11 : decode mb_X5_wholeDay 11 = .ok (.istore 5, 2) := by decide +kernel
theorem dd_X5_wholeDay_13 : decode mb_X5_wholeDay 13 = .ok (.iload 5, 2) := by decide +kernel
theorem dd_X5_wholeDay_15 : decode mb_X5_wholeDay 15 = .ok (.bipush 12, 2) := by decide +kernel
theorem dd_X5_wholeDay_17 : decode mb_X5_wholeDay 17 = .ok (.if_icmp .ge 21, 3) := by decide +kernel
theorem dd_X5_wholeDay_20 : decode mb_X5_wholeDay 20 = .ok (.iload 4, 2) := by decide +kernel
theorem dd_X5_wholeDay_22 : decode mb_X5_wholeDay 22 = .ok (.aload_n 0, 1) := by decide +kernel
theorem dd_X5_wholeDay_23 : decode mb_X5_wholeDay 23 = .ok (.aload_n 1, 1) := by decide +kernel
theorem dd_X5_wholeDay_24 : decode mb_X5_wholeDay 24 = .ok (.iload 5, 2) := by decide +kernel
theorem dd_X5_wholeDay_26 : decode mb_X5_wholeDay 26 = .ok (.invokevirtual 108, 3) := by decide +kernel
theorem dd_X5_wholeDay_29 : decode mb_X5_wholeDay 29 = .ok (.iadd, 1) := by decide +kernel
theorem dd_X5_wholeDay_30 : decode mb_X5_wholeDay 30 = .ok (.istore 4, 2) := by decide +kernel
theorem dd_X5_wholeDay_32 : decode mb_X5_wholeDay 32 = .ok (.iinc 5 1, 3) := by decide +kernel
theorem dd_X5_wholeDay_35 : decode mb_X5_wholeDay 35 = .ok (.goto (-22), 3) := by decide +kernel
theorem dd_X5_wholeDay_38 : decode mb_X5_wholeDay 38 = .ok (.iload 4, 2) := by decide +kernel
theorem dd_X5_wholeDay_40 : decode mb_X5_wholeDay 40 = .ok (.ireturn, 1) := by decide +kernel
theorem dd_X6_add_0 : decode mb_X6_add 0 = .ok (.aload_n 0, 1) := by decide +kernel
theorem dd_X6_add_1 : decode mb_X6_add 1 = .ok (.getfield 9, 3) := by decide +kernel
theorem dd_X6_add_4 : decode mb_X6_add 4 = .ok (.aload_n 0, 1) := by decide +kernel
theorem dd_X6_add_5 : decode mb_X6_add 5 = .ok (.getfield 18, 3) := by decide +kernel
theorem dd_X6_add_8 : decode mb_X6_add 8 = .ok (.iload_n 1, 1) := by decide +kernel
theorem dd_X6_add_9 : decode mb_X6_add 9 = .ok (.iastore, 1) := by decide +kernel
theorem dd_X6_add_10 : decode mb_X6_add 10 = .ok (.aload_n 0, 1) := by decide +kernel
theorem dd_X6_add_11 : decode mb_X6_add 11 = .ok (.getfield 15, 3) := by decide +kernel
theorem dd_X6_add_14 : decode mb_X6_add 14 = .ok (.aload_n 0, 1) := by decide +kernel
theorem dd_X6_add_15 : decode mb_X6_add 15 = .ok (.getfield 18, 3) := by decide +kernel
theorem dd_X6_add_18 : decode mb_X6_add 18 = .ok (.iload_n 2, 1) := by decide +kernel
theorem dd_X6_add_19 : decode mb_X6_add 19 = .ok (.iastore, 1) := by decide +kernel
theorem dd_X6_add_20 : decode mb_X6_add 20 = .ok (.aload_n 0, 1) := by decide +kernel
theorem dd_X6_add_21 : decode mb_X6_add 21 = .ok (.dup, 1) := by decide +kernel
theorem dd_X6_add_22 : decode mb_X6_add 22 = .ok (.getfield 18, 3) := by decide +kernel
theorem dd_X6_add_25 : decode mb_X6_add 25 = .ok (.iconst 1, 1) := by decide +kernel
theorem dd_X6_add_26 : decode mb_X6_add 26 = .ok (.iadd, 1) := by decide +kernel
theorem dd_X6_add_27 : decode mb_X6_add 27 = .ok (.putfield 18, 3) := by decide +kernel
theorem dd_X6_add_30 : decode mb_X6_add 30 = .ok (.aload_n 0, 1) := by decide +kernel
theorem dd_X6_add_31 : decode mb_X6_add 31 = .ok (.getfield 18, 3) := by decide +kernel
theorem dd_X6_add_34 : decode mb_X6_add 34 = .ok (.iconst 1, 1) := by decide +kernel
theorem dd_X6_add_35 : decode mb_X6_add 35 = .ok (.isub, 1) := by decide +kernel
theorem dd_X6_add_36 : decode mb_X6_add 36 = .ok (.ireturn, 1) := by decide +kernel
theorem dd_X6_become_0 : decode mb_X6_become 0 = .ok (.aload_n 1, 1) := by decide +kernel
theorem dd_X6_become_1 : decode mb_X6_become 1 = .ok (.getfield 9, 3) := by decide +kernel
theorem dd_X6_become_4 : decode mb_X6_become 4 = .ok (.iconst 0, 1) := by decide +kernel
theorem dd_X6_become_5 : decode mb_X6_become 5 = .ok (.aload_n 0, 1) := by decide +kernel
theorem dd_X6_become_6 : decode mb_X6_become 6 = .ok (.getfield 9, 3) := by decide +kernel
theorem dd_X6_become_9 : decode mb_X6_become 9 = .ok (.iconst 0, 1) := by decide +kernel
theorem dd_X6_become_10 : decode mb_X6_become 10 = .ok (.bipush 10, 2) := by decide +kernel
theorem dd_X6_become_12 : decode mb_X6_become 12 = .ok (.invokestatic 61, 3) := by decide +kernel
theorem dd_X6_become_15 : decode mb_X6_become 15 = .ok (.aload_n 1, 1) := by decide +kernel
theorem dd_X6_become_16 : decode mb_X6_become 16 = .ok (.getfield 15, 3) := by decide +kernel
theorem dd_X6_become_19 : decode mb_X6_become 19 = .ok (.iconst 0, 1) := by decide +kernel
theorem dd_X6_become_20 : decode mb_X6_become 20 = .ok (.aload_n 0, 1) := by decide +kernel
theorem dd_X6_become_21 : decode mb_X6_become 21 = .ok (.getfield 15, 3) := by decide +kernel
theorem dd_X6_become_24 : decode mb_X6_become 24 = .ok (.iconst 0, 1) := by decide +kernel
theorem dd_X6_become_25 : decode mb_X6_become 25 = .ok (.bipush 10, 2) := by decide +kernel
theorem dd_X6_become_27 : decode mb_X6_become 27 = .ok (.invokestatic 61, 3) := by decide +kernel
theorem dd_X6_become_30 : decode mb_X6_become 30 = .ok (.aload_n 1, 1) := by decide +kernel
theorem dd_X6_become_31 : decode mb_X6_become 31 = .ok (.getfield 22, 3) := by decide +kernel
theorem dd_X6_become_34 : decode mb_X6_become 34 = .ok (.iconst 0, 1) := by decide +kernel
theorem dd_X6_become_35 : decode mb_X6_become 35 = .ok (.aload_n 0, 1) := by decide +kernel
theorem dd_X6_become_36 : decode mb_X6_become 36 = .ok (.getfield 22, 3) := by decide +kernel
theorem dd_X6_become_39 : decode mb_X6_become 39 = .ok (.iconst 0, 1) := by decide +kernel
theorem dd_X6_become_40 : decode mb_X6_become 40 = .ok (.bipush 16, 2) := by decide +kernel
theorem dd_X6_become_42 : decode mb_X6_become 42 = .ok (.invokestatic 61, 3) := by decide +kernel
theorem dd_X6_become_45 : decode mb_X6_become 45 = .ok (.aload_n 0, 1) := by decide +kernel
theorem dd_X6_become_46 : decode mb_X6_become 46 = .ok (.aload_n 1, 1) := by decide +kernel
theorem dd_X6_become_47 : decode mb_X6_become 47 = .ok (.getfield 18, 3) := by decide +kernel
theorem dd_X6_become_50 : decode mb_X6_become 50 = .ok (.putfield 18, 3) := by decide +kernel
theorem dd_X6_become_53 : decode mb_X6_become 53 = .ok (.return_, 1) := by decide +kernel
theorem dd_X6_canLie_0 : decode mb_X6_canLie 0 = .ok (.iconst 0, 1) := by decide +kernel
theorem dd_X6_canLie_1 : decode mb_X6_canLie 1 = .ok (.istore_n 2, 1) := by decide +kernel
theorem dd_X6_canLie_2 : decode mb_X6_canLie 2 = .ok (.iload_n 2, 1) := by decide +kernel
theorem dd_X6_canLie_3 : decode mb_X6_canLie 3 = .ok (.bipush 31, 2) := by decide +kernel
theorem dd_X6_canLie_5 : decode mb_X6_canLie 5 = .ok (.if_icmp .gt 86, 3) := by decide +kernel
theorem dd_X6_canLie_8 : decode mb_X6_canLie 8 = .ok (.iconst 0, 1) := by decide +kernel
theorem dd_X6_canLie_9 : decode mb_X6_canLie 9 = .ok (.istore_n 3, 1) := by decide +kernel
theorem dd_X6_canLie_10 : decode mb_X6_canLie 10 = .ok (.iconst 0, 1) := by decide +kernel
theorem dd_X6_canLie_11 : decode mb_X6_canLie 11 = .ok (.istore 4, 2) := by decide +kernel
theorem dd_X6_canLie_13 : decode mb_X6_canLie 13 = .ok (.iload 4, 2) := by decide +kernel
theorem dd_X6_canLie_15 : decode mb_X6_canLie 15 = .ok (.iconst 5, 1) := by decide +kernel
theorem dd_X6_canLie_16 : decode mb_X6_canLie 16 = .ok (.if_icmp .ge 28, 3) := by decide +kernel
theorem dd_X6_canLie_19 : decode mb_X6_canLie 19 = .ok (.iload_n 2, 1) := by decide +kernel
theorem dd_X6_canLie_20 : decode mb_X6_canLie 20 = .ok (.iload 4, 2) := by decide +kernel
theorem dd_X6_canLie_22 : decode mb_X6_canLie 22 = .ok (.invokestatic 57, 3) := by decide +kernel
theorem dd_X6_canLie_25 : decode mb_X6_canLie 25 = .ok (.ifCond .eq 13, 3) := by decide +kernel
theorem dd_X6_canLie_28 : decode mb_X6_canLie 28 = .ok (.iload_n 3, 1) := by decide +kernel
theorem dd_X6_canLie_29 : decode mb_X6_canLie 29 = .ok (.aload_n 0, 1) := by decide +kernel
theorem dd_X6_canLie_30 : decode mb_X6_canLie 30 = .ok (.getfield 37, 3) := by decide +kernel
theorem dd_X6_canLie_33 : decode mb_X6_canLie 33 = .ok (.iload 4, 2) := by decide +kernel
theorem dd_X6_canLie_35 : decode mb_X6_canLie 35 = .ok (.iaload, 1) := by decide +kernel
theorem dd_X6_canLie_36 : decode mb_X6_canLie 36 = .ok (.iadd, 1) := by decide +kernel
theorem dd_X6_canLie_37 : decode mb_X6_canLie 37 = .ok (.istore_n 3, 1) := by decide +kernel
theorem dd_X6_canLie_38 : decode mb_X6_canLie 38 = .ok (.iinc 4 1, 3) := by decide +kernel
theorem dd_X6_canLie_41 : decode mb_X6_canLie 41 = .ok (.goto (-28), 3) := by decide +kernel
theorem dd_X6_canLie_44 : decode mb_X6_canLie 44 = .ok (.iload_n 1, 1) := by decide +kernel
theorem dd_X6_canLie_45 : decode mb_X6_canLie 45 = .ok (.istore 4, 2) := by decide +kernel
theorem dd_X6_canLie_47 : decode mb_X6_canLie 47 = .ok (.iload 4, 2) := by decide +kernel
theorem dd_X6_canLie_49 : decode mb_X6_canLie 49 = .ok (.aload_n 0, 1) := by decide +kernel
theorem dd_X6_canLie_50 : decode mb_X6_canLie 50 = .ok (.getfield 34, 3) := by decide +kernel
theorem dd_X6_canLie_53 : decode mb_X6_canLie 53 = .ok (.if_icmp .ge 26, 3) := by decide +kernel
theorem dd_X6_canLie_56 : decode mb_X6_canLie 56 = .ok (.aload_n 0, 1) := by decide +kernel
theorem dd_X6_canLie_57 : decode mb_X6_canLie 57 = .ok (.getfield 28, 3) := by decide +kernel
theorem dd_X6_canLie_60 : decode mb_X6_canLie 60 = .ok (.iload 4, 2) := by decide +kernel
theorem dd_X6_canLie_62 : decode mb_X6_canLie 62 = .ok (.iaload, 1) := by decide +kernel
theorem dd_X6_canLie_63 : decode mb_X6_canLie 63 = .ok (.iload_n 2, 1) := by decide +kernel
theorem dd_X6_canLie_64 : decode mb_X6_canLie 64 = .ok (.iconst (-1), 1) := by decide +kernel
theorem dd_X6_canLie_65 : decode mb_X6_canLie 65 = .ok (.ixor, 1) := by decide +kernel
theorem dd_X6_canLie_66 : decode mb_X6_canLie 66 = .ok (.iand, 1) := by decide +kernel
theorem dd_X6_canLie_67 : decode mb_X6_canLie 67 = .ok (.ifCond .ne 6, 3) := by decide +kernel
theorem dd_X6_canLie_70 : decode mb_X6_canLie 70 = .ok (.iinc 3 (-1), 3) := by decide +kernel
theorem dd_X6_canLie_73 : decode mb_X6_canLie 73 = .ok (.iinc 4 1, 3) := by decide +kernel
theorem dd_X6_canLie_76 : decode mb_X6_canLie 76 = .ok (.goto (-29), 3) := by decide +kernel
theorem dd_X6_canLie_79 : decode mb_X6_canLie 79 = .ok (.iload_n 3, 1) := by decide +kernel
theorem dd_X6_canLie_80 : decode mb_X6_canLie 80 = .ok (.ifCond .ge 5, 3) := by decide +kernel
theorem dd_X6_canLie_83 : decode mb_X6_canLie 83 = .ok (.iconst 0, 1) := by decide +kernel
theorem dd_X6_canLie_84 : decode mb_X6_canLie 84 = .ok (.ireturn, 1) := by decide +kernel
theorem dd_X6_canLie_85 : decode mb_X6_canLie 85 = .ok (.iinc 2 1, 3) := by decide +kernel
theorem dd_X6_canLie_88 : decode mb_X6_canLie 88 = .ok (.goto (-86), 3) := by decide +kernel
theorem dd_X6_canLie_91 : decode mb_X6_canLie 91 = .ok (.iconst 1, 1) := by decide +kernel
theorem dd_X6_canLie_92 : decode mb_X6_canLie 92 = .ok (.ireturn, 1) := by decide +kernel
theorem dd_X6_findHidden_0 : decode mb_X6_findHidden 0 = .ok (.aload_n 0, 1) := by decide +kernel
theorem dd_X6_findHidden_1 : decode mb_X6_findHidden 1 = .ok (.iconst 0, 1) := by decide +kernel
theorem dd_X6_findHidden_2 : decode mb_X6_findHidden 2 = .ok (.putfield 34, 3) := by decide +kernel
theorem dd_X6_findHidden_5 : decode mb_X6_findHidden 5 = .ok (.iconst 0, 1) := by decide +kernel
theorem dd_X6_findHidden_6 : decode mb_X6_findHidden 6 = .ok (.istore_n 1, 1) := by decide +kernel
theorem dd_X6_findHidden_7 : decode mb_X6_findHidden 7 = .ok (.iload_n 1, 1) := by decide +kernel
theorem dd_X6_findHidden_8 : decode mb_X6_findHidden 8 = .ok (.bipush 30, 2) := by decide +kernel
theorem dd_X6_findHidden_10 : decode mb_X6_findHidden 10 = .ok (.if_icmp .ge 108, 3) := by decide +kernel
theorem dd_X6_findHidden_13 : decode mb_X6_findHidden 13 = .ok (.iconst 0, 1) := by decide +kernel
theorem dd_X6_findHidden_14 : decode mb_X6_findHidden 14 = .ok (.istore_n 2, 1) := by decide +kernel
theorem dd_X6_findHidden_15 : decode mb_X6_findHidden 15 = .ok (.iconst 0, 1) := by decide +kernel
theorem dd_X6_findHidden_16 : decode mb_X6_findHidden 16 = .ok (.istore_n 3, 1) := by decide +kernel
theorem dd_X6_findHidden_17 : decode mb_X6_findHidden 17 = .ok (.iconst 0, 1) := by decide +kernel
theorem dd_X6_findHidden_18 : decode mb_X6_findHidden 18 = .ok (.istore 4, 2) := by decide +kernel
theorem dd_X6_findHidden_20 : decode mb_X6_findHidden 20 = .ok (.iload 4, 2) := by decide +kernel
theorem dd_X6_findHidden_22 : decode mb_X6_findHidden 22 = .ok (.aload_n 0, 1) := by decide +kernel
theorem dd_X6_findHidden_23 : decode mb_X6_findHidden 23 = .ok (.getfield 18, 3) := by decide +kernel
theorem dd_X6_findHidden_26 : decode mb_X6_findHidden 26 = .ok (.if_icmp .ge 38, 3) := by decide +kernel
theorem dd_X6_findHidden_29 : decode mb_X6_findHidden 29 = .ok (.aload_n 0, 1) := by decide +kernel
theorem dd_X6_findHidden_30 : decode mb_X6_findHidden 30 = .ok (.getfield 9, 3) := by decide +kernel
theorem dd_X6_findHidden_33 : decode mb_X6_findHidden 33 = .ok (.iload 4, 2) := by decide +kernel
theorem dd_X6_findHidden_35 : decode mb_X6_findHidden 35 = .ok (.iaload, 1) := by decide +kernel
theorem dd_X6_findHidden_36 : decode mb_X6_findHidden 36 = .ok (.iload_n 1, 1) := by decide +kernel
theorem dd_X6_findHidden_37 : decode mb_X6_findHidden 37 = .ok (.if_icmp .ne 21, 3) := by decide +kernel
theorem dd_X6_findHidden_40 : decode mb_X6_findHidden 40 = .ok (.iinc 2 1, 3) := by decide +kernel
theorem dd_X6_findHidden_43 : decode mb_X6_findHidden 43 = .ok (.iload_n 3, 1) := by decide +kernel
theorem dd_X6_findHidden_44 : decode mb_X6_findHidden 44 = .ok (.aload_n 0, 1) := by decide +kernel
theorem dd_X6_findHidden_45 : decode mb_X6_findHidden 45 = .ok (.getfield 22, 3) := by decide +kernel
theorem dd_X6_findHidden_48 : decode mb_X6_findHidden 48 = .ok (.aload_n 0, 1) := by decide +kernel
theorem dd_X6_findHidden_49 : decode mb_X6_findHidden 49 = .ok (.getfield 15, 3) := by decide +kernel
theorem dd_X6_findHidden_52 : decode mb_X6_findHidden 52 = .ok (.iload 4, 2) := by decide +kernel
theorem dd_X6_findHidden_54 : decode mb_X6_findHidden 54 = .ok (.iaload, 1) := by decide +kernel
theorem dd_X6_findHidden_55 : decode mb_X6_findHidden 55 = .ok (.iaload, 1) := by decide +kernel
theorem dd_X6_findHidden_56 : decode mb_X6_findHidden 56 = .ok (.ior, 1) := by decide +kernel
theorem dd_X6_findHidden_57 : decode mb_X6_findHidden 57 = .ok (.istore_n 3, 1) := by decide +kernel
theorem dd_X6_findHidden_58 : decode mb_X6_findHidden 58 = .ok (.iinc 4 1, 3) := by decide +kernel
theorem dd_X6_findHidden_61 : decode mb_X6_findHidden 61 = .ok (.goto (-41), 3) := by decide +kernel
theorem dd_X6_findHidden_64 : decode mb_X6_findHidden 64 = .ok (.iload_n 2, 1) := by decide +kernel
theorem dd_X6_findHidden_65 : decode mb_X6_findHidden 65 = .ok (.ifCond .le 47, 3) := by decide +kernel
theorem dd_X6_findHidden_68 : decode mb_X6_findHidden 68 = .ok (.aload_n 0, 1) := by decide +kernel
theorem dd_X6_findHidden_69 : decode mb_X6_findHidden 69 = .ok (.getfield 34, 3) := by decide +kernel
theorem dd_X6_findHidden_72 : decode mb_X6_findHidden 72 = .ok (.bipush 10, 2) := by decide +kernel
theorem dd_X6_findHidden_74 : decode mb_X6_findHidden 74 = .ok (.if_icmp .ge 38, 3) := by decide +kernel
theorem dd_X6_findHidden_77 : decode mb_X6_findHidden 77 = .ok (.aload_n 0, 1) := by decide +kernel
theorem dd_X6_findHidden_78 : decode mb_X6_findHidden 78 = .ok (.getfield 25, 3) := by decide +kernel
theorem dd_X6_findHidden_81 : decode mb_X6_findHidden 81 = .ok (.aload_n 0, 1) := by decide +kernel
theorem dd_X6_findHidden_82 : decode mb_X6_findHidden 82 = .ok (.getfield 34, 3) := by decide +kernel
theorem dd_X6_findHidden_85 : decode mb_X6_findHidden 85 = .ok (.iload_n 1, 1) := by decide +kernel
theorem dd_X6_findHidden_86 : decode mb_X6_findHidden 86 = .ok (.iastore, 1) := by decide +kernel
theorem dd_X6_findHidden_87 : decode mb_X6_findHidden 87 = .ok (.aload_n 0, 1) := by decide +kernel
theorem dd_X6_findHidden_88 : decode mb_X6_findHidden 88 = .ok (.getfield 28, 3) := by decide +kernel
theorem dd_X6_findHidden_91 : decode mb_X6_findHidden 91 = .ok (.aload_n 0, 1) := by decide +kernel
theorem dd_X6_findHidden_92 : decode mb_X6_findHidden 92 = .ok (.getfield 34, 3) := by decide +kernel
theorem dd_X6_findHidden_95 : decode mb_X6_findHidden 95 = .ok (.bipush 31, 2) := by decide +kernel
theorem dd_X6_findHidden_97 : decode mb_X6_findHidden 97 = .ok (.iload_n 3, 1) := by decide +kernel
theorem dd_X6_findHidden_98 : decode mb_X6_findHidden 98 = .ok (.iconst (-1), 1) := by decide +kernel
theorem dd_X6_findHidden_99 : decode mb_X6_findHidden 99 = .ok (.ixor, 1) := by decide +kernel
theorem dd_X6_findHidden_100 : decode mb_X6_findHidden 100 = .ok (.iand, 1) := by decide +kernel
theorem dd_X6_findHidden_101 : decode mb_X6_findHidden 101 = .ok (.iastore, 1) := by decide +kernel
theorem dd_X6_findHidden_102 : decode mb_X6_findHidden 102 = .ok (.aload_n 0, 1) := by decide +kernel
theorem dd_X6_findHidden_103 : decode mb_X6_findHidden 103 = .ok (.dup, 1) := by decide +kernel
theorem dd_X6_findHidden_104 : decode mb_X6_findHidden 104 = .ok (.getfield 34, 3) := by decide +kernel
theorem dd_X6_findHidden_107 : decode mb_X6_findHidden 107 = .ok (.iconst 1, 1) := by decide +kernel
theorem dd_X6_findHidden_108 : decode mb_X6_findHidden 108 = .ok (.iadd, 1) := by decide +kernel
theorem dd_X6_findHidden_109 : decode mb_X6_findHidden 109 = .ok (.putfield 34, 3) := by decide +kernel
theorem dd_X6_findHidden_112 : decode mb_X6_findHidden 112 = .ok (.iinc 1 1, 3) := by decide +kernel
theorem dd_X6_findHidden_115 : decode mb_X6_findHidden 115 = .ok (.goto (-108), 3) := by decide +kernel
theorem dd_X6_findHidden_118 : decode mb_X6_findHidden 118 = .ok (.return_, 1) := by decide +kernel
theorem dd_X6_firstTable_0 : decode mb_X6_firstTable 0 = .ok (.iconst 0, 1) := by decide +kernel
theorem dd_X6_firstTable_1 : decode mb_X6_firstTable 1 = .ok (.istore_n 2, 1) := by decide +kernel
theorem dd_X6_firstTable_2 : decode mb_X6_firstTable 2 = .ok (.iload_n 2, 1) := by decide +kernel
theorem dd_X6_firstTable_3 : decode mb_X6_firstTable 3 = .ok (.iconst 5, 1) := by decide +kernel
theorem dd_X6_firstTable_4 : decode mb_X6_firstTable 4 = .ok (.if_icmp .ge 63, 3) := by decide +kernel
theorem dd_X6_firstTable_7 : decode mb_X6_firstTable 7 = .ok (.aload_n 0, 1) := by decide +kernel
theorem dd_X6_firstTable_8 : decode mb_X6_firstTable 8 = .ok (.getfield 28, 3) := by decide +kernel
theorem dd_X6_firstTable_11 : decode mb_X6_firstTable 11 = .ok (.iload_n 1, 1) := by decide +kernel
theorem dd_X6_firstTable_12 : decode mb_X6_firstTable 12 = .ok (.iaload, 1) := by decide +kernel
theorem dd_X6_firstTable_13 : decode mb_X6_firstTable 13 = .ok (.iload_n 2, 1) := by decide +kernel
theorem dd_X6_firstTable_14 : decode mb_X6_firstTable 14 = .ok (.invokestatic 57, 3) := by decide +kernel
theorem dd_X6_firstTable_17 : decode mb_X6_firstTable 17 = .ok (.ifCond .eq 44, 3) := by decide +kernel
theorem dd_X6_firstTable_20 : decode mb_X6_firstTable 20 = .ok (.aload_n 0, 1) := by decide +kernel
theorem dd_X6_firstTable_21 : decode mb_X6_firstTable 21 = .ok (.getfield 37, 3) := by decide +kernel
theorem dd_X6_firstTable_24 : decode mb_X6_firstTable 24 = .ok (.iload_n 2, 1) := by decide +kernel
theorem dd_X6_firstTable_25 : decode mb_X6_firstTable 25 = .ok (.iaload, 1) := by decide +kernel
theorem dd_X6_firstTable_26 : decode mb_X6_firstTable 26 = .ok (.ifCond .le 35, 3) := by decide +kernel
theorem dd_X6_firstTable_29 : decode mb_X6_firstTable 29 = .ok (.aload_n 0, 1) := by decide +kernel
theorem dd_X6_firstTable_30 : decode mb_X6_firstTable 30 = .ok (.getfield 37, 3) := by decide +kernel
theorem dd_X6_firstTable_33 : decode mb_X6_firstTable 33 = .ok (.iload_n 2, 1) := by decide +kernel
theorem dd_X6_firstTable_34 : decode mb_X6_firstTable 34 = .ok (.dup2, 1) := by decide +kernel
theorem dd_X6_firstTable_35 : decode mb_X6_firstTable 35 = .ok (.iaload, 1) := by decide +kernel
theorem dd_X6_firstTable_36 : decode mb_X6_firstTable 36 = .ok (.iconst 1, 1) := by decide +kernel
theorem dd_X6_firstTable_37 : decode mb_X6_firstTable 37 = .ok (.isub, 1) := by decide +kernel
theorem dd_X6_firstTable_38 : decode mb_X6_firstTable 38 = .ok (.iastore, 1) := by decide +kernel
theorem dd_X6_firstTable_39 : decode mb_X6_firstTable 39 = .ok (.aload_n 0, 1) := by decide +kernel
theorem dd_X6_firstTable_40 : decode mb_X6_firstTable 40 = .ok (.iload_n 1, 1) := by decide +kernel
theorem dd_X6_firstTable_41 : decode mb_X6_firstTable 41 = .ok (.iconst 1, 1) := by decide +kernel
theorem dd_X6_firstTable_42 : decode mb_X6_firstTable 42 = .ok (.iadd, 1) := by decide +kernel
theorem dd_X6_firstTable_43 : decode mb_X6_firstTable 43 = .ok (.invokevirtual 49, 3) := by decide +kernel
theorem dd_X6_firstTable_46 : decode mb_X6_firstTable 46 = .ok (.ifCond .eq 5, 3) := by decide +kernel
theorem dd_X6_firstTable_49 : decode mb_X6_firstTable 49 = .ok (.iload_n 2, 1) := by decide +kernel
theorem dd_X6_firstTable_50 : decode mb_X6_firstTable 50 = .ok (.ireturn, 1) := by decide +kernel
theorem dd_X6_firstTable_51 : decode mb_X6_firstTable 51 = .ok (.aload_n 0, 1) := by decide +kernel
theorem dd_X6_firstTable_52 : decode mb_X6_firstTable 52 = .ok (.getfield 37, 3) := by decide +kernel
theorem dd_X6_firstTable_55 : decode mb_X6_firstTable 55 = .ok (.iload_n 2, 1) := by decide +kernel
theorem dd_X6_firstTable_56 : decode mb_X6_firstTable 56 = .ok (.dup2, 1) := by decide +kernel
theorem dd_X6_firstTable_57 : decode mb_X6_firstTable 57 = .ok (.iaload, 1) := by decide +kernel
theorem dd_X6_firstTable_58 : decode mb_X6_firstTable 58 = .ok (.iconst 1, 1) := by decide +kernel
theorem dd_X6_firstTable_59 : decode mb_X6_firstTable 59 = .ok (.iadd, 1) := by decide +kernel
theorem dd_X6_firstTable_60 : decode mb_X6_firstTable 60 = .ok (.iastore, 1) := by decide +kernel
theorem dd_X6_firstTable_61 : decode mb_X6_firstTable 61 = .ok (.iinc 2 1, 3) := by decide +kernel
theorem dd_X6_firstTable_64 : decode mb_X6_firstTable 64 = .ok (.goto (-62), 3) := by decide +kernel
theorem dd_X6_firstTable_67 : decode mb_X6_firstTable 67 = .ok (.iconst (-1), 1) := by decide +kernel
theorem dd_X6_firstTable_68 : decode mb_X6_firstTable 68 = .ok (.ireturn, 1) := by decide +kernel
theorem dd_X6_init_0 : decode mb_X6_init 0 = .ok (.aload_n 0, 1) := by decide +kernel
theorem dd_X6_init_1 : decode mb_X6_init 1 = .ok (.invokespecial 3, 3) := by decide +kernel
theorem dd_X6_init_4 : decode mb_X6_init 4 = .ok (.aload_n 0, 1) := by decide +kernel
theorem dd_X6_init_5 : decode mb_X6_init 5 = .ok (.bipush 10, 2) := by decide +kernel
theorem dd_X6_init_7 : decode mb_X6_init 7 = .ok (.newarray .int, 2) := by decide +kernel
theorem dd_X6_init_9 : decode mb_X6_init 9 = .ok (.putfield 9, 3) := by decide +kernel
theorem dd_X6_init_12 : decode mb_X6_init 12 = .ok (.aload_n 0, 1) := by decide +kernel
theorem dd_X6_init_13 : decode mb_X6_init 13 = .ok (.bipush 10, 2) := by decide +kernel
theorem dd_X6_init_15 : decode mb_X6_init 15 = .ok (.newarray .int, 2) := by decide +kernel
theorem dd_X6_init_17 : decode mb_X6_init 17 = .ok (.putfield 15, 3) := by decide +kernel
theorem dd_X6_init_20 : decode mb_X6_init 20 = .ok (.aload_n 0, 1) := by decide +kernel
theorem dd_X6_init_21 : decode mb_X6_init 21 = .ok (.iconst 0, 1) := by decide +kernel
theorem dd_X6_init_22 : decode mb_X6_init 22 = .ok (.putfield 18, 3) := by decide +kernel
theorem dd_X6_init_25 : decode mb_X6_init 25 = .ok (.aload_n 0, 1) := by decide +kernel
theorem dd_X6_init_26 : decode mb_X6_init 26 = .ok (.bipush 16, 2) := by decide +kernel
theorem dd_X6_init_28 : decode mb_X6_init 28 = .ok (.newarray .int, 2) := by decide +kernel
theorem dd_X6_init_30 : decode mb_X6_init 30 = .ok (.putfield 22, 3) := by decide +kernel
theorem dd_X6_init_33 : decode mb_X6_init 33 = .ok (.aload_n 0, 1) := by decide +kernel
theorem dd_X6_init_34 : decode mb_X6_init 34 = .ok (.bipush 10, 2) := by decide +kernel
theorem dd_X6_init_36 : decode mb_X6_init 36 = .ok (.newarray .int, 2) := by decide +kernel
theorem dd_X6_init_38 : decode mb_X6_init 38 = .ok (.putfield 25, 3) := by decide +kernel
theorem dd_X6_init_41 : decode mb_X6_init 41 = .ok (.aload_n 0, 1) := by decide +kernel
theorem dd_X6_init_42 : decode mb_X6_init 42 = .ok (.bipush 10, 2) := by decide +kernel
theorem dd_X6_init_44 : decode mb_X6_init 44 = .ok (.newarray .int, 2) := by decide +kernel
theorem dd_X6_init_46 : decode mb_X6_init 46 = .ok (.putfield 28, 3) := by decide +kernel
theorem dd_X6_init_49 : decode mb_X6_init 49 = .ok (.aload_n 0, 1) := by decide +kernel
theorem dd_X6_init_50 : decode mb_X6_init 50 = .ok (.bipush 10, 2) := by decide +kernel
theorem dd_X6_init_52 : decode mb_X6_init 52 = .ok (.newarray .int, 2) := by decide +kernel
theorem dd_X6_init_54 : decode mb_X6_init 54 = .ok (.putfield 31, 3) := by decide +kernel
theorem dd_X6_init_57 : decode mb_X6_init 57 = .ok (.aload_n 0, 1) := by decide +kernel
theorem dd_X6_init_58 : decode mb_X6_init 58 = .ok (.iconst 0, 1) := by decide +kernel
theorem dd_X6_init_59 : decode mb_X6_init 59 = .ok (.putfield 34, 3) := by decide +kernel
theorem dd_X6_init_62 : decode mb_X6_init 62 = .ok (.aload_n 0, 1) := by decide +kernel
theorem dd_X6_init_63 : decode mb_X6_init 63 = .ok (.iconst 5, 1) := by decide +kernel
theorem dd_X6_init_64 : decode mb_X6_init 64 = .ok (.newarray .int, 2) := by decide +kernel
theorem dd_X6_init_66 : decode mb_X6_init 66 = .ok (.putfield 37, 3) := by decide +kernel
theorem dd_X6_init_69 : decode mb_X6_init 69 = .ok (.return_, 1) := by decide +kernel
theorem dd_X6_lay_0 : decode mb_X6_lay 0 = .ok (.aload_n 0, 1) := by decide +kernel
theorem dd_X6_lay_1 : decode mb_X6_lay 1 = .ok (.invokevirtual 40, 3) := by decide +kernel
theorem dd_X6_lay_4 : decode mb_X6_lay 4 = .ok (.aload_n 0, 1) := by decide +kernel
theorem dd_X6_lay_5 : decode mb_X6_lay 5 = .ok (.getfield 37, 3) := by decide +kernel
theorem dd_X6_lay_8 : decode mb_X6_lay 8 = .ok (.iload_n 1, 1) := by decide +kernel
theorem dd_X6_lay_9 : decode mb_X6_lay 9 = .ok (.invokestatic 43, 3) := by decide +kernel
theorem dd_X6_lay_12 : decode mb_X6_lay 12 = .ok (.aload_n 0, 1) := by decide +kernel
theorem dd_X6_lay_13 : decode mb_X6_lay 13 = .ok (.iconst 0, 1) := by decide +kernel
theorem dd_X6_lay_14 : decode mb_X6_lay 14 = .ok (.invokevirtual 49, 3) := by decide +kernel
theorem dd_X6_lay_17 : decode mb_X6_lay 17 = .ok (.ifCond .ne 5, 3) := by decide +kernel
theorem dd_X6_lay_20 : decode mb_X6_lay 20 = .ok (.iconst 0, 1) := by decide +kernel
theorem dd_X6_lay_21 : decode mb_X6_lay 21 = .ok (.ireturn, 1) := by decide +kernel
theorem dd_X6_lay_22 : decode mb_X6_lay 22 = .ok (.iconst 0, 1) := by decide +kernel
theorem dd_X6_lay_23 : decode mb_X6_lay 23 = .ok (.istore_n 2, 1) := by decide +kernel
theorem dd_X6_lay_24 : decode mb_X6_lay 24 = .ok (.iload_n 2, 1) := by decide +kernel
theorem dd_X6_lay_25 : decode mb_X6_lay 25 = .ok (.aload_n 0, 1) := by decide +kernel
theorem dd_X6_lay_26 : decode mb_X6_lay 26 = .ok (.getfield 34, 3) := by decide +kernel
theorem dd_X6_lay_29 : decode mb_X6_lay 29 = .ok (.if_icmp .ge 20, 3) := by decide +kernel
theorem dd_X6_lay_32 : decode mb_X6_lay 32 = .ok (.aload_n 0, 1) := by decide +kernel
theorem dd_X6_lay_33 : decode mb_X6_lay 33 = .ok (.getfield 31, 3) := by decide +kernel
theorem dd_X6_lay_36 : decode mb_X6_lay 36 = .ok (.iload_n 2, 1) := by decide +kernel
theorem dd_X6_lay_37 : decode mb_X6_lay 37 = .ok (.aload_n 0, 1) := by decide +kernel
theorem dd_X6_lay_38 : decode mb_X6_lay 38 = .ok (.iload_n 2, 1) := by decide +kernel
theorem dd_X6_lay_39 : decode mb_X6_lay 39 = .ok (.invokevirtual 53, 3) := by decide +kernel
theorem dd_X6_lay_42 : decode mb_X6_lay 42 = .ok (.iastore, 1) := by decide +kernel
theorem dd_X6_lay_43 : decode mb_X6_lay 43 = .ok (.iinc 2 1, 3) := by decide +kernel
theorem dd_X6_lay_46 : decode mb_X6_lay 46 = .ok (.goto (-22), 3) := by decide +kernel
theorem dd_X6_lay_49 : decode mb_X6_lay 49 = .ok (.iconst 1, 1) := by decide +kernel
theorem dd_X6_lay_50 : decode mb_X6_lay 50 = .ok (.ireturn, 1) := by decide +kernel
theorem dd_X6_tableOf_0 : decode mb_X6_tableOf 0 = .ok (.iconst 0, 1) := by decide +kernel
theorem dd_X6_tableOf_1 : decode mb_X6_tableOf 1 = .ok (.istore_n 2, 1) := by decide +kernel
theorem dd_X6_tableOf_2 : decode mb_X6_tableOf 2 = .ok (.iload_n 2, 1) := by decide +kernel
theorem dd_X6_tableOf_3 : decode mb_X6_tableOf 3 = .ok (.aload_n 0, 1) := by decide +kernel
theorem dd_X6_tableOf_4 : decode mb_X6_tableOf 4 = .ok (.getfield 34, 3) := by decide +kernel
theorem dd_X6_tableOf_7 : decode mb_X6_tableOf 7 = .ok (.if_icmp .ge 26, 3) := by decide +kernel
theorem dd_X6_tableOf_10 : decode mb_X6_tableOf 10 = .ok (.aload_n 0, 1) := by decide +kernel
theorem dd_X6_tableOf_11 : decode mb_X6_tableOf 11 = .ok (.getfield 25, 3) := by decide +kernel
theorem dd_X6_tableOf_14 : decode mb_X6_tableOf 14 = .ok (.iload_n 2, 1) := by decide +kernel
theorem dd_X6_tableOf_15 : decode mb_X6_tableOf 15 = .ok (.iaload, 1) := by decide +kernel
theorem dd_X6_tableOf_16 : decode mb_X6_tableOf 16 = .ok (.iload_n 1, 1) := by decide +kernel
theorem dd_X6_tableOf_17 : decode mb_X6_tableOf 17 = .ok (.if_icmp .ne 10, 3) := by decide +kernel
theorem dd_X6_tableOf_20 : decode mb_X6_tableOf 20 = .ok (.aload_n 0, 1) := by decide +kernel
theorem dd_X6_tableOf_21 : decode mb_X6_tableOf 21 = .ok (.getfield 31, 3) := by decide +kernel
theorem dd_X6_tableOf_24 : decode mb_X6_tableOf 24 = .ok (.iload_n 2, 1) := by decide +kernel
theorem dd_X6_tableOf_25 : decode mb_X6_tableOf 25 = .ok (.iaload, 1) := by decide +kernel
theorem dd_X6_tableOf_26 : decode mb_X6_tableOf 26 = .ok (.ireturn, 1) := by decide +kernel
theorem dd_X6_tableOf_27 : decode mb_X6_tableOf 27 = .ok (.iinc 2 1, 3) := by decide +kernel
theorem dd_X6_tableOf_30 : decode mb_X6_tableOf 30 = .ok (.goto (-28), 3) := by decide +kernel
theorem dd_X6_tableOf_33 : decode mb_X6_tableOf 33 = .ok (.iconst (-1), 1) := by decide +kernel
theorem dd_X6_tableOf_34 : decode mb_X6_tableOf 34 = .ok (.ireturn, 1) := by decide +kernel
theorem dd_X7_at_0 : decode mb_X7_at 0 = .ok (.aload_n 0, 1) := by decide +kernel
theorem dd_X7_at_1 : decode mb_X7_at 1 = .ok (.invokevirtual 32, 3) := by decide +kernel
theorem dd_X7_at_4 : decode mb_X7_at 4 = .ok (.ifCond .eq 26, 3) := by decide +kernel
theorem dd_X7_at_7 : decode mb_X7_at 7 = .ok (.iload_n 1, 1) := by decide +kernel
theorem dd_X7_at_8 : decode mb_X7_at 8 = .ok (.iconst 0, 1) := by decide +kernel
theorem dd_X7_at_9 : decode mb_X7_at 9 = .ok (.aload_n 0, 1) := by decide +kernel
theorem dd_X7_at_10 : decode mb_X7_at 10 = .ok (.getfield 19, 3) := by decide +kernel
theorem dd_X7_at_13 : decode mb_X7_at 13 = .ok (.iconst 1, 1) := by decide +kernel
theorem dd_X7_at_14 : decode mb_X7_at 14 = .ok (.isub, 1) := by decide +kernel
theorem dd_X7_at_15 : decode mb_X7_at 15 = .ok (.invokestatic 22, 3) := by decide +kernel
theorem dd_X7_at_18 : decode mb_X7_at 18 = .ok (.ifCond .eq 12, 3) := by decide +kernel
theorem dd_X7_at_21 : decode mb_X7_at 21 = .ok (.aload_n 0, 1) := by decide +kernel
theorem dd_X7_at_22 : decode mb_X7_at 22 = .ok (.getfield 9, 3) := by decide +kernel
theorem dd_X7_at_25 : decode mb_X7_at 25 = .ok (.iload_n 1, 1) := by decide +kernel
theorem dd_X7_at_26 : decode mb_X7_at 26 = .ok (.laload, 1) := by decide +kernel
theorem dd_X7_at_27 : decode mb_X7_at 27 = .ok (.goto 4, 3) := by decide +kernel
theorem dd_X7_at_30 : decode mb_X7_at 30 = .ok (.lconst 0, 1) := by decide +kernel
theorem dd_X7_at_31 : decode mb_X7_at 31 = .ok (.lreturn, 1) := by decide +kernel
theorem dd_X7_cutToSort_0 : decode mb_X7_cutToSort 0 = .ok (.aload_n 0, 1) := by decide +kernel
theorem dd_X7_cutToSort_1 : decode mb_X7_cutToSort 1 = .ok (.getfield 15, 3) := by decide +kernel
theorem dd_X7_cutToSort_4 : decode mb_X7_cutToSort 4 = .ok (.tableswitch 48 0 3 #[32, 37, 42, 46], 32) := by decide +kernel
theorem dd_X7_cutToSort_36 : decode mb_X7_cutToSort 36 = .ok (.lload_n 1, 1) := by decide +kernel
theorem dd_X7_cutToSort_37 : decode mb_X7_cutToSort 37 = .ok (.l2i, 1) := by decide +kernel
theorem dd_X7_cutToSort_38 : decode mb_X7_cutToSort 38 = .ok (.i2b, 1) := by decide +kernel
theorem dd_X7_cutToSort_39 : decode mb_X7_cutToSort 39 = .ok (.i2l, 1) := by decide +kernel
theorem dd_X7_cutToSort_40 : decode mb_X7_cutToSort 40 = .ok (.lreturn, 1) := by decide +kernel
theorem dd_X7_cutToSort_41 : decode mb_X7_cutToSort 41 = .ok (.lload_n 1, 1) := by decide +kernel
theorem dd_X7_cutToSort_42 : decode mb_X7_cutToSort 42 = .ok (.l2i, 1) := by decide +kernel
theorem dd_X7_cutToSort_43 : decode mb_X7_cutToSort 43 = .ok (.i2s, 1) := by decide +kernel
theorem dd_X7_cutToSort_44 : decode mb_X7_cutToSort 44 = .ok (.i2l, 1) := by decide +kernel
theorem dd_X7_cutToSort_45 : decode mb_X7_cutToSort 45 = .ok (.lreturn, 1) := by decide +kernel
theorem dd_X7_cutToSort_46 : decode mb_X7_cutToSort 46 = .ok (.lload_n 1, 1) := by decide +kernel
theorem dd_X7_cutToSort_47 : decode mb_X7_cutToSort 47 = .ok (.l2i, 1) := by decide +kernel
theorem dd_X7_cutToSort_48 : decode mb_X7_cutToSort 48 = .ok (.i2l, 1) := by decide +kernel
theorem dd_X7_cutToSort_49 : decode mb_X7_cutToSort 49 = .ok (.lreturn, 1) := by decide +kernel
theorem dd_X7_cutToSort_50 : decode mb_X7_cutToSort 50 = .ok (.lload_n 1, 1) := by decide +kernel
theorem dd_X7_cutToSort_51 : decode mb_X7_cutToSort 51 = .ok (.lreturn, 1) := by decide +kernel
theorem dd_X7_cutToSort_52 : decode mb_X7_cutToSort 52 = .ok (.lload_n 1, 1) := by decide +kernel
theorem dd_X7_cutToSort_53 : decode mb_X7_cutToSort 53 = .ok (.lconst 0, 1) := by decide +kernel
theorem dd_X7_cutToSort_54 : decode mb_X7_cutToSort 54 = .ok (.lcmp, 1) := by decide +kernel
theorem dd_X7_cutToSort_55 : decode mb_X7_cutToSort 55 = .ok (.ifCond .eq 7, 3) := by decide +kernel
theorem dd_X7_cutToSort_58 : decode mb_X7_cutToSort 58 = .ok (.lconst 1, 1) := by decide +kernel
theorem dd_X7_cutToSort_59 : decode mb_X7_cutToSort 59 = .ok (.goto 4, 3) := by decide +kernel
theorem dd_X7_cutToSort_62 : decode mb_X7_cutToSort 62 = .ok (.lconst 0, 1) := by decide +kernel
theorem dd_X7_cutToSort_63 : decode mb_X7_cutToSort 63 = .ok (.lreturn, 1) := by decide +kernel
theorem dd_X7_hasPlaces_0 : decode mb_X7_hasPlaces 0 = .ok (.iload_n 1, 1) := by decide +kernel
theorem dd_X7_hasPlaces_1 : decode mb_X7_hasPlaces 1 = .ok (.iconst 0, 1) := by decide +kernel
theorem dd_X7_hasPlaces_2 : decode mb_X7_hasPlaces 2 = .ok (.aload_n 0, 1) := by decide +kernel
theorem dd_X7_hasPlaces_3 : decode mb_X7_hasPlaces 3 = .ok (.getfield 19, 3) := by decide +kernel
theorem dd_X7_hasPlaces_6 : decode mb_X7_hasPlaces 6 = .ok (.invokestatic 22, 3) := by decide +kernel
theorem dd_X7_hasPlaces_9 : decode mb_X7_hasPlaces 9 = .ok (.ifCond .eq 21, 3) := by decide +kernel
theorem dd_X7_hasPlaces_12 : decode mb_X7_hasPlaces 12 = .ok (.iload_n 2, 1) := by decide +kernel
theorem dd_X7_hasPlaces_13 : decode mb_X7_hasPlaces 13 = .ok (.iconst 0, 1) := by decide +kernel
theorem dd_X7_hasPlaces_14 : decode mb_X7_hasPlaces 14 = .ok (.aload_n 0, 1) := by decide +kernel
theorem dd_X7_hasPlaces_15 : decode mb_X7_hasPlaces 15 = .ok (.getfield 19, 3) := by decide +kernel
theorem dd_X7_hasPlaces_18 : decode mb_X7_hasPlaces 18 = .ok (.iload_n 1, 1) := by decide +kernel
theorem dd_X7_hasPlaces_19 : decode mb_X7_hasPlaces 19 = .ok (.isub, 1) := by decide +kernel
theorem dd_X7_hasPlaces_20 : decode mb_X7_hasPlaces 20 = .ok (.invokestatic 22, 3) := by decide +kernel
theorem dd_X7_hasPlaces_23 : decode mb_X7_hasPlaces 23 = .ok (.ifCond .eq 7, 3) := by decide +kernel
theorem dd_X7_hasPlaces_26 : decode mb_X7_hasPlaces 26 = .ok (.iconst 1, 1) := by decide +kernel
theorem dd_X7_hasPlaces_27 : decode mb_X7_hasPlaces 27 = .ok (.goto 4, 3) := by decide +kernel
theorem dd_X7_hasPlaces_30 : decode mb_X7_hasPlaces 30 = .ok (.iconst 0, 1) := by decide +kernel
theorem dd_X7_hasPlaces_31 : decode mb_X7_hasPlaces 31 = .ok (.ireturn, 1) := by decide +kernel
theorem dd_X7_hasRow_0 : decode mb_X7_hasRow 0 = .ok (.aload_n 0, 1) := by decide +kernel
theorem dd_X7_hasRow_1 : decode mb_X7_hasRow 1 = .ok (.getfield 15, 3) := by decide +kernel
theorem dd_X7_hasRow_4 : decode mb_X7_hasRow 4 = .ok (.iconst 0, 1) := by decide +kernel
theorem dd_X7_hasRow_5 : decode mb_X7_hasRow 5 = .ok (.iconst 4, 1) := by decide +kernel
theorem dd_X7_hasRow_6 : decode mb_X7_hasRow 6 = .ok (.invokestatic 22, 3) := by decide +kernel
theorem dd_X7_hasRow_9 : decode mb_X7_hasRow 9 = .ok (.ireturn, 1) := by decide +kernel
theorem dd_X7_hasThing_0 : decode mb_X7_hasThing 0 = .ok (.aload_n 0, 1) := by decide +kernel
theorem dd_X7_hasThing_1 : decode mb_X7_hasThing 1 = .ok (.getfield 15, 3) := by decide +kernel
theorem dd_X7_hasThing_4 : decode mb_X7_hasThing 4 = .ok (.bipush 10, 2) := by decide +kernel
theorem dd_X7_hasThing_6 : decode mb_X7_hasThing 6 = .ok (.if_icmp .lt 7, 3) := by decide +kernel
theorem dd_X7_hasThing_9 : decode mb_X7_hasThing 9 = .ok (.iconst 1, 1) := by decide +kernel
theorem dd_X7_hasThing_10 : decode mb_X7_hasThing 10 = .ok (.goto 4, 3) := by decide +kernel
theorem dd_X7_hasThing_13 : decode mb_X7_hasThing 13 = .ok (.iconst 0, 1) := by decide +kernel
theorem dd_X7_hasThing_14 : decode mb_X7_hasThing 14 = .ok (.ireturn, 1) := by decide +kernel
theorem dd_X7_init_0 : decode mb_X7_init 0 = .ok (.aload_n 0, 1) := by decide +kernel
theorem dd_X7_init_1 : decode mb_X7_init 1 = .ok (.invokespecial 3, 3) := by decide +kernel
theorem dd_X7_init_4 : decode mb_X7_init 4 = .ok (.aload_n 0, 1) := by decide +kernel
theorem dd_X7_init_5 : decode mb_X7_init 5 = .ok (.bipush 40, 2) := by decide +kernel
theorem dd_X7_init_7 : decode mb_X7_init 7 = .ok (.newarray .long, 2) := by decide +kernel
theorem dd_X7_init_9 : decode mb_X7_init 9 = .ok (.putfield 9, 3) := by decide +kernel
theorem dd_X7_init_12 : decode mb_X7_init 12 = .ok (.aload_n 0, 1) := by decide +kernel
theorem dd_X7_init_13 : decode mb_X7_init 13 = .ok (.iconst (-1), 1) := by decide +kernel
theorem dd_X7_init_14 : decode mb_X7_init 14 = .ok (.putfield 15, 3) := by decide +kernel
theorem dd_X7_init_17 : decode mb_X7_init 17 = .ok (.aload_n 0, 1) := by decide +kernel
theorem dd_X7_init_18 : decode mb_X7_init 18 = .ok (.iconst 0, 1) := by decide +kernel
theorem dd_X7_init_19 : decode mb_X7_init 19 = .ok (.putfield 19, 3) := by decide +kernel
theorem dd_X7_init_22 : decode mb_X7_init 22 = .ok (.return_, 1) := by decide +kernel
theorem dd_X7_isEmpty_0 : decode mb_X7_isEmpty 0 = .ok (.aload_n 0, 1) := by decide +kernel
theorem dd_X7_isEmpty_1 : decode mb_X7_isEmpty 1 = .ok (.getfield 15, 3) := by decide +kernel
theorem dd_X7_isEmpty_4 : decode mb_X7_isEmpty 4 = .ok (.iconst (-1), 1) := by decide +kernel
theorem dd_X7_isEmpty_5 : decode mb_X7_isEmpty 5 = .ok (.if_icmp .ne 7, 3) := by decide +kernel
theorem dd_X7_isEmpty_8 : decode mb_X7_isEmpty 8 = .ok (.iconst 1, 1) := by decide +kernel
theorem dd_X7_isEmpty_9 : decode mb_X7_isEmpty 9 = .ok (.goto 4, 3) := by decide +kernel
theorem dd_X7_isEmpty_12 : decode mb_X7_isEmpty 12 = .ok (.iconst 0, 1) := by decide +kernel
theorem dd_X7_isEmpty_13 : decode mb_X7_isEmpty 13 = .ok (.ireturn, 1) := by decide +kernel
theorem dd_X7_put_0 : decode mb_X7_put 0 = .ok (.aload_n 0, 1) := by decide +kernel
theorem dd_X7_put_1 : decode mb_X7_put 1 = .ok (.invokevirtual 32, 3) := by decide +kernel
theorem dd_X7_put_4 : decode mb_X7_put 4 = .ok (.ifCond .eq 28, 3) := by decide +kernel
theorem dd_X7_put_7 : decode mb_X7_put 7 = .ok (.iload_n 1, 1) := by decide +kernel
theorem dd_X7_put_8 : decode mb_X7_put 8 = .ok (.iconst 0, 1) := by decide +kernel
theorem dd_X7_put_9 : decode mb_X7_put 9 = .ok (.aload_n 0, 1) := by decide +kernel
theorem dd_X7_put_10 : decode mb_X7_put 10 = .ok (.getfield 19, 3) := by decide +kernel
theorem dd_X7_put_13 : decode mb_X7_put 13 = .ok (.iconst 1, 1) := by decide +kernel
theorem dd_X7_put_14 : decode mb_X7_put 14 = .ok (.isub, 1) := by decide +kernel
theorem dd_X7_put_15 : decode mb_X7_put 15 = .ok (.invokestatic 22, 3) := by decide +kernel
theorem dd_X7_put_18 : decode mb_X7_put 18 = .ok (.ifCond .eq 14, 3) := by decide +kernel
theorem dd_X7_put_21 : decode mb_X7_put 21 = .ok (.aload_n 0, 1) := by decide +kernel
theorem dd_X7_put_22 : decode mb_X7_put 22 = .ok (.getfield 9, 3) := by decide +kernel
theorem dd_X7_put_25 : decode mb_X7_put 25 = .ok (.iload_n 1, 1) := by decide +kernel
theorem dd_X7_put_26 : decode mb_X7_put 26 = .ok (.aload_n 0, 1) := by decide +kernel
theorem dd_X7_put_27 : decode mb_X7_put 27 = .ok (.lload_n 2, 1) := by decide +kernel
theorem dd_X7_put_28 : decode mb_X7_put 28 = .ok (.invokevirtual 36, 3) := by decide +kernel
theorem dd_X7_put_31 : decode mb_X7_put 31 = .ok (.lastore, 1) := by decide +kernel
theorem dd_X7_put_32 : decode mb_X7_put 32 = .ok (.return_, 1) := by decide +kernel
theorem dd_X7_takeRow_0 : decode mb_X7_takeRow 0 = .ok (.aload_n 0, 1) := by decide +kernel
theorem dd_X7_takeRow_1 : decode mb_X7_takeRow 1 = .ok (.iload_n 1, 1) := by decide +kernel
theorem dd_X7_takeRow_2 : decode mb_X7_takeRow 2 = .ok (.putfield 15, 3) := by decide +kernel
theorem dd_X7_takeRow_5 : decode mb_X7_takeRow 5 = .ok (.aload_n 0, 1) := by decide +kernel
theorem dd_X7_takeRow_6 : decode mb_X7_takeRow 6 = .ok (.iload_n 2, 1) := by decide +kernel
theorem dd_X7_takeRow_7 : decode mb_X7_takeRow 7 = .ok (.putfield 19, 3) := by decide +kernel
theorem dd_X7_takeRow_10 : decode mb_X7_takeRow 10 = .ok (.aload_n 0, 1) := by decide +kernel
theorem dd_X7_takeRow_11 : decode mb_X7_takeRow 11 = .ok (.getfield 9, 3) := by decide +kernel
theorem dd_X7_takeRow_14 : decode mb_X7_takeRow 14 = .ok (.lconst 0, 1) := by decide +kernel
theorem dd_X7_takeRow_15 : decode mb_X7_takeRow 15 = .ok (.invokestatic 26, 3) := by decide +kernel
theorem dd_X7_takeRow_18 : decode mb_X7_takeRow 18 = .ok (.return_, 1) := by decide +kernel
theorem dd_X8_add_0 : decode mb_X8_add 0 = .ok (.aload_n 0, 1) := by decide +kernel
theorem dd_X8_add_1 : decode mb_X8_add 1 = .ok (.getfield 9, 3) := by decide +kernel
theorem dd_X8_add_4 : decode mb_X8_add 4 = .ok (.aload_n 0, 1) := by decide +kernel
theorem dd_X8_add_5 : decode mb_X8_add 5 = .ok (.getfield 24, 3) := by decide +kernel
theorem dd_X8_add_8 : decode mb_X8_add 8 = .ok (.iload_n 1, 1) := by decide +kernel
theorem dd_X8_add_9 : decode mb_X8_add 9 = .ok (.iastore, 1) := by decide +kernel
theorem dd_X8_add_10 : decode mb_X8_add 10 = .ok (.aload_n 0, 1) := by decide +kernel
theorem dd_X8_add_11 : decode mb_X8_add 11 = .ok (.getfield 15, 3) := by decide +kernel
theorem dd_X8_add_14 : decode mb_X8_add 14 = .ok (.aload_n 0, 1) := by decide +kernel
theorem dd_X8_add_15 : decode mb_X8_add 15 = .ok (.getfield 24, 3) := by decide +kernel
theorem dd_X8_add_18 : decode mb_X8_add 18 = .ok (.iload_n 2, 1) := by decide +kernel
theorem dd_X8_add_19 : decode mb_X8_add 19 = .ok (.iastore, 1) := by decide +kernel
theorem dd_X8_add_20 : decode mb_X8_add 20 = .ok (.aload_n 0, 1) := by decide +kernel
theorem dd_X8_add_21 : decode mb_X8_add 21 = .ok (.getfield 18, 3) := by decide +kernel
theorem dd_X8_add_24 : decode mb_X8_add 24 = .ok (.aload_n 0, 1) := by decide +kernel
theorem dd_X8_add_25 : decode mb_X8_add 25 = .ok (.getfield 24, 3) := by decide +kernel
theorem dd_X8_add_28 : decode mb_X8_add 28 = .ok (.iload_n 3, 1) := by decide +kernel
theorem dd_X8_add_29 : decode mb_X8_add 29 = .ok (.iastore, 1) := by decide +kernel
theorem dd_X8_add_30 : decode mb_X8_add 30 = .ok (.aload_n 0, 1) := by decide +kernel
theorem dd_X8_add_31 : decode mb_X8_add 31 = .ok (.getfield 21, 3) := by decide +kernel
theorem dd_X8_add_34 : decode mb_X8_add 34 = .ok (.aload_n 0, 1) := by decide +kernel
theorem dd_X8_add_35 : decode mb_X8_add 35 = .ok (.getfield 24, 3) := by decide +kernel
theorem dd_X8_add_38 : decode mb_X8_add 38 = .ok (.iload 4, 2) := by decide +kernel
theorem dd_X8_add_40 : decode mb_X8_add 40 = .ok (.iastore, 1) := by decide +kernel
theorem dd_X8_add_41 : decode mb_X8_add 41 = .ok (.aload_n 0, 1) := by decide +kernel
theorem dd_X8_add_42 : decode mb_X8_add 42 = .ok (.dup, 1) := by decide +kernel
theorem dd_X8_add_43 : decode mb_X8_add 43 = .ok (.getfield 24, 3) := by decide +kernel
theorem dd_X8_add_46 : decode mb_X8_add 46 = .ok (.iconst 1, 1) := by decide +kernel
theorem dd_X8_add_47 : decode mb_X8_add 47 = .ok (.iadd, 1) := by decide +kernel
theorem dd_X8_add_48 : decode mb_X8_add 48 = .ok (.putfield 24, 3) := by decide +kernel
theorem dd_X8_add_51 : decode mb_X8_add 51 = .ok (.aload_n 0, 1) := by decide +kernel
theorem dd_X8_add_52 : decode mb_X8_add 52 = .ok (.getfield 24, 3) := by decide +kernel
theorem dd_X8_add_55 : decode mb_X8_add 55 = .ok (.iconst 1, 1) := by decide +kernel
theorem dd_X8_add_56 : decode mb_X8_add 56 = .ok (.isub, 1) := by decide +kernel
theorem dd_X8_add_57 : decode mb_X8_add 57 = .ok (.ireturn, 1) := by decide +kernel
theorem dd_X8_become_0 : decode mb_X8_become 0 = .ok (.aload_n 1, 1) := by decide +kernel
theorem dd_X8_become_1 : decode mb_X8_become 1 = .ok (.getfield 9, 3) := by decide +kernel
theorem dd_X8_become_4 : decode mb_X8_become 4 = .ok (.iconst 0, 1) := by decide +kernel
theorem dd_X8_become_5 : decode mb_X8_become 5 = .ok (.aload_n 0, 1) := by decide +kernel
theorem dd_X8_become_6 : decode mb_X8_become 6 = .ok (.getfield 9, 3) := by decide +kernel
theorem dd_X8_become_9 : decode mb_X8_become 9 = .ok (.iconst 0, 1) := by decide +kernel
theorem dd_X8_become_10 : decode mb_X8_become 10 = .ok (.bipush 20, 2) := by decide +kernel
theorem dd_X8_become_12 : decode mb_X8_become 12 = .ok (.invokestatic 65, 3) := by decide +kernel
theorem dd_X8_become_15 : decode mb_X8_become 15 = .ok (.aload_n 1, 1) := by decide +kernel
theorem dd_X8_become_16 : decode mb_X8_become 16 = .ok (.getfield 15, 3) := by decide +kernel
theorem dd_X8_become_19 : decode mb_X8_become 19 = .ok (.iconst 0, 1) := by decide +kernel
theorem dd_X8_become_20 : decode mb_X8_become 20 = .ok (.aload_n 0, 1) := by decide +kernel
theorem dd_X8_become_21 : decode mb_X8_become 21 = .ok (.getfield 15, 3) := by decide +kernel
theorem dd_X8_become_24 : decode mb_X8_become 24 = .ok (.iconst 0, 1) := by decide +kernel
theorem dd_X8_become_25 : decode mb_X8_become 25 = .ok (.bipush 20, 2) := by decide +kernel
theorem dd_X8_become_27 : decode mb_X8_become 27 = .ok (.invokestatic 65, 3) := by decide +kernel
theorem dd_X8_become_30 : decode mb_X8_become 30 = .ok (.aload_n 1, 1) := by decide +kernel
theorem dd_X8_become_31 : decode mb_X8_become 31 = .ok (.getfield 18, 3) := by decide +kernel
theorem dd_X8_become_34 : decode mb_X8_become 34 = .ok (.iconst 0, 1) := by decide +kernel
theorem dd_X8_become_35 : decode mb_X8_become 35 = .ok (.aload_n 0, 1) := by decide +kernel
theorem dd_X8_become_36 : decode mb_X8_become 36 = .ok (.getfield 18, 3) := by decide +kernel
theorem dd_X8_become_39 : decode mb_X8_become 39 = .ok (.iconst 0, 1) := by decide +kernel
theorem dd_X8_become_40 : decode mb_X8_become 40 = .ok (.bipush 20, 2) := by decide +kernel
theorem dd_X8_become_42 : decode mb_X8_become 42 = .ok (.invokestatic 65, 3) := by decide +kernel
theorem dd_X8_become_45 : decode mb_X8_become 45 = .ok (.aload_n 1, 1) := by decide +kernel
theorem dd_X8_become_46 : decode mb_X8_become 46 = .ok (.getfield 21, 3) := by decide +kernel
theorem dd_X8_become_49 : decode mb_X8_become 49 = .ok (.iconst 0, 1) := by decide +kernel
theorem dd_X8_become_50 : decode mb_X8_become 50 = .ok (.aload_n 0, 1) := by decide +kernel
theorem dd_X8_become_51 : decode mb_X8_become 51 = .ok (.getfield 21, 3) := by decide +kernel
theorem dd_X8_become_54 : decode mb_X8_become 54 = .ok (.iconst 0, 1) := by decide +kernel
theorem dd_X8_become_55 : decode mb_X8_become 55 = .ok (.bipush 20, 2) := by decide +kernel
theorem dd_X8_become_57 : decode mb_X8_become 57 = .ok (.invokestatic 65, 3) := by decide +kernel
theorem dd_X8_become_60 : decode mb_X8_become 60 = .ok (.aload_n 0, 1) := by decide +kernel
theorem dd_X8_become_61 : decode mb_X8_become 61 = .ok (.aload_n 1, 1) := by decide +kernel
theorem dd_X8_become_62 : decode mb_X8_become 62 = .ok (.getfield 24, 3) := by decide +kernel
theorem dd_X8_become_65 : decode mb_X8_become 65 = .ok (.putfield 24, 3) := by decide +kernel
theorem dd_X8_become_68 : decode mb_X8_become 68 = .ok (.return_, 1) := by decide +kernel
theorem dd_X8_fewestVases_0 : decode mb_X8_fewestVases 0 = .ok (.aload_n 0, 1) := by decide +kernel
theorem dd_X8_fewestVases_1 : decode mb_X8_fewestVases 1 = .ok (.getfield 28, 3) := by decide +kernel
theorem dd_X8_fewestVases_4 : decode mb_X8_fewestVases 4 = .ok (.iconst (-1), 1) := by decide +kernel
theorem dd_X8_fewestVases_5 : decode mb_X8_fewestVases 5 = .ok (.invokestatic 41, 3) := by decide +kernel
theorem dd_X8_fewestVases_8 : decode mb_X8_fewestVases 8 = .ok (.iconst 0, 1) := by decide +kernel
theorem dd_X8_fewestVases_9 : decode mb_X8_fewestVases 9 = .ok (.istore_n 1, 1) := by decide +kernel
theorem dd_X8_fewestVases_10 : decode mb_X8_fewestVases 10 = .ok (.iconst 0, 1) := by decide +kernel
theorem dd_X8_fewestVases_11 : decode mb_X8_fewestVases 11 = .ok (.istore_n 2, 1) := by decide +kernel
theorem dd_X8_fewestVases_12 : decode mb_X8_fewestVases 12 = .ok (.iload_n 2, 1) := by decide +kernel
theorem dd_X8_fewestVases_13 : decode mb_X8_fewestVases 13 = .ok (.aload_n 0, 1) := by decide +kernel
theorem dd_X8_fewestVases_14 : decode mb_X8_fewestVases 14 = .ok (.getfield 24, 3) := by decide +kernel
theorem dd_X8_fewestVases_17 : decode mb_X8_fewestVases 17 = .ok (.if_icmp .ge 29, 3) := by decide +kernel
theorem dd_X8_fewestVases_20 : decode mb_X8_fewestVases 20 = .ok (.aload_n 0, 1) := by decide +kernel
theorem dd_X8_fewestVases_21 : decode mb_X8_fewestVases 21 = .ok (.getfield 31, 3) := by decide +kernel
theorem dd_X8_fewestVases_24 : decode mb_X8_fewestVases 24 = .ok (.iconst (-1), 1) := by decide +kernel
theorem dd_X8_fewestVases_25 : decode mb_X8_fewestVases 25 = .ok (.invokestatic 41, 3) := by decide +kernel
theorem dd_X8_fewestVases_28 : decode mb_X8_fewestVases 28 = .ok (.aload_n 0, 1) := by decide +kernel
theorem dd_X8_fewestVases_29 : decode mb_X8_fewestVases 29 = .ok (.iload_n 2, 1) := by decide +kernel
theorem dd_X8_fewestVases_30 : decode mb_X8_fewestVases 30 = .ok (.iconst 0, 1) := by decide +kernel
theorem dd_X8_fewestVases_31 : decode mb_X8_fewestVases 31 = .ok (.invokestatic 47, 3) := by decide +kernel
theorem dd_X8_fewestVases_34 : decode mb_X8_fewestVases 34 = .ok (.ifCond .eq 6, 3) := by decide +kernel
theorem dd_X8_fewestVases_37 : decode mb_X8_fewestVases 37 = .ok (.iinc 1 1, 3) := by decide +kernel
theorem dd_X8_fewestVases_40 : decode mb_X8_fewestVases 40 = .ok (.iinc 2 1, 3) := by decide +kernel
theorem dd_X8_fewestVases_43 : decode mb_X8_fewestVases 43 = .ok (.goto (-31), 3) := by decide +kernel
theorem dd_X8_fewestVases_46 : decode mb_X8_fewestVases 46 = .ok (.aload_n 0, 1) := by decide +kernel
theorem dd_X8_fewestVases_47 : decode mb_X8_fewestVases 47 = .ok (.getfield 24, 3) := by decide +kernel
theorem dd_X8_fewestVases_50 : decode mb_X8_fewestVases 50 = .ok (.iload_n 1, 1) := by decide +kernel
theorem dd_X8_fewestVases_51 : decode mb_X8_fewestVases 51 = .ok (.isub, 1) := by decide +kernel
theorem dd_X8_fewestVases_52 : decode mb_X8_fewestVases 52 = .ok (.ireturn, 1) := by decide +kernel
theorem dd_X8_findsNext_0 : decode mb_X8_findsNext 0 = .ok (.iload_n 2, 1) := by decide +kernel
theorem dd_X8_findsNext_1 : decode mb_X8_findsNext 1 = .ok (.bipush 20, 2) := by decide +kernel
theorem dd_X8_findsNext_3 : decode mb_X8_findsNext 3 = .ok (.if_icmp .le 5, 3) := by decide +kernel
theorem dd_X8_findsNext_6 : decode mb_X8_findsNext 6 = .ok (.iconst 0, 1) := by decide +kernel
theorem dd_X8_findsNext_7 : decode mb_X8_findsNext 7 = .ok (.ireturn, 1) := by decide +kernel
theorem dd_X8_findsNext_8 : decode mb_X8_findsNext 8 = .ok (.iconst 0, 1) := by decide +kernel
theorem dd_X8_findsNext_9 : decode mb_X8_findsNext 9 = .ok (.istore_n 3, 1) := by decide +kernel
theorem dd_X8_findsNext_10 : decode mb_X8_findsNext 10 = .ok (.iload_n 3, 1) := by decide +kernel
theorem dd_X8_findsNext_11 : decode mb_X8_findsNext 11 = .ok (.aload_n 0, 1) := by decide +kernel
theorem dd_X8_findsNext_12 : decode mb_X8_findsNext 12 = .ok (.getfield 24, 3) := by decide +kernel
theorem dd_X8_findsNext_15 : decode mb_X8_findsNext 15 = .ok (.if_icmp .ge 70, 3) := by decide +kernel
theorem dd_X8_findsNext_18 : decode mb_X8_findsNext 18 = .ok (.aload_n 0, 1) := by decide +kernel
theorem dd_X8_findsNext_19 : decode mb_X8_findsNext 19 = .ok (.getfield 31, 3) := by decide +kernel
theorem dd_X8_findsNext_22 : decode mb_X8_findsNext 22 = .ok (.iload_n 3, 1) := by decide +kernel
theorem dd_X8_findsNext_23 : decode mb_X8_findsNext 23 = .ok (.iaload, 1) := by decide +kernel
theorem dd_X8_findsNext_24 : decode mb_X8_findsNext 24 = .ok (.iconst (-1), 1) := by decide +kernel
theorem dd_X8_findsNext_25 : decode mb_X8_findsNext 25 = .ok (.if_icmp .ne 54, 3) := by decide +kernel
theorem dd_X8_findsNext_28 : decode mb_X8_findsNext 28 = .ok (.aload_n 0, 1) := by decide +kernel
theorem dd_X8_findsNext_29 : decode mb_X8_findsNext 29 = .ok (.iload_n 1, 1) := by decide +kernel
theorem dd_X8_findsNext_30 : decode mb_X8_findsNext 30 = .ok (.iload_n 3, 1) := by decide +kernel
theorem dd_X8_findsNext_31 : decode mb_X8_findsNext 31 = .ok (.invokevirtual 51, 3) := by decide +kernel
theorem dd_X8_findsNext_34 : decode mb_X8_findsNext 34 = .ok (.ifCond .eq 45, 3) := by decide +kernel
theorem dd_X8_findsNext_37 : decode mb_X8_findsNext 37 = .ok (.aload_n 0, 1) := by decide +kernel
theorem dd_X8_findsNext_38 : decode mb_X8_findsNext 38 = .ok (.getfield 31, 3) := by decide +kernel
theorem dd_X8_findsNext_41 : decode mb_X8_findsNext 41 = .ok (.iload_n 3, 1) := by decide +kernel
theorem dd_X8_findsNext_42 : decode mb_X8_findsNext 42 = .ok (.iload_n 1, 1) := by decide +kernel
theorem dd_X8_findsNext_43 : decode mb_X8_findsNext 43 = .ok (.iastore, 1) := by decide +kernel
theorem dd_X8_findsNext_44 : decode mb_X8_findsNext 44 = .ok (.aload_n 0, 1) := by decide +kernel
theorem dd_X8_findsNext_45 : decode mb_X8_findsNext 45 = .ok (.getfield 28, 3) := by decide +kernel
theorem dd_X8_findsNext_48 : decode mb_X8_findsNext 48 = .ok (.iload_n 3, 1) := by decide +kernel
theorem dd_X8_findsNext_49 : decode mb_X8_findsNext 49 = .ok (.iaload, 1) := by decide +kernel
theorem dd_X8_findsNext_50 : decode mb_X8_findsNext 50 = .ok (.iconst (-1), 1) := by decide +kernel
theorem dd_X8_findsNext_51 : decode mb_X8_findsNext 51 = .ok (.if_icmp .eq 19, 3) := by decide +kernel
theorem dd_X8_findsNext_54 : decode mb_X8_findsNext 54 = .ok (.aload_n 0, 1) := by decide +kernel
theorem dd_X8_findsNext_55 : decode mb_X8_findsNext 55 = .ok (.aload_n 0, 1) := by decide +kernel
theorem dd_X8_findsNext_56 : decode mb_X8_findsNext 56 = .ok (.getfield 28, 3) := by decide +kernel
theorem dd_X8_findsNext_59 : decode mb_X8_findsNext 59 = .ok (.iload_n 3, 1) := by decide +kernel
theorem dd_X8_findsNext_60 : decode mb_X8_findsNext 60 = .ok (.iaload, 1) := by decide +kernel
theorem dd_X8_findsNext_61 : decode mb_X8_findsNext 61 = .ok (.iload_n 2, 1) := by decide +kernel
theorem dd_X8_findsNext_62 : decode mb_X8_findsNext 62 = .ok (.iconst 1, 1) := by decide +kernel
theorem dd_X8_findsNext_63 : decode mb_X8_findsNext 63 = .ok (.iadd, 1) := by decide +kernel
theorem dd_X8_findsNext_64 : decode mb_X8_findsNext 64 = .ok (.invokestatic 47, 3) := by decide +kernel
theorem dd_X8_findsNext_67 : decode mb_X8_findsNext 67 = .ok (.ifCond .eq 12, 3) := by decide +kernel
theorem dd_X8_findsNext_70 : decode mb_X8_findsNext 70 = .ok (.aload_n 0, 1) := by decide +kernel
theorem dd_X8_findsNext_71 : decode mb_X8_findsNext 71 = .ok (.getfield 28, 3) := by decide +kernel
theorem dd_X8_findsNext_74 : decode mb_X8_findsNext 74 = .ok (.iload_n 3, 1) := by decide +kernel
theorem dd_X8_findsNext_75 : decode mb_X8_findsNext 75 = .ok (.iload_n 1, 1) := by decide +kernel
theorem dd_X8_findsNext_76 : decode mb_X8_findsNext 76 = .ok (.iastore, 1) := by decide +kernel
theorem dd_X8_findsNext_77 : decode mb_X8_findsNext 77 = .ok (.iconst 1, 1) := by decide +kernel
theorem dd_X8_findsNext_78 : decode mb_X8_findsNext 78 = .ok (.ireturn, 1) := by decide +kernel
theorem dd_X8_findsNext_79 : decode mb_X8_findsNext 79 = .ok (.iinc 3 1, 3) := by decide +kernel
theorem dd_X8_findsNext_82 : decode mb_X8_findsNext 82 = .ok (.goto (-72), 3) := by decide +kernel
theorem dd_X8_findsNext_85 : decode mb_X8_findsNext 85 = .ok (.iconst 0, 1) := by decide +kernel
theorem dd_X8_findsNext_86 : decode mb_X8_findsNext 86 = .ok (.ireturn, 1) := by decide +kernel
theorem dd_X8_has_0 : decode mb_X8_has 0 = .ok (.iload_n 1, 1) := by decide +kernel
theorem dd_X8_has_1 : decode mb_X8_has 1 = .ok (.iconst 0, 1) := by decide +kernel
theorem dd_X8_has_2 : decode mb_X8_has 2 = .ok (.aload_n 0, 1) := by decide +kernel
theorem dd_X8_has_3 : decode mb_X8_has 3 = .ok (.getfield 24, 3) := by decide +kernel
theorem dd_X8_has_6 : decode mb_X8_has 6 = .ok (.iconst 1, 1) := by decide +kernel
theorem dd_X8_has_7 : decode mb_X8_has 7 = .ok (.isub, 1) := by decide +kernel
theorem dd_X8_has_8 : decode mb_X8_has 8 = .ok (.invokestatic 37, 3) := by decide +kernel
theorem dd_X8_has_11 : decode mb_X8_has 11 = .ok (.ireturn, 1) := by decide +kernel
theorem dd_X8_init_0 : decode mb_X8_init 0 = .ok (.aload_n 0, 1) := by decide +kernel
theorem dd_X8_init_1 : decode mb_X8_init 1 = .ok (.invokespecial 3, 3) := by decide +kernel
theorem dd_X8_init_4 : decode mb_X8_init 4 = .ok (.aload_n 0, 1) := by decide +kernel
theorem dd_X8_init_5 : decode mb_X8_init 5 = .ok (.bipush 20, 2) := by decide +kernel
theorem dd_X8_init_7 : decode mb_X8_init 7 = .ok (.newarray .int, 2) := by decide +kernel
theorem dd_X8_init_9 : decode mb_X8_init 9 = .ok (.putfield 9, 3) := by decide +kernel
theorem dd_X8_init_12 : decode mb_X8_init 12 = .ok (.aload_n 0, 1) := by decide +kernel
theorem dd_X8_init_13 : decode mb_X8_init 13 = .ok (.bipush 20, 2) := by decide +kernel
theorem dd_X8_init_15 : decode mb_X8_init 15 = .ok (.newarray .int, 2) := by decide +kernel
theorem dd_X8_init_17 : decode mb_X8_init 17 = .ok (.putfield 15, 3) := by decide +kernel
theorem dd_X8_init_20 : decode mb_X8_init 20 = .ok (.aload_n 0, 1) := by decide +kernel
theorem dd_X8_init_21 : decode mb_X8_init 21 = .ok (.bipush 20, 2) := by decide +kernel
theorem dd_X8_init_23 : decode mb_X8_init 23 = .ok (.newarray .int, 2) := by decide +kernel
theorem dd_X8_init_25 : decode mb_X8_init 25 = .ok (.putfield 18, 3) := by decide +kernel
theorem dd_X8_init_28 : decode mb_X8_init 28 = .ok (.aload_n 0, 1) := by decide +kernel
theorem dd_X8_init_29 : decode mb_X8_init 29 = .ok (.bipush 20, 2) := by decide +kernel
theorem dd_X8_init_31 : decode mb_X8_init 31 = .ok (.newarray .int, 2) := by decide +kernel
theorem dd_X8_init_33 : decode mb_X8_init 33 = .ok (.putfield 21, 3) := by decide +kernel
theorem dd_X8_init_36 : decode mb_X8_init 36 = .ok (.aload_n 0, 1) := by decide +kernel
theorem dd_X8_init_37 : decode mb_X8_init 37 = .ok (.iconst 0, 1) := by decide +kernel
theorem dd_X8_init_38 : decode mb_X8_init 38 = .ok (.putfield 24, 3) := by decide +kernel
theorem dd_X8_init_41 : decode mb_X8_init 41 = .ok (.aload_n 0, 1) := by decide +kernel
theorem dd_X8_init_42 : decode mb_X8_init 42 = .ok (.bipush 20, 2) := by decide +kernel
theorem dd_X8_init_44 : decode mb_X8_init 44 = .ok (.newarray .int, 2) := by decide +kernel
theorem dd_X8_init_46 : decode mb_X8_init 46 = .ok (.putfield 28, 3) := by decide +kernel
theorem dd_X8_init_49 : decode mb_X8_init 49 = .ok (.aload_n 0, 1) := by decide +kernel
theorem dd_X8_init_50 : decode mb_X8_init 50 = .ok (.bipush 20, 2) := by decide +kernel
theorem dd_X8_init_52 : decode mb_X8_init 52 = .ok (.newarray .int, 2) := by decide +kernel
theorem dd_X8_init_54 : decode mb_X8_init 54 = .ok (.putfield 31, 3) := by decide +kernel
theorem dd_X8_init_57 : decode mb_X8_init 57 = .ok (.aload_n 0, 1) := by decide +kernel
theorem dd_X8_init_58 : decode mb_X8_init 58 = .ok (.bipush 20, 2) := by decide +kernel
theorem dd_X8_init_60 : decode mb_X8_init 60 = .ok (.newarray .int, 2) := by decide +kernel
theorem dd_X8_init_62 : decode mb_X8_init 62 = .ok (.putfield 34, 3) := by decide +kernel
theorem dd_X8_init_65 : decode mb_X8_init 65 = .ok (.return_, 1) := by decide +kernel
theorem dd_X8_longestBefore_0 : decode mb_X8_longestBefore 0 = .ok (.iconst 0, 1) := by decide +kernel
theorem dd_X8_longestBefore_1 : decode mb_X8_longestBefore 1 = .ok (.istore_n 2, 1) := by decide +kernel
theorem dd_X8_longestBefore_2 : decode mb_X8_longestBefore 2 = .ok (.iconst 0, 1) := by decide +kernel
theorem dd_X8_longestBefore_3 : decode mb_X8_longestBefore 3 = .ok (.istore_n 3, 1) := by decide +kernel
theorem dd_X8_longestBefore_4 : decode mb_X8_longestBefore 4 = .ok (.iload_n 3, 1) := by decide +kernel
theorem dd_X8_longestBefore_5 : decode mb_X8_longestBefore 5 = .ok (.aload_n 0, 1) := by decide +kernel
theorem dd_X8_longestBefore_6 : decode mb_X8_longestBefore 6 = .ok (.getfield 24, 3) := by decide +kernel
theorem dd_X8_longestBefore_9 : decode mb_X8_longestBefore 9 = .ok (.if_icmp .ge 29, 3) := by decide +kernel
theorem dd_X8_longestBefore_12 : decode mb_X8_longestBefore 12 = .ok (.aload_n 0, 1) := by decide +kernel
theorem dd_X8_longestBefore_13 : decode mb_X8_longestBefore 13 = .ok (.iload_n 3, 1) := by decide +kernel
theorem dd_X8_longestBefore_14 : decode mb_X8_longestBefore 14 = .ok (.iload_n 1, 1) := by decide +kernel
theorem dd_X8_longestBefore_15 : decode mb_X8_longestBefore 15 = .ok (.invokevirtual 51, 3) := by decide +kernel
theorem dd_X8_longestBefore_18 : decode mb_X8_longestBefore 18 = .ok (.ifCond .eq 14, 3) := by decide +kernel
theorem dd_X8_longestBefore_21 : decode mb_X8_longestBefore 21 = .ok (.iload_n 2, 1) := by decide +kernel
theorem dd_X8_longestBefore_22 : decode mb_X8_longestBefore 22 = .ok (.aload_n 0, 1) := by decide +kernel
theorem dd_X8_longestBefore_23 : decode mb_X8_longestBefore 23 = .ok (.getfield 34, 3) := by decide +kernel
theorem dd_X8_longestBefore_26 : decode mb_X8_longestBefore 26 = .ok (.iload_n 3, 1) := by decide +kernel
theorem dd_X8_longestBefore_27 : decode mb_X8_longestBefore 27 = .ok (.iaload, 1) := by decide +kernel
theorem dd_X8_longestBefore_28 : decode mb_X8_longestBefore 28 = .ok (.invokestatic 59, 3) := by decide +kernel
theorem dd_X8_longestBefore_31 : decode mb_X8_longestBefore 31 = .ok (.istore_n 2, 1) := by decide +kernel
theorem dd_X8_longestBefore_32 : decode mb_X8_longestBefore 32 = .ok (.iinc 3 1, 3) := by decide +kernel
theorem dd_X8_longestBefore_35 : decode mb_X8_longestBefore 35 = .ok (.goto (-31), 3) := by decide +kernel
theorem dd_X8_longestBefore_38 : decode mb_X8_longestBefore 38 = .ok (.iload_n 2, 1) := by decide +kernel
theorem dd_X8_longestBefore_39 : decode mb_X8_longestBefore 39 = .ok (.ireturn, 1) := by decide +kernel
theorem dd_X8_longestRow_0 : decode mb_X8_longestRow 0 = .ok (.iconst 0, 1) := by decide +kernel
theorem dd_X8_longestRow_1 : decode mb_X8_longestRow 1 = .ok (.istore_n 1, 1) := by decide +kernel
theorem dd_X8_longestRow_2 : decode mb_X8_longestRow 2 = .ok (.iconst 0, 1) := by decide +kernel
theorem dd_X8_longestRow_3 : decode mb_X8_longestRow 3 = .ok (.istore_n 2, 1) := by decide +kernel
theorem dd_X8_longestRow_4 : decode mb_X8_longestRow 4 = .ok (.iload_n 2, 1) := by decide +kernel
theorem dd_X8_longestRow_5 : decode mb_X8_longestRow 5 = .ok (.bipush 99, 2) := by decide +kernel
theorem dd_X8_longestRow_7 : decode mb_X8_longestRow 7 = .ok (.if_icmp .gt 59, 3) := by decide +kernel
theorem dd_X8_longestRow_10 : decode mb_X8_longestRow 10 = .ok (.iconst 0, 1) := by decide +kernel
theorem dd_X8_longestRow_11 : decode mb_X8_longestRow 11 = .ok (.istore_n 3, 1) := by decide +kernel
theorem dd_X8_longestRow_12 : decode mb_X8_longestRow 12 = .ok (.iload_n 3, 1) := by decide +kernel
theorem dd_X8_longestRow_13 : decode mb_X8_longestRow 13 = .ok (.aload_n 0, 1) := by decide +kernel
theorem dd_X8_longestRow_14 : decode mb_X8_longestRow 14 = .ok (.getfield 24, 3) := by decide +kernel
theorem dd_X8_longestRow_17 : decode mb_X8_longestRow 17 = .ok (.if_icmp .ge 43, 3) := by decide +kernel
theorem dd_X8_longestRow_20 : decode mb_X8_longestRow 20 = .ok (.aload_n 0, 1) := by decide +kernel
theorem dd_X8_longestRow_21 : decode mb_X8_longestRow 21 = .ok (.getfield 9, 3) := by decide +kernel
theorem dd_X8_longestRow_24 : decode mb_X8_longestRow 24 = .ok (.iload_n 3, 1) := by decide +kernel
theorem dd_X8_longestRow_25 : decode mb_X8_longestRow 25 = .ok (.iaload, 1) := by decide +kernel
theorem dd_X8_longestRow_26 : decode mb_X8_longestRow 26 = .ok (.iload_n 2, 1) := by decide +kernel
theorem dd_X8_longestRow_27 : decode mb_X8_longestRow 27 = .ok (.if_icmp .ne 27, 3) := by decide +kernel
theorem dd_X8_longestRow_30 : decode mb_X8_longestRow 30 = .ok (.aload_n 0, 1) := by decide +kernel
theorem dd_X8_longestRow_31 : decode mb_X8_longestRow 31 = .ok (.getfield 34, 3) := by decide +kernel
theorem dd_X8_longestRow_34 : decode mb_X8_longestRow 34 = .ok (.iload_n 3, 1) := by decide +kernel
theorem dd_X8_longestRow_35 : decode mb_X8_longestRow 35 = .ok (.iconst 1, 1) := by decide +kernel
theorem dd_X8_longestRow_36 : decode mb_X8_longestRow 36 = .ok (.aload_n 0, 1) := by decide +kernel
theorem dd_X8_longestRow_37 : decode mb_X8_longestRow 37 = .ok (.iload_n 3, 1) := by decide +kernel
theorem dd_X8_longestRow_38 : decode mb_X8_longestRow 38 = .ok (.invokevirtual 55, 3) := by decide +kernel
theorem dd_X8_longestRow_41 : decode mb_X8_longestRow 41 = .ok (.iadd, 1) := by decide +kernel
theorem dd_X8_longestRow_42 : decode mb_X8_longestRow 42 = .ok (.iastore, 1) := by decide +kernel
theorem dd_X8_longestRow_43 : decode mb_X8_longestRow 43 = .ok (.iload_n 1, 1) := by decide +kernel
theorem dd_X8_longestRow_44 : decode mb_X8_longestRow 44 = .ok (.aload_n 0, 1) := by decide +kernel
theorem dd_X8_longestRow_45 : decode mb_X8_longestRow 45 = .ok (.getfield 34, 3) := by decide +kernel
theorem dd_X8_longestRow_48 : decode mb_X8_longestRow 48 = .ok (.iload_n 3, 1) := by decide +kernel
theorem dd_X8_longestRow_49 : decode mb_X8_longestRow 49 = .ok (.iaload, 1) := by decide +kernel
theorem dd_X8_longestRow_50 : decode mb_X8_longestRow 50 = .ok (.invokestatic 59, 3) := by decide +kernel
theorem dd_X8_longestRow_53 : decode mb_X8_longestRow 53 = .ok (.istore_n 1, 1) := by decide +kernel
theorem dd_X8_longestRow_54 : decode mb_X8_longestRow 54 = .ok (.iinc 3 1, 3) := by decide +kernel
theorem dd_X8_longestRow_57 : decode mb_X8_longestRow 57 = .ok (.goto (-45), 3) := by decide +kernel
theorem dd_X8_longestRow_60 : decode mb_X8_longestRow 60 = .ok (.iinc 2 1, 3) := by decide +kernel
theorem dd_X8_longestRow_63 : decode mb_X8_longestRow 63 = .ok (.goto (-59), 3) := by decide +kernel
theorem dd_X8_longestRow_66 : decode mb_X8_longestRow 66 = .ok (.iload_n 1, 1) := by decide +kernel
theorem dd_X8_longestRow_67 : decode mb_X8_longestRow 67 = .ok (.ireturn, 1) := by decide +kernel
theorem dd_X8_mayBeOf_0 : decode mb_X8_mayBeOf 0 = .ok (.aload_n 0, 1) := by decide +kernel
theorem dd_X8_mayBeOf_1 : decode mb_X8_mayBeOf 1 = .ok (.getfield 9, 3) := by decide +kernel
theorem dd_X8_mayBeOf_4 : decode mb_X8_mayBeOf 4 = .ok (.iload_n 1, 1) := by decide +kernel
theorem dd_X8_mayBeOf_5 : decode mb_X8_mayBeOf 5 = .ok (.iaload, 1) := by decide +kernel
theorem dd_X8_mayBeOf_6 : decode mb_X8_mayBeOf 6 = .ok (.aload_n 0, 1) := by decide +kernel
theorem dd_X8_mayBeOf_7 : decode mb_X8_mayBeOf 7 = .ok (.getfield 9, 3) := by decide +kernel
theorem dd_X8_mayBeOf_10 : decode mb_X8_mayBeOf 10 = .ok (.iload_n 2, 1) := by decide +kernel
theorem dd_X8_mayBeOf_11 : decode mb_X8_mayBeOf 11 = .ok (.iaload, 1) := by decide +kernel
theorem dd_X8_mayBeOf_12 : decode mb_X8_mayBeOf 12 = .ok (.if_icmp .ge 60, 3) := by decide +kernel
theorem dd_X8_mayBeOf_15 : decode mb_X8_mayBeOf 15 = .ok (.aload_n 0, 1) := by decide +kernel
theorem dd_X8_mayBeOf_16 : decode mb_X8_mayBeOf 16 = .ok (.getfield 15, 3) := by decide +kernel
theorem dd_X8_mayBeOf_19 : decode mb_X8_mayBeOf 19 = .ok (.iload_n 1, 1) := by decide +kernel
theorem dd_X8_mayBeOf_20 : decode mb_X8_mayBeOf 20 = .ok (.iaload, 1) := by decide +kernel
theorem dd_X8_mayBeOf_21 : decode mb_X8_mayBeOf 21 = .ok (.aload_n 0, 1) := by decide +kernel
theorem dd_X8_mayBeOf_22 : decode mb_X8_mayBeOf 22 = .ok (.getfield 15, 3) := by decide +kernel
theorem dd_X8_mayBeOf_25 : decode mb_X8_mayBeOf 25 = .ok (.iload_n 2, 1) := by decide +kernel
theorem dd_X8_mayBeOf_26 : decode mb_X8_mayBeOf 26 = .ok (.iaload, 1) := by decide +kernel
theorem dd_X8_mayBeOf_27 : decode mb_X8_mayBeOf 27 = .ok (.iconst (-1), 1) := by decide +kernel
theorem dd_X8_mayBeOf_28 : decode mb_X8_mayBeOf 28 = .ok (.ixor, 1) := by decide +kernel
theorem dd_X8_mayBeOf_29 : decode mb_X8_mayBeOf 29 = .ok (.iand, 1) := by decide +kernel
theorem dd_X8_mayBeOf_30 : decode mb_X8_mayBeOf 30 = .ok (.ifCond .ne 42, 3) := by decide +kernel
theorem dd_X8_mayBeOf_33 : decode mb_X8_mayBeOf 33 = .ok (.aload_n 0, 1) := by decide +kernel
theorem dd_X8_mayBeOf_34 : decode mb_X8_mayBeOf 34 = .ok (.getfield 21, 3) := by decide +kernel
theorem dd_X8_mayBeOf_37 : decode mb_X8_mayBeOf 37 = .ok (.iload_n 1, 1) := by decide +kernel
theorem dd_X8_mayBeOf_38 : decode mb_X8_mayBeOf 38 = .ok (.iaload, 1) := by decide +kernel
theorem dd_X8_mayBeOf_39 : decode mb_X8_mayBeOf 39 = .ok (.iconst (-1), 1) := by decide +kernel
theorem dd_X8_mayBeOf_40 : decode mb_X8_mayBeOf 40 = .ok (.if_icmp .eq 28, 3) := by decide +kernel
theorem dd_X8_mayBeOf_43 : decode mb_X8_mayBeOf 43 = .ok (.aload_n 0, 1) := by decide +kernel
theorem dd_X8_mayBeOf_44 : decode mb_X8_mayBeOf 44 = .ok (.getfield 18, 3) := by decide +kernel
theorem dd_X8_mayBeOf_47 : decode mb_X8_mayBeOf 47 = .ok (.iload_n 2, 1) := by decide +kernel
theorem dd_X8_mayBeOf_48 : decode mb_X8_mayBeOf 48 = .ok (.iaload, 1) := by decide +kernel
theorem dd_X8_mayBeOf_49 : decode mb_X8_mayBeOf 49 = .ok (.iconst (-1), 1) := by decide +kernel
theorem dd_X8_mayBeOf_50 : decode mb_X8_mayBeOf 50 = .ok (.if_icmp .eq 18, 3) := by decide +kernel
theorem dd_X8_mayBeOf_53 : decode mb_X8_mayBeOf 53 = .ok (.aload_n 0, 1) := by decide +kernel
theorem dd_X8_mayBeOf_54 : decode mb_X8_mayBeOf 54 = .ok (.getfield 21, 3) := by decide +kernel
theorem dd_X8_mayBeOf_57 : decode mb_X8_mayBeOf 57 = .ok (.iload_n 1, 1) := by decide +kernel
theorem dd_X8_mayBeOf_58 : decode mb_X8_mayBeOf 58 = .ok (.iaload, 1) := by decide +kernel
theorem dd_X8_mayBeOf_59 : decode mb_X8_mayBeOf 59 = .ok (.aload_n 0, 1) := by decide +kernel
theorem dd_X8_mayBeOf_60 : decode mb_X8_mayBeOf 60 = .ok (.getfield 18, 3) := by decide +kernel
theorem dd_X8_mayBeOf_63 : decode mb_X8_mayBeOf 63 = .ok (.iload_n 2, 1) := by decide +kernel
theorem dd_X8_mayBeOf_64 : decode mb_X8_mayBeOf 64 = .ok (.iaload, 1) := by decide +kernel
theorem dd_X8_mayBeOf_65 : decode mb_X8_mayBeOf 65 = .ok (.if_icmp .ne 7, 3) := by decide +kernel
theorem dd_X8_mayBeOf_68 : decode mb_X8_mayBeOf 68 = .ok (.iconst 1, 1) := by decide +kernel
theorem dd_X8_mayBeOf_69 : decode mb_X8_mayBeOf 69 = .ok (.goto 4, 3) := by decide +kernel
theorem dd_X8_mayBeOf_72 : decode mb_X8_mayBeOf 72 = .ok (.iconst 0, 1) := by decide +kernel
theorem dd_X8_mayBeOf_73 : decode mb_X8_mayBeOf 73 = .ok (.ireturn, 1) := by decide +kernel
theorem dd_X9_append_0 : decode mb_X9_append 0 = .ok (.iload_n 2, 1) := by decide +kernel
theorem dd_X9_append_1 : decode mb_X9_append 1 = .ok (.iconst 1, 1) := by decide +kernel
theorem dd_X9_append_2 : decode mb_X9_append 2 = .ok (.isub, 1) := by decide +kernel
theorem dd_X9_append_3 : decode mb_X9_append 3 = .ok (.istore_n 3, 1) := by decide +kernel
theorem dd_X9_append_4 : decode mb_X9_append 4 = .ok (.iload_n 3, 1) := by decide +kernel
theorem dd_X9_append_5 : decode mb_X9_append 5 = .ok (.ifCond .lt 44, 3) := by decide +kernel
theorem dd_X9_append_8 : decode mb_X9_append 8 = .ok (.aload_n 0, 1) := by decide +kernel
theorem dd_X9_append_9 : decode mb_X9_append 9 = .ok (.getfield 15, 3) := by decide +kernel
theorem dd_X9_append_12 : decode mb_X9_append 12 = .ok (.bipush 120, 2) := by decide +kernel
theorem dd_X9_append_14 : decode mb_X9_append 14 = .ok (.if_icmp .ge 35, 3) := by decide +kernel
theorem dd_X9_append_17 : decode mb_X9_append 17 = .ok (.aload_n 0, 1) := by decide +kernel
theorem dd_X9_append_18 : decode mb_X9_append 18 = .ok (.getfield 9, 3) := by decide +kernel
theorem dd_X9_append_21 : decode mb_X9_append 21 = .ok (.aload_n 0, 1) := by decide +kernel
theorem dd_X9_append_22 : decode mb_X9_append 22 = .ok (.getfield 15, 3) := by decide +kernel
theorem dd_X9_append_25 : decode mb_X9_append 25 = .ok (.iload_n 1, 1) := by decide +kernel
theorem dd_X9_append_26 : decode mb_X9_append 26 = .ok (.bipush 8, 2) := by decide +kernel
theorem dd_X9_append_28 : decode mb_X9_append 28 = .ok (.iload_n 3, 1) := by decide +kernel
theorem dd_X9_append_29 : decode mb_X9_append 29 = .ok (.imul, 1) := by decide +kernel
theorem dd_X9_append_30 : decode mb_X9_append 30 = .ok (.ishr, 1) := by decide +kernel
theorem dd_X9_append_31 : decode mb_X9_append 31 = .ok (.i2b, 1) := by decide +kernel
theorem dd_X9_append_32 : decode mb_X9_append 32 = .ok (.bastore, 1) := by decide +kernel
theorem dd_X9_append_33 : decode mb_X9_append 33 = .ok (.aload_n 0, 1) := by decide +kernel
theorem dd_X9_append_34 : decode mb_X9_append 34 = .ok (.dup, 1) := by decide +kernel
theorem dd_X9_append_35 : decode mb_X9_append 35 = .ok (.getfield 15, 3) := by decide +kernel
theorem dd_X9_append_38 : decode mb_X9_append 38 = .ok (.iconst 1, 1) := by decide +kernel
theorem dd_X9_append_39 : decode mb_X9_append 39 = .ok (.iadd, 1) := by decide +kernel
theorem dd_X9_append_40 : decode mb_X9_append 40 = .ok (.putfield 15, 3) := by decide +kernel
theorem dd_X9_append_43 : decode mb_X9_append 43 = .ok (.iinc 3 (-1), 3) := by decide +kernel
theorem dd_X9_append_46 : decode mb_X9_append 46 = .ok (.goto (-42), 3) := by decide +kernel
theorem dd_X9_append_49 : decode mb_X9_append 49 = .ok (.return_, 1) := by decide +kernel
theorem dd_X9_init_0 : decode mb_X9_init 0 = .ok (.aload_n 0, 1) := by decide +kernel
theorem dd_X9_init_1 : decode mb_X9_init 1 = .ok (.invokespecial 3, 3) := by decide +kernel
theorem dd_X9_init_4 : decode mb_X9_init 4 = .ok (.aload_n 0, 1) := by decide +kernel
theorem dd_X9_init_5 : decode mb_X9_init 5 = .ok (.bipush 120, 2) := by decide +kernel
theorem dd_X9_init_7 : decode mb_X9_init 7 = .ok (.newarray .byte, 2) := by decide +kernel
theorem dd_X9_init_9 : decode mb_X9_init 9 = .ok (.putfield 9, 3) := by decide +kernel
theorem dd_X9_init_12 : decode mb_X9_init 12 = .ok (.aload_n 0, 1) := by decide +kernel
theorem dd_X9_init_13 : decode mb_X9_init 13 = .ok (.iconst 0, 1) := by decide +kernel
theorem dd_X9_init_14 : decode mb_X9_init 14 = .ok (.putfield 15, 3) := by decide +kernel
theorem dd_X9_init_17 : decode mb_X9_init 17 = .ok (.aload_n 0, 1) := by decide +kernel
theorem dd_X9_init_18 : decode mb_X9_init 18 = .ok (.iconst 0, 1) := by decide +kernel
theorem dd_X9_init_19 : decode mb_X9_init 19 = .ok (.putfield 19, 3) := by decide +kernel
theorem dd_X9_init_22 : decode mb_X9_init 22 = .ok (.aload_n 0, 1) := by decide +kernel
theorem dd_X9_init_23 : decode mb_X9_init 23 = .ok (.iconst 0, 1) := by decide +kernel
theorem dd_X9_init_24 : decode mb_X9_init 24 = .ok (.putfield 22, 3) := by decide +kernel
theorem dd_X9_init_27 : decode mb_X9_init 27 = .ok (.return_, 1) := by decide +kernel
theorem dd_X9_isDigit_0 : decode mb_X9_isDigit 0 = .ok (.iload_n 0, 1) := by decide +kernel
theorem dd_X9_isDigit_1 : decode mb_X9_isDigit 1 = .ok (.bipush 48, 2) := by decide +kernel
theorem dd_X9_isDigit_3 : decode mb_X9_isDigit 3 = .ok (.if_icmp .lt 13, 3) := by decide +kernel
theorem dd_X9_isDigit_6 : decode mb_X9_isDigit 6 = .ok (.iload_n 0, 1) := by decide +kernel
theorem dd_X9_isDigit_7 : decode mb_X9_isDigit 7 = .ok (.bipush 57, 2) := by decide +kernel
theorem dd_X9_isDigit_9 : decode mb_X9_isDigit 9 = .ok (.if_icmp .gt 7, 3) := by decide +kernel
theorem dd_X9_isDigit_12 : decode mb_X9_isDigit 12 = .ok (.iconst 1, 1) := by decide +kernel
theorem dd_X9_isDigit_13 : decode mb_X9_isDigit 13 = .ok (.goto 4, 3) := by decide +kernel
theorem dd_X9_isDigit_16 : decode mb_X9_isDigit 16 = .ok (.iconst 0, 1) := by decide +kernel
theorem dd_X9_isDigit_17 : decode mb_X9_isDigit 17 = .ok (.ireturn, 1) := by decide +kernel
theorem dd_X9_isLetter_0 : decode mb_X9_isLetter 0 = .ok (.iload_n 0, 1) := by decide +kernel
theorem dd_X9_isLetter_1 : decode mb_X9_isLetter 1 = .ok (.bipush 97, 2) := by decide +kernel
theorem dd_X9_isLetter_3 : decode mb_X9_isLetter 3 = .ok (.if_icmp .lt 13, 3) := by decide +kernel
theorem dd_X9_isLetter_6 : decode mb_X9_isLetter 6 = .ok (.iload_n 0, 1) := by decide +kernel
theorem dd_X9_isLetter_7 : decode mb_X9_isLetter 7 = .ok (.bipush 122, 2) := by decide +kernel
theorem dd_X9_isLetter_9 : decode mb_X9_isLetter 9 = .ok (.if_icmp .gt 7, 3) := by decide +kernel
theorem dd_X9_isLetter_12 : decode mb_X9_isLetter 12 = .ok (.iconst 1, 1) := by decide +kernel
theorem dd_X9_isLetter_13 : decode mb_X9_isLetter 13 = .ok (.goto 4, 3) := by decide +kernel
theorem dd_X9_isLetter_16 : decode mb_X9_isLetter 16 = .ok (.iconst 0, 1) := by decide +kernel
theorem dd_X9_isLetter_17 : decode mb_X9_isLetter 17 = .ok (.ireturn, 1) := by decide +kernel
theorem dd_X9_isWord_0 : decode mb_X9_isWord 0 = .ok (.aload_n 0, 1) := by decide +kernel
theorem dd_X9_isWord_1 : decode mb_X9_isWord 1 = .ok (.getfield 22, 3) := by decide +kernel
theorem dd_X9_isWord_4 : decode mb_X9_isWord 4 = .ok (.aload_n 0, 1) := by decide +kernel
theorem dd_X9_isWord_5 : decode mb_X9_isWord 5 = .ok (.getfield 19, 3) := by decide +kernel
theorem dd_X9_isWord_8 : decode mb_X9_isWord 8 = .ok (.isub, 1) := by decide +kernel
theorem dd_X9_isWord_9 : decode mb_X9_isWord 9 = .ok (.aload_n 1, 1) := by decide +kernel
theorem dd_X9_isWord_10 : decode mb_X9_isWord 10 = .ok (.invokevirtual 69, 3) := by decide +kernel
theorem dd_X9_isWord_13 : decode mb_X9_isWord 13 = .ok (.if_icmp .eq 5, 3) := by decide +kernel
theorem dd_X9_isWord_16 : decode mb_X9_isWord 16 = .ok (.iconst 0, 1) := by decide +kernel
theorem dd_X9_isWord_17 : decode mb_X9_isWord 17 = .ok (.ireturn, 1) := by decide +kernel
theorem dd_X9_isWord_18 : decode mb_X9_isWord 18 = .ok (.iconst 0, 1) := by decide +kernel
theorem dd_X9_isWord_19 : decode mb_X9_isWord 19 = .ok (.istore_n 2, 1) := by decide +kernel
theorem dd_X9_isWord_20 : decode mb_X9_isWord 20 = .ok (.iload_n 2, 1) := by decide +kernel
theorem dd_X9_isWord_21 : decode mb_X9_isWord 21 = .ok (.aload_n 1, 1) := by decide +kernel
theorem dd_X9_isWord_22 : decode mb_X9_isWord 22 = .ok (.invokevirtual 69, 3) := by decide +kernel
theorem dd_X9_isWord_25 : decode mb_X9_isWord 25 = .ok (.if_icmp .ge 30, 3) := by decide +kernel
theorem dd_X9_isWord_28 : decode mb_X9_isWord 28 = .ok (.aload_n 0, 1) := by decide +kernel
theorem dd_X9_isWord_29 : decode mb_X9_isWord 29 = .ok (.getfield 9, 3) := by decide +kernel
theorem dd_X9_isWord_32 : decode mb_X9_isWord 32 = .ok (.aload_n 0, 1) := by decide +kernel
theorem dd_X9_isWord_33 : decode mb_X9_isWord 33 = .ok (.getfield 19, 3) := by decide +kernel
theorem dd_X9_isWord_36 : decode mb_X9_isWord 36 = .ok (.iload_n 2, 1) := by decide +kernel
theorem dd_X9_isWord_37 : decode mb_X9_isWord 37 = .ok (.iadd, 1) := by decide +kernel
theorem dd_X9_isWord_38 : decode mb_X9_isWord 38 = .ok (.baload, 1) := by decide +kernel
theorem dd_X9_isWord_39 : decode mb_X9_isWord 39 = .ok (.aload_n 1, 1) := by decide +kernel
theorem dd_X9_isWord_40 : decode mb_X9_isWord 40 = .ok (.iload_n 2, 1) := by decide +kernel
theorem dd_X9_isWord_41 : decode mb_X9_isWord 41 = .ok (.invokevirtual 74, 3) := by decide +kernel
theorem dd_X9_isWord_44 : decode mb_X9_isWord 44 = .ok (.if_icmp .eq 5, 3) := by decide +kernel
theorem dd_X9_isWord_47 : decode mb_X9_isWord 47 = .ok (.iconst 0, 1) := by decide +kernel
theorem dd_X9_isWord_48 : decode mb_X9_isWord 48 = .ok (.ireturn, 1) := by decide +kernel
theorem dd_X9_isWord_49 : decode mb_X9_isWord 49 = .ok (.iinc 2 1, 3) := by decide +kernel
theorem dd_X9_isWord_52 : decode mb_X9_isWord 52 = .ok (.goto (-32), 3) := by decide +kernel
theorem dd_X9_isWord_55 : decode mb_X9_isWord 55 = .ok (.iconst 1, 1) := by decide +kernel
theorem dd_X9_isWord_56 : decode mb_X9_isWord 56 = .ok (.ireturn, 1) := by decide +kernel
theorem dd_X9_number_0 : decode mb_X9_number 0 = .ok (.aload_n 0, 1) := by decide +kernel
theorem dd_X9_number_1 : decode mb_X9_number 1 = .ok (.getfield 19, 3) := by decide +kernel
theorem dd_X9_number_4 : decode mb_X9_number 4 = .ok (.aload_n 0, 1) := by decide +kernel
theorem dd_X9_number_5 : decode mb_X9_number 5 = .ok (.getfield 15, 3) := by decide +kernel
theorem dd_X9_number_8 : decode mb_X9_number 8 = .ok (.if_icmp .ge 31, 3) := by decide +kernel
theorem dd_X9_number_11 : decode mb_X9_number 11 = .ok (.aload_n 0, 1) := by decide +kernel
theorem dd_X9_number_12 : decode mb_X9_number 12 = .ok (.getfield 9, 3) := by decide +kernel
theorem dd_X9_number_15 : decode mb_X9_number 15 = .ok (.aload_n 0, 1) := by decide +kernel
theorem dd_X9_number_16 : decode mb_X9_number 16 = .ok (.getfield 19, 3) := by decide +kernel
theorem dd_X9_number_19 : decode mb_X9_number 19 = .ok (.baload, 1) := by decide +kernel
theorem dd_X9_number_20 : decode mb_X9_number 20 = .ok (.invokestatic 52, 3) := by decide +kernel
theorem dd_X9_number_23 : decode mb_X9_number 23 = .ok (.ifCond .eq 16, 3) := by decide +kernel
theorem dd_X9_number_26 : decode mb_X9_number 26 = .ok (.aload_n 0, 1) := by decide +kernel
theorem dd_X9_number_27 : decode mb_X9_number 27 = .ok (.getfield 22, 3) := by decide +kernel
theorem dd_X9_number_30 : decode mb_X9_number 30 = .ok (.aload_n 0, 1) := by decide +kernel
theorem dd_X9_number_31 : decode mb_X9_number 31 = .ok (.getfield 19, 3) := by decide +kernel
theorem dd_X9_number_34 : decode mb_X9_number 34 = .ok (.isub, 1) := by decide +kernel
theorem dd_X9_number_35 : decode mb_X9_number 35 = .ok (.iconst 3, 1) := by decide +kernel
theorem dd_X9_number_36 : decode mb_X9_number 36 = .ok (.if_icmp .le 5, 3) := by decide +kernel
theorem dd_X9_number_39 : decode mb_X9_number 39 = .ok (.iconst (-1), 1) := by decide +kernel
theorem dd_X9_number_40 : decode mb_X9_number 40 = .ok (.ireturn, 1) := by decide +kernel
theorem dd_X9_number_41 : decode mb_X9_number 41 = .ok (.iconst 0, 1) := by decide +kernel
theorem dd_X9_number_42 : decode mb_X9_number 42 = .ok (.istore_n 1, 1) := by decide +kernel
theorem dd_X9_number_43 : decode mb_X9_number 43 = .ok (.aload_n 0, 1) := by decide +kernel
theorem dd_X9_number_44 : decode mb_X9_number 44 = .ok (.getfield 19, 3) := by decide +kernel
theorem dd_X9_number_47 : decode mb_X9_number 47 = .ok (.istore_n 2, 1) := by decide +kernel
theorem dd_X9_number_48 : decode mb_X9_number 48 = .ok (.iload_n 2, 1) := by decide +kernel
theorem dd_X9_number_49 : decode mb_X9_number 49 = .ok (.aload_n 0, 1) := by decide +kernel
theorem dd_X9_number_50 : decode mb_X9_number 50 = .ok (.getfield 22, 3) := by decide +kernel
theorem dd_X9_number_53 : decode mb_X9_number 53 = .ok (.if_icmp .ge 24, 3) := by decide +kernel
theorem dd_X9_number_56 : decode mb_X9_number 56 = .ok (.bipush 10, 2) := by decide +kernel
theorem dd_X9_number_58 : decode mb_X9_number 58 = .ok (.iload_n 1, 1) := by decide +kernel
theorem dd_X9_number_59 : decode mb_X9_number 59 = .ok (.imul, 1) := by decide +kernel
theorem dd_X9_number_60 : decode mb_X9_number 60 = .ok (.aload_n 0, 1) := by decide +kernel
theorem dd_X9_number_61 : decode mb_X9_number 61 = .ok (.getfield 9, 3) := by decide +kernel
theorem dd_X9_number_64 : decode mb_X9_number 64 = .ok (.iload_n 2, 1) := by decide +kernel
theorem dd_X9_number_65 : decode mb_X9_number 65 = .ok (.baload, 1) := by decide +kernel
theorem dd_X9_number_66 : decode mb_X9_number 66 = .ok (.iadd, 1) := by decide +kernel
theorem dd_X9_number_67 : decode mb_X9_number 67 = .ok (.bipush 48, 2) := by decide +kernel
theorem dd_X9_number_69 : decode mb_X9_number 69 = .ok (.isub, 1) := by decide +kernel
theorem dd_X9_number_70 : decode mb_X9_number 70 = .ok (.istore_n 1, 1) := by decide +kernel
theorem dd_X9_number_71 : decode mb_X9_number 71 = .ok (.iinc 2 1, 3) := by decide +kernel
theorem dd_X9_number_74 : decode mb_X9_number 74 = .ok (.goto (-26), 3) := by decide +kernel
theorem dd_X9_number_77 : decode mb_X9_number 77 = .ok (.iload_n 1, 1) := by decide +kernel
theorem dd_X9_number_78 : decode mb_X9_number 78 = .ok (.ireturn, 1) := by decide +kernel
theorem dd_X9_partNamed_0 : decode mb_X9_partNamed 0 = .ok (.aload_n 0, 1) := by decide +kernel
theorem dd_X9_partNamed_1 : decode mb_X9_partNamed 1 = .ok (.ldc 55, 2) := by decide +kernel
theorem dd_X9_partNamed_3 : decode mb_X9_partNamed 3 = .ok (.invokevirtual 57, 3) := by decide +kernel
theorem dd_X9_partNamed_6 : decode mb_X9_partNamed 6 = .ok (.ifCond .eq 5, 3) := by decide +kernel
theorem dd_X9_partNamed_9 : decode mb_X9_partNamed 9 = .ok (.iconst 0, 1) := by decide +kernel
theorem dd_X9_partNamed_10 : decode mb_X9_partNamed 10 = .ok (.ireturn, 1) := by decide +kernel
theorem dd_X9_partNamed_11 : decode mb_X9_partNamed 11 = .ok (.aload_n 0, 1) := by decide +kernel
theorem dd_X9_partNamed_12 : decode mb_X9_partNamed 12 = .ok (.ldc 61, 2) := by decide +kernel
theorem dd_X9_partNamed_14 : decode mb_X9_partNamed 14 = .ok (.invokevirtual 57, 3) := by decide +kernel
theorem dd_X9_partNamed_17 : decode mb_X9_partNamed 17 = .ok (.ifCond .eq 5, 3) := by decide +kernel
theorem dd_X9_partNamed_20 : decode mb_X9_partNamed 20 = .ok (.iconst 1, 1) := by decide +kernel
theorem dd_X9_partNamed_21 : decode mb_X9_partNamed 21 = .ok (.ireturn, 1) := by decide +kernel
theorem dd_X9_partNamed_22 : decode mb_X9_partNamed 22 = .ok (.aload_n 0, 1) := by decide +kernel
theorem dd_X9_partNamed_23 : decode mb_X9_partNamed 23 = .ok (.ldc 63, 2) := by decide +kernel
theorem dd_X9_partNamed_25 : decode mb_X9_partNamed 25 = .ok (.invokevirtual 57, 3) := by decide +kernel
theorem dd_X9_partNamed_28 : decode mb_X9_partNamed 28 = .ok (.ifCond .eq 5, 3) := by decide +kernel
theorem dd_X9_partNamed_31 : decode mb_X9_partNamed 31 = .ok (.iconst 2, 1) := by decide +kernel
theorem dd_X9_partNamed_32 : decode mb_X9_partNamed 32 = .ok (.ireturn, 1) := by decide +kernel
theorem dd_X9_partNamed_33 : decode mb_X9_partNamed 33 = .ok (.aload_n 0, 1) := by decide +kernel
theorem dd_X9_partNamed_34 : decode mb_X9_partNamed 34 = .ok (.ldc 65, 2) := by decide +kernel
theorem dd_X9_partNamed_36 : decode mb_X9_partNamed 36 = .ok (.invokevirtual 57, 3) := by decide +kernel
theorem dd_X9_partNamed_39 : decode mb_X9_partNamed 39 = .ok (.ifCond .eq 5, 3) := by decide +kernel
theorem dd_X9_partNamed_42 : decode mb_X9_partNamed 42 = .ok (.iconst 3, 1) := by decide +kernel
theorem dd_X9_partNamed_43 : decode mb_X9_partNamed 43 = .ok (.ireturn, 1) := by decide +kernel
theorem dd_X9_partNamed_44 : decode mb_X9_partNamed 44 = .ok (.aload_n 0, 1) := by decide +kernel
theorem dd_X9_partNamed_45 : decode mb_X9_partNamed 45 = .ok (.ldc 67, 2) := by decide +kernel
theorem dd_X9_partNamed_47 : decode mb_X9_partNamed 47 = .ok (.invokevirtual 57, 3) := by decide +kernel
theorem dd_X9_partNamed_50 : decode mb_X9_partNamed 50 = .ok (.ifCond .eq 7, 3) := by decide +kernel
theorem dd_X9_partNamed_53 : decode mb_X9_partNamed 53 = .ok (.iconst 4, 1) := by decide +kernel
theorem dd_X9_partNamed_54 : decode mb_X9_partNamed 54 = .ok (.goto 4, 3) := by decide +kernel
theorem dd_X9_partNamed_57 : decode mb_X9_partNamed 57 = .ok (.iconst (-1), 1) := by decide +kernel
theorem dd_X9_partNamed_58 : decode mb_X9_partNamed 58 = .ok (.ireturn, 1) := by decide +kernel
theorem dd_X9_readInto_0 : decode mb_X9_readInto 0 = .ok (.aload_n 1, 1) := by decide +kernel
theorem dd_X9_readInto_1 : decode mb_X9_readInto 1 = .ok (.invokevirtual 25, 3) := by decide +kernel
theorem dd_X9_readInto_4 : decode mb_X9_readInto 4 = .ok (.aload_n 0, 1) := by decide +kernel
theorem dd_X9_readInto_5 : decode mb_X9_readInto 5 = .ok (.iconst 0, 1) := by decide +kernel
theorem dd_X9_readInto_6 : decode mb_X9_readInto 6 = .ok (.putfield 19, 3) := by decide +kernel
theorem dd_X9_readInto_9 : decode mb_X9_readInto 9 = .ok (.aload_n 0, 1) := by decide +kernel
theorem dd_X9_readInto_10 : decode mb_X9_readInto 10 = .ok (.iconst 0, 1) := by decide +kernel
theorem dd_X9_readInto_11 : decode mb_X9_readInto 11 = .ok (.putfield 22, 3) := by decide +kernel
theorem dd_X9_readInto_14 : decode mb_X9_readInto 14 = .ok (.iconst 0, 1) := by decide +kernel
theorem dd_X9_readInto_15 : decode mb_X9_readInto 15 = .ok (.istore_n 2, 1) := by decide +kernel
theorem dd_X9_readInto_16 : decode mb_X9_readInto 16 = .ok (.iload_n 2, 1) := by decide +kernel
theorem dd_X9_readInto_17 : decode mb_X9_readInto 17 = .ok (.aload_n 0, 1) := by decide +kernel
theorem dd_X9_readInto_18 : decode mb_X9_readInto 18 = .ok (.getfield 15, 3) := by decide +kernel
theorem dd_X9_readInto_21 : decode mb_X9_readInto 21 = .ok (.if_icmp .gt 96, 3) := by decide +kernel
theorem dd_X9_readInto_24 : decode mb_X9_readInto 24 = .ok (.aload_n 0, 1) := by decide +kernel
theorem dd_X9_readInto_25 : decode mb_X9_readInto 25 = .ok (.invokevirtual 30, 3) := by decide +kernel
theorem dd_X9_readInto_28 : decode mb_X9_readInto 28 = .ok (.aload_n 0, 1) := by decide +kernel
theorem dd_X9_readInto_29 : decode mb_X9_readInto 29 = .ok (.invokevirtual 33, 3) := by decide +kernel
theorem dd_X9_readInto_32 : decode mb_X9_readInto 32 = .ok (.istore_n 3, 1) := by decide +kernel
theorem dd_X9_readInto_33 : decode mb_X9_readInto 33 = .ok (.iload_n 3, 1) := by decide +kernel
theorem dd_X9_readInto_34 : decode mb_X9_readInto 34 = .ok (.iconst (-1), 1) := by decide +kernel
theorem dd_X9_readInto_35 : decode mb_X9_readInto 35 = .ok (.if_icmp .ne 8, 3) := by decide +kernel
theorem dd_X9_readInto_38 : decode mb_X9_readInto 38 = .ok (.aload_n 0, 1) := by decide +kernel
theorem dd_X9_readInto_39 : decode mb_X9_readInto 39 = .ok (.getfield 19, 3) := by decide +kernel
theorem dd_X9_readInto_42 : decode mb_X9_readInto 42 = .ok (.ireturn, 1) := by decide +kernel
theorem dd_X9_readInto_43 : decode mb_X9_readInto 43 = .ok (.aload_n 0, 1) := by decide +kernel
theorem dd_X9_readInto_44 : decode mb_X9_readInto 44 = .ok (.invokevirtual 30, 3) := by decide +kernel
theorem dd_X9_readInto_47 : decode mb_X9_readInto 47 = .ok (.aload_n 0, 1) := by decide +kernel
theorem dd_X9_readInto_48 : decode mb_X9_readInto 48 = .ok (.invokevirtual 37, 3) := by decide +kernel
theorem dd_X9_readInto_51 : decode mb_X9_readInto 51 = .ok (.istore 4, 2) := by decide +kernel
theorem dd_X9_readInto_53 : decode mb_X9_readInto 53 = .ok (.iload_n 3, 1) := by decide +kernel
theorem dd_X9_readInto_54 : decode mb_X9_readInto 54 = .ok (.iload 4, 2) := by decide +kernel
theorem dd_X9_readInto_56 : decode mb_X9_readInto 56 = .ok (.invokestatic 40, 3) := by decide +kernel
theorem dd_X9_readInto_59 : decode mb_X9_readInto 59 = .ok (.ifCond .ne 8, 3) := by decide +kernel
theorem dd_X9_readInto_62 : decode mb_X9_readInto 62 = .ok (.aload_n 0, 1) := by decide +kernel
theorem dd_X9_readInto_63 : decode mb_X9_readInto 63 = .ok (.getfield 19, 3) := by decide +kernel
theorem dd_X9_readInto_66 : decode mb_X9_readInto 66 = .ok (.ireturn, 1) := by decide +kernel
theorem dd_X9_readInto_67 : decode mb_X9_readInto 67 = .ok (.aload_n 1, 1) := by decide +kernel
theorem dd_X9_readInto_68 : decode mb_X9_readInto 68 = .ok (.getfield 44, 3) := by decide +kernel
theorem dd_X9_readInto_71 : decode mb_X9_readInto 71 = .ok (.iload_n 3, 1) := by decide +kernel
theorem dd_X9_readInto_72 : decode mb_X9_readInto 72 = .ok (.iload 4, 2) := by decide +kernel
theorem dd_X9_readInto_74 : decode mb_X9_readInto 74 = .ok (.iastore, 1) := by decide +kernel
theorem dd_X9_readInto_75 : decode mb_X9_readInto 75 = .ok (.aload_n 0, 1) := by decide +kernel
theorem dd_X9_readInto_76 : decode mb_X9_readInto 76 = .ok (.invokevirtual 30, 3) := by decide +kernel
theorem dd_X9_readInto_79 : decode mb_X9_readInto 79 = .ok (.aload_n 0, 1) := by decide +kernel
theorem dd_X9_readInto_80 : decode mb_X9_readInto 80 = .ok (.getfield 19, 3) := by decide +kernel
theorem dd_X9_readInto_83 : decode mb_X9_readInto 83 = .ok (.aload_n 0, 1) := by decide +kernel
theorem dd_X9_readInto_84 : decode mb_X9_readInto 84 = .ok (.getfield 15, 3) := by decide +kernel
theorem dd_X9_readInto_87 : decode mb_X9_readInto 87 = .ok (.if_icmp .lt 5, 3) := by decide +kernel
theorem dd_X9_readInto_90 : decode mb_X9_readInto 90 = .ok (.iconst (-1), 1) := by decide +kernel
theorem dd_X9_readInto_91 : decode mb_X9_readInto 91 = .ok (.ireturn, 1) := by decide +kernel
theorem dd_X9_readInto_92 : decode mb_X9_readInto 92 = .ok (.aload_n 0, 1) := by decide +kernel
theorem dd_X9_readInto_93 : decode mb_X9_readInto 93 = .ok (.getfield 9, 3) := by decide +kernel
theorem dd_X9_readInto_96 : decode mb_X9_readInto 96 = .ok (.aload_n 0, 1) := by decide +kernel
theorem dd_X9_readInto_97 : decode mb_X9_readInto 97 = .ok (.getfield 19, 3) := by decide +kernel
theorem dd_X9_readInto_100 : decode mb_X9_readInto 100 = .ok (.baload, 1) := by decide +kernel
theorem dd_X9_readInto_101 : decode mb_X9_readInto 101 = .ok (.bipush 59, 2) := by decide +kernel
theorem dd_X9_readInto_103 : decode mb_X9_readInto 103 = .ok (.if_icmp .eq 8, 3) := by decide +kernel
theorem dd_X9_readInto_106 : decode mb_X9_readInto 106 = .ok (.aload_n 0, 1) := by decide +kernel
theorem dd_X9_readInto_107 : decode mb_X9_readInto 107 = .ok (.getfield 19, 3) := by decide +kernel
theorem dd_X9_readInto_110 : decode mb_X9_readInto 110 = .ok (.ireturn, 1) := by decide +kernel
theorem dd_X9_readInto_111 : decode mb_X9_readInto 111 = .ok (.iinc 2 1, 3) := by decide +kernel
theorem dd_X9_readInto_114 : decode mb_X9_readInto 114 = .ok (.goto (-98), 3) := by decide +kernel
theorem dd_X9_readInto_117 : decode mb_X9_readInto 117 = .ok (.aload_n 0, 1) := by decide +kernel
theorem dd_X9_readInto_118 : decode mb_X9_readInto 118 = .ok (.getfield 15, 3) := by decide +kernel
theorem dd_X9_readInto_121 : decode mb_X9_readInto 121 = .ok (.ireturn, 1) := by decide +kernel
theorem dd_X9_step_0 : decode mb_X9_step 0 = .ok (.aload_n 0, 1) := by decide +kernel
theorem dd_X9_step_1 : decode mb_X9_step 1 = .ok (.aload_n 0, 1) := by decide +kernel
theorem dd_X9_step_2 : decode mb_X9_step 2 = .ok (.getfield 22, 3) := by decide +kernel
theorem dd_X9_step_5 : decode mb_X9_step 5 = .ok (.putfield 19, 3) := by decide +kernel
theorem dd_X9_step_8 : decode mb_X9_step 8 = .ok (.aload_n 0, 1) := by decide +kernel
theorem dd_X9_step_9 : decode mb_X9_step 9 = .ok (.getfield 19, 3) := by decide +kernel
theorem dd_X9_step_12 : decode mb_X9_step 12 = .ok (.aload_n 0, 1) := by decide +kernel
theorem dd_X9_step_13 : decode mb_X9_step 13 = .ok (.getfield 15, 3) := by decide +kernel
theorem dd_X9_step_16 : decode mb_X9_step 16 = .ok (.if_icmp .ge 30, 3) := by decide +kernel
theorem dd_X9_step_19 : decode mb_X9_step 19 = .ok (.aload_n 0, 1) := by decide +kernel
theorem dd_X9_step_20 : decode mb_X9_step 20 = .ok (.getfield 9, 3) := by decide +kernel
theorem dd_X9_step_23 : decode mb_X9_step 23 = .ok (.aload_n 0, 1) := by decide +kernel
theorem dd_X9_step_24 : decode mb_X9_step 24 = .ok (.getfield 19, 3) := by decide +kernel
theorem dd_X9_step_27 : decode mb_X9_step 27 = .ok (.baload, 1) := by decide +kernel
theorem dd_X9_step_28 : decode mb_X9_step 28 = .ok (.bipush 32, 2) := by decide +kernel
theorem dd_X9_step_30 : decode mb_X9_step 30 = .ok (.if_icmp .ne 16, 3) := by decide +kernel
theorem dd_X9_step_33 : decode mb_X9_step 33 = .ok (.aload_n 0, 1) := by decide +kernel
theorem dd_X9_step_34 : decode mb_X9_step 34 = .ok (.dup, 1) := by decide +kernel
theorem dd_X9_step_35 : decode mb_X9_step 35 = .ok (.getfield 19, 3) := by decide +kernel
theorem dd_X9_step_38 : decode mb_X9_step 38 = .ok (.iconst 1, 1) := by decide +kernel
theorem dd_X9_step_39 : decode mb_X9_step 39 = .ok (.iadd, 1) := by decide +kernel
theorem dd_X9_step_40 : decode mb_X9_step 40 = .ok (.putfield 19, 3) := by decide +kernel
theorem dd_X9_step_43 : decode mb_X9_step 43 = .ok (.goto (-35), 3) := by decide +kernel
theorem dd_X9_step_46 : decode mb_X9_step 46 = .ok (.aload_n 0, 1) := by decide +kernel
theorem dd_X9_step_47 : decode mb_X9_step 47 = .ok (.aload_n 0, 1) := by decide +kernel
theorem dd_X9_step_48 : decode mb_X9_step 48 = .ok (.getfield 19, 3) := by decide +kernel
theorem dd_X9_step_51 : decode mb_X9_step 51 = .ok (.putfield 22, 3) := by decide +kernel
theorem dd_X9_step_54 : decode mb_X9_step 54 = .ok (.aload_n 0, 1) := by decide +kernel
theorem dd_X9_step_55 : decode mb_X9_step 55 = .ok (.getfield 22, 3) := by decide +kernel
theorem dd_X9_step_58 : decode mb_X9_step 58 = .ok (.aload_n 0, 1) := by decide +kernel
theorem dd_X9_step_59 : decode mb_X9_step 59 = .ok (.getfield 15, 3) := by decide +kernel
theorem dd_X9_step_62 : decode mb_X9_step 62 = .ok (.if_icmp .ge 31, 3) := by decide +kernel
theorem dd_X9_step_65 : decode mb_X9_step 65 = .ok (.aload_n 0, 1) := by decide +kernel
theorem dd_X9_step_66 : decode mb_X9_step 66 = .ok (.getfield 9, 3) := by decide +kernel
theorem dd_X9_step_69 : decode mb_X9_step 69 = .ok (.aload_n 0, 1) := by decide +kernel
theorem dd_X9_step_70 : decode mb_X9_step 70 = .ok (.getfield 22, 3) := by decide +kernel
theorem dd_X9_step_73 : decode mb_X9_step 73 = .ok (.baload, 1) := by decide +kernel
theorem dd_X9_step_74 : decode mb_X9_step 74 = .ok (.invokestatic 48, 3) := by decide +kernel
theorem dd_X9_step_77 : decode mb_X9_step 77 = .ok (.ifCond .eq 16, 3) := by decide +kernel
theorem dd_X9_step_80 : decode mb_X9_step 80 = .ok (.aload_n 0, 1) := by decide +kernel
theorem dd_X9_step_81 : decode mb_X9_step 81 = .ok (.dup, 1) := by decide +kernel
theorem dd_X9_step_82 : decode mb_X9_step 82 = .ok (.getfield 22, 3) := by decide +kernel
theorem dd_X9_step_85 : decode mb_X9_step 85 = .ok (.iconst 1, 1) := by decide +kernel
theorem dd_X9_step_86 : decode mb_X9_step 86 = .ok (.iadd, 1) := by decide +kernel
theorem dd_X9_step_87 : decode mb_X9_step 87 = .ok (.putfield 22, 3) := by decide +kernel
theorem dd_X9_step_90 : decode mb_X9_step 90 = .ok (.goto (-36), 3) := by decide +kernel
theorem dd_X9_step_93 : decode mb_X9_step 93 = .ok (.aload_n 0, 1) := by decide +kernel
theorem dd_X9_step_94 : decode mb_X9_step 94 = .ok (.getfield 22, 3) := by decide +kernel
theorem dd_X9_step_97 : decode mb_X9_step 97 = .ok (.aload_n 0, 1) := by decide +kernel
theorem dd_X9_step_98 : decode mb_X9_step 98 = .ok (.getfield 19, 3) := by decide +kernel
theorem dd_X9_step_101 : decode mb_X9_step 101 = .ok (.if_icmp .le 4, 3) := by decide +kernel
theorem dd_X9_step_104 : decode mb_X9_step 104 = .ok (.return_, 1) := by decide +kernel
theorem dd_X9_step_105 : decode mb_X9_step 105 = .ok (.aload_n 0, 1) := by decide +kernel
theorem dd_X9_step_106 : decode mb_X9_step 106 = .ok (.getfield 22, 3) := by decide +kernel
theorem dd_X9_step_109 : decode mb_X9_step 109 = .ok (.aload_n 0, 1) := by decide +kernel
theorem dd_X9_step_110 : decode mb_X9_step 110 = .ok (.getfield 15, 3) := by decide +kernel
theorem dd_X9_step_113 : decode mb_X9_step 113 = .ok (.if_icmp .ge 31, 3) := by decide +kernel
theorem dd_X9_step_116 : decode mb_X9_step 116 = .ok (.aload_n 0, 1) := by decide +kernel
theorem dd_X9_step_117 : decode mb_X9_step 117 = .ok (.getfield 9, 3) := by decide +kernel
theorem dd_X9_step_120 : decode mb_X9_step 120 = .ok (.aload_n 0, 1) := by decide +kernel
theorem dd_X9_step_121 : decode mb_X9_step 121 = .ok (.getfield 22, 3) := by decide +kernel
theorem dd_X9_step_124 : decode mb_X9_step 124 = .ok (.baload, 1) := by decide +kernel
theorem dd_X9_step_125 : decode mb_X9_step 125 = .ok (.invokestatic 52, 3) := by decide +kernel
theorem dd_X9_step_128 : decode mb_X9_step 128 = .ok (.ifCond .eq 16, 3) := by decide +kernel
theorem dd_X9_step_131 : decode mb_X9_step 131 = .ok (.aload_n 0, 1) := by decide +kernel
theorem dd_X9_step_132 : decode mb_X9_step 132 = .ok (.dup, 1) := by decide +kernel
theorem dd_X9_step_133 : decode mb_X9_step 133 = .ok (.getfield 22, 3) := by decide +kernel
theorem dd_X9_step_136 : decode mb_X9_step 136 = .ok (.iconst 1, 1) := by decide +kernel
theorem dd_X9_step_137 : decode mb_X9_step 137 = .ok (.iadd, 1) := by decide +kernel
theorem dd_X9_step_138 : decode mb_X9_step 138 = .ok (.putfield 22, 3) := by decide +kernel
theorem dd_X9_step_141 : decode mb_X9_step 141 = .ok (.goto (-36), 3) := by decide +kernel
theorem dd_X9_step_144 : decode mb_X9_step 144 = .ok (.aload_n 0, 1) := by decide +kernel
theorem dd_X9_step_145 : decode mb_X9_step 145 = .ok (.getfield 22, 3) := by decide +kernel
theorem dd_X9_step_148 : decode mb_X9_step 148 = .ok (.aload_n 0, 1) := by decide +kernel
theorem dd_X9_step_149 : decode mb_X9_step 149 = .ok (.getfield 19, 3) := by decide +kernel
theorem dd_X9_step_152 : decode mb_X9_step 152 = .ok (.if_icmp .ne 24, 3) := by decide +kernel
theorem dd_X9_step_155 : decode mb_X9_step 155 = .ok (.aload_n 0, 1) := by decide +kernel
theorem dd_X9_step_156 : decode mb_X9_step 156 = .ok (.getfield 22, 3) := by decide +kernel
theorem dd_X9_step_159 : decode mb_X9_step 159 = .ok (.aload_n 0, 1) := by decide +kernel
theorem dd_X9_step_160 : decode mb_X9_step 160 = .ok (.getfield 15, 3) := by decide +kernel
theorem dd_X9_step_163 : decode mb_X9_step 163 = .ok (.if_icmp .ge 13, 3) := by decide +kernel
theorem dd_X9_step_166 : decode mb_X9_step 166 = .ok (.aload_n 0, 1) := by decide +kernel
theorem dd_X9_step_167 : decode mb_X9_step 167 = .ok (.dup, 1) := by decide +kernel
theorem dd_X9_step_168 : decode mb_X9_step 168 = .ok (.getfield 22, 3) := by decide +kernel
theorem dd_X9_step_171 : decode mb_X9_step 171 = .ok (.iconst 1, 1) := by decide +kernel
theorem dd_X9_step_172 : decode mb_X9_step 172 = .ok (.iadd, 1) := by decide +kernel
theorem dd_X9_step_173 : decode mb_X9_step 173 = .ok (.putfield 22, 3) := by decide +kernel
theorem dd_X9_step_176 : decode mb_X9_step 176 = .ok (.return_, 1) := by decide +kernel
