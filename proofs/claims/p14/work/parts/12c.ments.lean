theorem e78_0 : vm_ent 78 0 = some (.lload_n 0, 0, 0, 0) := by decide +kernel
theorem e78_1 : vm_ent 78 1 = some (.bipush 8, 0, 0, 0) := by decide +kernel
theorem e78_3 : vm_ent 78 3 = some (.iload_n 2, 0, 0, 0) := by decide +kernel
theorem e78_4 : vm_ent 78 4 = some (.imul, 0, 0, 0) := by decide +kernel
theorem e78_5 : vm_ent 78 5 = some (.lushr, 0, 0, 0) := by decide +kernel
theorem e78_6 : vm_ent 78 6 = some (.l2i, 0, 0, 0) := by decide +kernel
theorem e78_7 : vm_ent 78 7 = some (.sipush 255, 0, 0, 0) := by decide +kernel
theorem e78_10 : vm_ent 78 10 = some (.iand, 0, 0, 0) := by decide +kernel
theorem e78_11 : vm_ent 78 11 = some (.ireturn, 0, 0, 0) := by decide +kernel
theorem e79_0 : vm_ent 79 0 = some (.lconst 0, 0, 0, 0) := by decide +kernel
theorem e79_1 : vm_ent 79 1 = some (.lstore_n 3, 0, 0, 0) := by decide +kernel
theorem e79_2 : vm_ent 79 2 = some (.aload_n 0, 0, 0, 0) := by decide +kernel
theorem e79_3 : vm_ent 79 3 = some (.getfield 88, 6, 1, 635) := by decide +kernel
theorem e79_6 : vm_ent 79 6 = some (.iconst 1, 0, 0, 0) := by decide +kernel
theorem e79_7 : vm_ent 79 7 = some (.isub, 0, 0, 0) := by decide +kernel
theorem e79_8 : vm_ent 79 8 = some (.istore 5, 0, 0, 0) := by decide +kernel
theorem e79_10 : vm_ent 79 10 = some (.iload 5, 0, 0, 0) := by decide +kernel
theorem e79_12 : vm_ent 79 12 = some (.ifCond .lt 27, 39, 0, 0) := by decide +kernel
theorem e79_15 : vm_ent 79 15 = some (.lload_n 3, 0, 0, 0) := by decide +kernel
theorem e79_16 : vm_ent 79 16 = some (.bipush 8, 0, 0, 0) := by decide +kernel
theorem e79_18 : vm_ent 79 18 = some (.lshl, 0, 0, 0) := by decide +kernel
theorem e79_19 : vm_ent 79 19 = some (.lload_n 1, 0, 0, 0) := by decide +kernel
theorem e79_20 : vm_ent 79 20 = some (.aload_n 0, 0, 0, 0) := by decide +kernel
theorem e79_21 : vm_ent 79 21 = some (.getfield 13, 6, 3, 637) := by decide +kernel
theorem e79_24 : vm_ent 79 24 = some (.iload 5, 0, 0, 0) := by decide +kernel
theorem e79_26 : vm_ent 79 26 = some (.iaload, 0, 0, 0) := by decide +kernel
theorem e79_27 : vm_ent 79 27 = some (.invokestatic 91, 78, 1, 794) := by decide +kernel
theorem e79_30 : vm_ent 79 30 = some (.i2l, 0, 0, 0) := by decide +kernel
theorem e79_31 : vm_ent 79 31 = some (.lor, 0, 0, 0) := by decide +kernel
theorem e79_32 : vm_ent 79 32 = some (.lstore_n 3, 0, 0, 0) := by decide +kernel
theorem e79_33 : vm_ent 79 33 = some (.iinc 5 (-1), 0, 0, 0) := by decide +kernel
theorem e79_36 : vm_ent 79 36 = some (.goto (-26), 10, 0, 0) := by decide +kernel
theorem e79_39 : vm_ent 79 39 = some (.lload_n 3, 0, 0, 0) := by decide +kernel
theorem e79_40 : vm_ent 79 40 = some (.lreturn, 0, 0, 0) := by decide +kernel
theorem e84_0 : vm_ent 84 0 = some (.aload_n 0, 0, 0, 0) := by decide +kernel
theorem e84_1 : vm_ent 84 1 = some (.getfield 20, 6, 6, 640) := by decide +kernel
theorem e84_4 : vm_ent 84 4 = some (.iload_n 1, 0, 0, 0) := by decide +kernel
theorem e84_5 : vm_ent 84 5 = some (.iaload, 0, 0, 0) := by decide +kernel
theorem e84_6 : vm_ent 84 6 = some (.aload_n 0, 0, 0, 0) := by decide +kernel
theorem e84_7 : vm_ent 84 7 = some (.getfield 20, 6, 6, 640) := by decide +kernel
theorem e84_10 : vm_ent 84 10 = some (.iload_n 2, 0, 0, 0) := by decide +kernel
theorem e84_11 : vm_ent 84 11 = some (.iaload, 0, 0, 0) := by decide +kernel
theorem e84_12 : vm_ent 84 12 = some (.if_icmp .ne 7, 19, 0, 0) := by decide +kernel
theorem e84_15 : vm_ent 84 15 = some (.iconst 1, 0, 0, 0) := by decide +kernel
theorem e84_16 : vm_ent 84 16 = some (.goto 4, 20, 0, 0) := by decide +kernel
theorem e84_19 : vm_ent 84 19 = some (.iconst 0, 0, 0, 0) := by decide +kernel
theorem e84_20 : vm_ent 84 20 = some (.istore_n 3, 0, 0, 0) := by decide +kernel
theorem e84_21 : vm_ent 84 21 = some (.iconst 0, 0, 0, 0) := by decide +kernel
theorem e84_22 : vm_ent 84 22 = some (.istore 4, 0, 0, 0) := by decide +kernel
theorem e84_24 : vm_ent 84 24 = some (.iload 4, 0, 0, 0) := by decide +kernel
theorem e84_26 : vm_ent 84 26 = some (.aload_n 0, 0, 0, 0) := by decide +kernel
theorem e84_27 : vm_ent 84 27 = some (.getfield 20, 6, 6, 640) := by decide +kernel
theorem e84_30 : vm_ent 84 30 = some (.iload_n 1, 0, 0, 0) := by decide +kernel
theorem e84_31 : vm_ent 84 31 = some (.iaload, 0, 0, 0) := by decide +kernel
theorem e84_32 : vm_ent 84 32 = some (.if_icmp .ge 75, 107, 0, 0) := by decide +kernel
theorem e84_35 : vm_ent 84 35 = some (.iload_n 3, 0, 0, 0) := by decide +kernel
theorem e84_36 : vm_ent 84 36 = some (.ifCond .eq 71, 107, 0, 0) := by decide +kernel
theorem e84_39 : vm_ent 84 39 = some (.aload_n 0, 0, 0, 0) := by decide +kernel
theorem e84_40 : vm_ent 84 40 = some (.getfield 23, 6, 7, 641) := by decide +kernel
theorem e84_43 : vm_ent 84 43 = some (.bipush 60, 0, 0, 0) := by decide +kernel
theorem e84_45 : vm_ent 84 45 = some (.iload_n 1, 0, 0, 0) := by decide +kernel
theorem e84_46 : vm_ent 84 46 = some (.imul, 0, 0, 0) := by decide +kernel
theorem e84_47 : vm_ent 84 47 = some (.iload 4, 0, 0, 0) := by decide +kernel
theorem e84_49 : vm_ent 84 49 = some (.iadd, 0, 0, 0) := by decide +kernel
theorem e84_50 : vm_ent 84 50 = some (.laload, 0, 0, 0) := by decide +kernel
theorem e84_51 : vm_ent 84 51 = some (.aload_n 0, 0, 0, 0) := by decide +kernel
theorem e84_52 : vm_ent 84 52 = some (.getfield 23, 6, 7, 641) := by decide +kernel
theorem e84_55 : vm_ent 84 55 = some (.bipush 60, 0, 0, 0) := by decide +kernel
theorem e84_57 : vm_ent 84 57 = some (.iload_n 2, 0, 0, 0) := by decide +kernel
theorem e84_58 : vm_ent 84 58 = some (.imul, 0, 0, 0) := by decide +kernel
theorem e84_59 : vm_ent 84 59 = some (.iload 4, 0, 0, 0) := by decide +kernel
theorem e84_61 : vm_ent 84 61 = some (.iadd, 0, 0, 0) := by decide +kernel
theorem e84_62 : vm_ent 84 62 = some (.laload, 0, 0, 0) := by decide +kernel
theorem e84_63 : vm_ent 84 63 = some (.lcmp, 0, 0, 0) := by decide +kernel
theorem e84_64 : vm_ent 84 64 = some (.ifCond .ne 35, 99, 0, 0) := by decide +kernel
theorem e84_67 : vm_ent 84 67 = some (.aload_n 0, 0, 0, 0) := by decide +kernel
theorem e84_68 : vm_ent 84 68 = some (.getfield 27, 6, 8, 642) := by decide +kernel
theorem e84_71 : vm_ent 84 71 = some (.bipush 60, 0, 0, 0) := by decide +kernel
theorem e84_73 : vm_ent 84 73 = some (.iload_n 1, 0, 0, 0) := by decide +kernel
theorem e84_74 : vm_ent 84 74 = some (.imul, 0, 0, 0) := by decide +kernel
theorem e84_75 : vm_ent 84 75 = some (.iload 4, 0, 0, 0) := by decide +kernel
theorem e84_77 : vm_ent 84 77 = some (.iadd, 0, 0, 0) := by decide +kernel
theorem e84_78 : vm_ent 84 78 = some (.laload, 0, 0, 0) := by decide +kernel
theorem e84_79 : vm_ent 84 79 = some (.aload_n 0, 0, 0, 0) := by decide +kernel
theorem e84_80 : vm_ent 84 80 = some (.getfield 27, 6, 8, 642) := by decide +kernel
theorem e84_83 : vm_ent 84 83 = some (.bipush 60, 0, 0, 0) := by decide +kernel
theorem e84_85 : vm_ent 84 85 = some (.iload_n 2, 0, 0, 0) := by decide +kernel
theorem e84_86 : vm_ent 84 86 = some (.imul, 0, 0, 0) := by decide +kernel
theorem e84_87 : vm_ent 84 87 = some (.iload 4, 0, 0, 0) := by decide +kernel
theorem e84_89 : vm_ent 84 89 = some (.iadd, 0, 0, 0) := by decide +kernel
theorem e84_90 : vm_ent 84 90 = some (.laload, 0, 0, 0) := by decide +kernel
theorem e84_91 : vm_ent 84 91 = some (.lcmp, 0, 0, 0) := by decide +kernel
theorem e84_92 : vm_ent 84 92 = some (.ifCond .ne 7, 99, 0, 0) := by decide +kernel
theorem e84_95 : vm_ent 84 95 = some (.iconst 1, 0, 0, 0) := by decide +kernel
theorem e84_96 : vm_ent 84 96 = some (.goto 4, 100, 0, 0) := by decide +kernel
theorem e84_99 : vm_ent 84 99 = some (.iconst 0, 0, 0, 0) := by decide +kernel
theorem e84_100 : vm_ent 84 100 = some (.istore_n 3, 0, 0, 0) := by decide +kernel
theorem e84_101 : vm_ent 84 101 = some (.iinc 4 1, 0, 0, 0) := by decide +kernel
theorem e84_104 : vm_ent 84 104 = some (.goto (-80), 24, 0, 0) := by decide +kernel
theorem e84_107 : vm_ent 84 107 = some (.iload_n 3, 0, 0, 0) := by decide +kernel
theorem e84_108 : vm_ent 84 108 = some (.ireturn, 0, 0, 0) := by decide +kernel
theorem e89_0 : vm_ent 89 0 = some (.iconst 1, 0, 0, 0) := by decide +kernel
theorem e89_1 : vm_ent 89 1 = some (.istore_n 2, 0, 0, 0) := by decide +kernel
theorem e89_2 : vm_ent 89 2 = some (.iconst 0, 0, 0, 0) := by decide +kernel
theorem e89_3 : vm_ent 89 3 = some (.istore_n 3, 0, 0, 0) := by decide +kernel
theorem e89_4 : vm_ent 89 4 = some (.iload_n 3, 0, 0, 0) := by decide +kernel
theorem e89_5 : vm_ent 89 5 = some (.bipush 8, 0, 0, 0) := by decide +kernel
theorem e89_7 : vm_ent 89 7 = some (.if_icmp .ge 27, 34, 0, 0) := by decide +kernel
theorem e89_10 : vm_ent 89 10 = some (.iload_n 2, 0, 0, 0) := by decide +kernel
theorem e89_11 : vm_ent 89 11 = some (.lload_n 0, 0, 0, 0) := by decide +kernel
theorem e89_12 : vm_ent 89 12 = some (.iload_n 3, 0, 0, 0) := by decide +kernel
theorem e89_13 : vm_ent 89 13 = some (.invokestatic 91, 78, 1, 794) := by decide +kernel
theorem e89_16 : vm_ent 89 16 = some (.bipush 15, 0, 0, 0) := by decide +kernel
theorem e89_18 : vm_ent 89 18 = some (.if_icmp .gt 7, 25, 0, 0) := by decide +kernel
theorem e89_21 : vm_ent 89 21 = some (.iconst 1, 0, 0, 0) := by decide +kernel
theorem e89_22 : vm_ent 89 22 = some (.goto 4, 26, 0, 0) := by decide +kernel
theorem e89_25 : vm_ent 89 25 = some (.iconst 0, 0, 0, 0) := by decide +kernel
theorem e89_26 : vm_ent 89 26 = some (.iand, 0, 0, 0) := by decide +kernel
theorem e89_27 : vm_ent 89 27 = some (.istore_n 2, 0, 0, 0) := by decide +kernel
theorem e89_28 : vm_ent 89 28 = some (.iinc 3 1, 0, 0, 0) := by decide +kernel
theorem e89_31 : vm_ent 89 31 = some (.goto (-27), 4, 0, 0) := by decide +kernel
theorem e89_34 : vm_ent 89 34 = some (.iload_n 2, 0, 0, 0) := by decide +kernel
theorem e89_35 : vm_ent 89 35 = some (.ireturn, 0, 0, 0) := by decide +kernel
theorem e103_0 : vm_ent 103 0 = some (.iload_n 1, 0, 0, 0) := by decide +kernel
theorem e103_1 : vm_ent 103 1 = some (.ifCond .lt 11, 12, 0, 0) := by decide +kernel
theorem e103_4 : vm_ent 103 4 = some (.iload_n 1, 0, 0, 0) := by decide +kernel
theorem e103_5 : vm_ent 103 5 = some (.aload_n 0, 0, 0, 0) := by decide +kernel
theorem e103_6 : vm_ent 103 6 = some (.getfield 222, 6, 4, 638) := by decide +kernel
theorem e103_9 : vm_ent 103 9 = some (.if_icmp .lt 7, 16, 0, 0) := by decide +kernel
theorem e103_12 : vm_ent 103 12 = some (.iconst 1, 0, 0, 0) := by decide +kernel
theorem e103_13 : vm_ent 103 13 = some (.goto 4, 17, 0, 0) := by decide +kernel
theorem e103_16 : vm_ent 103 16 = some (.iconst 0, 0, 0, 0) := by decide +kernel
theorem e103_17 : vm_ent 103 17 = some (.ireturn, 0, 0, 0) := by decide +kernel
theorem e110_0 : vm_ent 110 0 = some (.iload_n 1, 0, 0, 0) := by decide +kernel
theorem e110_1 : vm_ent 110 1 = some (.ifCond .lt 11, 12, 0, 0) := by decide +kernel
theorem e110_4 : vm_ent 110 4 = some (.iload_n 1, 0, 0, 0) := by decide +kernel
theorem e110_5 : vm_ent 110 5 = some (.aload_n 0, 0, 0, 0) := by decide +kernel
theorem e110_6 : vm_ent 110 6 = some (.getfield 213, 6, 11, 645) := by decide +kernel
theorem e110_9 : vm_ent 110 9 = some (.if_icmp .lt 7, 16, 0, 0) := by decide +kernel
theorem e110_12 : vm_ent 110 12 = some (.iconst 1, 0, 0, 0) := by decide +kernel
theorem e110_13 : vm_ent 110 13 = some (.goto 4, 17, 0, 0) := by decide +kernel
theorem e110_16 : vm_ent 110 16 = some (.iconst 0, 0, 0, 0) := by decide +kernel
theorem e110_17 : vm_ent 110 17 = some (.ireturn, 0, 0, 0) := by decide +kernel
theorem e118_0 : vm_ent 118 0 = some (.lconst 1, 0, 0, 0) := by decide +kernel
theorem e118_1 : vm_ent 118 1 = some (.lstore_n 3, 0, 0, 0) := by decide +kernel
theorem e118_2 : vm_ent 118 2 = some (.iconst 0, 0, 0, 0) := by decide +kernel
theorem e118_3 : vm_ent 118 3 = some (.istore 5, 0, 0, 0) := by decide +kernel
theorem e118_5 : vm_ent 118 5 = some (.iload 5, 0, 0, 0) := by decide +kernel
theorem e118_7 : vm_ent 118 7 = some (.bipush 8, 0, 0, 0) := by decide +kernel
theorem e118_9 : vm_ent 118 9 = some (.if_icmp .ge 38, 47, 0, 0) := by decide +kernel
theorem e118_12 : vm_ent 118 12 = some (.lload_n 1, 0, 0, 0) := by decide +kernel
theorem e118_13 : vm_ent 118 13 = some (.iload 5, 0, 0, 0) := by decide +kernel
theorem e118_15 : vm_ent 118 15 = some (.invokestatic 91, 78, 1, 794) := by decide +kernel
theorem e118_18 : vm_ent 118 18 = some (.istore 6, 0, 0, 0) := by decide +kernel
theorem e118_20 : vm_ent 118 20 = some (.iload 6, 0, 0, 0) := by decide +kernel
theorem e118_22 : vm_ent 118 22 = some (.ifCond .le 19, 41, 0, 0) := by decide +kernel
theorem e118_25 : vm_ent 118 25 = some (.lload_n 3, 0, 0, 0) := by decide +kernel
theorem e118_26 : vm_ent 118 26 = some (.aload_n 0, 0, 0, 0) := by decide +kernel
theorem e118_27 : vm_ent 118 27 = some (.getfield 30, 6, 9, 643) := by decide +kernel
theorem e118_30 : vm_ent 118 30 = some (.iload 5, 0, 0, 0) := by decide +kernel
theorem e118_32 : vm_ent 118 32 = some (.laload, 0, 0, 0) := by decide +kernel
theorem e118_33 : vm_ent 118 33 = some (.lmul, 0, 0, 0) := by decide +kernel
theorem e118_34 : vm_ent 118 34 = some (.lstore_n 3, 0, 0, 0) := by decide +kernel
theorem e118_35 : vm_ent 118 35 = some (.iinc 6 (-1), 0, 0, 0) := by decide +kernel
theorem e118_38 : vm_ent 118 38 = some (.goto (-18), 20, 0, 0) := by decide +kernel
theorem e118_41 : vm_ent 118 41 = some (.iinc 5 1, 0, 0, 0) := by decide +kernel
theorem e118_44 : vm_ent 118 44 = some (.goto (-39), 5, 0, 0) := by decide +kernel
theorem e118_47 : vm_ent 118 47 = some (.lload_n 3, 0, 0, 0) := by decide +kernel
theorem e118_48 : vm_ent 118 48 = some (.lreturn, 0, 0, 0) := by decide +kernel
theorem e85_0 : vm_ent 85 0 = some (.iconst 0, 0, 0, 0) := by decide +kernel
theorem e85_1 : vm_ent 85 1 = some (.istore_n 3, 0, 0, 0) := by decide +kernel
theorem e85_2 : vm_ent 85 2 = some (.iconst 0, 0, 0, 0) := by decide +kernel
theorem e85_3 : vm_ent 85 3 = some (.istore 4, 0, 0, 0) := by decide +kernel
theorem e85_5 : vm_ent 85 5 = some (.iload 4, 0, 0, 0) := by decide +kernel
theorem e85_7 : vm_ent 85 7 = some (.aload_n 0, 0, 0, 0) := by decide +kernel
theorem e85_8 : vm_ent 85 8 = some (.getfield 20, 6, 6, 640) := by decide +kernel
theorem e85_11 : vm_ent 85 11 = some (.iload_n 1, 0, 0, 0) := by decide +kernel
theorem e85_12 : vm_ent 85 12 = some (.iaload, 0, 0, 0) := by decide +kernel
theorem e85_13 : vm_ent 85 13 = some (.if_icmp .ge 40, 53, 0, 0) := by decide +kernel
theorem e85_16 : vm_ent 85 16 = some (.aload_n 0, 0, 0, 0) := by decide +kernel
theorem e85_17 : vm_ent 85 17 = some (.getfield 27, 6, 8, 642) := by decide +kernel
theorem e85_20 : vm_ent 85 20 = some (.bipush 60, 0, 0, 0) := by decide +kernel
theorem e85_22 : vm_ent 85 22 = some (.iload_n 1, 0, 0, 0) := by decide +kernel
theorem e85_23 : vm_ent 85 23 = some (.imul, 0, 0, 0) := by decide +kernel
theorem e85_24 : vm_ent 85 24 = some (.iload 4, 0, 0, 0) := by decide +kernel
theorem e85_26 : vm_ent 85 26 = some (.iadd, 0, 0, 0) := by decide +kernel
theorem e85_27 : vm_ent 85 27 = some (.laload, 0, 0, 0) := by decide +kernel
theorem e85_28 : vm_ent 85 28 = some (.iload_n 2, 0, 0, 0) := by decide +kernel
theorem e85_29 : vm_ent 85 29 = some (.invokestatic 91, 78, 1, 794) := by decide +kernel
theorem e85_32 : vm_ent 85 32 = some (.istore 5, 0, 0, 0) := by decide +kernel
theorem e85_34 : vm_ent 85 34 = some (.iload 5, 0, 0, 0) := by decide +kernel
theorem e85_36 : vm_ent 85 36 = some (.iload_n 3, 0, 0, 0) := by decide +kernel
theorem e85_37 : vm_ent 85 37 = some (.if_icmp .le 8, 45, 0, 0) := by decide +kernel
theorem e85_40 : vm_ent 85 40 = some (.iload 5, 0, 0, 0) := by decide +kernel
theorem e85_42 : vm_ent 85 42 = some (.goto 4, 46, 0, 0) := by decide +kernel
theorem e85_45 : vm_ent 85 45 = some (.iload_n 3, 0, 0, 0) := by decide +kernel
theorem e85_46 : vm_ent 85 46 = some (.istore_n 3, 0, 0, 0) := by decide +kernel
theorem e85_47 : vm_ent 85 47 = some (.iinc 4 1, 0, 0, 0) := by decide +kernel
theorem e85_50 : vm_ent 85 50 = some (.goto (-45), 5, 0, 0) := by decide +kernel
theorem e85_53 : vm_ent 85 53 = some (.iload_n 3, 0, 0, 0) := by decide +kernel
theorem e85_54 : vm_ent 85 54 = some (.ireturn, 0, 0, 0) := by decide +kernel
theorem e86_0 : vm_ent 86 0 = some (.aload_n 0, 0, 0, 0) := by decide +kernel
theorem e86_1 : vm_ent 86 1 = some (.getfield 88, 6, 1, 635) := by decide +kernel
theorem e86_4 : vm_ent 86 4 = some (.iconst 1, 0, 0, 0) := by decide +kernel
theorem e86_5 : vm_ent 86 5 = some (.isub, 0, 0, 0) := by decide +kernel
theorem e86_6 : vm_ent 86 6 = some (.istore_n 2, 0, 0, 0) := by decide +kernel
theorem e86_7 : vm_ent 86 7 = some (.iload_n 2, 0, 0, 0) := by decide +kernel
theorem e86_8 : vm_ent 86 8 = some (.ifCond .lt 39, 47, 0, 0) := by decide +kernel
theorem e86_11 : vm_ent 86 11 = some (.aload_n 0, 0, 0, 0) := by decide +kernel
theorem e86_12 : vm_ent 86 12 = some (.getfield 7, 6, 2, 636) := by decide +kernel
theorem e86_15 : vm_ent 86 15 = some (.aload_n 0, 0, 0, 0) := by decide +kernel
theorem e86_16 : vm_ent 86 16 = some (.getfield 13, 6, 3, 637) := by decide +kernel
theorem e86_19 : vm_ent 86 19 = some (.iload_n 2, 0, 0, 0) := by decide +kernel
theorem e86_20 : vm_ent 86 20 = some (.iaload, 0, 0, 0) := by decide +kernel
theorem e86_21 : vm_ent 86 21 = some (.baload, 0, 0, 0) := by decide +kernel
theorem e86_22 : vm_ent 86 22 = some (.ifCond .ne 19, 41, 0, 0) := by decide +kernel
theorem e86_25 : vm_ent 86 25 = some (.aload_n 0, 0, 0, 0) := by decide +kernel
theorem e86_26 : vm_ent 86 26 = some (.iload_n 1, 0, 0, 0) := by decide +kernel
theorem e86_27 : vm_ent 86 27 = some (.aload_n 0, 0, 0, 0) := by decide +kernel
theorem e86_28 : vm_ent 86 28 = some (.getfield 13, 6, 3, 637) := by decide +kernel
theorem e86_31 : vm_ent 86 31 = some (.iload_n 2, 0, 0, 0) := by decide +kernel
theorem e86_32 : vm_ent 86 32 = some (.iaload, 0, 0, 0) := by decide +kernel
theorem e86_33 : vm_ent 86 33 = some (.invokevirtual 103, 85, 4, 790) := by decide +kernel
theorem e86_36 : vm_ent 86 36 = some (.ifCond .le 5, 41, 0, 0) := by decide +kernel
theorem e86_39 : vm_ent 86 39 = some (.iload_n 2, 0, 0, 0) := by decide +kernel
theorem e86_40 : vm_ent 86 40 = some (.ireturn, 0, 0, 0) := by decide +kernel
theorem e86_41 : vm_ent 86 41 = some (.iinc 2 (-1), 0, 0, 0) := by decide +kernel
theorem e86_44 : vm_ent 86 44 = some (.goto (-37), 7, 0, 0) := by decide +kernel
theorem e86_47 : vm_ent 86 47 = some (.iconst (-1), 0, 0, 0) := by decide +kernel
theorem e86_48 : vm_ent 86 48 = some (.ireturn, 0, 0, 0) := by decide +kernel
theorem e81_0 : vm_ent 81 0 = some (.aload_n 0, 0, 0, 0) := by decide +kernel
theorem e81_1 : vm_ent 81 1 = some (.getfield 20, 6, 6, 640) := by decide +kernel
theorem e81_4 : vm_ent 81 4 = some (.iload_n 2, 0, 0, 0) := by decide +kernel
theorem e81_5 : vm_ent 81 5 = some (.aload_n 0, 0, 0, 0) := by decide +kernel
theorem e81_6 : vm_ent 81 6 = some (.getfield 20, 6, 6, 640) := by decide +kernel
theorem e81_9 : vm_ent 81 9 = some (.iload_n 1, 0, 0, 0) := by decide +kernel
theorem e81_10 : vm_ent 81 10 = some (.iaload, 0, 0, 0) := by decide +kernel
theorem e81_11 : vm_ent 81 11 = some (.iastore, 0, 0, 0) := by decide +kernel
theorem e81_12 : vm_ent 81 12 = some (.iconst 0, 0, 0, 0) := by decide +kernel
theorem e81_13 : vm_ent 81 13 = some (.istore_n 3, 0, 0, 0) := by decide +kernel
theorem e81_14 : vm_ent 81 14 = some (.iload_n 3, 0, 0, 0) := by decide +kernel
theorem e81_15 : vm_ent 81 15 = some (.aload_n 0, 0, 0, 0) := by decide +kernel
theorem e81_16 : vm_ent 81 16 = some (.getfield 20, 6, 6, 640) := by decide +kernel
theorem e81_19 : vm_ent 81 19 = some (.iload_n 1, 0, 0, 0) := by decide +kernel
theorem e81_20 : vm_ent 81 20 = some (.iaload, 0, 0, 0) := by decide +kernel
theorem e81_21 : vm_ent 81 21 = some (.if_icmp .ge 53, 74, 0, 0) := by decide +kernel
theorem e81_24 : vm_ent 81 24 = some (.aload_n 0, 0, 0, 0) := by decide +kernel
theorem e81_25 : vm_ent 81 25 = some (.getfield 23, 6, 7, 641) := by decide +kernel
theorem e81_28 : vm_ent 81 28 = some (.bipush 60, 0, 0, 0) := by decide +kernel
theorem e81_30 : vm_ent 81 30 = some (.iload_n 2, 0, 0, 0) := by decide +kernel
theorem e81_31 : vm_ent 81 31 = some (.imul, 0, 0, 0) := by decide +kernel
theorem e81_32 : vm_ent 81 32 = some (.iload_n 3, 0, 0, 0) := by decide +kernel
theorem e81_33 : vm_ent 81 33 = some (.iadd, 0, 0, 0) := by decide +kernel
theorem e81_34 : vm_ent 81 34 = some (.aload_n 0, 0, 0, 0) := by decide +kernel
theorem e81_35 : vm_ent 81 35 = some (.getfield 23, 6, 7, 641) := by decide +kernel
theorem e81_38 : vm_ent 81 38 = some (.bipush 60, 0, 0, 0) := by decide +kernel
theorem e81_40 : vm_ent 81 40 = some (.iload_n 1, 0, 0, 0) := by decide +kernel
theorem e81_41 : vm_ent 81 41 = some (.imul, 0, 0, 0) := by decide +kernel
theorem e81_42 : vm_ent 81 42 = some (.iload_n 3, 0, 0, 0) := by decide +kernel
theorem e81_43 : vm_ent 81 43 = some (.iadd, 0, 0, 0) := by decide +kernel
theorem e81_44 : vm_ent 81 44 = some (.laload, 0, 0, 0) := by decide +kernel
theorem e81_45 : vm_ent 81 45 = some (.lastore, 0, 0, 0) := by decide +kernel
theorem e81_46 : vm_ent 81 46 = some (.aload_n 0, 0, 0, 0) := by decide +kernel
theorem e81_47 : vm_ent 81 47 = some (.getfield 27, 6, 8, 642) := by decide +kernel
theorem e81_50 : vm_ent 81 50 = some (.bipush 60, 0, 0, 0) := by decide +kernel
theorem e81_52 : vm_ent 81 52 = some (.iload_n 2, 0, 0, 0) := by decide +kernel
theorem e81_53 : vm_ent 81 53 = some (.imul, 0, 0, 0) := by decide +kernel
theorem e81_54 : vm_ent 81 54 = some (.iload_n 3, 0, 0, 0) := by decide +kernel
theorem e81_55 : vm_ent 81 55 = some (.iadd, 0, 0, 0) := by decide +kernel
theorem e81_56 : vm_ent 81 56 = some (.aload_n 0, 0, 0, 0) := by decide +kernel
theorem e81_57 : vm_ent 81 57 = some (.getfield 27, 6, 8, 642) := by decide +kernel
theorem e81_60 : vm_ent 81 60 = some (.bipush 60, 0, 0, 0) := by decide +kernel
theorem e81_62 : vm_ent 81 62 = some (.iload_n 1, 0, 0, 0) := by decide +kernel
theorem e81_63 : vm_ent 81 63 = some (.imul, 0, 0, 0) := by decide +kernel
theorem e81_64 : vm_ent 81 64 = some (.iload_n 3, 0, 0, 0) := by decide +kernel
theorem e81_65 : vm_ent 81 65 = some (.iadd, 0, 0, 0) := by decide +kernel
theorem e81_66 : vm_ent 81 66 = some (.laload, 0, 0, 0) := by decide +kernel
theorem e81_67 : vm_ent 81 67 = some (.lastore, 0, 0, 0) := by decide +kernel
theorem e81_68 : vm_ent 81 68 = some (.iinc 3 1, 0, 0, 0) := by decide +kernel
theorem e81_71 : vm_ent 81 71 = some (.goto (-57), 14, 0, 0) := by decide +kernel
theorem e81_74 : vm_ent 81 74 = some (.return_, 0, 0, 0) := by decide +kernel
theorem e80_0 : vm_ent 80 0 = some (.bipush 60, 0, 0, 0) := by decide +kernel
theorem e80_2 : vm_ent 80 2 = some (.iload_n 1, 0, 0, 0) := by decide +kernel
theorem e80_3 : vm_ent 80 3 = some (.imul, 0, 0, 0) := by decide +kernel
theorem e80_4 : vm_ent 80 4 = some (.istore_n 2, 0, 0, 0) := by decide +kernel
theorem e80_5 : vm_ent 80 5 = some (.iconst 1, 0, 0, 0) := by decide +kernel
theorem e80_6 : vm_ent 80 6 = some (.istore_n 3, 0, 0, 0) := by decide +kernel
theorem e80_7 : vm_ent 80 7 = some (.iload_n 3, 0, 0, 0) := by decide +kernel
theorem e80_8 : vm_ent 80 8 = some (.aload_n 0, 0, 0, 0) := by decide +kernel
theorem e80_9 : vm_ent 80 9 = some (.getfield 20, 6, 6, 640) := by decide +kernel
theorem e80_12 : vm_ent 80 12 = some (.iload_n 1, 0, 0, 0) := by decide +kernel
theorem e80_13 : vm_ent 80 13 = some (.iaload, 0, 0, 0) := by decide +kernel
theorem e80_14 : vm_ent 80 14 = some (.if_icmp .ge 134, 148, 0, 0) := by decide +kernel
theorem e80_17 : vm_ent 80 17 = some (.aload_n 0, 0, 0, 0) := by decide +kernel
theorem e80_18 : vm_ent 80 18 = some (.getfield 23, 6, 7, 641) := by decide +kernel
theorem e80_21 : vm_ent 80 21 = some (.iload_n 2, 0, 0, 0) := by decide +kernel
theorem e80_22 : vm_ent 80 22 = some (.iload_n 3, 0, 0, 0) := by decide +kernel
theorem e80_23 : vm_ent 80 23 = some (.iadd, 0, 0, 0) := by decide +kernel
theorem e80_24 : vm_ent 80 24 = some (.laload, 0, 0, 0) := by decide +kernel
theorem e80_25 : vm_ent 80 25 = some (.lstore 4, 0, 0, 0) := by decide +kernel
theorem e80_27 : vm_ent 80 27 = some (.aload_n 0, 0, 0, 0) := by decide +kernel
theorem e80_28 : vm_ent 80 28 = some (.getfield 27, 6, 8, 642) := by decide +kernel
theorem e80_31 : vm_ent 80 31 = some (.iload_n 2, 0, 0, 0) := by decide +kernel
theorem e80_32 : vm_ent 80 32 = some (.iload_n 3, 0, 0, 0) := by decide +kernel
theorem e80_33 : vm_ent 80 33 = some (.iadd, 0, 0, 0) := by decide +kernel
theorem e80_34 : vm_ent 80 34 = some (.laload, 0, 0, 0) := by decide +kernel
theorem e80_35 : vm_ent 80 35 = some (.lstore 6, 0, 0, 0) := by decide +kernel
theorem e80_37 : vm_ent 80 37 = some (.aload_n 0, 0, 0, 0) := by decide +kernel
theorem e80_38 : vm_ent 80 38 = some (.lload 6, 0, 0, 0) := by decide +kernel
theorem e80_40 : vm_ent 80 40 = some (.invokevirtual 95, 79, 4, 857) := by decide +kernel
theorem e80_43 : vm_ent 80 43 = some (.lstore 8, 0, 0, 0) := by decide +kernel
theorem e80_45 : vm_ent 80 45 = some (.iload_n 3, 0, 0, 0) := by decide +kernel
theorem e80_46 : vm_ent 80 46 = some (.istore 10, 0, 0, 0) := by decide +kernel
theorem e80_48 : vm_ent 80 48 = some (.iload 10, 0, 0, 0) := by decide +kernel
theorem e80_50 : vm_ent 80 50 = some (.ifCond .le 70, 120, 0, 0) := by decide +kernel
theorem e80_53 : vm_ent 80 53 = some (.aload_n 0, 0, 0, 0) := by decide +kernel
theorem e80_54 : vm_ent 80 54 = some (.aload_n 0, 0, 0, 0) := by decide +kernel
theorem e80_55 : vm_ent 80 55 = some (.getfield 27, 6, 8, 642) := by decide +kernel
theorem e80_58 : vm_ent 80 58 = some (.iload_n 2, 0, 0, 0) := by decide +kernel
theorem e80_59 : vm_ent 80 59 = some (.iload 10, 0, 0, 0) := by decide +kernel
theorem e80_61 : vm_ent 80 61 = some (.iadd, 0, 0, 0) := by decide +kernel
theorem e80_62 : vm_ent 80 62 = some (.iconst 1, 0, 0, 0) := by decide +kernel
theorem e80_63 : vm_ent 80 63 = some (.isub, 0, 0, 0) := by decide +kernel
theorem e80_64 : vm_ent 80 64 = some (.laload, 0, 0, 0) := by decide +kernel
theorem e80_65 : vm_ent 80 65 = some (.invokevirtual 95, 79, 4, 857) := by decide +kernel
theorem e80_68 : vm_ent 80 68 = some (.lload 8, 0, 0, 0) := by decide +kernel
theorem e80_70 : vm_ent 80 70 = some (.lcmp, 0, 0, 0) := by decide +kernel
theorem e80_71 : vm_ent 80 71 = some (.ifCond .ge 49, 120, 0, 0) := by decide +kernel
theorem e80_74 : vm_ent 80 74 = some (.aload_n 0, 0, 0, 0) := by decide +kernel
theorem e80_75 : vm_ent 80 75 = some (.getfield 23, 6, 7, 641) := by decide +kernel
theorem e80_78 : vm_ent 80 78 = some (.iload_n 2, 0, 0, 0) := by decide +kernel
theorem e80_79 : vm_ent 80 79 = some (.iload 10, 0, 0, 0) := by decide +kernel
theorem e80_81 : vm_ent 80 81 = some (.iadd, 0, 0, 0) := by decide +kernel
theorem e80_82 : vm_ent 80 82 = some (.aload_n 0, 0, 0, 0) := by decide +kernel
theorem e80_83 : vm_ent 80 83 = some (.getfield 23, 6, 7, 641) := by decide +kernel
theorem e80_86 : vm_ent 80 86 = some (.iload_n 2, 0, 0, 0) := by decide +kernel
theorem e80_87 : vm_ent 80 87 = some (.iload 10, 0, 0, 0) := by decide +kernel
theorem e80_89 : vm_ent 80 89 = some (.iadd, 0, 0, 0) := by decide +kernel
theorem e80_90 : vm_ent 80 90 = some (.iconst 1, 0, 0, 0) := by decide +kernel
theorem e80_91 : vm_ent 80 91 = some (.isub, 0, 0, 0) := by decide +kernel
theorem e80_92 : vm_ent 80 92 = some (.laload, 0, 0, 0) := by decide +kernel
theorem e80_93 : vm_ent 80 93 = some (.lastore, 0, 0, 0) := by decide +kernel
theorem e80_94 : vm_ent 80 94 = some (.aload_n 0, 0, 0, 0) := by decide +kernel
theorem e80_95 : vm_ent 80 95 = some (.getfield 27, 6, 8, 642) := by decide +kernel
theorem e80_98 : vm_ent 80 98 = some (.iload_n 2, 0, 0, 0) := by decide +kernel
theorem e80_99 : vm_ent 80 99 = some (.iload 10, 0, 0, 0) := by decide +kernel
theorem e80_101 : vm_ent 80 101 = some (.iadd, 0, 0, 0) := by decide +kernel
theorem e80_102 : vm_ent 80 102 = some (.aload_n 0, 0, 0, 0) := by decide +kernel
theorem e80_103 : vm_ent 80 103 = some (.getfield 27, 6, 8, 642) := by decide +kernel
theorem e80_106 : vm_ent 80 106 = some (.iload_n 2, 0, 0, 0) := by decide +kernel
theorem e80_107 : vm_ent 80 107 = some (.iload 10, 0, 0, 0) := by decide +kernel
theorem e80_109 : vm_ent 80 109 = some (.iadd, 0, 0, 0) := by decide +kernel
theorem e80_110 : vm_ent 80 110 = some (.iconst 1, 0, 0, 0) := by decide +kernel
theorem e80_111 : vm_ent 80 111 = some (.isub, 0, 0, 0) := by decide +kernel
theorem e80_112 : vm_ent 80 112 = some (.laload, 0, 0, 0) := by decide +kernel
theorem e80_113 : vm_ent 80 113 = some (.lastore, 0, 0, 0) := by decide +kernel
theorem e80_114 : vm_ent 80 114 = some (.iinc 10 (-1), 0, 0, 0) := by decide +kernel
theorem e80_117 : vm_ent 80 117 = some (.goto (-69), 48, 0, 0) := by decide +kernel
theorem e80_120 : vm_ent 80 120 = some (.aload_n 0, 0, 0, 0) := by decide +kernel
theorem e80_121 : vm_ent 80 121 = some (.getfield 23, 6, 7, 641) := by decide +kernel
theorem e80_124 : vm_ent 80 124 = some (.iload_n 2, 0, 0, 0) := by decide +kernel
theorem e80_125 : vm_ent 80 125 = some (.iload 10, 0, 0, 0) := by decide +kernel
theorem e80_127 : vm_ent 80 127 = some (.iadd, 0, 0, 0) := by decide +kernel
theorem e80_128 : vm_ent 80 128 = some (.lload 4, 0, 0, 0) := by decide +kernel
theorem e80_130 : vm_ent 80 130 = some (.lastore, 0, 0, 0) := by decide +kernel
theorem e80_131 : vm_ent 80 131 = some (.aload_n 0, 0, 0, 0) := by decide +kernel
theorem e80_132 : vm_ent 80 132 = some (.getfield 27, 6, 8, 642) := by decide +kernel
theorem e80_135 : vm_ent 80 135 = some (.iload_n 2, 0, 0, 0) := by decide +kernel
theorem e80_136 : vm_ent 80 136 = some (.iload 10, 0, 0, 0) := by decide +kernel
theorem e80_138 : vm_ent 80 138 = some (.iadd, 0, 0, 0) := by decide +kernel
theorem e80_139 : vm_ent 80 139 = some (.lload 6, 0, 0, 0) := by decide +kernel
theorem e80_141 : vm_ent 80 141 = some (.lastore, 0, 0, 0) := by decide +kernel
theorem e80_142 : vm_ent 80 142 = some (.iinc 3 1, 0, 0, 0) := by decide +kernel
theorem e80_145 : vm_ent 80 145 = some (.goto (-138), 7, 0, 0) := by decide +kernel
theorem e80_148 : vm_ent 80 148 = some (.return_, 0, 0, 0) := by decide +kernel
theorem e87_0 : vm_ent 87 0 = some (.iconst 0, 0, 0, 0) := by decide +kernel
theorem e87_1 : vm_ent 87 1 = some (.istore 4, 0, 0, 0) := by decide +kernel
theorem e87_3 : vm_ent 87 3 = some (.iconst 0, 0, 0, 0) := by decide +kernel
theorem e87_4 : vm_ent 87 4 = some (.istore 5, 0, 0, 0) := by decide +kernel
theorem e87_6 : vm_ent 87 6 = some (.iload 5, 0, 0, 0) := by decide +kernel
theorem e87_8 : vm_ent 87 8 = some (.aload_n 0, 0, 0, 0) := by decide +kernel
theorem e87_9 : vm_ent 87 9 = some (.getfield 20, 6, 6, 640) := by decide +kernel
theorem e87_12 : vm_ent 87 12 = some (.iload_n 1, 0, 0, 0) := by decide +kernel
theorem e87_13 : vm_ent 87 13 = some (.iaload, 0, 0, 0) := by decide +kernel
theorem e87_14 : vm_ent 87 14 = some (.if_icmp .ge 85, 99, 0, 0) := by decide +kernel
theorem e87_17 : vm_ent 87 17 = some (.aload_n 0, 0, 0, 0) := by decide +kernel
theorem e87_18 : vm_ent 87 18 = some (.getfield 27, 6, 8, 642) := by decide +kernel
theorem e87_21 : vm_ent 87 21 = some (.bipush 60, 0, 0, 0) := by decide +kernel
theorem e87_23 : vm_ent 87 23 = some (.iload_n 1, 0, 0, 0) := by decide +kernel
theorem e87_24 : vm_ent 87 24 = some (.imul, 0, 0, 0) := by decide +kernel
theorem e87_25 : vm_ent 87 25 = some (.iload 5, 0, 0, 0) := by decide +kernel
theorem e87_27 : vm_ent 87 27 = some (.iadd, 0, 0, 0) := by decide +kernel
theorem e87_28 : vm_ent 87 28 = some (.laload, 0, 0, 0) := by decide +kernel
theorem e87_29 : vm_ent 87 29 = some (.lstore 6, 0, 0, 0) := by decide +kernel
theorem e87_31 : vm_ent 87 31 = some (.lload 6, 0, 0, 0) := by decide +kernel
theorem e87_33 : vm_ent 87 33 = some (.iload_n 2, 0, 0, 0) := by decide +kernel
theorem e87_34 : vm_ent 87 34 = some (.invokestatic 91, 78, 1, 794) := by decide +kernel
theorem e87_37 : vm_ent 87 37 = some (.iload_n 3, 0, 0, 0) := by decide +kernel
theorem e87_38 : vm_ent 87 38 = some (.if_icmp .ne 55, 93, 0, 0) := by decide +kernel
theorem e87_41 : vm_ent 87 41 = some (.aload_n 0, 0, 0, 0) := by decide +kernel
theorem e87_42 : vm_ent 87 42 = some (.getfield 23, 6, 7, 641) := by decide +kernel
theorem e87_45 : vm_ent 87 45 = some (.sipush 4200, 0, 0, 0) := by decide +kernel
theorem e87_48 : vm_ent 87 48 = some (.iload 4, 0, 0, 0) := by decide +kernel
theorem e87_50 : vm_ent 87 50 = some (.iadd, 0, 0, 0) := by decide +kernel
theorem e87_51 : vm_ent 87 51 = some (.aload_n 0, 0, 0, 0) := by decide +kernel
theorem e87_52 : vm_ent 87 52 = some (.getfield 23, 6, 7, 641) := by decide +kernel
theorem e87_55 : vm_ent 87 55 = some (.bipush 60, 0, 0, 0) := by decide +kernel
theorem e87_57 : vm_ent 87 57 = some (.iload_n 1, 0, 0, 0) := by decide +kernel
theorem e87_58 : vm_ent 87 58 = some (.imul, 0, 0, 0) := by decide +kernel
theorem e87_59 : vm_ent 87 59 = some (.iload 5, 0, 0, 0) := by decide +kernel
theorem e87_61 : vm_ent 87 61 = some (.iadd, 0, 0, 0) := by decide +kernel
theorem e87_62 : vm_ent 87 62 = some (.laload, 0, 0, 0) := by decide +kernel
theorem e87_63 : vm_ent 87 63 = some (.lastore, 0, 0, 0) := by decide +kernel
theorem e87_64 : vm_ent 87 64 = some (.aload_n 0, 0, 0, 0) := by decide +kernel
theorem e87_65 : vm_ent 87 65 = some (.getfield 27, 6, 8, 642) := by decide +kernel
theorem e87_68 : vm_ent 87 68 = some (.sipush 4200, 0, 0, 0) := by decide +kernel
theorem e87_71 : vm_ent 87 71 = some (.iload 4, 0, 0, 0) := by decide +kernel
theorem e87_73 : vm_ent 87 73 = some (.iadd, 0, 0, 0) := by decide +kernel
theorem e87_74 : vm_ent 87 74 = some (.lload 6, 0, 0, 0) := by decide +kernel
theorem e87_76 : vm_ent 87 76 = some (.ldc2_w 107, 255, 0, 833) := by decide +kernel
theorem e87_79 : vm_ent 87 79 = some (.bipush 8, 0, 0, 0) := by decide +kernel
theorem e87_81 : vm_ent 87 81 = some (.iload_n 2, 0, 0, 0) := by decide +kernel
theorem e87_82 : vm_ent 87 82 = some (.imul, 0, 0, 0) := by decide +kernel
theorem e87_83 : vm_ent 87 83 = some (.lshl, 0, 0, 0) := by decide +kernel
theorem e87_84 : vm_ent 87 84 = some (.ldc2_w 109, 18446744073709551615, 0, 834) := by decide +kernel
theorem e87_87 : vm_ent 87 87 = some (.lxor, 0, 0, 0) := by decide +kernel
theorem e87_88 : vm_ent 87 88 = some (.land, 0, 0, 0) := by decide +kernel
theorem e87_89 : vm_ent 87 89 = some (.lastore, 0, 0, 0) := by decide +kernel
theorem e87_90 : vm_ent 87 90 = some (.iinc 4 1, 0, 0, 0) := by decide +kernel
theorem e87_93 : vm_ent 87 93 = some (.iinc 5 1, 0, 0, 0) := by decide +kernel
theorem e87_96 : vm_ent 87 96 = some (.goto (-90), 6, 0, 0) := by decide +kernel
theorem e87_99 : vm_ent 87 99 = some (.aload_n 0, 0, 0, 0) := by decide +kernel
theorem e87_100 : vm_ent 87 100 = some (.getfield 20, 6, 6, 640) := by decide +kernel
theorem e87_103 : vm_ent 87 103 = some (.bipush 70, 0, 0, 0) := by decide +kernel
theorem e87_105 : vm_ent 87 105 = some (.iload 4, 0, 0, 0) := by decide +kernel
theorem e87_107 : vm_ent 87 107 = some (.iastore, 0, 0, 0) := by decide +kernel
theorem e87_108 : vm_ent 87 108 = some (.return_, 0, 0, 0) := by decide +kernel
theorem e82_0 : vm_ent 82 0 = some (.lload_n 0, 0, 0, 0) := by decide +kernel
theorem e82_1 : vm_ent 82 1 = some (.lconst 0, 0, 0, 0) := by decide +kernel
theorem e82_2 : vm_ent 82 2 = some (.lcmp, 0, 0, 0) := by decide +kernel
theorem e82_3 : vm_ent 82 3 = some (.ifCond .ge 8, 11, 0, 0) := by decide +kernel
theorem e82_6 : vm_ent 82 6 = some (.lload_n 0, 0, 0, 0) := by decide +kernel
theorem e82_7 : vm_ent 82 7 = some (.lneg, 0, 0, 0) := by decide +kernel
theorem e82_8 : vm_ent 82 8 = some (.goto 4, 12, 0, 0) := by decide +kernel
theorem e82_11 : vm_ent 82 11 = some (.lload_n 0, 0, 0, 0) := by decide +kernel
theorem e82_12 : vm_ent 82 12 = some (.lstore 4, 0, 0, 0) := by decide +kernel
theorem e82_14 : vm_ent 82 14 = some (.lload_n 2, 0, 0, 0) := by decide +kernel
theorem e82_15 : vm_ent 82 15 = some (.lconst 0, 0, 0, 0) := by decide +kernel
theorem e82_16 : vm_ent 82 16 = some (.lcmp, 0, 0, 0) := by decide +kernel
theorem e82_17 : vm_ent 82 17 = some (.ifCond .ge 8, 25, 0, 0) := by decide +kernel
theorem e82_20 : vm_ent 82 20 = some (.lload_n 2, 0, 0, 0) := by decide +kernel
theorem e82_21 : vm_ent 82 21 = some (.lneg, 0, 0, 0) := by decide +kernel
theorem e82_22 : vm_ent 82 22 = some (.goto 4, 26, 0, 0) := by decide +kernel
theorem e82_25 : vm_ent 82 25 = some (.lload_n 2, 0, 0, 0) := by decide +kernel
theorem e82_26 : vm_ent 82 26 = some (.lstore 6, 0, 0, 0) := by decide +kernel
theorem e82_28 : vm_ent 82 28 = some (.lload 6, 0, 0, 0) := by decide +kernel
theorem e82_30 : vm_ent 82 30 = some (.lconst 0, 0, 0, 0) := by decide +kernel
theorem e82_31 : vm_ent 82 31 = some (.lcmp, 0, 0, 0) := by decide +kernel
theorem e82_32 : vm_ent 82 32 = some (.ifCond .eq 21, 53, 0, 0) := by decide +kernel
theorem e82_35 : vm_ent 82 35 = some (.lload 4, 0, 0, 0) := by decide +kernel
theorem e82_37 : vm_ent 82 37 = some (.lload 6, 0, 0, 0) := by decide +kernel
theorem e82_39 : vm_ent 82 39 = some (.lrem, 0, 0, 0) := by decide +kernel
theorem e82_40 : vm_ent 82 40 = some (.lstore 8, 0, 0, 0) := by decide +kernel
theorem e82_42 : vm_ent 82 42 = some (.lload 6, 0, 0, 0) := by decide +kernel
theorem e82_44 : vm_ent 82 44 = some (.lstore 4, 0, 0, 0) := by decide +kernel
theorem e82_46 : vm_ent 82 46 = some (.lload 8, 0, 0, 0) := by decide +kernel
theorem e82_48 : vm_ent 82 48 = some (.lstore 6, 0, 0, 0) := by decide +kernel
theorem e82_50 : vm_ent 82 50 = some (.goto (-22), 28, 0, 0) := by decide +kernel
theorem e82_53 : vm_ent 82 53 = some (.lload 4, 0, 0, 0) := by decide +kernel
theorem e82_55 : vm_ent 82 55 = some (.lreturn, 0, 0, 0) := by decide +kernel
theorem e101_0 : vm_ent 101 0 = some (.aload_n 0, 0, 0, 0) := by decide +kernel
theorem e101_1 : vm_ent 101 1 = some (.iconst 0, 0, 0, 0) := by decide +kernel
theorem e101_2 : vm_ent 101 2 = some (.putfield 210, 6, 10, 644) := by decide +kernel
theorem e101_5 : vm_ent 101 5 = some (.aload_n 0, 0, 0, 0) := by decide +kernel
theorem e101_6 : vm_ent 101 6 = some (.iconst 0, 0, 0, 0) := by decide +kernel
theorem e101_7 : vm_ent 101 7 = some (.putfield 213, 6, 11, 645) := by decide +kernel
theorem e101_10 : vm_ent 101 10 = some (.aload_n 0, 0, 0, 0) := by decide +kernel
theorem e101_11 : vm_ent 101 11 = some (.iconst 0, 0, 0, 0) := by decide +kernel
theorem e101_12 : vm_ent 101 12 = some (.putfield 216, 6, 12, 646) := by decide +kernel
theorem e101_15 : vm_ent 101 15 = some (.aload_n 0, 0, 0, 0) := by decide +kernel
theorem e101_16 : vm_ent 101 16 = some (.iconst 0, 0, 0, 0) := by decide +kernel
theorem e101_17 : vm_ent 101 17 = some (.putfield 219, 6, 18, 652) := by decide +kernel
theorem e101_20 : vm_ent 101 20 = some (.return_, 0, 0, 0) := by decide +kernel
theorem e119_0 : vm_ent 119 0 = some (.lconst 0, 0, 0, 0) := by decide +kernel
theorem e119_1 : vm_ent 119 1 = some (.lstore_n 2, 0, 0, 0) := by decide +kernel
theorem e119_2 : vm_ent 119 2 = some (.iconst 0, 0, 0, 0) := by decide +kernel
theorem e119_3 : vm_ent 119 3 = some (.istore 4, 0, 0, 0) := by decide +kernel
theorem e119_5 : vm_ent 119 5 = some (.iload 4, 0, 0, 0) := by decide +kernel
theorem e119_7 : vm_ent 119 7 = some (.aload_n 0, 0, 0, 0) := by decide +kernel
theorem e119_8 : vm_ent 119 8 = some (.getfield 20, 6, 6, 640) := by decide +kernel
theorem e119_11 : vm_ent 119 11 = some (.iload_n 1, 0, 0, 0) := by decide +kernel
theorem e119_12 : vm_ent 119 12 = some (.iaload, 0, 0, 0) := by decide +kernel
theorem e119_13 : vm_ent 119 13 = some (.if_icmp .ge 41, 54, 0, 0) := by decide +kernel
theorem e119_16 : vm_ent 119 16 = some (.lload_n 2, 0, 0, 0) := by decide +kernel
theorem e119_17 : vm_ent 119 17 = some (.aload_n 0, 0, 0, 0) := by decide +kernel
theorem e119_18 : vm_ent 119 18 = some (.getfield 23, 6, 7, 641) := by decide +kernel
theorem e119_21 : vm_ent 119 21 = some (.bipush 60, 0, 0, 0) := by decide +kernel
theorem e119_23 : vm_ent 119 23 = some (.iload_n 1, 0, 0, 0) := by decide +kernel
theorem e119_24 : vm_ent 119 24 = some (.imul, 0, 0, 0) := by decide +kernel
theorem e119_25 : vm_ent 119 25 = some (.iload 4, 0, 0, 0) := by decide +kernel
theorem e119_27 : vm_ent 119 27 = some (.iadd, 0, 0, 0) := by decide +kernel
theorem e119_28 : vm_ent 119 28 = some (.laload, 0, 0, 0) := by decide +kernel
theorem e119_29 : vm_ent 119 29 = some (.aload_n 0, 0, 0, 0) := by decide +kernel
theorem e119_30 : vm_ent 119 30 = some (.aload_n 0, 0, 0, 0) := by decide +kernel
theorem e119_31 : vm_ent 119 31 = some (.getfield 27, 6, 8, 642) := by decide +kernel
theorem e119_34 : vm_ent 119 34 = some (.bipush 60, 0, 0, 0) := by decide +kernel
theorem e119_36 : vm_ent 119 36 = some (.iload_n 1, 0, 0, 0) := by decide +kernel
theorem e119_37 : vm_ent 119 37 = some (.imul, 0, 0, 0) := by decide +kernel
theorem e119_38 : vm_ent 119 38 = some (.iload 4, 0, 0, 0) := by decide +kernel
theorem e119_40 : vm_ent 119 40 = some (.iadd, 0, 0, 0) := by decide +kernel
theorem e119_41 : vm_ent 119 41 = some (.laload, 0, 0, 0) := by decide +kernel
theorem e119_42 : vm_ent 119 42 = some (.invokevirtual 260, 118, 4, 939) := by decide +kernel
theorem e119_45 : vm_ent 119 45 = some (.lmul, 0, 0, 0) := by decide +kernel
theorem e119_46 : vm_ent 119 46 = some (.ladd, 0, 0, 0) := by decide +kernel
theorem e119_47 : vm_ent 119 47 = some (.lstore_n 2, 0, 0, 0) := by decide +kernel
theorem e119_48 : vm_ent 119 48 = some (.iinc 4 1, 0, 0, 0) := by decide +kernel
theorem e119_51 : vm_ent 119 51 = some (.goto (-46), 5, 0, 0) := by decide +kernel
theorem e119_54 : vm_ent 119 54 = some (.lload_n 2, 0, 0, 0) := by decide +kernel
theorem e119_55 : vm_ent 119 55 = some (.lreturn, 0, 0, 0) := by decide +kernel
