theorem e2_0 : vm_ent 2 0 = some (.iload_n 1, 0, 0, 0) := by decide +kernel
theorem e2_1 : vm_ent 2 1 = some (.ifCond .lt 15, 16, 0, 0) := by decide +kernel
theorem e2_4 : vm_ent 2 4 = some (.iload_n 1, 0, 0, 0) := by decide +kernel
theorem e2_5 : vm_ent 2 5 = some (.aload_n 0, 0, 0, 0) := by decide +kernel
theorem e2_6 : vm_ent 2 6 = some (.getfield 23, 0, 0, 80) := by decide +kernel
theorem e2_9 : vm_ent 2 9 = some (.if_icmp .ge 7, 16, 0, 0) := by decide +kernel
theorem e2_16 : vm_ent 2 16 = some (.iconst 0, 0, 0, 0) := by decide +kernel
theorem e2_17 : vm_ent 2 17 = some (.ireturn, 0, 0, 0) := by decide +kernel
theorem e3_0 : vm_ent 3 0 = some (.aload_n 0, 0, 0, 0) := by decide +kernel
theorem e3_1 : vm_ent 3 1 = some (.getfield 23, 0, 0, 80) := by decide +kernel
theorem e3_4 : vm_ent 3 4 = some (.bipush 8, 0, 0, 0) := by decide +kernel
theorem e3_6 : vm_ent 3 6 = some (.if_icmp .lt 5, 11, 0, 0) := by decide +kernel
theorem e3_11 : vm_ent 3 11 = some (.aload_n 0, 0, 0, 0) := by decide +kernel
theorem e3_12 : vm_ent 3 12 = some (.getfield 9, 0, 1, 82) := by decide +kernel
theorem e3_15 : vm_ent 3 15 = some (.aload_n 0, 0, 0, 0) := by decide +kernel
theorem e3_16 : vm_ent 3 16 = some (.getfield 23, 0, 0, 80) := by decide +kernel
theorem e3_19 : vm_ent 3 19 = some (.iload_n 1, 0, 0, 0) := by decide +kernel
theorem e3_20 : vm_ent 3 20 = some (.bastore, 0, 0, 0) := by decide +kernel
theorem e3_21 : vm_ent 3 21 = some (.aload_n 0, 0, 0, 0) := by decide +kernel
theorem e3_22 : vm_ent 3 22 = some (.getfield 19, 0, 3, 85) := by decide +kernel
theorem e3_25 : vm_ent 3 25 = some (.aload_n 0, 0, 0, 0) := by decide +kernel
theorem e3_26 : vm_ent 3 26 = some (.getfield 23, 0, 0, 80) := by decide +kernel
theorem e3_29 : vm_ent 3 29 = some (.aload_n 0, 0, 0, 0) := by decide +kernel
theorem e3_30 : vm_ent 3 30 = some (.getfield 23, 0, 0, 80) := by decide +kernel
theorem e3_33 : vm_ent 3 33 = some (.iastore, 0, 0, 0) := by decide +kernel
theorem e3_34 : vm_ent 3 34 = some (.aload_n 0, 0, 0, 0) := by decide +kernel
theorem e3_35 : vm_ent 3 35 = some (.dup, 0, 0, 0) := by decide +kernel
theorem e3_36 : vm_ent 3 36 = some (.getfield 23, 0, 0, 80) := by decide +kernel
theorem e3_39 : vm_ent 3 39 = some (.iconst 1, 0, 0, 0) := by decide +kernel
theorem e3_40 : vm_ent 3 40 = some (.iadd, 0, 0, 0) := by decide +kernel
theorem e3_41 : vm_ent 3 41 = some (.putfield 23, 0, 0, 80) := by decide +kernel
theorem e3_44 : vm_ent 3 44 = some (.aload_n 0, 0, 0, 0) := by decide +kernel
theorem e3_45 : vm_ent 3 45 = some (.getfield 23, 0, 0, 80) := by decide +kernel
theorem e3_48 : vm_ent 3 48 = some (.iconst 1, 0, 0, 0) := by decide +kernel
theorem e3_49 : vm_ent 3 49 = some (.isub, 0, 0, 0) := by decide +kernel
theorem e3_50 : vm_ent 3 50 = some (.ireturn, 0, 0, 0) := by decide +kernel
theorem e4_0 : vm_ent 4 0 = some (.lconst 0, 0, 0, 0) := by decide +kernel
theorem e4_1 : vm_ent 4 1 = some (.lstore_n 2, 0, 0, 0) := by decide +kernel
theorem e4_2 : vm_ent 4 2 = some (.iconst 0, 0, 0, 0) := by decide +kernel
theorem e4_3 : vm_ent 4 3 = some (.istore 4, 0, 0, 0) := by decide +kernel
theorem e4_5 : vm_ent 4 5 = some (.iload 4, 0, 0, 0) := by decide +kernel
theorem e4_7 : vm_ent 4 7 = some (.aload_n 1, 0, 0, 0) := by decide +kernel
theorem e4_8 : vm_ent 4 8 = some (.getfield 35, 1, 2, 118) := by decide +kernel
theorem e4_11 : vm_ent 4 11 = some (.if_icmp .ge 31, 42, 0, 0) := by decide +kernel
theorem e4_42 : vm_ent 4 42 = some (.lload_n 2, 0, 0, 0) := by decide +kernel
theorem e4_43 : vm_ent 4 43 = some (.lreturn, 0, 0, 0) := by decide +kernel
theorem e6_0 : vm_ent 6 0 = some (.aload_n 0, 0, 0, 0) := by decide +kernel
theorem e6_1 : vm_ent 6 1 = some (.iconst 0, 0, 0, 0) := by decide +kernel
theorem e6_2 : vm_ent 6 2 = some (.putfield 18, 1, 2, 113) := by decide +kernel
theorem e6_5 : vm_ent 6 5 = some (.return_, 0, 0, 0) := by decide +kernel
theorem e7_0 : vm_ent 7 0 = some (.iload_n 1, 0, 0, 0) := by decide +kernel
theorem e7_1 : vm_ent 7 1 = some (.ifCond .lt 15, 16, 0, 0) := by decide +kernel
theorem e7_4 : vm_ent 7 4 = some (.iload_n 1, 0, 0, 0) := by decide +kernel
theorem e7_5 : vm_ent 7 5 = some (.aload_n 0, 0, 0, 0) := by decide +kernel
theorem e7_6 : vm_ent 7 6 = some (.getfield 18, 1, 2, 113) := by decide +kernel
theorem e7_9 : vm_ent 7 9 = some (.if_icmp .ge 7, 16, 0, 0) := by decide +kernel
theorem e7_16 : vm_ent 7 16 = some (.iconst 0, 0, 0, 0) := by decide +kernel
theorem e7_17 : vm_ent 7 17 = some (.ireturn, 0, 0, 0) := by decide +kernel
theorem e12_0 : vm_ent 12 0 = some (.aload_n 0, 0, 0, 0) := by decide +kernel
theorem e12_1 : vm_ent 12 1 = some (.getfield 12, 5, 0, 195) := by decide +kernel
theorem e12_4 : vm_ent 12 4 = some (.iload_n 1, 0, 0, 0) := by decide +kernel
theorem e12_5 : vm_ent 12 5 = some (.invokevirtual 68, 3, 4, 254) := by decide +kernel
theorem e12_8 : vm_ent 12 8 = some (.istore_n 2, 0, 0, 0) := by decide +kernel
theorem e12_9 : vm_ent 12 9 = some (.iload_n 2, 0, 0, 0) := by decide +kernel
theorem e12_10 : vm_ent 12 10 = some (.iconst (-1), 0, 0, 0) := by decide +kernel
theorem e12_11 : vm_ent 12 11 = some (.if_icmp .eq 7, 18, 0, 0) := by decide +kernel
theorem e12_14 : vm_ent 12 14 = some (.aload_n 0, 0, 0, 0) := by decide +kernel
theorem e12_15 : vm_ent 12 15 = some (.invokevirtual 72, 31, 4, 258) := by decide +kernel
theorem e12_18 : vm_ent 12 18 = some (.iload_n 2, 0, 0, 0) := by decide +kernel
theorem e12_19 : vm_ent 12 19 = some (.ireturn, 0, 0, 0) := by decide +kernel
theorem e13_0 : vm_ent 13 0 = some (.aload_n 0, 0, 0, 0) := by decide +kernel
theorem e13_1 : vm_ent 13 1 = some (.getfield 12, 5, 0, 195) := by decide +kernel
theorem e13_4 : vm_ent 13 4 = some (.iload_n 1, 0, 0, 0) := by decide +kernel
theorem e13_5 : vm_ent 13 5 = some (.invokevirtual 75, 2, 4, 273) := by decide +kernel
theorem e13_8 : vm_ent 13 8 = some (.ifCond .eq 14, 22, 0, 0) := by decide +kernel
theorem e13_22 : vm_ent 13 22 = some (.iconst 0, 0, 0, 0) := by decide +kernel
theorem e13_23 : vm_ent 13 23 = some (.ireturn, 0, 0, 0) := by decide +kernel
theorem e14_0 : vm_ent 14 0 = some (.aload_n 0, 0, 0, 0) := by decide +kernel
theorem e14_1 : vm_ent 14 1 = some (.getfield 87, 5, 3, 198) := by decide +kernel
theorem e14_4 : vm_ent 14 4 = some (.bipush 16, 0, 0, 0) := by decide +kernel
theorem e14_6 : vm_ent 14 6 = some (.if_icmp .lt 5, 11, 0, 0) := by decide +kernel
theorem e14_11 : vm_ent 14 11 = some (.aload_n 0, 0, 0, 0) := by decide +kernel
theorem e14_12 : vm_ent 14 12 = some (.dup, 0, 0, 0) := by decide +kernel
theorem e14_13 : vm_ent 14 13 = some (.getfield 87, 5, 3, 198) := by decide +kernel
theorem e14_16 : vm_ent 14 16 = some (.iconst 1, 0, 0, 0) := by decide +kernel
theorem e14_17 : vm_ent 14 17 = some (.iadd, 0, 0, 0) := by decide +kernel
theorem e14_18 : vm_ent 14 18 = some (.putfield 87, 5, 3, 198) := by decide +kernel
theorem e14_21 : vm_ent 14 21 = some (.aload_n 0, 0, 0, 0) := by decide +kernel
theorem e14_22 : vm_ent 14 22 = some (.getfield 87, 5, 3, 198) := by decide +kernel
theorem e14_25 : vm_ent 14 25 = some (.iconst 1, 0, 0, 0) := by decide +kernel
theorem e14_26 : vm_ent 14 26 = some (.isub, 0, 0, 0) := by decide +kernel
theorem e14_27 : vm_ent 14 27 = some (.ireturn, 0, 0, 0) := by decide +kernel
theorem e15_0 : vm_ent 15 0 = some (.aload_n 0, 0, 0, 0) := by decide +kernel
theorem e15_1 : vm_ent 15 1 = some (.iload_n 1, 0, 0, 0) := by decide +kernel
theorem e15_2 : vm_ent 15 2 = some (.invokevirtual 91, 27, 4, 320) := by decide +kernel
theorem e15_5 : vm_ent 15 5 = some (.ifCond .eq 15, 20, 0, 0) := by decide +kernel
theorem e15_20 : vm_ent 15 20 = some (.iconst 0, 0, 0, 0) := by decide +kernel
theorem e15_21 : vm_ent 15 21 = some (.ireturn, 0, 0, 0) := by decide +kernel
theorem e16_0 : vm_ent 16 0 = some (.aload_n 0, 0, 0, 0) := by decide +kernel
theorem e16_1 : vm_ent 16 1 = some (.iload_n 1, 0, 0, 0) := by decide +kernel
theorem e16_2 : vm_ent 16 2 = some (.invokevirtual 91, 27, 4, 320) := by decide +kernel
theorem e16_5 : vm_ent 16 5 = some (.ifCond .eq 13, 18, 0, 0) := by decide +kernel
theorem e16_18 : vm_ent 16 18 = some (.iconst 0, 0, 0, 0) := by decide +kernel
theorem e16_19 : vm_ent 16 19 = some (.ireturn, 0, 0, 0) := by decide +kernel
theorem e17_0 : vm_ent 17 0 = some (.aload_n 0, 0, 0, 0) := by decide +kernel
theorem e17_1 : vm_ent 17 1 = some (.invokevirtual 105, 32, 4, 359) := by decide +kernel
theorem e17_4 : vm_ent 17 4 = some (.ifCond .ne 5, 9, 0, 0) := by decide +kernel
theorem e17_7 : vm_ent 17 7 = some (.iconst (-1), 0, 0, 0) := by decide +kernel
theorem e17_8 : vm_ent 17 8 = some (.ireturn, 0, 0, 0) := by decide +kernel
theorem e18_0 : vm_ent 18 0 = some (.aload_n 0, 0, 0, 0) := by decide +kernel
theorem e18_1 : vm_ent 18 1 = some (.iload_n 1, 0, 0, 0) := by decide +kernel
theorem e18_2 : vm_ent 18 2 = some (.invokevirtual 91, 27, 4, 320) := by decide +kernel
theorem e18_5 : vm_ent 18 5 = some (.ifCond .eq 13, 18, 0, 0) := by decide +kernel
theorem e18_18 : vm_ent 18 18 = some (.iconst (-1), 0, 0, 0) := by decide +kernel
theorem e18_19 : vm_ent 18 19 = some (.ireturn, 0, 0, 0) := by decide +kernel
theorem e19_0 : vm_ent 19 0 = some (.aload_n 0, 0, 0, 0) := by decide +kernel
theorem e19_1 : vm_ent 19 1 = some (.iload_n 1, 0, 0, 0) := by decide +kernel
theorem e19_2 : vm_ent 19 2 = some (.invokevirtual 153, 28, 4, 491) := by decide +kernel
theorem e19_5 : vm_ent 19 5 = some (.ifCond .ne 5, 10, 0, 0) := by decide +kernel
theorem e19_8 : vm_ent 19 8 = some (.iconst (-1), 0, 0, 0) := by decide +kernel
theorem e19_9 : vm_ent 19 9 = some (.ireturn, 0, 0, 0) := by decide +kernel
theorem e21_0 : vm_ent 21 0 = some (.aload_n 0, 0, 0, 0) := by decide +kernel
theorem e21_1 : vm_ent 21 1 = some (.iload_n 1, 0, 0, 0) := by decide +kernel
theorem e21_2 : vm_ent 21 2 = some (.iload_n 2, 0, 0, 0) := by decide +kernel
theorem e21_3 : vm_ent 21 3 = some (.invokevirtual 178, 30, 4, 512) := by decide +kernel
theorem e21_6 : vm_ent 21 6 = some (.astore 4, 0, 0, 0) := by decide +kernel
theorem e21_8 : vm_ent 21 8 = some (.aload 4, 0, 0, 0) := by decide +kernel
theorem e21_10 : vm_ent 21 10 = some (.ifnull 12, 22, 0, 0) := by decide +kernel
theorem e21_13 : vm_ent 21 13 = some (.aload 4, 0, 0, 0) := by decide +kernel
theorem e21_15 : vm_ent 21 15 = some (.iload_n 3, 0, 0, 0) := by decide +kernel
theorem e21_16 : vm_ent 21 16 = some (.invokevirtual 182, 7, 4, 520) := by decide +kernel
theorem e21_19 : vm_ent 21 19 = some (.ifCond .ne 5, 24, 0, 0) := by decide +kernel
theorem e21_22 : vm_ent 21 22 = some (.lconst 0, 0, 0, 0) := by decide +kernel
theorem e21_23 : vm_ent 21 23 = some (.lreturn, 0, 0, 0) := by decide +kernel
theorem e22_0 : vm_ent 22 0 = some (.aload_n 0, 0, 0, 0) := by decide +kernel
theorem e22_1 : vm_ent 22 1 = some (.iload_n 1, 0, 0, 0) := by decide +kernel
theorem e22_2 : vm_ent 22 2 = some (.iload_n 2, 0, 0, 0) := by decide +kernel
theorem e22_3 : vm_ent 22 3 = some (.invokevirtual 178, 30, 4, 512) := by decide +kernel
theorem e22_6 : vm_ent 22 6 = some (.astore 4, 0, 0, 0) := by decide +kernel
theorem e22_8 : vm_ent 22 8 = some (.aload 4, 0, 0, 0) := by decide +kernel
theorem e22_10 : vm_ent 22 10 = some (.ifnull 12, 22, 0, 0) := by decide +kernel
theorem e22_13 : vm_ent 22 13 = some (.aload 4, 0, 0, 0) := by decide +kernel
theorem e22_15 : vm_ent 22 15 = some (.iload_n 3, 0, 0, 0) := by decide +kernel
theorem e22_16 : vm_ent 22 16 = some (.invokevirtual 182, 7, 4, 520) := by decide +kernel
theorem e22_19 : vm_ent 22 19 = some (.ifCond .ne 5, 24, 0, 0) := by decide +kernel
theorem e22_22 : vm_ent 22 22 = some (.iconst (-1), 0, 0, 0) := by decide +kernel
theorem e22_23 : vm_ent 22 23 = some (.ireturn, 0, 0, 0) := by decide +kernel
theorem e23_0 : vm_ent 23 0 = some (.aload_n 0, 0, 0, 0) := by decide +kernel
theorem e23_1 : vm_ent 23 1 = some (.getfield 12, 5, 0, 195) := by decide +kernel
theorem e23_4 : vm_ent 23 4 = some (.iload_n 1, 0, 0, 0) := by decide +kernel
theorem e23_5 : vm_ent 23 5 = some (.invokevirtual 75, 2, 4, 273) := by decide +kernel
theorem e23_8 : vm_ent 23 8 = some (.ifCond .ne 5, 13, 0, 0) := by decide +kernel
theorem e23_11 : vm_ent 23 11 = some (.iconst 0, 0, 0, 0) := by decide +kernel
theorem e23_12 : vm_ent 23 12 = some (.ireturn, 0, 0, 0) := by decide +kernel
theorem e24_0 : vm_ent 24 0 = some (.aload_n 0, 0, 0, 0) := by decide +kernel
theorem e24_1 : vm_ent 24 1 = some (.iload_n 1, 0, 0, 0) := by decide +kernel
theorem e24_2 : vm_ent 24 2 = some (.iload_n 2, 0, 0, 0) := by decide +kernel
theorem e24_3 : vm_ent 24 3 = some (.invokevirtual 178, 30, 4, 512) := by decide +kernel
theorem e24_6 : vm_ent 24 6 = some (.astore_n 3, 0, 0, 0) := by decide +kernel
theorem e24_7 : vm_ent 24 7 = some (.aload_n 3, 0, 0, 0) := by decide +kernel
theorem e24_8 : vm_ent 24 8 = some (.ifnonnull 7, 15, 0, 0) := by decide +kernel
theorem e24_11 : vm_ent 24 11 = some (.lconst 0, 0, 0, 0) := by decide +kernel
theorem e24_12 : vm_ent 24 12 = some (.goto 11, 23, 0, 0) := by decide +kernel
theorem e24_15 : vm_ent 24 15 = some (.aload_n 0, 0, 0, 0) := by decide +kernel
theorem e24_16 : vm_ent 24 16 = some (.getfield 12, 5, 0, 195) := by decide +kernel
theorem e24_19 : vm_ent 24 19 = some (.aload_n 3, 0, 0, 0) := by decide +kernel
theorem e24_20 : vm_ent 24 20 = some (.invokevirtual 199, 4, 4, 537) := by decide +kernel
theorem e24_23 : vm_ent 24 23 = some (.lreturn, 0, 0, 0) := by decide +kernel
theorem e25_0 : vm_ent 25 0 = some (.aload_n 0, 0, 0, 0) := by decide +kernel
theorem e25_1 : vm_ent 25 1 = some (.iload_n 1, 0, 0, 0) := by decide +kernel
theorem e25_2 : vm_ent 25 2 = some (.invokevirtual 153, 28, 4, 491) := by decide +kernel
theorem e25_5 : vm_ent 25 5 = some (.ifCond .ne 5, 10, 0, 0) := by decide +kernel
theorem e25_8 : vm_ent 25 8 = some (.lconst 0, 0, 0, 0) := by decide +kernel
theorem e25_9 : vm_ent 25 9 = some (.lreturn, 0, 0, 0) := by decide +kernel
theorem e27_0 : vm_ent 27 0 = some (.iload_n 1, 0, 0, 0) := by decide +kernel
theorem e27_1 : vm_ent 27 1 = some (.ifCond .lt 15, 16, 0, 0) := by decide +kernel
theorem e27_4 : vm_ent 27 4 = some (.iload_n 1, 0, 0, 0) := by decide +kernel
theorem e27_5 : vm_ent 27 5 = some (.aload_n 0, 0, 0, 0) := by decide +kernel
theorem e27_6 : vm_ent 27 6 = some (.getfield 87, 5, 3, 198) := by decide +kernel
theorem e27_9 : vm_ent 27 9 = some (.if_icmp .ge 7, 16, 0, 0) := by decide +kernel
theorem e27_16 : vm_ent 27 16 = some (.iconst 0, 0, 0, 0) := by decide +kernel
theorem e27_17 : vm_ent 27 17 = some (.ireturn, 0, 0, 0) := by decide +kernel
theorem e28_0 : vm_ent 28 0 = some (.iload_n 1, 0, 0, 0) := by decide +kernel
theorem e28_1 : vm_ent 28 1 = some (.ifCond .lt 18, 19, 0, 0) := by decide +kernel
theorem e28_4 : vm_ent 28 4 = some (.iload_n 1, 0, 0, 0) := by decide +kernel
theorem e28_5 : vm_ent 28 5 = some (.aload_n 0, 0, 0, 0) := by decide +kernel
theorem e28_6 : vm_ent 28 6 = some (.getfield 37, 5, 6, 201) := by decide +kernel
theorem e28_9 : vm_ent 28 9 = some (.getfield 112, 4, 1, 167) := by decide +kernel
theorem e28_12 : vm_ent 28 12 = some (.if_icmp .ge 7, 19, 0, 0) := by decide +kernel
theorem e28_19 : vm_ent 28 19 = some (.iconst 0, 0, 0, 0) := by decide +kernel
theorem e28_20 : vm_ent 28 20 = some (.ireturn, 0, 0, 0) := by decide +kernel
theorem e29_0 : vm_ent 29 0 = some (.iconst 0, 0, 0, 0) := by decide +kernel
theorem e29_1 : vm_ent 29 1 = some (.istore_n 1, 0, 0, 0) := by decide +kernel
theorem e29_2 : vm_ent 29 2 = some (.iconst 0, 0, 0, 0) := by decide +kernel
theorem e29_3 : vm_ent 29 3 = some (.istore_n 2, 0, 0, 0) := by decide +kernel
theorem e29_4 : vm_ent 29 4 = some (.iload_n 2, 0, 0, 0) := by decide +kernel
theorem e29_5 : vm_ent 29 5 = some (.aload_n 0, 0, 0, 0) := by decide +kernel
theorem e29_6 : vm_ent 29 6 = some (.getfield 87, 5, 3, 198) := by decide +kernel
theorem e29_9 : vm_ent 29 9 = some (.if_icmp .ge 21, 30, 0, 0) := by decide +kernel
theorem e29_30 : vm_ent 29 30 = some (.iload_n 1, 0, 0, 0) := by decide +kernel
theorem e29_31 : vm_ent 29 31 = some (.ireturn, 0, 0, 0) := by decide +kernel
theorem e30_0 : vm_ent 30 0 = some (.iload_n 1, 0, 0, 0) := by decide +kernel
theorem e30_1 : vm_ent 30 1 = some (.ifCond .ne 18, 19, 0, 0) := by decide +kernel
theorem e30_4 : vm_ent 30 4 = some (.aload_n 0, 0, 0, 0) := by decide +kernel
theorem e30_5 : vm_ent 30 5 = some (.iload_n 2, 0, 0, 0) := by decide +kernel
theorem e30_6 : vm_ent 30 6 = some (.invokevirtual 91, 27, 4, 320) := by decide +kernel
theorem e30_9 : vm_ent 30 9 = some (.ifCond .eq 10, 19, 0, 0) := by decide +kernel
theorem e30_19 : vm_ent 30 19 = some (.iload_n 1, 0, 0, 0) := by decide +kernel
theorem e30_20 : vm_ent 30 20 = some (.iconst 1, 0, 0, 0) := by decide +kernel
theorem e30_21 : vm_ent 30 21 = some (.if_icmp .ne 24, 45, 0, 0) := by decide +kernel
theorem e30_24 : vm_ent 30 24 = some (.aload_n 0, 0, 0, 0) := by decide +kernel
theorem e30_25 : vm_ent 30 25 = some (.iload_n 2, 0, 0, 0) := by decide +kernel
theorem e30_26 : vm_ent 30 26 = some (.invokevirtual 153, 28, 4, 491) := by decide +kernel
theorem e30_29 : vm_ent 30 29 = some (.ifCond .eq 16, 45, 0, 0) := by decide +kernel
theorem e30_45 : vm_ent 30 45 = some (.iload_n 1, 0, 0, 0) := by decide +kernel
theorem e30_46 : vm_ent 30 46 = some (.iconst 2, 0, 0, 0) := by decide +kernel
theorem e30_47 : vm_ent 30 47 = some (.if_icmp .ne 32, 79, 0, 0) := by decide +kernel
theorem e30_50 : vm_ent 30 50 = some (.aload_n 0, 0, 0, 0) := by decide +kernel
theorem e30_51 : vm_ent 30 51 = some (.iload_n 2, 0, 0, 0) := by decide +kernel
theorem e30_52 : vm_ent 30 52 = some (.invokevirtual 153, 28, 4, 491) := by decide +kernel
theorem e30_55 : vm_ent 30 55 = some (.ifCond .eq 24, 79, 0, 0) := by decide +kernel
theorem e30_79 : vm_ent 30 79 = some (.iload_n 1, 0, 0, 0) := by decide +kernel
theorem e30_80 : vm_ent 30 80 = some (.iconst 3, 0, 0, 0) := by decide +kernel
theorem e30_81 : vm_ent 30 81 = some (.if_icmp .ne 12, 93, 0, 0) := by decide +kernel
theorem e30_84 : vm_ent 30 84 = some (.iload_n 2, 0, 0, 0) := by decide +kernel
theorem e30_85 : vm_ent 30 85 = some (.ifCond .ne 8, 93, 0, 0) := by decide +kernel
theorem e30_88 : vm_ent 30 88 = some (.aload_n 0, 0, 0, 0) := by decide +kernel
theorem e30_89 : vm_ent 30 89 = some (.getfield 52, 5, 9, 204) := by decide +kernel
theorem e30_92 : vm_ent 30 92 = some (.areturn, 0, 0, 0) := by decide +kernel
theorem e30_93 : vm_ent 30 93 = some (.iload_n 1, 0, 0, 0) := by decide +kernel
theorem e30_94 : vm_ent 30 94 = some (.iconst 4, 0, 0, 0) := by decide +kernel
theorem e30_95 : vm_ent 30 95 = some (.if_icmp .ne 12, 107, 0, 0) := by decide +kernel
theorem e30_98 : vm_ent 30 98 = some (.iload_n 2, 0, 0, 0) := by decide +kernel
theorem e30_99 : vm_ent 30 99 = some (.ifCond .ne 8, 107, 0, 0) := by decide +kernel
theorem e30_102 : vm_ent 30 102 = some (.aload_n 0, 0, 0, 0) := by decide +kernel
theorem e30_103 : vm_ent 30 103 = some (.getfield 48, 5, 8, 203) := by decide +kernel
theorem e30_106 : vm_ent 30 106 = some (.areturn, 0, 0, 0) := by decide +kernel
theorem e30_107 : vm_ent 30 107 = some (.aconst_null, 0, 0, 0) := by decide +kernel
theorem e30_108 : vm_ent 30 108 = some (.areturn, 0, 0, 0) := by decide +kernel
theorem e31_0 : vm_ent 31 0 = some (.aload_n 0, 0, 0, 0) := by decide +kernel
theorem e31_1 : vm_ent 31 1 = some (.getfield 37, 5, 6, 201) := by decide +kernel
theorem e31_4 : vm_ent 31 4 = some (.iconst 0, 0, 0, 0) := by decide +kernel
theorem e31_5 : vm_ent 31 5 = some (.putfield 112, 4, 1, 167) := by decide +kernel
theorem e31_8 : vm_ent 31 8 = some (.aload_n 0, 0, 0, 0) := by decide +kernel
theorem e31_9 : vm_ent 31 9 = some (.getfield 52, 5, 9, 204) := by decide +kernel
theorem e31_12 : vm_ent 31 12 = some (.invokevirtual 109, 6, 4, 262) := by decide +kernel
theorem e31_15 : vm_ent 31 15 = some (.aload_n 0, 0, 0, 0) := by decide +kernel
theorem e31_16 : vm_ent 31 16 = some (.getfield 55, 5, 10, 205) := by decide +kernel
theorem e31_19 : vm_ent 31 19 = some (.invokevirtual 109, 6, 4, 262) := by decide +kernel
theorem e31_22 : vm_ent 31 22 = some (.aload_n 0, 0, 0, 0) := by decide +kernel
theorem e31_23 : vm_ent 31 23 = some (.getfield 58, 5, 11, 206) := by decide +kernel
theorem e31_26 : vm_ent 31 26 = some (.iconst 0, 0, 0, 0) := by decide +kernel
theorem e31_27 : vm_ent 31 27 = some (.invokestatic 228, 55, 1, 266) := by decide +kernel
theorem e31_30 : vm_ent 31 30 = some (.return_, 0, 0, 0) := by decide +kernel
theorem e32_0 : vm_ent 32 0 = some (.iconst 0, 0, 0, 0) := by decide +kernel
theorem e32_1 : vm_ent 32 1 = some (.istore_n 1, 0, 0, 0) := by decide +kernel
theorem e32_2 : vm_ent 32 2 = some (.iload_n 1, 0, 0, 0) := by decide +kernel
theorem e32_3 : vm_ent 32 3 = some (.aload_n 0, 0, 0, 0) := by decide +kernel
theorem e32_4 : vm_ent 32 4 = some (.getfield 87, 5, 3, 198) := by decide +kernel
theorem e32_7 : vm_ent 32 7 = some (.if_icmp .ge 19, 26, 0, 0) := by decide +kernel
theorem e32_26 : vm_ent 32 26 = some (.iconst 0, 0, 0, 0) := by decide +kernel
theorem e32_27 : vm_ent 32 27 = some (.ireturn, 0, 0, 0) := by decide +kernel
theorem e35_0 : vm_ent 35 0 = some (.aload_n 0, 0, 0, 0) := by decide +kernel
theorem e35_1 : vm_ent 35 1 = some (.iconst 0, 0, 0, 0) := by decide +kernel
theorem e35_2 : vm_ent 35 2 = some (.putfield 210, 6, 10, 644) := by decide +kernel
theorem e35_5 : vm_ent 35 5 = some (.aload_n 0, 0, 0, 0) := by decide +kernel
theorem e35_6 : vm_ent 35 6 = some (.iconst 0, 0, 0, 0) := by decide +kernel
theorem e35_7 : vm_ent 35 7 = some (.putfield 213, 6, 11, 645) := by decide +kernel
theorem e35_10 : vm_ent 35 10 = some (.aload_n 0, 0, 0, 0) := by decide +kernel
theorem e35_11 : vm_ent 35 11 = some (.iconst 0, 0, 0, 0) := by decide +kernel
theorem e35_12 : vm_ent 35 12 = some (.putfield 216, 6, 12, 646) := by decide +kernel
theorem e35_15 : vm_ent 35 15 = some (.aload_n 0, 0, 0, 0) := by decide +kernel
theorem e35_16 : vm_ent 35 16 = some (.iconst 0, 0, 0, 0) := by decide +kernel
theorem e35_17 : vm_ent 35 17 = some (.putfield 219, 6, 18, 652) := by decide +kernel
theorem e35_20 : vm_ent 35 20 = some (.return_, 0, 0, 0) := by decide +kernel
theorem e36_0 : vm_ent 36 0 = some (.aload_n 0, 0, 0, 0) := by decide +kernel
theorem e36_1 : vm_ent 36 1 = some (.iconst 0, 0, 0, 0) := by decide +kernel
theorem e36_2 : vm_ent 36 2 = some (.putfield 84, 6, 0, 634) := by decide +kernel
theorem e36_5 : vm_ent 36 5 = some (.iconst 0, 0, 0, 0) := by decide +kernel
theorem e36_6 : vm_ent 36 6 = some (.istore_n 1, 0, 0, 0) := by decide +kernel
theorem e36_7 : vm_ent 36 7 = some (.iconst 0, 0, 0, 0) := by decide +kernel
theorem e36_8 : vm_ent 36 8 = some (.istore_n 2, 0, 0, 0) := by decide +kernel
theorem e36_9 : vm_ent 36 9 = some (.iload_n 2, 0, 0, 0) := by decide +kernel
theorem e36_10 : vm_ent 36 10 = some (.aload_n 0, 0, 0, 0) := by decide +kernel
theorem e36_11 : vm_ent 36 11 = some (.getfield 222, 6, 4, 638) := by decide +kernel
theorem e36_14 : vm_ent 36 14 = some (.if_icmp .ge 35, 49, 0, 0) := by decide +kernel
theorem e36_49 : vm_ent 36 49 = some (.iload_n 1, 0, 0, 0) := by decide +kernel
theorem e36_50 : vm_ent 36 50 = some (.ifCond .ne 5, 55, 0, 0) := by decide +kernel
theorem e36_53 : vm_ent 36 53 = some (.iconst (-1), 0, 0, 0) := by decide +kernel
theorem e36_54 : vm_ent 36 54 = some (.ireturn, 0, 0, 0) := by decide +kernel
theorem e37_0 : vm_ent 37 0 = some (.iload_n 1, 0, 0, 0) := by decide +kernel
theorem e37_1 : vm_ent 37 1 = some (.ifCond .lt 11, 12, 0, 0) := by decide +kernel
theorem e37_4 : vm_ent 37 4 = some (.iload_n 1, 0, 0, 0) := by decide +kernel
theorem e37_5 : vm_ent 37 5 = some (.aload_n 0, 0, 0, 0) := by decide +kernel
theorem e37_6 : vm_ent 37 6 = some (.getfield 222, 6, 4, 638) := by decide +kernel
theorem e37_9 : vm_ent 37 9 = some (.if_icmp .lt 7, 16, 0, 0) := by decide +kernel
theorem e37_12 : vm_ent 37 12 = some (.iconst 1, 0, 0, 0) := by decide +kernel
theorem e37_13 : vm_ent 37 13 = some (.goto 4, 17, 0, 0) := by decide +kernel
theorem e37_17 : vm_ent 37 17 = some (.ireturn, 0, 0, 0) := by decide +kernel
theorem e38_0 : vm_ent 38 0 = some (.aload_n 0, 0, 0, 0) := by decide +kernel
theorem e38_1 : vm_ent 38 1 = some (.iconst 0, 0, 0, 0) := by decide +kernel
theorem e38_2 : vm_ent 38 2 = some (.putfield 84, 6, 0, 634) := by decide +kernel
theorem e38_5 : vm_ent 38 5 = some (.aload_n 0, 0, 0, 0) := by decide +kernel
theorem e38_6 : vm_ent 38 6 = some (.iload_n 1, 0, 0, 0) := by decide +kernel
theorem e38_7 : vm_ent 38 7 = some (.invokevirtual 235, 37, 4, 877) := by decide +kernel
theorem e38_10 : vm_ent 38 10 = some (.ifCond .ne 10, 20, 0, 0) := by decide +kernel
theorem e38_20 : vm_ent 38 20 = some (.iconst (-1), 0, 0, 0) := by decide +kernel
theorem e38_21 : vm_ent 38 21 = some (.ireturn, 0, 0, 0) := by decide +kernel
theorem e39_0 : vm_ent 39 0 = some (.aload_n 0, 0, 0, 0) := by decide +kernel
theorem e39_1 : vm_ent 39 1 = some (.iconst 0, 0, 0, 0) := by decide +kernel
theorem e39_2 : vm_ent 39 2 = some (.putfield 84, 6, 0, 634) := by decide +kernel
theorem e39_5 : vm_ent 39 5 = some (.aload_n 0, 0, 0, 0) := by decide +kernel
theorem e39_6 : vm_ent 39 6 = some (.getfield 88, 6, 1, 635) := by decide +kernel
theorem e39_9 : vm_ent 39 9 = some (.bipush 8, 0, 0, 0) := by decide +kernel
theorem e39_11 : vm_ent 39 11 = some (.if_icmp .ne 5, 16, 0, 0) := by decide +kernel
theorem e39_16 : vm_ent 39 16 = some (.aload_n 0, 0, 0, 0) := by decide +kernel
theorem e39_17 : vm_ent 39 17 = some (.getfield 7, 6, 2, 636) := by decide +kernel
theorem e39_20 : vm_ent 39 20 = some (.aload_n 0, 0, 0, 0) := by decide +kernel
theorem e39_21 : vm_ent 39 21 = some (.getfield 88, 6, 1, 635) := by decide +kernel
theorem e39_24 : vm_ent 39 24 = some (.iload_n 1, 0, 0, 0) := by decide +kernel
theorem e39_25 : vm_ent 39 25 = some (.bastore, 0, 0, 0) := by decide +kernel
theorem e39_26 : vm_ent 39 26 = some (.aload_n 0, 0, 0, 0) := by decide +kernel
theorem e39_27 : vm_ent 39 27 = some (.getfield 13, 6, 3, 637) := by decide +kernel
theorem e39_30 : vm_ent 39 30 = some (.aload_n 0, 0, 0, 0) := by decide +kernel
theorem e39_31 : vm_ent 39 31 = some (.getfield 88, 6, 1, 635) := by decide +kernel
theorem e39_34 : vm_ent 39 34 = some (.aload_n 0, 0, 0, 0) := by decide +kernel
theorem e39_35 : vm_ent 39 35 = some (.getfield 88, 6, 1, 635) := by decide +kernel
theorem e39_38 : vm_ent 39 38 = some (.iastore, 0, 0, 0) := by decide +kernel
theorem e39_39 : vm_ent 39 39 = some (.aload_n 0, 0, 0, 0) := by decide +kernel
theorem e39_40 : vm_ent 39 40 = some (.dup, 0, 0, 0) := by decide +kernel
theorem e39_41 : vm_ent 39 41 = some (.getfield 88, 6, 1, 635) := by decide +kernel
theorem e39_44 : vm_ent 39 44 = some (.iconst 1, 0, 0, 0) := by decide +kernel
theorem e39_45 : vm_ent 39 45 = some (.iadd, 0, 0, 0) := by decide +kernel
theorem e39_46 : vm_ent 39 46 = some (.putfield 88, 6, 1, 635) := by decide +kernel
theorem e39_49 : vm_ent 39 49 = some (.aload_n 0, 0, 0, 0) := by decide +kernel
theorem e39_50 : vm_ent 39 50 = some (.invokevirtual 225, 35, 4, 775) := by decide +kernel
theorem e39_53 : vm_ent 39 53 = some (.aload_n 0, 0, 0, 0) := by decide +kernel
theorem e39_54 : vm_ent 39 54 = some (.getfield 88, 6, 1, 635) := by decide +kernel
theorem e39_57 : vm_ent 39 57 = some (.iconst 1, 0, 0, 0) := by decide +kernel
theorem e39_58 : vm_ent 39 58 = some (.isub, 0, 0, 0) := by decide +kernel
theorem e39_59 : vm_ent 39 59 = some (.ireturn, 0, 0, 0) := by decide +kernel
theorem e40_0 : vm_ent 40 0 = some (.aload_n 0, 0, 0, 0) := by decide +kernel
theorem e40_1 : vm_ent 40 1 = some (.iconst 0, 0, 0, 0) := by decide +kernel
theorem e40_2 : vm_ent 40 2 = some (.putfield 84, 6, 0, 634) := by decide +kernel
theorem e40_5 : vm_ent 40 5 = some (.iload_n 2, 0, 0, 0) := by decide +kernel
theorem e40_6 : vm_ent 40 6 = some (.ifCond .lt 23, 29, 0, 0) := by decide +kernel
theorem e40_9 : vm_ent 40 9 = some (.iload_n 2, 0, 0, 0) := by decide +kernel
theorem e40_10 : vm_ent 40 10 = some (.aload_n 0, 0, 0, 0) := by decide +kernel
theorem e40_11 : vm_ent 40 11 = some (.getfield 88, 6, 1, 635) := by decide +kernel
theorem e40_14 : vm_ent 40 14 = some (.if_icmp .ge 15, 29, 0, 0) := by decide +kernel
theorem e40_29 : vm_ent 40 29 = some (.iconst 0, 0, 0, 0) := by decide +kernel
theorem e40_30 : vm_ent 40 30 = some (.ireturn, 0, 0, 0) := by decide +kernel
theorem e41_0 : vm_ent 41 0 = some (.aload_n 0, 0, 0, 0) := by decide +kernel
theorem e41_1 : vm_ent 41 1 = some (.iconst 0, 0, 0, 0) := by decide +kernel
theorem e41_2 : vm_ent 41 2 = some (.putfield 84, 6, 0, 634) := by decide +kernel
theorem e41_5 : vm_ent 41 5 = some (.aload_n 0, 0, 0, 0) := by decide +kernel
theorem e41_6 : vm_ent 41 6 = some (.getfield 222, 6, 4, 638) := by decide +kernel
theorem e41_9 : vm_ent 41 9 = some (.bipush 16, 0, 0, 0) := by decide +kernel
theorem e41_11 : vm_ent 41 11 = some (.if_icmp .ne 5, 16, 0, 0) := by decide +kernel
theorem e41_16 : vm_ent 41 16 = some (.aload_n 0, 0, 0, 0) := by decide +kernel
theorem e41_17 : vm_ent 41 17 = some (.getfield 20, 6, 6, 640) := by decide +kernel
theorem e41_20 : vm_ent 41 20 = some (.aload_n 0, 0, 0, 0) := by decide +kernel
theorem e41_21 : vm_ent 41 21 = some (.getfield 222, 6, 4, 638) := by decide +kernel
theorem e41_24 : vm_ent 41 24 = some (.iconst 0, 0, 0, 0) := by decide +kernel
theorem e41_25 : vm_ent 41 25 = some (.iastore, 0, 0, 0) := by decide +kernel
theorem e41_26 : vm_ent 41 26 = some (.aload_n 0, 0, 0, 0) := by decide +kernel
theorem e41_27 : vm_ent 41 27 = some (.getfield 17, 6, 5, 639) := by decide +kernel
theorem e41_30 : vm_ent 41 30 = some (.aload_n 0, 0, 0, 0) := by decide +kernel
theorem e41_31 : vm_ent 41 31 = some (.getfield 222, 6, 4, 638) := by decide +kernel
theorem e41_34 : vm_ent 41 34 = some (.iconst 0, 0, 0, 0) := by decide +kernel
theorem e41_35 : vm_ent 41 35 = some (.bastore, 0, 0, 0) := by decide +kernel
theorem e41_36 : vm_ent 41 36 = some (.aload_n 0, 0, 0, 0) := by decide +kernel
theorem e41_37 : vm_ent 41 37 = some (.dup, 0, 0, 0) := by decide +kernel
theorem e41_38 : vm_ent 41 38 = some (.getfield 222, 6, 4, 638) := by decide +kernel
theorem e41_41 : vm_ent 41 41 = some (.iconst 1, 0, 0, 0) := by decide +kernel
theorem e41_42 : vm_ent 41 42 = some (.iadd, 0, 0, 0) := by decide +kernel
theorem e41_43 : vm_ent 41 43 = some (.putfield 222, 6, 4, 638) := by decide +kernel
theorem e41_46 : vm_ent 41 46 = some (.aload_n 0, 0, 0, 0) := by decide +kernel
theorem e41_47 : vm_ent 41 47 = some (.getfield 222, 6, 4, 638) := by decide +kernel
theorem e41_50 : vm_ent 41 50 = some (.iconst 1, 0, 0, 0) := by decide +kernel
theorem e41_51 : vm_ent 41 51 = some (.isub, 0, 0, 0) := by decide +kernel
theorem e41_52 : vm_ent 41 52 = some (.ireturn, 0, 0, 0) := by decide +kernel
theorem e42_0 : vm_ent 42 0 = some (.aload_n 0, 0, 0, 0) := by decide +kernel
theorem e42_1 : vm_ent 42 1 = some (.iconst 0, 0, 0, 0) := by decide +kernel
theorem e42_2 : vm_ent 42 2 = some (.putfield 84, 6, 0, 634) := by decide +kernel
theorem e42_5 : vm_ent 42 5 = some (.aload_n 0, 0, 0, 0) := by decide +kernel
theorem e42_6 : vm_ent 42 6 = some (.iload_n 1, 0, 0, 0) := by decide +kernel
theorem e42_7 : vm_ent 42 7 = some (.invokevirtual 235, 37, 4, 877) := by decide +kernel
theorem e42_10 : vm_ent 42 10 = some (.ifCond .eq 5, 15, 0, 0) := by decide +kernel
theorem e42_13 : vm_ent 42 13 = some (.iconst 0, 0, 0, 0) := by decide +kernel
theorem e42_14 : vm_ent 42 14 = some (.ireturn, 0, 0, 0) := by decide +kernel
theorem e43_0 : vm_ent 43 0 = some (.aload_n 0, 0, 0, 0) := by decide +kernel
theorem e43_1 : vm_ent 43 1 = some (.iconst 0, 0, 0, 0) := by decide +kernel
theorem e43_2 : vm_ent 43 2 = some (.putfield 84, 6, 0, 634) := by decide +kernel
theorem e43_5 : vm_ent 43 5 = some (.aload_n 0, 0, 0, 0) := by decide +kernel
theorem e43_6 : vm_ent 43 6 = some (.iload_n 1, 0, 0, 0) := by decide +kernel
theorem e43_7 : vm_ent 43 7 = some (.invokevirtual 235, 37, 4, 877) := by decide +kernel
theorem e43_10 : vm_ent 43 10 = some (.ifCond .ne 13, 23, 0, 0) := by decide +kernel
theorem e43_23 : vm_ent 43 23 = some (.iconst 0, 0, 0, 0) := by decide +kernel
theorem e43_24 : vm_ent 43 24 = some (.ireturn, 0, 0, 0) := by decide +kernel
theorem e44_0 : vm_ent 44 0 = some (.iload_n 1, 0, 0, 0) := by decide +kernel
theorem e44_1 : vm_ent 44 1 = some (.ifCond .lt 11, 12, 0, 0) := by decide +kernel
theorem e44_4 : vm_ent 44 4 = some (.iload_n 1, 0, 0, 0) := by decide +kernel
theorem e44_5 : vm_ent 44 5 = some (.aload_n 0, 0, 0, 0) := by decide +kernel
theorem e44_6 : vm_ent 44 6 = some (.getfield 213, 6, 11, 645) := by decide +kernel
theorem e44_9 : vm_ent 44 9 = some (.if_icmp .lt 7, 16, 0, 0) := by decide +kernel
theorem e44_12 : vm_ent 44 12 = some (.iconst 1, 0, 0, 0) := by decide +kernel
theorem e44_13 : vm_ent 44 13 = some (.goto 4, 17, 0, 0) := by decide +kernel
theorem e44_17 : vm_ent 44 17 = some (.ireturn, 0, 0, 0) := by decide +kernel
theorem e45_0 : vm_ent 45 0 = some (.aload_n 0, 0, 0, 0) := by decide +kernel
theorem e45_1 : vm_ent 45 1 = some (.iconst 0, 0, 0, 0) := by decide +kernel
theorem e45_2 : vm_ent 45 2 = some (.putfield 84, 6, 0, 634) := by decide +kernel
theorem e45_5 : vm_ent 45 5 = some (.aload_n 0, 0, 0, 0) := by decide +kernel
theorem e45_6 : vm_ent 45 6 = some (.iload_n 1, 0, 0, 0) := by decide +kernel
theorem e45_7 : vm_ent 45 7 = some (.invokevirtual 251, 44, 4, 907) := by decide +kernel
theorem e45_10 : vm_ent 45 10 = some (.ifCond .ne 12, 22, 0, 0) := by decide +kernel
theorem e45_22 : vm_ent 45 22 = some (.iconst (-1), 0, 0, 0) := by decide +kernel
theorem e45_23 : vm_ent 45 23 = some (.ireturn, 0, 0, 0) := by decide +kernel
theorem e47_0 : vm_ent 47 0 = some (.iload_n 1, 0, 0, 0) := by decide +kernel
theorem e47_1 : vm_ent 47 1 = some (.tableswitch 141 0 4 #[35, 49, 66, 105, 123], 35, 0, 0) := by decide +kernel
theorem e47_36 : vm_ent 47 36 = some (.aload_n 0, 0, 0, 0) := by decide +kernel
theorem e47_37 : vm_ent 47 37 = some (.iload_n 2, 0, 0, 0) := by decide +kernel
theorem e47_38 : vm_ent 47 38 = some (.invokevirtual 235, 37, 4, 877) := by decide +kernel
theorem e47_41 : vm_ent 47 41 = some (.ifCond .eq 7, 48, 0, 0) := by decide +kernel
theorem e47_44 : vm_ent 47 44 = some (.iconst (-1), 0, 0, 0) := by decide +kernel
theorem e47_45 : vm_ent 47 45 = some (.goto 4, 49, 0, 0) := by decide +kernel
theorem e47_49 : vm_ent 47 49 = some (.ireturn, 0, 0, 0) := by decide +kernel
theorem e47_50 : vm_ent 47 50 = some (.aload_n 0, 0, 0, 0) := by decide +kernel
theorem e47_51 : vm_ent 47 51 = some (.iload_n 2, 0, 0, 0) := by decide +kernel
theorem e47_52 : vm_ent 47 52 = some (.invokevirtual 251, 44, 4, 907) := by decide +kernel
theorem e47_55 : vm_ent 47 55 = some (.ifCond .eq 7, 62, 0, 0) := by decide +kernel
theorem e47_58 : vm_ent 47 58 = some (.iconst (-1), 0, 0, 0) := by decide +kernel
theorem e47_59 : vm_ent 47 59 = some (.goto 7, 66, 0, 0) := by decide +kernel
theorem e47_66 : vm_ent 47 66 = some (.ireturn, 0, 0, 0) := by decide +kernel
theorem e47_67 : vm_ent 47 67 = some (.aload_n 0, 0, 0, 0) := by decide +kernel
theorem e47_68 : vm_ent 47 68 = some (.iload_n 2, 0, 0, 0) := by decide +kernel
theorem e47_69 : vm_ent 47 69 = some (.invokevirtual 251, 44, 4, 907) := by decide +kernel
theorem e47_72 : vm_ent 47 72 = some (.ifCond .eq 5, 77, 0, 0) := by decide +kernel
theorem e47_75 : vm_ent 47 75 = some (.iconst (-1), 0, 0, 0) := by decide +kernel
theorem e47_76 : vm_ent 47 76 = some (.ireturn, 0, 0, 0) := by decide +kernel
theorem e47_106 : vm_ent 47 106 = some (.iload_n 2, 0, 0, 0) := by decide +kernel
theorem e47_107 : vm_ent 47 107 = some (.ifCond .ne 15, 122, 0, 0) := by decide +kernel
theorem e47_110 : vm_ent 47 110 = some (.aload_n 0, 0, 0, 0) := by decide +kernel
theorem e47_111 : vm_ent 47 111 = some (.getfield 216, 6, 12, 646) := by decide +kernel
theorem e47_114 : vm_ent 47 114 = some (.ifCond .eq 8, 122, 0, 0) := by decide +kernel
theorem e47_122 : vm_ent 47 122 = some (.iconst (-1), 0, 0, 0) := by decide +kernel
theorem e47_123 : vm_ent 47 123 = some (.ireturn, 0, 0, 0) := by decide +kernel
theorem e47_124 : vm_ent 47 124 = some (.iload_n 2, 0, 0, 0) := by decide +kernel
theorem e47_125 : vm_ent 47 125 = some (.ifCond .ne 15, 140, 0, 0) := by decide +kernel
theorem e47_128 : vm_ent 47 128 = some (.aload_n 0, 0, 0, 0) := by decide +kernel
theorem e47_129 : vm_ent 47 129 = some (.getfield 181, 6, 13, 647) := by decide +kernel
theorem e47_132 : vm_ent 47 132 = some (.ifCond .eq 8, 140, 0, 0) := by decide +kernel
theorem e47_140 : vm_ent 47 140 = some (.iconst (-1), 0, 0, 0) := by decide +kernel
theorem e47_141 : vm_ent 47 141 = some (.ireturn, 0, 0, 0) := by decide +kernel
theorem e47_142 : vm_ent 47 142 = some (.iconst (-1), 0, 0, 0) := by decide +kernel
theorem e47_143 : vm_ent 47 143 = some (.ireturn, 0, 0, 0) := by decide +kernel
theorem e48_0 : vm_ent 48 0 = some (.aload_n 0, 0, 0, 0) := by decide +kernel
theorem e48_1 : vm_ent 48 1 = some (.iconst 0, 0, 0, 0) := by decide +kernel
theorem e48_2 : vm_ent 48 2 = some (.putfield 84, 6, 0, 634) := by decide +kernel
theorem e48_5 : vm_ent 48 5 = some (.aload_n 0, 0, 0, 0) := by decide +kernel
theorem e48_6 : vm_ent 48 6 = some (.iload_n 1, 0, 0, 0) := by decide +kernel
theorem e48_7 : vm_ent 48 7 = some (.iload_n 2, 0, 0, 0) := by decide +kernel
theorem e48_8 : vm_ent 48 8 = some (.invokevirtual 257, 47, 4, 923) := by decide +kernel
theorem e48_11 : vm_ent 48 11 = some (.istore 4, 0, 0, 0) := by decide +kernel
theorem e48_13 : vm_ent 48 13 = some (.iload 4, 0, 0, 0) := by decide +kernel
theorem e48_15 : vm_ent 48 15 = some (.ifCond .lt 18, 33, 0, 0) := by decide +kernel
theorem e48_33 : vm_ent 48 33 = some (.lconst 0, 0, 0, 0) := by decide +kernel
theorem e48_34 : vm_ent 48 34 = some (.goto 15, 49, 0, 0) := by decide +kernel
theorem e48_49 : vm_ent 48 49 = some (.lreturn, 0, 0, 0) := by decide +kernel
theorem e49_0 : vm_ent 49 0 = some (.aload_n 0, 0, 0, 0) := by decide +kernel
theorem e49_1 : vm_ent 49 1 = some (.iconst 0, 0, 0, 0) := by decide +kernel
theorem e49_2 : vm_ent 49 2 = some (.putfield 84, 6, 0, 634) := by decide +kernel
theorem e49_5 : vm_ent 49 5 = some (.aload_n 0, 0, 0, 0) := by decide +kernel
theorem e49_6 : vm_ent 49 6 = some (.iload_n 1, 0, 0, 0) := by decide +kernel
theorem e49_7 : vm_ent 49 7 = some (.iload_n 2, 0, 0, 0) := by decide +kernel
theorem e49_8 : vm_ent 49 8 = some (.invokevirtual 257, 47, 4, 923) := by decide +kernel
theorem e49_11 : vm_ent 49 11 = some (.istore 4, 0, 0, 0) := by decide +kernel
theorem e49_13 : vm_ent 49 13 = some (.iload 4, 0, 0, 0) := by decide +kernel
theorem e49_15 : vm_ent 49 15 = some (.ifCond .lt 18, 33, 0, 0) := by decide +kernel
theorem e49_33 : vm_ent 49 33 = some (.iconst (-1), 0, 0, 0) := by decide +kernel
theorem e49_34 : vm_ent 49 34 = some (.ireturn, 0, 0, 0) := by decide +kernel
theorem e50_0 : vm_ent 50 0 = some (.aload_n 0, 0, 0, 0) := by decide +kernel
theorem e50_1 : vm_ent 50 1 = some (.iconst 0, 0, 0, 0) := by decide +kernel
theorem e50_2 : vm_ent 50 2 = some (.putfield 84, 6, 0, 634) := by decide +kernel
theorem e50_5 : vm_ent 50 5 = some (.iload_n 1, 0, 0, 0) := by decide +kernel
theorem e50_6 : vm_ent 50 6 = some (.ifCond .lt 11, 17, 0, 0) := by decide +kernel
theorem e50_9 : vm_ent 50 9 = some (.iload_n 1, 0, 0, 0) := by decide +kernel
theorem e50_10 : vm_ent 50 10 = some (.aload_n 0, 0, 0, 0) := by decide +kernel
theorem e50_11 : vm_ent 50 11 = some (.getfield 88, 6, 1, 635) := by decide +kernel
theorem e50_14 : vm_ent 50 14 = some (.if_icmp .lt 5, 19, 0, 0) := by decide +kernel
theorem e50_17 : vm_ent 50 17 = some (.iconst 0, 0, 0, 0) := by decide +kernel
theorem e50_18 : vm_ent 50 18 = some (.ireturn, 0, 0, 0) := by decide +kernel
theorem e52_0 : vm_ent 52 0 = some (.aload_n 0, 0, 0, 0) := by decide +kernel
theorem e52_1 : vm_ent 52 1 = some (.iconst 0, 0, 0, 0) := by decide +kernel
theorem e52_2 : vm_ent 52 2 = some (.putfield 84, 6, 0, 634) := by decide +kernel
theorem e52_5 : vm_ent 52 5 = some (.aload_n 0, 0, 0, 0) := by decide +kernel
theorem e52_6 : vm_ent 52 6 = some (.iload_n 1, 0, 0, 0) := by decide +kernel
theorem e52_7 : vm_ent 52 7 = some (.iload_n 2, 0, 0, 0) := by decide +kernel
theorem e52_8 : vm_ent 52 8 = some (.invokevirtual 257, 47, 4, 923) := by decide +kernel
theorem e52_11 : vm_ent 52 11 = some (.istore_n 3, 0, 0, 0) := by decide +kernel
theorem e52_12 : vm_ent 52 12 = some (.iload_n 3, 0, 0, 0) := by decide +kernel
theorem e52_13 : vm_ent 52 13 = some (.ifCond .ge 7, 20, 0, 0) := by decide +kernel
theorem e52_16 : vm_ent 52 16 = some (.lconst 0, 0, 0, 0) := by decide +kernel
theorem e52_17 : vm_ent 52 17 = some (.goto 8, 25, 0, 0) := by decide +kernel
theorem e52_25 : vm_ent 52 25 = some (.lreturn, 0, 0, 0) := by decide +kernel
theorem e53_0 : vm_ent 53 0 = some (.aload_n 0, 0, 0, 0) := by decide +kernel
theorem e53_1 : vm_ent 53 1 = some (.iconst 0, 0, 0, 0) := by decide +kernel
theorem e53_2 : vm_ent 53 2 = some (.putfield 84, 6, 0, 634) := by decide +kernel
theorem e53_5 : vm_ent 53 5 = some (.aload_n 0, 0, 0, 0) := by decide +kernel
theorem e53_6 : vm_ent 53 6 = some (.iload_n 1, 0, 0, 0) := by decide +kernel
theorem e53_7 : vm_ent 53 7 = some (.invokevirtual 251, 44, 4, 907) := by decide +kernel
theorem e53_10 : vm_ent 53 10 = some (.ifCond .ne 10, 20, 0, 0) := by decide +kernel
theorem e53_20 : vm_ent 53 20 = some (.lconst 0, 0, 0, 0) := by decide +kernel
theorem e53_21 : vm_ent 53 21 = some (.lreturn, 0, 0, 0) := by decide +kernel
theorem e55_0 : vm_ent 55 0 = some (.iconst 0, 0, 0, 0) := by decide +kernel
theorem e55_1 : vm_ent 55 1 = some (.istore_n 2, 0, 0, 0) := by decide +kernel
theorem e55_2 : vm_ent 55 2 = some (.aload_n 0, 0, 0, 0) := by decide +kernel
theorem e55_3 : vm_ent 55 3 = some (.arraylength, 0, 0, 0) := by decide +kernel
theorem e55_4 : vm_ent 55 4 = some (.istore_n 3, 0, 0, 0) := by decide +kernel
theorem e55_5 : vm_ent 55 5 = some (.iload_n 2, 0, 0, 0) := by decide +kernel
theorem e55_6 : vm_ent 55 6 = some (.iload_n 3, 0, 0, 0) := by decide +kernel
theorem e55_7 : vm_ent 55 7 = some (.if_icmp .ge 13, 20, 0, 0) := by decide +kernel
theorem e55_10 : vm_ent 55 10 = some (.aload_n 0, 0, 0, 0) := by decide +kernel
theorem e55_11 : vm_ent 55 11 = some (.iload_n 2, 0, 0, 0) := by decide +kernel
theorem e55_12 : vm_ent 55 12 = some (.iload_n 1, 0, 0, 0) := by decide +kernel
theorem e55_13 : vm_ent 55 13 = some (.iastore, 0, 0, 0) := by decide +kernel
theorem e55_14 : vm_ent 55 14 = some (.iinc 2 1, 0, 0, 0) := by decide +kernel
theorem e55_17 : vm_ent 55 17 = some (.goto (-12), 5, 0, 0) := by decide +kernel
theorem e55_20 : vm_ent 55 20 = some (.return_, 0, 0, 0) := by decide +kernel
