theorem e73_0 : vm_ent 73 0 = some (.lload_n 0, 0, 0, 0) := by decide +kernel
theorem e73_1 : vm_ent 73 1 = some (.bipush 8, 0, 0, 0) := by decide +kernel
theorem e73_3 : vm_ent 73 3 = some (.iload_n 2, 0, 0, 0) := by decide +kernel
theorem e73_4 : vm_ent 73 4 = some (.imul, 0, 0, 0) := by decide +kernel
theorem e73_5 : vm_ent 73 5 = some (.lushr, 0, 0, 0) := by decide +kernel
theorem e73_6 : vm_ent 73 6 = some (.l2i, 0, 0, 0) := by decide +kernel
theorem e73_7 : vm_ent 73 7 = some (.sipush 255, 0, 0, 0) := by decide +kernel
theorem e73_10 : vm_ent 73 10 = some (.iand, 0, 0, 0) := by decide +kernel
theorem e73_11 : vm_ent 73 11 = some (.ireturn, 0, 0, 0) := by decide +kernel
theorem e74_0 : vm_ent 74 0 = some (.lload_n 0, 0, 0, 0) := by decide +kernel
theorem e74_1 : vm_ent 74 1 = some (.ldc2_w 282, 18446744073642442752, 0, 338) := by decide +kernel
theorem e74_4 : vm_ent 74 4 = some (.lcmp, 0, 0, 0) := by decide +kernel
theorem e74_5 : vm_ent 74 5 = some (.ifCond .lt 15, 20, 0, 0) := by decide +kernel
theorem e74_8 : vm_ent 74 8 = some (.lload_n 0, 0, 0, 0) := by decide +kernel
theorem e74_9 : vm_ent 74 9 = some (.ldc2_w 284, 67108864, 0, 339) := by decide +kernel
theorem e74_12 : vm_ent 74 12 = some (.lcmp, 0, 0, 0) := by decide +kernel
theorem e74_13 : vm_ent 74 13 = some (.ifCond .gt 7, 20, 0, 0) := by decide +kernel
theorem e74_16 : vm_ent 74 16 = some (.iconst 1, 0, 0, 0) := by decide +kernel
theorem e74_17 : vm_ent 74 17 = some (.goto 4, 21, 0, 0) := by decide +kernel
theorem e74_20 : vm_ent 74 20 = some (.iconst 0, 0, 0, 0) := by decide +kernel
theorem e74_21 : vm_ent 74 21 = some (.ireturn, 0, 0, 0) := by decide +kernel
theorem e75_0 : vm_ent 75 0 = some (.lload_n 0, 0, 0, 0) := by decide +kernel
theorem e75_1 : vm_ent 75 1 = some (.lstore 4, 0, 0, 0) := by decide +kernel
theorem e75_3 : vm_ent 75 3 = some (.lload_n 2, 0, 0, 0) := by decide +kernel
theorem e75_4 : vm_ent 75 4 = some (.lstore 6, 0, 0, 0) := by decide +kernel
theorem e75_6 : vm_ent 75 6 = some (.iconst 0, 0, 0, 0) := by decide +kernel
theorem e75_7 : vm_ent 75 7 = some (.istore 8, 0, 0, 0) := by decide +kernel
theorem e75_9 : vm_ent 75 9 = some (.iload 8, 0, 0, 0) := by decide +kernel
theorem e75_11 : vm_ent 75 11 = some (.sipush 128, 0, 0, 0) := by decide +kernel
theorem e75_14 : vm_ent 75 14 = some (.if_icmp .ge 31, 45, 0, 0) := by decide +kernel
theorem e75_17 : vm_ent 75 17 = some (.lload 6, 0, 0, 0) := by decide +kernel
theorem e75_19 : vm_ent 75 19 = some (.lconst 0, 0, 0, 0) := by decide +kernel
theorem e75_20 : vm_ent 75 20 = some (.lcmp, 0, 0, 0) := by decide +kernel
theorem e75_21 : vm_ent 75 21 = some (.ifCond .eq 24, 45, 0, 0) := by decide +kernel
theorem e75_24 : vm_ent 75 24 = some (.lload 4, 0, 0, 0) := by decide +kernel
theorem e75_26 : vm_ent 75 26 = some (.lload 6, 0, 0, 0) := by decide +kernel
theorem e75_28 : vm_ent 75 28 = some (.lrem, 0, 0, 0) := by decide +kernel
theorem e75_29 : vm_ent 75 29 = some (.lstore 9, 0, 0, 0) := by decide +kernel
theorem e75_31 : vm_ent 75 31 = some (.lload 6, 0, 0, 0) := by decide +kernel
theorem e75_33 : vm_ent 75 33 = some (.lstore 4, 0, 0, 0) := by decide +kernel
theorem e75_35 : vm_ent 75 35 = some (.lload 9, 0, 0, 0) := by decide +kernel
theorem e75_37 : vm_ent 75 37 = some (.lstore 6, 0, 0, 0) := by decide +kernel
theorem e75_39 : vm_ent 75 39 = some (.iinc 8 1, 0, 0, 0) := by decide +kernel
theorem e75_42 : vm_ent 75 42 = some (.goto (-33), 9, 0, 0) := by decide +kernel
theorem e75_45 : vm_ent 75 45 = some (.lload 4, 0, 0, 0) := by decide +kernel
theorem e75_47 : vm_ent 75 47 = some (.lreturn, 0, 0, 0) := by decide +kernel
theorem e2_0 : vm_ent 2 0 = some (.iload_n 1, 0, 0, 0) := by decide +kernel
theorem e2_1 : vm_ent 2 1 = some (.ifCond .lt 15, 16, 0, 0) := by decide +kernel
theorem e2_4 : vm_ent 2 4 = some (.iload_n 1, 0, 0, 0) := by decide +kernel
theorem e2_5 : vm_ent 2 5 = some (.aload_n 0, 0, 0, 0) := by decide +kernel
theorem e2_6 : vm_ent 2 6 = some (.getfield 23, 0, 0, 80) := by decide +kernel
theorem e2_9 : vm_ent 2 9 = some (.if_icmp .ge 7, 16, 0, 0) := by decide +kernel
theorem e2_12 : vm_ent 2 12 = some (.iconst 1, 0, 0, 0) := by decide +kernel
theorem e2_13 : vm_ent 2 13 = some (.goto 4, 17, 0, 0) := by decide +kernel
theorem e2_16 : vm_ent 2 16 = some (.iconst 0, 0, 0, 0) := by decide +kernel
theorem e2_17 : vm_ent 2 17 = some (.ireturn, 0, 0, 0) := by decide +kernel
theorem e4_0 : vm_ent 4 0 = some (.aload_n 0, 0, 0, 0) := by decide +kernel
theorem e4_1 : vm_ent 4 1 = some (.iload_n 1, 0, 0, 0) := by decide +kernel
theorem e4_2 : vm_ent 4 2 = some (.invokevirtual 27, 2, 4, 499) := by decide +kernel
theorem e4_5 : vm_ent 4 5 = some (.ifCond .eq 12, 17, 0, 0) := by decide +kernel
theorem e4_8 : vm_ent 4 8 = some (.aload_n 0, 0, 0, 0) := by decide +kernel
theorem e4_9 : vm_ent 4 9 = some (.getfield 19, 0, 3, 85) := by decide +kernel
theorem e4_12 : vm_ent 4 12 = some (.iload_n 1, 0, 0, 0) := by decide +kernel
theorem e4_13 : vm_ent 4 13 = some (.iaload, 0, 0, 0) := by decide +kernel
theorem e4_14 : vm_ent 4 14 = some (.goto 4, 18, 0, 0) := by decide +kernel
theorem e4_17 : vm_ent 4 17 = some (.iconst (-1), 0, 0, 0) := by decide +kernel
theorem e4_18 : vm_ent 4 18 = some (.ireturn, 0, 0, 0) := by decide +kernel
theorem e5_0 : vm_ent 5 0 = some (.iconst 0, 0, 0, 0) := by decide +kernel
theorem e5_1 : vm_ent 5 1 = some (.istore_n 2, 0, 0, 0) := by decide +kernel
theorem e5_2 : vm_ent 5 2 = some (.iload_n 2, 0, 0, 0) := by decide +kernel
theorem e5_3 : vm_ent 5 3 = some (.aload_n 0, 0, 0, 0) := by decide +kernel
theorem e5_4 : vm_ent 5 4 = some (.getfield 23, 0, 0, 80) := by decide +kernel
theorem e5_7 : vm_ent 5 7 = some (.if_icmp .ge 21, 28, 0, 0) := by decide +kernel
theorem e5_10 : vm_ent 5 10 = some (.aload_n 0, 0, 0, 0) := by decide +kernel
theorem e5_11 : vm_ent 5 11 = some (.getfield 19, 0, 3, 85) := by decide +kernel
theorem e5_14 : vm_ent 5 14 = some (.iload_n 2, 0, 0, 0) := by decide +kernel
theorem e5_15 : vm_ent 5 15 = some (.iaload, 0, 0, 0) := by decide +kernel
theorem e5_16 : vm_ent 5 16 = some (.iload_n 1, 0, 0, 0) := by decide +kernel
theorem e5_17 : vm_ent 5 17 = some (.if_icmp .ne 5, 22, 0, 0) := by decide +kernel
theorem e5_20 : vm_ent 5 20 = some (.iload_n 2, 0, 0, 0) := by decide +kernel
theorem e5_21 : vm_ent 5 21 = some (.ireturn, 0, 0, 0) := by decide +kernel
theorem e5_22 : vm_ent 5 22 = some (.iinc 2 1, 0, 0, 0) := by decide +kernel
theorem e5_25 : vm_ent 5 25 = some (.goto (-23), 2, 0, 0) := by decide +kernel
theorem e5_28 : vm_ent 5 28 = some (.iconst (-1), 0, 0, 0) := by decide +kernel
theorem e5_29 : vm_ent 5 29 = some (.ireturn, 0, 0, 0) := by decide +kernel
theorem e7_0 : vm_ent 7 0 = some (.aload_n 0, 0, 0, 0) := by decide +kernel
theorem e7_1 : vm_ent 7 1 = some (.getfield 23, 0, 0, 80) := by decide +kernel
theorem e7_4 : vm_ent 7 4 = some (.bipush 8, 0, 0, 0) := by decide +kernel
theorem e7_6 : vm_ent 7 6 = some (.if_icmp .ge 14, 20, 0, 0) := by decide +kernel
theorem e7_9 : vm_ent 7 9 = some (.iload_n 1, 0, 0, 0) := by decide +kernel
theorem e7_10 : vm_ent 7 10 = some (.iconst 4, 0, 0, 0) := by decide +kernel
theorem e7_11 : vm_ent 7 11 = some (.aload_n 0, 0, 0, 0) := by decide +kernel
theorem e7_12 : vm_ent 7 12 = some (.getfield 23, 0, 0, 80) := by decide +kernel
theorem e7_15 : vm_ent 7 15 = some (.imul, 0, 0, 0) := by decide +kernel
theorem e7_16 : vm_ent 7 16 = some (.iushr, 0, 0, 0) := by decide +kernel
theorem e7_17 : vm_ent 7 17 = some (.ifCond .ne 7, 24, 0, 0) := by decide +kernel
theorem e7_20 : vm_ent 7 20 = some (.iconst 1, 0, 0, 0) := by decide +kernel
theorem e7_21 : vm_ent 7 21 = some (.goto 4, 25, 0, 0) := by decide +kernel
theorem e7_24 : vm_ent 7 24 = some (.iconst 0, 0, 0, 0) := by decide +kernel
theorem e7_25 : vm_ent 7 25 = some (.ireturn, 0, 0, 0) := by decide +kernel
theorem e8_0 : vm_ent 8 0 = some (.lconst 0, 0, 0, 0) := by decide +kernel
theorem e8_1 : vm_ent 8 1 = some (.lstore_n 2, 0, 0, 0) := by decide +kernel
theorem e8_2 : vm_ent 8 2 = some (.iconst 0, 0, 0, 0) := by decide +kernel
theorem e8_3 : vm_ent 8 3 = some (.istore 4, 0, 0, 0) := by decide +kernel
theorem e8_5 : vm_ent 8 5 = some (.iload 4, 0, 0, 0) := by decide +kernel
theorem e8_7 : vm_ent 8 7 = some (.aload_n 0, 0, 0, 0) := by decide +kernel
theorem e8_8 : vm_ent 8 8 = some (.getfield 23, 0, 0, 80) := by decide +kernel
theorem e8_11 : vm_ent 8 11 = some (.if_icmp .ge 37, 48, 0, 0) := by decide +kernel
theorem e8_14 : vm_ent 8 14 = some (.iload_n 1, 0, 0, 0) := by decide +kernel
theorem e8_15 : vm_ent 8 15 = some (.iconst 4, 0, 0, 0) := by decide +kernel
theorem e8_16 : vm_ent 8 16 = some (.aload_n 0, 0, 0, 0) := by decide +kernel
theorem e8_17 : vm_ent 8 17 = some (.getfield 19, 0, 3, 85) := by decide +kernel
theorem e8_20 : vm_ent 8 20 = some (.iload 4, 0, 0, 0) := by decide +kernel
theorem e8_22 : vm_ent 8 22 = some (.iaload, 0, 0, 0) := by decide +kernel
theorem e8_23 : vm_ent 8 23 = some (.imul, 0, 0, 0) := by decide +kernel
theorem e8_24 : vm_ent 8 24 = some (.iushr, 0, 0, 0) := by decide +kernel
theorem e8_25 : vm_ent 8 25 = some (.bipush 15, 0, 0, 0) := by decide +kernel
theorem e8_27 : vm_ent 8 27 = some (.iand, 0, 0, 0) := by decide +kernel
theorem e8_28 : vm_ent 8 28 = some (.i2l, 0, 0, 0) := by decide +kernel
theorem e8_29 : vm_ent 8 29 = some (.lstore 5, 0, 0, 0) := by decide +kernel
theorem e8_31 : vm_ent 8 31 = some (.lload_n 2, 0, 0, 0) := by decide +kernel
theorem e8_32 : vm_ent 8 32 = some (.lload 5, 0, 0, 0) := by decide +kernel
theorem e8_34 : vm_ent 8 34 = some (.bipush 8, 0, 0, 0) := by decide +kernel
theorem e8_36 : vm_ent 8 36 = some (.iload 4, 0, 0, 0) := by decide +kernel
theorem e8_38 : vm_ent 8 38 = some (.imul, 0, 0, 0) := by decide +kernel
theorem e8_39 : vm_ent 8 39 = some (.lshl, 0, 0, 0) := by decide +kernel
theorem e8_40 : vm_ent 8 40 = some (.lor, 0, 0, 0) := by decide +kernel
theorem e8_41 : vm_ent 8 41 = some (.lstore_n 2, 0, 0, 0) := by decide +kernel
theorem e8_42 : vm_ent 8 42 = some (.iinc 4 1, 0, 0, 0) := by decide +kernel
theorem e8_45 : vm_ent 8 45 = some (.goto (-40), 5, 0, 0) := by decide +kernel
theorem e8_48 : vm_ent 8 48 = some (.lload_n 2, 0, 0, 0) := by decide +kernel
theorem e8_49 : vm_ent 8 49 = some (.lreturn, 0, 0, 0) := by decide +kernel
theorem e9_0 : vm_ent 9 0 = some (.iconst 0, 0, 0, 0) := by decide +kernel
theorem e9_1 : vm_ent 9 1 = some (.istore_n 3, 0, 0, 0) := by decide +kernel
theorem e9_2 : vm_ent 9 2 = some (.iconst 0, 0, 0, 0) := by decide +kernel
theorem e9_3 : vm_ent 9 3 = some (.istore 4, 0, 0, 0) := by decide +kernel
theorem e9_5 : vm_ent 9 5 = some (.iload 4, 0, 0, 0) := by decide +kernel
theorem e9_7 : vm_ent 9 7 = some (.aload_n 0, 0, 0, 0) := by decide +kernel
theorem e9_8 : vm_ent 9 8 = some (.getfield 23, 0, 0, 80) := by decide +kernel
theorem e9_11 : vm_ent 9 11 = some (.if_icmp .ge 28, 39, 0, 0) := by decide +kernel
theorem e9_14 : vm_ent 9 14 = some (.iload_n 3, 0, 0, 0) := by decide +kernel
theorem e9_15 : vm_ent 9 15 = some (.lload_n 1, 0, 0, 0) := by decide +kernel
theorem e9_16 : vm_ent 9 16 = some (.iload 4, 0, 0, 0) := by decide +kernel
theorem e9_18 : vm_ent 9 18 = some (.invokestatic 31, 73, 3, 293) := by decide +kernel
theorem e9_21 : vm_ent 9 21 = some (.iconst 4, 0, 0, 0) := by decide +kernel
theorem e9_22 : vm_ent 9 22 = some (.aload_n 0, 0, 0, 0) := by decide +kernel
theorem e9_23 : vm_ent 9 23 = some (.getfield 19, 0, 3, 85) := by decide +kernel
theorem e9_26 : vm_ent 9 26 = some (.iload 4, 0, 0, 0) := by decide +kernel
theorem e9_28 : vm_ent 9 28 = some (.iaload, 0, 0, 0) := by decide +kernel
theorem e9_29 : vm_ent 9 29 = some (.imul, 0, 0, 0) := by decide +kernel
theorem e9_30 : vm_ent 9 30 = some (.ishl, 0, 0, 0) := by decide +kernel
theorem e9_31 : vm_ent 9 31 = some (.ior, 0, 0, 0) := by decide +kernel
theorem e9_32 : vm_ent 9 32 = some (.istore_n 3, 0, 0, 0) := by decide +kernel
theorem e9_33 : vm_ent 9 33 = some (.iinc 4 1, 0, 0, 0) := by decide +kernel
theorem e9_36 : vm_ent 9 36 = some (.goto (-31), 5, 0, 0) := by decide +kernel
theorem e9_39 : vm_ent 9 39 = some (.iload_n 3, 0, 0, 0) := by decide +kernel
theorem e9_40 : vm_ent 9 40 = some (.ireturn, 0, 0, 0) := by decide +kernel
theorem e17_0 : vm_ent 17 0 = some (.aload_n 0, 0, 0, 0) := by decide +kernel
theorem e17_1 : vm_ent 17 1 = some (.iconst 0, 0, 0, 0) := by decide +kernel
theorem e17_2 : vm_ent 17 2 = some (.putfield 18, 1, 2, 113) := by decide +kernel
theorem e17_5 : vm_ent 17 5 = some (.return_, 0, 0, 0) := by decide +kernel
theorem e18_0 : vm_ent 18 0 = some (.iload_n 1, 0, 0, 0) := by decide +kernel
theorem e18_1 : vm_ent 18 1 = some (.ifCond .lt 15, 16, 0, 0) := by decide +kernel
theorem e18_4 : vm_ent 18 4 = some (.iload_n 1, 0, 0, 0) := by decide +kernel
theorem e18_5 : vm_ent 18 5 = some (.aload_n 0, 0, 0, 0) := by decide +kernel
theorem e18_6 : vm_ent 18 6 = some (.getfield 18, 1, 2, 113) := by decide +kernel
theorem e18_9 : vm_ent 18 9 = some (.if_icmp .ge 7, 16, 0, 0) := by decide +kernel
theorem e18_12 : vm_ent 18 12 = some (.iconst 1, 0, 0, 0) := by decide +kernel
theorem e18_13 : vm_ent 18 13 = some (.goto 4, 17, 0, 0) := by decide +kernel
theorem e18_16 : vm_ent 18 16 = some (.iconst 0, 0, 0, 0) := by decide +kernel
theorem e18_17 : vm_ent 18 17 = some (.ireturn, 0, 0, 0) := by decide +kernel
theorem e22_0 : vm_ent 22 0 = some (.iconst 0, 0, 0, 0) := by decide +kernel
theorem e22_1 : vm_ent 22 1 = some (.istore_n 2, 0, 0, 0) := by decide +kernel
theorem e22_2 : vm_ent 22 2 = some (.iconst 0, 0, 0, 0) := by decide +kernel
theorem e22_3 : vm_ent 22 3 = some (.istore_n 3, 0, 0, 0) := by decide +kernel
theorem e22_4 : vm_ent 22 4 = some (.iload_n 3, 0, 0, 0) := by decide +kernel
theorem e22_5 : vm_ent 22 5 = some (.aload_n 0, 0, 0, 0) := by decide +kernel
theorem e22_6 : vm_ent 22 6 = some (.getfield 18, 1, 2, 113) := by decide +kernel
theorem e22_9 : vm_ent 22 9 = some (.if_icmp .ge 24, 33, 0, 0) := by decide +kernel
theorem e22_12 : vm_ent 22 12 = some (.iload_n 2, 0, 0, 0) := by decide +kernel
theorem e22_13 : vm_ent 22 13 = some (.aload_n 0, 0, 0, 0) := by decide +kernel
theorem e22_14 : vm_ent 22 14 = some (.getfield 9, 1, 0, 105) := by decide +kernel
theorem e22_17 : vm_ent 22 17 = some (.iload_n 3, 0, 0, 0) := by decide +kernel
theorem e22_18 : vm_ent 22 18 = some (.laload, 0, 0, 0) := by decide +kernel
theorem e22_19 : vm_ent 22 19 = some (.iload_n 1, 0, 0, 0) := by decide +kernel
theorem e22_20 : vm_ent 22 20 = some (.invokestatic 40, 73, 3, 397) := by decide +kernel
theorem e22_23 : vm_ent 22 23 = some (.invokestatic 44, 9999, 10, 398) := by decide +kernel
theorem e22_26 : vm_ent 22 26 = some (.istore_n 2, 0, 0, 0) := by decide +kernel
theorem e22_27 : vm_ent 22 27 = some (.iinc 3 1, 0, 0, 0) := by decide +kernel
theorem e22_30 : vm_ent 22 30 = some (.goto (-26), 4, 0, 0) := by decide +kernel
theorem e22_33 : vm_ent 22 33 = some (.iload_n 2, 0, 0, 0) := by decide +kernel
theorem e22_34 : vm_ent 22 34 = some (.ireturn, 0, 0, 0) := by decide +kernel
theorem e21_0 : vm_ent 21 0 = some (.aload_n 0, 0, 0, 0) := by decide +kernel
theorem e21_1 : vm_ent 21 1 = some (.getfield 18, 1, 2, 113) := by decide +kernel
theorem e21_4 : vm_ent 21 4 = some (.aload_n 1, 0, 0, 0) := by decide +kernel
theorem e21_5 : vm_ent 21 5 = some (.getfield 18, 1, 2, 113) := by decide +kernel
theorem e21_8 : vm_ent 21 8 = some (.if_icmp .eq 5, 13, 0, 0) := by decide +kernel
theorem e21_11 : vm_ent 21 11 = some (.iconst 0, 0, 0, 0) := by decide +kernel
theorem e21_12 : vm_ent 21 12 = some (.ireturn, 0, 0, 0) := by decide +kernel
theorem e21_13 : vm_ent 21 13 = some (.iconst 0, 0, 0, 0) := by decide +kernel
theorem e21_14 : vm_ent 21 14 = some (.istore_n 2, 0, 0, 0) := by decide +kernel
theorem e21_15 : vm_ent 21 15 = some (.iload_n 2, 0, 0, 0) := by decide +kernel
theorem e21_16 : vm_ent 21 16 = some (.aload_n 0, 0, 0, 0) := by decide +kernel
theorem e21_17 : vm_ent 21 17 = some (.getfield 18, 1, 2, 113) := by decide +kernel
theorem e21_20 : vm_ent 21 20 = some (.if_icmp .ge 43, 63, 0, 0) := by decide +kernel
theorem e21_23 : vm_ent 21 23 = some (.aload_n 0, 0, 0, 0) := by decide +kernel
theorem e21_24 : vm_ent 21 24 = some (.getfield 9, 1, 0, 105) := by decide +kernel
theorem e21_27 : vm_ent 21 27 = some (.iload_n 2, 0, 0, 0) := by decide +kernel
theorem e21_28 : vm_ent 21 28 = some (.laload, 0, 0, 0) := by decide +kernel
theorem e21_29 : vm_ent 21 29 = some (.aload_n 1, 0, 0, 0) := by decide +kernel
theorem e21_30 : vm_ent 21 30 = some (.getfield 9, 1, 0, 105) := by decide +kernel
theorem e21_33 : vm_ent 21 33 = some (.iload_n 2, 0, 0, 0) := by decide +kernel
theorem e21_34 : vm_ent 21 34 = some (.laload, 0, 0, 0) := by decide +kernel
theorem e21_35 : vm_ent 21 35 = some (.lcmp, 0, 0, 0) := by decide +kernel
theorem e21_36 : vm_ent 21 36 = some (.ifCond .ne 19, 55, 0, 0) := by decide +kernel
theorem e21_39 : vm_ent 21 39 = some (.aload_n 0, 0, 0, 0) := by decide +kernel
theorem e21_40 : vm_ent 21 40 = some (.getfield 15, 1, 1, 109) := by decide +kernel
theorem e21_43 : vm_ent 21 43 = some (.iload_n 2, 0, 0, 0) := by decide +kernel
theorem e21_44 : vm_ent 21 44 = some (.laload, 0, 0, 0) := by decide +kernel
theorem e21_45 : vm_ent 21 45 = some (.aload_n 1, 0, 0, 0) := by decide +kernel
theorem e21_46 : vm_ent 21 46 = some (.getfield 15, 1, 1, 109) := by decide +kernel
theorem e21_49 : vm_ent 21 49 = some (.iload_n 2, 0, 0, 0) := by decide +kernel
theorem e21_50 : vm_ent 21 50 = some (.laload, 0, 0, 0) := by decide +kernel
theorem e21_51 : vm_ent 21 51 = some (.lcmp, 0, 0, 0) := by decide +kernel
theorem e21_52 : vm_ent 21 52 = some (.ifCond .eq 5, 57, 0, 0) := by decide +kernel
theorem e21_55 : vm_ent 21 55 = some (.iconst 0, 0, 0, 0) := by decide +kernel
theorem e21_56 : vm_ent 21 56 = some (.ireturn, 0, 0, 0) := by decide +kernel
theorem e21_57 : vm_ent 21 57 = some (.iinc 2 1, 0, 0, 0) := by decide +kernel
theorem e21_60 : vm_ent 21 60 = some (.goto (-45), 15, 0, 0) := by decide +kernel
theorem e21_63 : vm_ent 21 63 = some (.iconst 1, 0, 0, 0) := by decide +kernel
theorem e21_64 : vm_ent 21 64 = some (.ireturn, 0, 0, 0) := by decide +kernel
theorem e26_0 : vm_ent 26 0 = some (.aload_n 0, 0, 0, 0) := by decide +kernel
theorem e26_1 : vm_ent 26 1 = some (.getfield 18, 1, 2, 113) := by decide +kernel
theorem e26_4 : vm_ent 26 4 = some (.ifCond .ne 4, 8, 0, 0) := by decide +kernel
theorem e26_7 : vm_ent 26 7 = some (.return_, 0, 0, 0) := by decide +kernel
theorem e26_8 : vm_ent 26 8 = some (.lconst 0, 0, 0, 0) := by decide +kernel
theorem e26_9 : vm_ent 26 9 = some (.lstore_n 1, 0, 0, 0) := by decide +kernel
theorem e26_10 : vm_ent 26 10 = some (.iconst 0, 0, 0, 0) := by decide +kernel
theorem e26_11 : vm_ent 26 11 = some (.istore_n 3, 0, 0, 0) := by decide +kernel
theorem e26_12 : vm_ent 26 12 = some (.iload_n 3, 0, 0, 0) := by decide +kernel
theorem e26_13 : vm_ent 26 13 = some (.aload_n 0, 0, 0, 0) := by decide +kernel
theorem e26_14 : vm_ent 26 14 = some (.getfield 18, 1, 2, 113) := by decide +kernel
theorem e26_17 : vm_ent 26 17 = some (.if_icmp .ge 23, 40, 0, 0) := by decide +kernel
theorem e26_20 : vm_ent 26 20 = some (.aload_n 0, 0, 0, 0) := by decide +kernel
theorem e26_21 : vm_ent 26 21 = some (.getfield 15, 1, 1, 109) := by decide +kernel
theorem e26_24 : vm_ent 26 24 = some (.iload_n 3, 0, 0, 0) := by decide +kernel
theorem e26_25 : vm_ent 26 25 = some (.laload, 0, 0, 0) := by decide +kernel
theorem e26_26 : vm_ent 26 26 = some (.invokestatic 65, 9999, 12, 383) := by decide +kernel
theorem e26_29 : vm_ent 26 29 = some (.lload_n 1, 0, 0, 0) := by decide +kernel
theorem e26_30 : vm_ent 26 30 = some (.invokestatic 69, 75, 3, 386) := by decide +kernel
theorem e26_33 : vm_ent 26 33 = some (.lstore_n 1, 0, 0, 0) := by decide +kernel
theorem e26_34 : vm_ent 26 34 = some (.iinc 3 1, 0, 0, 0) := by decide +kernel
theorem e26_37 : vm_ent 26 37 = some (.goto (-25), 12, 0, 0) := by decide +kernel
theorem e26_40 : vm_ent 26 40 = some (.aload_n 0, 0, 0, 0) := by decide +kernel
theorem e26_41 : vm_ent 26 41 = some (.getfield 15, 1, 1, 109) := by decide +kernel
theorem e26_44 : vm_ent 26 44 = some (.iconst 0, 0, 0, 0) := by decide +kernel
theorem e26_45 : vm_ent 26 45 = some (.laload, 0, 0, 0) := by decide +kernel
theorem e26_46 : vm_ent 26 46 = some (.lconst 0, 0, 0, 0) := by decide +kernel
theorem e26_47 : vm_ent 26 47 = some (.lcmp, 0, 0, 0) := by decide +kernel
theorem e26_48 : vm_ent 26 48 = some (.ifCond .ge 6, 54, 0, 0) := by decide +kernel
theorem e26_51 : vm_ent 26 51 = some (.lload_n 1, 0, 0, 0) := by decide +kernel
theorem e26_52 : vm_ent 26 52 = some (.lneg, 0, 0, 0) := by decide +kernel
theorem e26_53 : vm_ent 26 53 = some (.lstore_n 1, 0, 0, 0) := by decide +kernel
theorem e26_54 : vm_ent 26 54 = some (.lload_n 1, 0, 0, 0) := by decide +kernel
theorem e26_55 : vm_ent 26 55 = some (.lconst 0, 0, 0, 0) := by decide +kernel
theorem e26_56 : vm_ent 26 56 = some (.lcmp, 0, 0, 0) := by decide +kernel
theorem e26_57 : vm_ent 26 57 = some (.ifCond .eq 9, 66, 0, 0) := by decide +kernel
theorem e26_60 : vm_ent 26 60 = some (.lload_n 1, 0, 0, 0) := by decide +kernel
theorem e26_61 : vm_ent 26 61 = some (.lconst 1, 0, 0, 0) := by decide +kernel
theorem e26_62 : vm_ent 26 62 = some (.lcmp, 0, 0, 0) := by decide +kernel
theorem e26_63 : vm_ent 26 63 = some (.ifCond .ne 4, 67, 0, 0) := by decide +kernel
theorem e26_66 : vm_ent 26 66 = some (.return_, 0, 0, 0) := by decide +kernel
theorem e26_67 : vm_ent 26 67 = some (.iconst 0, 0, 0, 0) := by decide +kernel
theorem e26_68 : vm_ent 26 68 = some (.istore_n 3, 0, 0, 0) := by decide +kernel
theorem e26_69 : vm_ent 26 69 = some (.iload_n 3, 0, 0, 0) := by decide +kernel
theorem e26_70 : vm_ent 26 70 = some (.aload_n 0, 0, 0, 0) := by decide +kernel
theorem e26_71 : vm_ent 26 71 = some (.getfield 18, 1, 2, 113) := by decide +kernel
theorem e26_74 : vm_ent 26 74 = some (.if_icmp .ge 19, 93, 0, 0) := by decide +kernel
theorem e26_77 : vm_ent 26 77 = some (.aload_n 0, 0, 0, 0) := by decide +kernel
theorem e26_78 : vm_ent 26 78 = some (.getfield 15, 1, 1, 109) := by decide +kernel
theorem e26_81 : vm_ent 26 81 = some (.iload_n 3, 0, 0, 0) := by decide +kernel
theorem e26_82 : vm_ent 26 82 = some (.dup2, 0, 0, 0) := by decide +kernel
theorem e26_83 : vm_ent 26 83 = some (.laload, 0, 0, 0) := by decide +kernel
theorem e26_84 : vm_ent 26 84 = some (.lload_n 1, 0, 0, 0) := by decide +kernel
theorem e26_85 : vm_ent 26 85 = some (.ldiv, 0, 0, 0) := by decide +kernel
theorem e26_86 : vm_ent 26 86 = some (.lastore, 0, 0, 0) := by decide +kernel
theorem e26_87 : vm_ent 26 87 = some (.iinc 3 1, 0, 0, 0) := by decide +kernel
theorem e26_90 : vm_ent 26 90 = some (.goto (-21), 69, 0, 0) := by decide +kernel
theorem e26_93 : vm_ent 26 93 = some (.return_, 0, 0, 0) := by decide +kernel
theorem e15_0 : vm_ent 15 0 = some (.lconst 1, 0, 0, 0) := by decide +kernel
theorem e15_1 : vm_ent 15 1 = some (.lstore_n 3, 0, 0, 0) := by decide +kernel
theorem e15_2 : vm_ent 15 2 = some (.iconst 0, 0, 0, 0) := by decide +kernel
theorem e15_3 : vm_ent 15 3 = some (.istore 5, 0, 0, 0) := by decide +kernel
theorem e15_5 : vm_ent 15 5 = some (.iload 5, 0, 0, 0) := by decide +kernel
theorem e15_7 : vm_ent 15 7 = some (.aload_n 0, 0, 0, 0) := by decide +kernel
theorem e15_8 : vm_ent 15 8 = some (.getfield 23, 0, 0, 80) := by decide +kernel
theorem e15_11 : vm_ent 15 11 = some (.if_icmp .ge 48, 59, 0, 0) := by decide +kernel
theorem e15_14 : vm_ent 15 14 = some (.lload_n 1, 0, 0, 0) := by decide +kernel
theorem e15_15 : vm_ent 15 15 = some (.iload 5, 0, 0, 0) := by decide +kernel
theorem e15_17 : vm_ent 15 17 = some (.invokestatic 31, 73, 3, 293) := by decide +kernel
theorem e15_20 : vm_ent 15 20 = some (.istore 6, 0, 0, 0) := by decide +kernel
theorem e15_22 : vm_ent 15 22 = some (.iconst 0, 0, 0, 0) := by decide +kernel
theorem e15_23 : vm_ent 15 23 = some (.istore 7, 0, 0, 0) := by decide +kernel
theorem e15_25 : vm_ent 15 25 = some (.iload 7, 0, 0, 0) := by decide +kernel
theorem e15_27 : vm_ent 15 27 = some (.iload 6, 0, 0, 0) := by decide +kernel
theorem e15_29 : vm_ent 15 29 = some (.if_icmp .ge 24, 53, 0, 0) := by decide +kernel
theorem e15_32 : vm_ent 15 32 = some (.lload_n 3, 0, 0, 0) := by decide +kernel
theorem e15_33 : vm_ent 15 33 = some (.aload_n 0, 0, 0, 0) := by decide +kernel
theorem e15_34 : vm_ent 15 34 = some (.getfield 15, 0, 2, 83) := by decide +kernel
theorem e15_37 : vm_ent 15 37 = some (.aload_n 0, 0, 0, 0) := by decide +kernel
theorem e15_38 : vm_ent 15 38 = some (.getfield 19, 0, 3, 85) := by decide +kernel
theorem e15_41 : vm_ent 15 41 = some (.iload 5, 0, 0, 0) := by decide +kernel
theorem e15_43 : vm_ent 15 43 = some (.iaload, 0, 0, 0) := by decide +kernel
theorem e15_44 : vm_ent 15 44 = some (.laload, 0, 0, 0) := by decide +kernel
theorem e15_45 : vm_ent 15 45 = some (.lmul, 0, 0, 0) := by decide +kernel
theorem e15_46 : vm_ent 15 46 = some (.lstore_n 3, 0, 0, 0) := by decide +kernel
theorem e15_47 : vm_ent 15 47 = some (.iinc 7 1, 0, 0, 0) := by decide +kernel
theorem e15_50 : vm_ent 15 50 = some (.goto (-25), 25, 0, 0) := by decide +kernel
theorem e15_53 : vm_ent 15 53 = some (.iinc 5 1, 0, 0, 0) := by decide +kernel
theorem e15_56 : vm_ent 15 56 = some (.goto (-51), 5, 0, 0) := by decide +kernel
theorem e15_59 : vm_ent 15 59 = some (.lload_n 3, 0, 0, 0) := by decide +kernel
theorem e15_60 : vm_ent 15 60 = some (.lreturn, 0, 0, 0) := by decide +kernel
theorem e13_0 : vm_ent 13 0 = some (.lconst 0, 0, 0, 0) := by decide +kernel
theorem e13_1 : vm_ent 13 1 = some (.lstore_n 2, 0, 0, 0) := by decide +kernel
theorem e13_2 : vm_ent 13 2 = some (.iconst 0, 0, 0, 0) := by decide +kernel
theorem e13_3 : vm_ent 13 3 = some (.istore 4, 0, 0, 0) := by decide +kernel
theorem e13_5 : vm_ent 13 5 = some (.iload 4, 0, 0, 0) := by decide +kernel
theorem e13_7 : vm_ent 13 7 = some (.aload_n 1, 0, 0, 0) := by decide +kernel
theorem e13_8 : vm_ent 13 8 = some (.getfield 35, 1, 2, 118) := by decide +kernel
theorem e13_11 : vm_ent 13 11 = some (.if_icmp .ge 31, 42, 0, 0) := by decide +kernel
theorem e13_14 : vm_ent 13 14 = some (.lload_n 2, 0, 0, 0) := by decide +kernel
theorem e13_15 : vm_ent 13 15 = some (.aload_n 1, 0, 0, 0) := by decide +kernel
theorem e13_16 : vm_ent 13 16 = some (.getfield 56, 1, 1, 112) := by decide +kernel
theorem e13_19 : vm_ent 13 19 = some (.iload 4, 0, 0, 0) := by decide +kernel
theorem e13_21 : vm_ent 13 21 = some (.laload, 0, 0, 0) := by decide +kernel
theorem e13_22 : vm_ent 13 22 = some (.aload_n 0, 0, 0, 0) := by decide +kernel
theorem e13_23 : vm_ent 13 23 = some (.aload_n 1, 0, 0, 0) := by decide +kernel
theorem e13_24 : vm_ent 13 24 = some (.getfield 38, 1, 0, 107) := by decide +kernel
theorem e13_27 : vm_ent 13 27 = some (.iload 4, 0, 0, 0) := by decide +kernel
theorem e13_29 : vm_ent 13 29 = some (.laload, 0, 0, 0) := by decide +kernel
theorem e13_30 : vm_ent 13 30 = some (.invokevirtual 59, 15, 4, 541) := by decide +kernel
theorem e13_33 : vm_ent 13 33 = some (.lmul, 0, 0, 0) := by decide +kernel
theorem e13_34 : vm_ent 13 34 = some (.ladd, 0, 0, 0) := by decide +kernel
theorem e13_35 : vm_ent 13 35 = some (.lstore_n 2, 0, 0, 0) := by decide +kernel
theorem e13_36 : vm_ent 13 36 = some (.iinc 4 1, 0, 0, 0) := by decide +kernel
theorem e13_39 : vm_ent 13 39 = some (.goto (-34), 5, 0, 0) := by decide +kernel
theorem e13_42 : vm_ent 13 42 = some (.lload_n 2, 0, 0, 0) := by decide +kernel
theorem e13_43 : vm_ent 13 43 = some (.lreturn, 0, 0, 0) := by decide +kernel
theorem e14_0 : vm_ent 14 0 = some (.iload 4, 0, 0, 0) := by decide +kernel
theorem e14_2 : vm_ent 14 2 = some (.i2l, 0, 0, 0) := by decide +kernel
theorem e14_3 : vm_ent 14 3 = some (.bipush 8, 0, 0, 0) := by decide +kernel
theorem e14_5 : vm_ent 14 5 = some (.iload_n 2, 0, 0, 0) := by decide +kernel
theorem e14_6 : vm_ent 14 6 = some (.imul, 0, 0, 0) := by decide +kernel
theorem e14_7 : vm_ent 14 7 = some (.lshl, 0, 0, 0) := by decide +kernel
theorem e14_8 : vm_ent 14 8 = some (.lstore 5, 0, 0, 0) := by decide +kernel
theorem e14_10 : vm_ent 14 10 = some (.lconst 0, 0, 0, 0) := by decide +kernel
theorem e14_11 : vm_ent 14 11 = some (.lstore 7, 0, 0, 0) := by decide +kernel
theorem e14_13 : vm_ent 14 13 = some (.iconst 0, 0, 0, 0) := by decide +kernel
theorem e14_14 : vm_ent 14 14 = some (.istore 9, 0, 0, 0) := by decide +kernel
theorem e14_16 : vm_ent 14 16 = some (.iload 9, 0, 0, 0) := by decide +kernel
theorem e14_18 : vm_ent 14 18 = some (.aload_n 1, 0, 0, 0) := by decide +kernel
theorem e14_19 : vm_ent 14 19 = some (.getfield 35, 1, 2, 118) := by decide +kernel
theorem e14_22 : vm_ent 14 22 = some (.if_icmp .ge 51, 73, 0, 0) := by decide +kernel
theorem e14_25 : vm_ent 14 25 = some (.aload_n 1, 0, 0, 0) := by decide +kernel
theorem e14_26 : vm_ent 14 26 = some (.getfield 38, 1, 0, 107) := by decide +kernel
theorem e14_29 : vm_ent 14 29 = some (.iload 9, 0, 0, 0) := by decide +kernel
theorem e14_31 : vm_ent 14 31 = some (.laload, 0, 0, 0) := by decide +kernel
theorem e14_32 : vm_ent 14 32 = some (.iload_n 2, 0, 0, 0) := by decide +kernel
theorem e14_33 : vm_ent 14 33 = some (.invokestatic 31, 73, 3, 293) := by decide +kernel
theorem e14_36 : vm_ent 14 36 = some (.iload_n 3, 0, 0, 0) := by decide +kernel
theorem e14_37 : vm_ent 14 37 = some (.if_icmp .ne 30, 67, 0, 0) := by decide +kernel
theorem e14_40 : vm_ent 14 40 = some (.lload 7, 0, 0, 0) := by decide +kernel
theorem e14_42 : vm_ent 14 42 = some (.aload_n 1, 0, 0, 0) := by decide +kernel
theorem e14_43 : vm_ent 14 43 = some (.getfield 56, 1, 1, 112) := by decide +kernel
theorem e14_46 : vm_ent 14 46 = some (.iload 9, 0, 0, 0) := by decide +kernel
theorem e14_48 : vm_ent 14 48 = some (.laload, 0, 0, 0) := by decide +kernel
theorem e14_49 : vm_ent 14 49 = some (.aload_n 0, 0, 0, 0) := by decide +kernel
theorem e14_50 : vm_ent 14 50 = some (.aload_n 1, 0, 0, 0) := by decide +kernel
theorem e14_51 : vm_ent 14 51 = some (.getfield 38, 1, 0, 107) := by decide +kernel
theorem e14_54 : vm_ent 14 54 = some (.iload 9, 0, 0, 0) := by decide +kernel
theorem e14_56 : vm_ent 14 56 = some (.laload, 0, 0, 0) := by decide +kernel
theorem e14_57 : vm_ent 14 57 = some (.lload 5, 0, 0, 0) := by decide +kernel
theorem e14_59 : vm_ent 14 59 = some (.lsub, 0, 0, 0) := by decide +kernel
theorem e14_60 : vm_ent 14 60 = some (.invokevirtual 59, 15, 4, 541) := by decide +kernel
theorem e14_63 : vm_ent 14 63 = some (.lmul, 0, 0, 0) := by decide +kernel
theorem e14_64 : vm_ent 14 64 = some (.ladd, 0, 0, 0) := by decide +kernel
theorem e14_65 : vm_ent 14 65 = some (.lstore 7, 0, 0, 0) := by decide +kernel
theorem e14_67 : vm_ent 14 67 = some (.iinc 9 1, 0, 0, 0) := by decide +kernel
theorem e14_70 : vm_ent 14 70 = some (.goto (-54), 16, 0, 0) := by decide +kernel
theorem e14_73 : vm_ent 14 73 = some (.lload 7, 0, 0, 0) := by decide +kernel
theorem e14_75 : vm_ent 14 75 = some (.lreturn, 0, 0, 0) := by decide +kernel
theorem e12_0 : vm_ent 12 0 = some (.aload_n 0, 0, 0, 0) := by decide +kernel
theorem e12_1 : vm_ent 12 1 = some (.getfield 23, 0, 0, 80) := by decide +kernel
theorem e12_4 : vm_ent 12 4 = some (.iconst 1, 0, 0, 0) := by decide +kernel
theorem e12_5 : vm_ent 12 5 = some (.isub, 0, 0, 0) := by decide +kernel
theorem e12_6 : vm_ent 12 6 = some (.istore_n 2, 0, 0, 0) := by decide +kernel
theorem e12_7 : vm_ent 12 7 = some (.iload_n 2, 0, 0, 0) := by decide +kernel
theorem e12_8 : vm_ent 12 8 = some (.ifCond .lt 33, 41, 0, 0) := by decide +kernel
theorem e12_11 : vm_ent 12 11 = some (.aload_n 0, 0, 0, 0) := by decide +kernel
theorem e12_12 : vm_ent 12 12 = some (.getfield 9, 0, 1, 82) := by decide +kernel
theorem e12_15 : vm_ent 12 15 = some (.aload_n 0, 0, 0, 0) := by decide +kernel
theorem e12_16 : vm_ent 12 16 = some (.getfield 19, 0, 3, 85) := by decide +kernel
theorem e12_19 : vm_ent 12 19 = some (.iload_n 2, 0, 0, 0) := by decide +kernel
theorem e12_20 : vm_ent 12 20 = some (.iaload, 0, 0, 0) := by decide +kernel
theorem e12_21 : vm_ent 12 21 = some (.baload, 0, 0, 0) := by decide +kernel
theorem e12_22 : vm_ent 12 22 = some (.ifCond .ne 13, 35, 0, 0) := by decide +kernel
theorem e12_25 : vm_ent 12 25 = some (.aload_n 1, 0, 0, 0) := by decide +kernel
theorem e12_26 : vm_ent 12 26 = some (.iload_n 2, 0, 0, 0) := by decide +kernel
theorem e12_27 : vm_ent 12 27 = some (.invokevirtual 52, 22, 4, 393) := by decide +kernel
theorem e12_30 : vm_ent 12 30 = some (.ifCond .le 5, 35, 0, 0) := by decide +kernel
theorem e12_33 : vm_ent 12 33 = some (.iload_n 2, 0, 0, 0) := by decide +kernel
theorem e12_34 : vm_ent 12 34 = some (.ireturn, 0, 0, 0) := by decide +kernel
theorem e12_35 : vm_ent 12 35 = some (.iinc 2 (-1), 0, 0, 0) := by decide +kernel
theorem e12_38 : vm_ent 12 38 = some (.goto (-31), 7, 0, 0) := by decide +kernel
theorem e12_41 : vm_ent 12 41 = some (.iconst (-1), 0, 0, 0) := by decide +kernel
theorem e12_42 : vm_ent 12 42 = some (.ireturn, 0, 0, 0) := by decide +kernel
theorem e27_0 : vm_ent 27 0 = some (.iconst 1, 0, 0, 0) := by decide +kernel
theorem e27_1 : vm_ent 27 1 = some (.istore_n 1, 0, 0, 0) := by decide +kernel
theorem e27_2 : vm_ent 27 2 = some (.iload_n 1, 0, 0, 0) := by decide +kernel
theorem e27_3 : vm_ent 27 3 = some (.aload_n 0, 0, 0, 0) := by decide +kernel
theorem e27_4 : vm_ent 27 4 = some (.getfield 18, 1, 2, 113) := by decide +kernel
theorem e27_7 : vm_ent 27 7 = some (.if_icmp .ge 101, 108, 0, 0) := by decide +kernel
theorem e27_10 : vm_ent 27 10 = some (.aload_n 0, 0, 0, 0) := by decide +kernel
theorem e27_11 : vm_ent 27 11 = some (.getfield 9, 1, 0, 105) := by decide +kernel
theorem e27_14 : vm_ent 27 14 = some (.iload_n 1, 0, 0, 0) := by decide +kernel
theorem e27_15 : vm_ent 27 15 = some (.laload, 0, 0, 0) := by decide +kernel
theorem e27_16 : vm_ent 27 16 = some (.lstore_n 2, 0, 0, 0) := by decide +kernel
theorem e27_17 : vm_ent 27 17 = some (.aload_n 0, 0, 0, 0) := by decide +kernel
theorem e27_18 : vm_ent 27 18 = some (.getfield 15, 1, 1, 109) := by decide +kernel
theorem e27_21 : vm_ent 27 21 = some (.iload_n 1, 0, 0, 0) := by decide +kernel
theorem e27_22 : vm_ent 27 22 = some (.laload, 0, 0, 0) := by decide +kernel
theorem e27_23 : vm_ent 27 23 = some (.lstore 4, 0, 0, 0) := by decide +kernel
theorem e27_25 : vm_ent 27 25 = some (.iload_n 1, 0, 0, 0) := by decide +kernel
theorem e27_26 : vm_ent 27 26 = some (.istore 6, 0, 0, 0) := by decide +kernel
theorem e27_28 : vm_ent 27 28 = some (.iload 6, 0, 0, 0) := by decide +kernel
theorem e27_30 : vm_ent 27 30 = some (.ifCond .le 55, 85, 0, 0) := by decide +kernel
theorem e27_33 : vm_ent 27 33 = some (.aload_n 0, 0, 0, 0) := by decide +kernel
theorem e27_34 : vm_ent 27 34 = some (.getfield 9, 1, 0, 105) := by decide +kernel
theorem e27_37 : vm_ent 27 37 = some (.iload 6, 0, 0, 0) := by decide +kernel
theorem e27_39 : vm_ent 27 39 = some (.iconst 1, 0, 0, 0) := by decide +kernel
theorem e27_40 : vm_ent 27 40 = some (.isub, 0, 0, 0) := by decide +kernel
theorem e27_41 : vm_ent 27 41 = some (.laload, 0, 0, 0) := by decide +kernel
theorem e27_42 : vm_ent 27 42 = some (.lload_n 2, 0, 0, 0) := by decide +kernel
theorem e27_43 : vm_ent 27 43 = some (.lcmp, 0, 0, 0) := by decide +kernel
theorem e27_44 : vm_ent 27 44 = some (.ifCond .ge 41, 85, 0, 0) := by decide +kernel
theorem e27_47 : vm_ent 27 47 = some (.aload_n 0, 0, 0, 0) := by decide +kernel
theorem e27_48 : vm_ent 27 48 = some (.getfield 9, 1, 0, 105) := by decide +kernel
theorem e27_51 : vm_ent 27 51 = some (.iload 6, 0, 0, 0) := by decide +kernel
theorem e27_53 : vm_ent 27 53 = some (.aload_n 0, 0, 0, 0) := by decide +kernel
theorem e27_54 : vm_ent 27 54 = some (.getfield 9, 1, 0, 105) := by decide +kernel
theorem e27_57 : vm_ent 27 57 = some (.iload 6, 0, 0, 0) := by decide +kernel
theorem e27_59 : vm_ent 27 59 = some (.iconst 1, 0, 0, 0) := by decide +kernel
theorem e27_60 : vm_ent 27 60 = some (.isub, 0, 0, 0) := by decide +kernel
theorem e27_61 : vm_ent 27 61 = some (.laload, 0, 0, 0) := by decide +kernel
theorem e27_62 : vm_ent 27 62 = some (.lastore, 0, 0, 0) := by decide +kernel
theorem e27_63 : vm_ent 27 63 = some (.aload_n 0, 0, 0, 0) := by decide +kernel
theorem e27_64 : vm_ent 27 64 = some (.getfield 15, 1, 1, 109) := by decide +kernel
theorem e27_67 : vm_ent 27 67 = some (.iload 6, 0, 0, 0) := by decide +kernel
theorem e27_69 : vm_ent 27 69 = some (.aload_n 0, 0, 0, 0) := by decide +kernel
theorem e27_70 : vm_ent 27 70 = some (.getfield 15, 1, 1, 109) := by decide +kernel
theorem e27_73 : vm_ent 27 73 = some (.iload 6, 0, 0, 0) := by decide +kernel
theorem e27_75 : vm_ent 27 75 = some (.iconst 1, 0, 0, 0) := by decide +kernel
theorem e27_76 : vm_ent 27 76 = some (.isub, 0, 0, 0) := by decide +kernel
theorem e27_77 : vm_ent 27 77 = some (.laload, 0, 0, 0) := by decide +kernel
theorem e27_78 : vm_ent 27 78 = some (.lastore, 0, 0, 0) := by decide +kernel
theorem e27_79 : vm_ent 27 79 = some (.iinc 6 (-1), 0, 0, 0) := by decide +kernel
theorem e27_82 : vm_ent 27 82 = some (.goto (-54), 28, 0, 0) := by decide +kernel
theorem e27_85 : vm_ent 27 85 = some (.aload_n 0, 0, 0, 0) := by decide +kernel
theorem e27_86 : vm_ent 27 86 = some (.getfield 9, 1, 0, 105) := by decide +kernel
theorem e27_89 : vm_ent 27 89 = some (.iload 6, 0, 0, 0) := by decide +kernel
theorem e27_91 : vm_ent 27 91 = some (.lload_n 2, 0, 0, 0) := by decide +kernel
theorem e27_92 : vm_ent 27 92 = some (.lastore, 0, 0, 0) := by decide +kernel
theorem e27_93 : vm_ent 27 93 = some (.aload_n 0, 0, 0, 0) := by decide +kernel
theorem e27_94 : vm_ent 27 94 = some (.getfield 15, 1, 1, 109) := by decide +kernel
theorem e27_97 : vm_ent 27 97 = some (.iload 6, 0, 0, 0) := by decide +kernel
theorem e27_99 : vm_ent 27 99 = some (.lload 4, 0, 0, 0) := by decide +kernel
theorem e27_101 : vm_ent 27 101 = some (.lastore, 0, 0, 0) := by decide +kernel
theorem e27_102 : vm_ent 27 102 = some (.iinc 1 1, 0, 0, 0) := by decide +kernel
theorem e27_105 : vm_ent 27 105 = some (.goto (-103), 2, 0, 0) := by decide +kernel
theorem e27_108 : vm_ent 27 108 = some (.return_, 0, 0, 0) := by decide +kernel
theorem e10_0 : vm_ent 10 0 = some (.iconst 0, 0, 0, 0) := by decide +kernel
theorem e10_1 : vm_ent 10 1 = some (.istore_n 2, 0, 0, 0) := by decide +kernel
theorem e10_2 : vm_ent 10 2 = some (.iload_n 2, 0, 0, 0) := by decide +kernel
theorem e10_3 : vm_ent 10 3 = some (.aload_n 1, 0, 0, 0) := by decide +kernel
theorem e10_4 : vm_ent 10 4 = some (.getfield 35, 1, 2, 118) := by decide +kernel
theorem e10_7 : vm_ent 10 7 = some (.if_icmp .ge 26, 33, 0, 0) := by decide +kernel
theorem e10_10 : vm_ent 10 10 = some (.aload_n 1, 0, 0, 0) := by decide +kernel
theorem e10_11 : vm_ent 10 11 = some (.getfield 38, 1, 0, 107) := by decide +kernel
theorem e10_14 : vm_ent 10 14 = some (.iload_n 2, 0, 0, 0) := by decide +kernel
theorem e10_15 : vm_ent 10 15 = some (.aload_n 0, 0, 0, 0) := by decide +kernel
theorem e10_16 : vm_ent 10 16 = some (.aload_n 1, 0, 0, 0) := by decide +kernel
theorem e10_17 : vm_ent 10 17 = some (.getfield 38, 1, 0, 107) := by decide +kernel
theorem e10_20 : vm_ent 10 20 = some (.iload_n 2, 0, 0, 0) := by decide +kernel
theorem e10_21 : vm_ent 10 21 = some (.laload, 0, 0, 0) := by decide +kernel
theorem e10_22 : vm_ent 10 22 = some (.invokevirtual 41, 9, 4, 289) := by decide +kernel
theorem e10_25 : vm_ent 10 25 = some (.i2l, 0, 0, 0) := by decide +kernel
theorem e10_26 : vm_ent 10 26 = some (.lastore, 0, 0, 0) := by decide +kernel
theorem e10_27 : vm_ent 10 27 = some (.iinc 2 1, 0, 0, 0) := by decide +kernel
theorem e10_30 : vm_ent 10 30 = some (.goto (-28), 2, 0, 0) := by decide +kernel
theorem e10_33 : vm_ent 10 33 = some (.return_, 0, 0, 0) := by decide +kernel
theorem e11_0 : vm_ent 11 0 = some (.iconst 0, 0, 0, 0) := by decide +kernel
theorem e11_1 : vm_ent 11 1 = some (.istore_n 2, 0, 0, 0) := by decide +kernel
theorem e11_2 : vm_ent 11 2 = some (.iload_n 2, 0, 0, 0) := by decide +kernel
theorem e11_3 : vm_ent 11 3 = some (.aload_n 1, 0, 0, 0) := by decide +kernel
theorem e11_4 : vm_ent 11 4 = some (.getfield 35, 1, 2, 118) := by decide +kernel
theorem e11_7 : vm_ent 11 7 = some (.if_icmp .ge 26, 33, 0, 0) := by decide +kernel
theorem e11_10 : vm_ent 11 10 = some (.aload_n 1, 0, 0, 0) := by decide +kernel
theorem e11_11 : vm_ent 11 11 = some (.getfield 38, 1, 0, 107) := by decide +kernel
theorem e11_14 : vm_ent 11 14 = some (.iload_n 2, 0, 0, 0) := by decide +kernel
theorem e11_15 : vm_ent 11 15 = some (.aload_n 0, 0, 0, 0) := by decide +kernel
theorem e11_16 : vm_ent 11 16 = some (.aload_n 1, 0, 0, 0) := by decide +kernel
theorem e11_17 : vm_ent 11 17 = some (.getfield 38, 1, 0, 107) := by decide +kernel
theorem e11_20 : vm_ent 11 20 = some (.iload_n 2, 0, 0, 0) := by decide +kernel
theorem e11_21 : vm_ent 11 21 = some (.laload, 0, 0, 0) := by decide +kernel
theorem e11_22 : vm_ent 11 22 = some (.l2i, 0, 0, 0) := by decide +kernel
theorem e11_23 : vm_ent 11 23 = some (.invokevirtual 45, 8, 4, 304) := by decide +kernel
theorem e11_26 : vm_ent 11 26 = some (.lastore, 0, 0, 0) := by decide +kernel
theorem e11_27 : vm_ent 11 27 = some (.iinc 2 1, 0, 0, 0) := by decide +kernel
theorem e11_30 : vm_ent 11 30 = some (.goto (-28), 2, 0, 0) := by decide +kernel
theorem e11_33 : vm_ent 11 33 = some (.aload_n 1, 0, 0, 0) := by decide +kernel
theorem e11_34 : vm_ent 11 34 = some (.invokevirtual 49, 27, 4, 308) := by decide +kernel
theorem e11_37 : vm_ent 11 37 = some (.return_, 0, 0, 0) := by decide +kernel
theorem e6_0 : vm_ent 6 0 = some (.aload_n 0, 0, 0, 0) := by decide +kernel
theorem e6_1 : vm_ent 6 1 = some (.getfield 19, 0, 3, 85) := by decide +kernel
theorem e6_4 : vm_ent 6 4 = some (.iload_n 1, 0, 0, 0) := by decide +kernel
theorem e6_5 : vm_ent 6 5 = some (.iaload, 0, 0, 0) := by decide +kernel
theorem e6_6 : vm_ent 6 6 = some (.istore_n 3, 0, 0, 0) := by decide +kernel
theorem e6_7 : vm_ent 6 7 = some (.iload_n 1, 0, 0, 0) := by decide +kernel
theorem e6_8 : vm_ent 6 8 = some (.istore 4, 0, 0, 0) := by decide +kernel
theorem e6_10 : vm_ent 6 10 = some (.iload 4, 0, 0, 0) := by decide +kernel
theorem e6_12 : vm_ent 6 12 = some (.iload_n 2, 0, 0, 0) := by decide +kernel
theorem e6_13 : vm_ent 6 13 = some (.if_icmp .ge 25, 38, 0, 0) := by decide +kernel
theorem e6_16 : vm_ent 6 16 = some (.aload_n 0, 0, 0, 0) := by decide +kernel
theorem e6_17 : vm_ent 6 17 = some (.getfield 19, 0, 3, 85) := by decide +kernel
theorem e6_20 : vm_ent 6 20 = some (.iload 4, 0, 0, 0) := by decide +kernel
theorem e6_22 : vm_ent 6 22 = some (.aload_n 0, 0, 0, 0) := by decide +kernel
theorem e6_23 : vm_ent 6 23 = some (.getfield 19, 0, 3, 85) := by decide +kernel
theorem e6_26 : vm_ent 6 26 = some (.iload 4, 0, 0, 0) := by decide +kernel
theorem e6_28 : vm_ent 6 28 = some (.iconst 1, 0, 0, 0) := by decide +kernel
theorem e6_29 : vm_ent 6 29 = some (.iadd, 0, 0, 0) := by decide +kernel
theorem e6_30 : vm_ent 6 30 = some (.iaload, 0, 0, 0) := by decide +kernel
theorem e6_31 : vm_ent 6 31 = some (.iastore, 0, 0, 0) := by decide +kernel
theorem e6_32 : vm_ent 6 32 = some (.iinc 4 1, 0, 0, 0) := by decide +kernel
theorem e6_35 : vm_ent 6 35 = some (.goto (-25), 10, 0, 0) := by decide +kernel
theorem e6_38 : vm_ent 6 38 = some (.iload_n 1, 0, 0, 0) := by decide +kernel
theorem e6_39 : vm_ent 6 39 = some (.istore 4, 0, 0, 0) := by decide +kernel
theorem e6_41 : vm_ent 6 41 = some (.iload 4, 0, 0, 0) := by decide +kernel
theorem e6_43 : vm_ent 6 43 = some (.iload_n 2, 0, 0, 0) := by decide +kernel
theorem e6_44 : vm_ent 6 44 = some (.if_icmp .le 25, 69, 0, 0) := by decide +kernel
theorem e6_47 : vm_ent 6 47 = some (.aload_n 0, 0, 0, 0) := by decide +kernel
theorem e6_48 : vm_ent 6 48 = some (.getfield 19, 0, 3, 85) := by decide +kernel
theorem e6_51 : vm_ent 6 51 = some (.iload 4, 0, 0, 0) := by decide +kernel
theorem e6_53 : vm_ent 6 53 = some (.aload_n 0, 0, 0, 0) := by decide +kernel
theorem e6_54 : vm_ent 6 54 = some (.getfield 19, 0, 3, 85) := by decide +kernel
theorem e6_57 : vm_ent 6 57 = some (.iload 4, 0, 0, 0) := by decide +kernel
theorem e6_59 : vm_ent 6 59 = some (.iconst 1, 0, 0, 0) := by decide +kernel
theorem e6_60 : vm_ent 6 60 = some (.isub, 0, 0, 0) := by decide +kernel
theorem e6_61 : vm_ent 6 61 = some (.iaload, 0, 0, 0) := by decide +kernel
theorem e6_62 : vm_ent 6 62 = some (.iastore, 0, 0, 0) := by decide +kernel
theorem e6_63 : vm_ent 6 63 = some (.iinc 4 (-1), 0, 0, 0) := by decide +kernel
theorem e6_66 : vm_ent 6 66 = some (.goto (-25), 41, 0, 0) := by decide +kernel
theorem e6_69 : vm_ent 6 69 = some (.aload_n 0, 0, 0, 0) := by decide +kernel
theorem e6_70 : vm_ent 6 70 = some (.getfield 19, 0, 3, 85) := by decide +kernel
theorem e6_73 : vm_ent 6 73 = some (.iload_n 2, 0, 0, 0) := by decide +kernel
theorem e6_74 : vm_ent 6 74 = some (.iload_n 3, 0, 0, 0) := by decide +kernel
theorem e6_75 : vm_ent 6 75 = some (.iastore, 0, 0, 0) := by decide +kernel
theorem e6_76 : vm_ent 6 76 = some (.return_, 0, 0, 0) := by decide +kernel
theorem e19_0 : vm_ent 19 0 = some (.aload_n 1, 0, 0, 0) := by decide +kernel
theorem e19_1 : vm_ent 19 1 = some (.getfield 9, 1, 0, 105) := by decide +kernel
theorem e19_4 : vm_ent 19 4 = some (.iconst 0, 0, 0, 0) := by decide +kernel
theorem e19_5 : vm_ent 19 5 = some (.aload_n 0, 0, 0, 0) := by decide +kernel
theorem e19_6 : vm_ent 19 6 = some (.getfield 9, 1, 0, 105) := by decide +kernel
theorem e19_9 : vm_ent 19 9 = some (.iconst 0, 0, 0, 0) := by decide +kernel
theorem e19_10 : vm_ent 19 10 = some (.aload_n 1, 0, 0, 0) := by decide +kernel
theorem e19_11 : vm_ent 19 11 = some (.getfield 18, 1, 2, 113) := by decide +kernel
theorem e19_14 : vm_ent 19 14 = some (.invokestatic 22, 9999, 9, 344) := by decide +kernel
theorem e19_17 : vm_ent 19 17 = some (.aload_n 1, 0, 0, 0) := by decide +kernel
theorem e19_18 : vm_ent 19 18 = some (.getfield 15, 1, 1, 109) := by decide +kernel
theorem e19_21 : vm_ent 19 21 = some (.iconst 0, 0, 0, 0) := by decide +kernel
theorem e19_22 : vm_ent 19 22 = some (.aload_n 0, 0, 0, 0) := by decide +kernel
theorem e19_23 : vm_ent 19 23 = some (.getfield 15, 1, 1, 109) := by decide +kernel
theorem e19_26 : vm_ent 19 26 = some (.iconst 0, 0, 0, 0) := by decide +kernel
theorem e19_27 : vm_ent 19 27 = some (.aload_n 1, 0, 0, 0) := by decide +kernel
theorem e19_28 : vm_ent 19 28 = some (.getfield 18, 1, 2, 113) := by decide +kernel
theorem e19_31 : vm_ent 19 31 = some (.invokestatic 22, 9999, 9, 344) := by decide +kernel
theorem e19_34 : vm_ent 19 34 = some (.aload_n 0, 0, 0, 0) := by decide +kernel
theorem e19_35 : vm_ent 19 35 = some (.aload_n 1, 0, 0, 0) := by decide +kernel
theorem e19_36 : vm_ent 19 36 = some (.getfield 18, 1, 2, 113) := by decide +kernel
theorem e19_39 : vm_ent 19 39 = some (.putfield 18, 1, 2, 113) := by decide +kernel
theorem e19_42 : vm_ent 19 42 = some (.return_, 0, 0, 0) := by decide +kernel
theorem e24_0 : vm_ent 24 0 = some (.aload_n 0, 0, 0, 0) := by decide +kernel
theorem e24_1 : vm_ent 24 1 = some (.getfield 9, 1, 0, 105) := by decide +kernel
theorem e24_4 : vm_ent 24 4 = some (.iload_n 1, 0, 0, 0) := by decide +kernel
theorem e24_5 : vm_ent 24 5 = some (.aload_n 0, 0, 0, 0) := by decide +kernel
theorem e24_6 : vm_ent 24 6 = some (.getfield 9, 1, 0, 105) := by decide +kernel
theorem e24_9 : vm_ent 24 9 = some (.iload_n 1, 0, 0, 0) := by decide +kernel
theorem e24_10 : vm_ent 24 10 = some (.iconst 1, 0, 0, 0) := by decide +kernel
theorem e24_11 : vm_ent 24 11 = some (.iadd, 0, 0, 0) := by decide +kernel
theorem e24_12 : vm_ent 24 12 = some (.aload_n 0, 0, 0, 0) := by decide +kernel
theorem e24_13 : vm_ent 24 13 = some (.getfield 18, 1, 2, 113) := by decide +kernel
theorem e24_16 : vm_ent 24 16 = some (.iload_n 1, 0, 0, 0) := by decide +kernel
theorem e24_17 : vm_ent 24 17 = some (.isub, 0, 0, 0) := by decide +kernel
theorem e24_18 : vm_ent 24 18 = some (.invokestatic 22, 9999, 9, 344) := by decide +kernel
theorem e24_21 : vm_ent 24 21 = some (.aload_n 0, 0, 0, 0) := by decide +kernel
theorem e24_22 : vm_ent 24 22 = some (.getfield 15, 1, 1, 109) := by decide +kernel
theorem e24_25 : vm_ent 24 25 = some (.iload_n 1, 0, 0, 0) := by decide +kernel
theorem e24_26 : vm_ent 24 26 = some (.aload_n 0, 0, 0, 0) := by decide +kernel
theorem e24_27 : vm_ent 24 27 = some (.getfield 15, 1, 1, 109) := by decide +kernel
theorem e24_30 : vm_ent 24 30 = some (.iload_n 1, 0, 0, 0) := by decide +kernel
theorem e24_31 : vm_ent 24 31 = some (.iconst 1, 0, 0, 0) := by decide +kernel
theorem e24_32 : vm_ent 24 32 = some (.iadd, 0, 0, 0) := by decide +kernel
theorem e24_33 : vm_ent 24 33 = some (.aload_n 0, 0, 0, 0) := by decide +kernel
theorem e24_34 : vm_ent 24 34 = some (.getfield 18, 1, 2, 113) := by decide +kernel
theorem e24_37 : vm_ent 24 37 = some (.iload_n 1, 0, 0, 0) := by decide +kernel
theorem e24_38 : vm_ent 24 38 = some (.isub, 0, 0, 0) := by decide +kernel
theorem e24_39 : vm_ent 24 39 = some (.invokestatic 22, 9999, 9, 344) := by decide +kernel
theorem e24_42 : vm_ent 24 42 = some (.aload_n 0, 0, 0, 0) := by decide +kernel
theorem e24_43 : vm_ent 24 43 = some (.dup, 0, 0, 0) := by decide +kernel
theorem e24_44 : vm_ent 24 44 = some (.getfield 18, 1, 2, 113) := by decide +kernel
theorem e24_47 : vm_ent 24 47 = some (.iconst 1, 0, 0, 0) := by decide +kernel
theorem e24_48 : vm_ent 24 48 = some (.iadd, 0, 0, 0) := by decide +kernel
theorem e24_49 : vm_ent 24 49 = some (.putfield 18, 1, 2, 113) := by decide +kernel
theorem e24_52 : vm_ent 24 52 = some (.return_, 0, 0, 0) := by decide +kernel
theorem e25_0 : vm_ent 25 0 = some (.aload_n 0, 0, 0, 0) := by decide +kernel
theorem e25_1 : vm_ent 25 1 = some (.getfield 9, 1, 0, 105) := by decide +kernel
theorem e25_4 : vm_ent 25 4 = some (.iload_n 1, 0, 0, 0) := by decide +kernel
theorem e25_5 : vm_ent 25 5 = some (.iconst 1, 0, 0, 0) := by decide +kernel
theorem e25_6 : vm_ent 25 6 = some (.iadd, 0, 0, 0) := by decide +kernel
theorem e25_7 : vm_ent 25 7 = some (.aload_n 0, 0, 0, 0) := by decide +kernel
theorem e25_8 : vm_ent 25 8 = some (.getfield 9, 1, 0, 105) := by decide +kernel
theorem e25_11 : vm_ent 25 11 = some (.iload_n 1, 0, 0, 0) := by decide +kernel
theorem e25_12 : vm_ent 25 12 = some (.aload_n 0, 0, 0, 0) := by decide +kernel
theorem e25_13 : vm_ent 25 13 = some (.getfield 18, 1, 2, 113) := by decide +kernel
theorem e25_16 : vm_ent 25 16 = some (.iload_n 1, 0, 0, 0) := by decide +kernel
theorem e25_17 : vm_ent 25 17 = some (.isub, 0, 0, 0) := by decide +kernel
theorem e25_18 : vm_ent 25 18 = some (.iconst 1, 0, 0, 0) := by decide +kernel
theorem e25_19 : vm_ent 25 19 = some (.isub, 0, 0, 0) := by decide +kernel
theorem e25_20 : vm_ent 25 20 = some (.invokestatic 22, 9999, 9, 344) := by decide +kernel
theorem e25_23 : vm_ent 25 23 = some (.aload_n 0, 0, 0, 0) := by decide +kernel
theorem e25_24 : vm_ent 25 24 = some (.getfield 15, 1, 1, 109) := by decide +kernel
theorem e25_27 : vm_ent 25 27 = some (.iload_n 1, 0, 0, 0) := by decide +kernel
theorem e25_28 : vm_ent 25 28 = some (.iconst 1, 0, 0, 0) := by decide +kernel
theorem e25_29 : vm_ent 25 29 = some (.iadd, 0, 0, 0) := by decide +kernel
theorem e25_30 : vm_ent 25 30 = some (.aload_n 0, 0, 0, 0) := by decide +kernel
theorem e25_31 : vm_ent 25 31 = some (.getfield 15, 1, 1, 109) := by decide +kernel
theorem e25_34 : vm_ent 25 34 = some (.iload_n 1, 0, 0, 0) := by decide +kernel
theorem e25_35 : vm_ent 25 35 = some (.aload_n 0, 0, 0, 0) := by decide +kernel
theorem e25_36 : vm_ent 25 36 = some (.getfield 18, 1, 2, 113) := by decide +kernel
theorem e25_39 : vm_ent 25 39 = some (.iload_n 1, 0, 0, 0) := by decide +kernel
theorem e25_40 : vm_ent 25 40 = some (.isub, 0, 0, 0) := by decide +kernel
theorem e25_41 : vm_ent 25 41 = some (.iconst 1, 0, 0, 0) := by decide +kernel
theorem e25_42 : vm_ent 25 42 = some (.isub, 0, 0, 0) := by decide +kernel
theorem e25_43 : vm_ent 25 43 = some (.invokestatic 22, 9999, 9, 344) := by decide +kernel
theorem e25_46 : vm_ent 25 46 = some (.aload_n 0, 0, 0, 0) := by decide +kernel
theorem e25_47 : vm_ent 25 47 = some (.dup, 0, 0, 0) := by decide +kernel
theorem e25_48 : vm_ent 25 48 = some (.getfield 18, 1, 2, 113) := by decide +kernel
theorem e25_51 : vm_ent 25 51 = some (.iconst 1, 0, 0, 0) := by decide +kernel
theorem e25_52 : vm_ent 25 52 = some (.isub, 0, 0, 0) := by decide +kernel
theorem e25_53 : vm_ent 25 53 = some (.putfield 18, 1, 2, 113) := by decide +kernel
theorem e25_56 : vm_ent 25 56 = some (.return_, 0, 0, 0) := by decide +kernel
theorem e23_0 : vm_ent 23 0 = some (.lload_n 3, 0, 0, 0) := by decide +kernel
theorem e23_1 : vm_ent 23 1 = some (.ldc2_w 50, 18446744073575333888, 0, 333) := by decide +kernel
theorem e23_4 : vm_ent 23 4 = some (.lcmp, 0, 0, 0) := by decide +kernel
theorem e23_5 : vm_ent 23 5 = some (.ifCond .lt 11, 16, 0, 0) := by decide +kernel
theorem e23_8 : vm_ent 23 8 = some (.lload_n 3, 0, 0, 0) := by decide +kernel
theorem e23_9 : vm_ent 23 9 = some (.ldc2_w 52, 134217728, 0, 334) := by decide +kernel
theorem e23_12 : vm_ent 23 12 = some (.lcmp, 0, 0, 0) := by decide +kernel
theorem e23_13 : vm_ent 23 13 = some (.ifCond .le 5, 18, 0, 0) := by decide +kernel
theorem e23_16 : vm_ent 23 16 = some (.iconst 0, 0, 0, 0) := by decide +kernel
theorem e23_17 : vm_ent 23 17 = some (.ireturn, 0, 0, 0) := by decide +kernel
theorem e23_18 : vm_ent 23 18 = some (.iconst 0, 0, 0, 0) := by decide +kernel
theorem e23_19 : vm_ent 23 19 = some (.istore 5, 0, 0, 0) := by decide +kernel
theorem e23_21 : vm_ent 23 21 = some (.iload 5, 0, 0, 0) := by decide +kernel
theorem e23_23 : vm_ent 23 23 = some (.aload_n 0, 0, 0, 0) := by decide +kernel
theorem e23_24 : vm_ent 23 24 = some (.getfield 18, 1, 2, 113) := by decide +kernel
theorem e23_27 : vm_ent 23 27 = some (.if_icmp .ge 21, 48, 0, 0) := by decide +kernel
theorem e23_30 : vm_ent 23 30 = some (.aload_n 0, 0, 0, 0) := by decide +kernel
theorem e23_31 : vm_ent 23 31 = some (.getfield 9, 1, 0, 105) := by decide +kernel
theorem e23_34 : vm_ent 23 34 = some (.iload 5, 0, 0, 0) := by decide +kernel
theorem e23_36 : vm_ent 23 36 = some (.laload, 0, 0, 0) := by decide +kernel
theorem e23_37 : vm_ent 23 37 = some (.lload_n 1, 0, 0, 0) := by decide +kernel
theorem e23_38 : vm_ent 23 38 = some (.lcmp, 0, 0, 0) := by decide +kernel
theorem e23_39 : vm_ent 23 39 = some (.ifCond .le 9, 48, 0, 0) := by decide +kernel
theorem e23_42 : vm_ent 23 42 = some (.iinc 5 1, 0, 0, 0) := by decide +kernel
theorem e23_45 : vm_ent 23 45 = some (.goto (-24), 21, 0, 0) := by decide +kernel
theorem e23_48 : vm_ent 23 48 = some (.iload 5, 0, 0, 0) := by decide +kernel
theorem e23_50 : vm_ent 23 50 = some (.aload_n 0, 0, 0, 0) := by decide +kernel
theorem e23_51 : vm_ent 23 51 = some (.getfield 18, 1, 2, 113) := by decide +kernel
theorem e23_54 : vm_ent 23 54 = some (.if_icmp .ge 19, 73, 0, 0) := by decide +kernel
theorem e23_57 : vm_ent 23 57 = some (.aload_n 0, 0, 0, 0) := by decide +kernel
theorem e23_58 : vm_ent 23 58 = some (.getfield 9, 1, 0, 105) := by decide +kernel
theorem e23_61 : vm_ent 23 61 = some (.iload 5, 0, 0, 0) := by decide +kernel
theorem e23_63 : vm_ent 23 63 = some (.laload, 0, 0, 0) := by decide +kernel
theorem e23_64 : vm_ent 23 64 = some (.lload_n 1, 0, 0, 0) := by decide +kernel
theorem e23_65 : vm_ent 23 65 = some (.lcmp, 0, 0, 0) := by decide +kernel
theorem e23_66 : vm_ent 23 66 = some (.ifCond .ne 7, 73, 0, 0) := by decide +kernel
theorem e23_69 : vm_ent 23 69 = some (.iconst 1, 0, 0, 0) := by decide +kernel
theorem e23_70 : vm_ent 23 70 = some (.goto 4, 74, 0, 0) := by decide +kernel
theorem e23_73 : vm_ent 23 73 = some (.iconst 0, 0, 0, 0) := by decide +kernel
theorem e23_74 : vm_ent 23 74 = some (.istore 6, 0, 0, 0) := by decide +kernel
theorem e23_76 : vm_ent 23 76 = some (.iload 6, 0, 0, 0) := by decide +kernel
theorem e23_78 : vm_ent 23 78 = some (.ifCond .eq 15, 93, 0, 0) := by decide +kernel
theorem e23_81 : vm_ent 23 81 = some (.aload_n 0, 0, 0, 0) := by decide +kernel
theorem e23_82 : vm_ent 23 82 = some (.getfield 15, 1, 1, 109) := by decide +kernel
theorem e23_85 : vm_ent 23 85 = some (.iload 5, 0, 0, 0) := by decide +kernel
theorem e23_87 : vm_ent 23 87 = some (.laload, 0, 0, 0) := by decide +kernel
theorem e23_88 : vm_ent 23 88 = some (.lload_n 3, 0, 0, 0) := by decide +kernel
theorem e23_89 : vm_ent 23 89 = some (.ladd, 0, 0, 0) := by decide +kernel
theorem e23_90 : vm_ent 23 90 = some (.goto 4, 94, 0, 0) := by decide +kernel
theorem e23_93 : vm_ent 23 93 = some (.lload_n 3, 0, 0, 0) := by decide +kernel
theorem e23_94 : vm_ent 23 94 = some (.lstore 7, 0, 0, 0) := by decide +kernel
theorem e23_96 : vm_ent 23 96 = some (.lload 7, 0, 0, 0) := by decide +kernel
theorem e23_98 : vm_ent 23 98 = some (.invokestatic 54, 74, 3, 335) := by decide +kernel
theorem e23_101 : vm_ent 23 101 = some (.ifCond .eq 17, 118, 0, 0) := by decide +kernel
theorem e23_104 : vm_ent 23 104 = some (.iload 6, 0, 0, 0) := by decide +kernel
theorem e23_106 : vm_ent 23 106 = some (.ifCond .ne 14, 120, 0, 0) := by decide +kernel
theorem e23_109 : vm_ent 23 109 = some (.aload_n 0, 0, 0, 0) := by decide +kernel
theorem e23_110 : vm_ent 23 110 = some (.getfield 18, 1, 2, 113) := by decide +kernel
theorem e23_113 : vm_ent 23 113 = some (.bipush 60, 0, 0, 0) := by decide +kernel
theorem e23_115 : vm_ent 23 115 = some (.if_icmp .lt 5, 120, 0, 0) := by decide +kernel
theorem e23_118 : vm_ent 23 118 = some (.iconst 0, 0, 0, 0) := by decide +kernel
theorem e23_119 : vm_ent 23 119 = some (.ireturn, 0, 0, 0) := by decide +kernel
theorem e23_120 : vm_ent 23 120 = some (.iload 6, 0, 0, 0) := by decide +kernel
theorem e23_122 : vm_ent 23 122 = some (.ifCond .ne 17, 139, 0, 0) := by decide +kernel
theorem e23_125 : vm_ent 23 125 = some (.aload_n 0, 0, 0, 0) := by decide +kernel
theorem e23_126 : vm_ent 23 126 = some (.iload 5, 0, 0, 0) := by decide +kernel
theorem e23_128 : vm_ent 23 128 = some (.invokevirtual 58, 24, 4, 340) := by decide +kernel
theorem e23_131 : vm_ent 23 131 = some (.aload_n 0, 0, 0, 0) := by decide +kernel
theorem e23_132 : vm_ent 23 132 = some (.getfield 9, 1, 0, 105) := by decide +kernel
theorem e23_135 : vm_ent 23 135 = some (.iload 5, 0, 0, 0) := by decide +kernel
theorem e23_137 : vm_ent 23 137 = some (.lload_n 1, 0, 0, 0) := by decide +kernel
theorem e23_138 : vm_ent 23 138 = some (.lastore, 0, 0, 0) := by decide +kernel
theorem e23_139 : vm_ent 23 139 = some (.aload_n 0, 0, 0, 0) := by decide +kernel
theorem e23_140 : vm_ent 23 140 = some (.getfield 15, 1, 1, 109) := by decide +kernel
theorem e23_143 : vm_ent 23 143 = some (.iload 5, 0, 0, 0) := by decide +kernel
theorem e23_145 : vm_ent 23 145 = some (.lload 7, 0, 0, 0) := by decide +kernel
theorem e23_147 : vm_ent 23 147 = some (.lastore, 0, 0, 0) := by decide +kernel
theorem e23_148 : vm_ent 23 148 = some (.lload 7, 0, 0, 0) := by decide +kernel
theorem e23_150 : vm_ent 23 150 = some (.lconst 0, 0, 0, 0) := by decide +kernel
theorem e23_151 : vm_ent 23 151 = some (.lcmp, 0, 0, 0) := by decide +kernel
theorem e23_152 : vm_ent 23 152 = some (.ifCond .ne 9, 161, 0, 0) := by decide +kernel
theorem e23_155 : vm_ent 23 155 = some (.aload_n 0, 0, 0, 0) := by decide +kernel
theorem e23_156 : vm_ent 23 156 = some (.iload 5, 0, 0, 0) := by decide +kernel
theorem e23_158 : vm_ent 23 158 = some (.invokevirtual 62, 25, 4, 347) := by decide +kernel
theorem e23_161 : vm_ent 23 161 = some (.iconst 1, 0, 0, 0) := by decide +kernel
theorem e23_162 : vm_ent 23 162 = some (.ireturn, 0, 0, 0) := by decide +kernel
theorem e20_0 : vm_ent 20 0 = some (.aload_n 1, 0, 0, 0) := by decide +kernel
theorem e20_1 : vm_ent 20 1 = some (.getfield 28, 2, 0, 138) := by decide +kernel
theorem e20_4 : vm_ent 20 4 = some (.astore_n 2, 0, 0, 0) := by decide +kernel
theorem e20_5 : vm_ent 20 5 = some (.aload_n 1, 0, 0, 0) := by decide +kernel
theorem e20_6 : vm_ent 20 6 = some (.getfield 34, 2, 2, 148) := by decide +kernel
theorem e20_9 : vm_ent 20 9 = some (.i2l, 0, 0, 0) := by decide +kernel
theorem e20_10 : vm_ent 20 10 = some (.bipush 8, 0, 0, 0) := by decide +kernel
theorem e20_12 : vm_ent 20 12 = some (.aload_n 1, 0, 0, 0) := by decide +kernel
theorem e20_13 : vm_ent 20 13 = some (.getfield 37, 2, 1, 143) := by decide +kernel
theorem e20_16 : vm_ent 20 16 = some (.imul, 0, 0, 0) := by decide +kernel
theorem e20_17 : vm_ent 20 17 = some (.lshl, 0, 0, 0) := by decide +kernel
theorem e20_18 : vm_ent 20 18 = some (.lstore_n 3, 0, 0, 0) := by decide +kernel
theorem e20_19 : vm_ent 20 19 = some (.aload_n 0, 0, 0, 0) := by decide +kernel
theorem e20_20 : vm_ent 20 20 = some (.iconst 0, 0, 0, 0) := by decide +kernel
theorem e20_21 : vm_ent 20 21 = some (.putfield 18, 1, 2, 113) := by decide +kernel
theorem e20_24 : vm_ent 20 24 = some (.iconst 0, 0, 0, 0) := by decide +kernel
theorem e20_25 : vm_ent 20 25 = some (.istore 5, 0, 0, 0) := by decide +kernel
theorem e20_27 : vm_ent 20 27 = some (.iload 5, 0, 0, 0) := by decide +kernel
theorem e20_29 : vm_ent 20 29 = some (.aload_n 2, 0, 0, 0) := by decide +kernel
theorem e20_30 : vm_ent 20 30 = some (.getfield 18, 1, 2, 113) := by decide +kernel
theorem e20_33 : vm_ent 20 33 = some (.if_icmp .ge 74, 107, 0, 0) := by decide +kernel
theorem e20_36 : vm_ent 20 36 = some (.aload_n 2, 0, 0, 0) := by decide +kernel
theorem e20_37 : vm_ent 20 37 = some (.getfield 9, 1, 0, 105) := by decide +kernel
theorem e20_40 : vm_ent 20 40 = some (.iload 5, 0, 0, 0) := by decide +kernel
theorem e20_42 : vm_ent 20 42 = some (.laload, 0, 0, 0) := by decide +kernel
theorem e20_43 : vm_ent 20 43 = some (.aload_n 1, 0, 0, 0) := by decide +kernel
theorem e20_44 : vm_ent 20 44 = some (.getfield 37, 2, 1, 143) := by decide +kernel
theorem e20_47 : vm_ent 20 47 = some (.invokestatic 40, 73, 3, 397) := by decide +kernel
theorem e20_50 : vm_ent 20 50 = some (.aload_n 1, 0, 0, 0) := by decide +kernel
theorem e20_51 : vm_ent 20 51 = some (.getfield 34, 2, 2, 148) := by decide +kernel
theorem e20_54 : vm_ent 20 54 = some (.if_icmp .ne 47, 101, 0, 0) := by decide +kernel
theorem e20_57 : vm_ent 20 57 = some (.aload_n 0, 0, 0, 0) := by decide +kernel
theorem e20_58 : vm_ent 20 58 = some (.getfield 9, 1, 0, 105) := by decide +kernel
theorem e20_61 : vm_ent 20 61 = some (.aload_n 0, 0, 0, 0) := by decide +kernel
theorem e20_62 : vm_ent 20 62 = some (.getfield 18, 1, 2, 113) := by decide +kernel
theorem e20_65 : vm_ent 20 65 = some (.aload_n 2, 0, 0, 0) := by decide +kernel
theorem e20_66 : vm_ent 20 66 = some (.getfield 9, 1, 0, 105) := by decide +kernel
theorem e20_69 : vm_ent 20 69 = some (.iload 5, 0, 0, 0) := by decide +kernel
theorem e20_71 : vm_ent 20 71 = some (.laload, 0, 0, 0) := by decide +kernel
theorem e20_72 : vm_ent 20 72 = some (.lload_n 3, 0, 0, 0) := by decide +kernel
theorem e20_73 : vm_ent 20 73 = some (.lsub, 0, 0, 0) := by decide +kernel
theorem e20_74 : vm_ent 20 74 = some (.lastore, 0, 0, 0) := by decide +kernel
theorem e20_75 : vm_ent 20 75 = some (.aload_n 0, 0, 0, 0) := by decide +kernel
theorem e20_76 : vm_ent 20 76 = some (.getfield 15, 1, 1, 109) := by decide +kernel
theorem e20_79 : vm_ent 20 79 = some (.aload_n 0, 0, 0, 0) := by decide +kernel
theorem e20_80 : vm_ent 20 80 = some (.getfield 18, 1, 2, 113) := by decide +kernel
theorem e20_83 : vm_ent 20 83 = some (.aload_n 2, 0, 0, 0) := by decide +kernel
theorem e20_84 : vm_ent 20 84 = some (.getfield 15, 1, 1, 109) := by decide +kernel
theorem e20_87 : vm_ent 20 87 = some (.iload 5, 0, 0, 0) := by decide +kernel
theorem e20_89 : vm_ent 20 89 = some (.laload, 0, 0, 0) := by decide +kernel
theorem e20_90 : vm_ent 20 90 = some (.lastore, 0, 0, 0) := by decide +kernel
theorem e20_91 : vm_ent 20 91 = some (.aload_n 0, 0, 0, 0) := by decide +kernel
theorem e20_92 : vm_ent 20 92 = some (.dup, 0, 0, 0) := by decide +kernel
theorem e20_93 : vm_ent 20 93 = some (.getfield 18, 1, 2, 113) := by decide +kernel
theorem e20_96 : vm_ent 20 96 = some (.iconst 1, 0, 0, 0) := by decide +kernel
theorem e20_97 : vm_ent 20 97 = some (.iadd, 0, 0, 0) := by decide +kernel
theorem e20_98 : vm_ent 20 98 = some (.putfield 18, 1, 2, 113) := by decide +kernel
theorem e20_101 : vm_ent 20 101 = some (.iinc 5 1, 0, 0, 0) := by decide +kernel
theorem e20_104 : vm_ent 20 104 = some (.goto (-77), 27, 0, 0) := by decide +kernel
theorem e20_107 : vm_ent 20 107 = some (.return_, 0, 0, 0) := by decide +kernel
theorem e29_0 : vm_ent 29 0 = some (.aload_n 0, 0, 0, 0) := by decide +kernel
theorem e29_1 : vm_ent 29 1 = some (.getfield 12, 2, 0, 135) := by decide +kernel
theorem e29_4 : vm_ent 29 4 = some (.aload_n 1, 0, 0, 0) := by decide +kernel
theorem e29_5 : vm_ent 29 5 = some (.invokevirtual 22, 19, 4, 375) := by decide +kernel
theorem e29_8 : vm_ent 29 8 = some (.aload_n 0, 0, 0, 0) := by decide +kernel
theorem e29_9 : vm_ent 29 9 = some (.getfield 12, 2, 0, 135) := by decide +kernel
theorem e29_12 : vm_ent 29 12 = some (.invokevirtual 26, 26, 4, 379) := by decide +kernel
theorem e29_15 : vm_ent 29 15 = some (.aload_n 0, 0, 0, 0) := by decide +kernel
theorem e29_16 : vm_ent 29 16 = some (.aload_n 2, 0, 0, 0) := by decide +kernel
theorem e29_17 : vm_ent 29 17 = some (.aload_n 0, 0, 0, 0) := by decide +kernel
theorem e29_18 : vm_ent 29 18 = some (.getfield 12, 2, 0, 135) := by decide +kernel
theorem e29_21 : vm_ent 29 21 = some (.invokevirtual 29, 12, 4, 389) := by decide +kernel
theorem e29_24 : vm_ent 29 24 = some (.putfield 18, 2, 1, 140) := by decide +kernel
theorem e29_27 : vm_ent 29 27 = some (.aload_n 0, 0, 0, 0) := by decide +kernel
theorem e29_28 : vm_ent 29 28 = some (.aload_n 0, 0, 0, 0) := by decide +kernel
theorem e29_29 : vm_ent 29 29 = some (.getfield 18, 2, 1, 140) := by decide +kernel
theorem e29_32 : vm_ent 29 32 = some (.iconst (-1), 0, 0, 0) := by decide +kernel
theorem e29_33 : vm_ent 29 33 = some (.if_icmp .ne 7, 40, 0, 0) := by decide +kernel
theorem e29_36 : vm_ent 29 36 = some (.iconst 0, 0, 0, 0) := by decide +kernel
theorem e29_37 : vm_ent 29 37 = some (.goto 14, 51, 0, 0) := by decide +kernel
theorem e29_40 : vm_ent 29 40 = some (.aload_n 0, 0, 0, 0) := by decide +kernel
theorem e29_41 : vm_ent 29 41 = some (.getfield 12, 2, 0, 135) := by decide +kernel
theorem e29_44 : vm_ent 29 44 = some (.aload_n 0, 0, 0, 0) := by decide +kernel
theorem e29_45 : vm_ent 29 45 = some (.getfield 18, 2, 1, 140) := by decide +kernel
theorem e29_48 : vm_ent 29 48 = some (.invokevirtual 35, 22, 4, 401) := by decide +kernel
theorem e29_51 : vm_ent 29 51 = some (.putfield 39, 2, 2, 146) := by decide +kernel
theorem e29_54 : vm_ent 29 54 = some (.return_, 0, 0, 0) := by decide +kernel
theorem e30_0 : vm_ent 30 0 = some (.aload_n 0, 0, 0, 0) := by decide +kernel
theorem e30_1 : vm_ent 30 1 = some (.getfield 18, 2, 1, 140) := by decide +kernel
theorem e30_4 : vm_ent 30 4 = some (.aload_n 1, 0, 0, 0) := by decide +kernel
theorem e30_5 : vm_ent 30 5 = some (.getfield 18, 2, 1, 140) := by decide +kernel
theorem e30_8 : vm_ent 30 8 = some (.if_icmp .eq 20, 28, 0, 0) := by decide +kernel
theorem e30_11 : vm_ent 30 11 = some (.aload_n 0, 0, 0, 0) := by decide +kernel
theorem e30_12 : vm_ent 30 12 = some (.getfield 18, 2, 1, 140) := by decide +kernel
theorem e30_15 : vm_ent 30 15 = some (.aload_n 1, 0, 0, 0) := by decide +kernel
theorem e30_16 : vm_ent 30 16 = some (.getfield 18, 2, 1, 140) := by decide +kernel
theorem e30_19 : vm_ent 30 19 = some (.if_icmp .ge 7, 26, 0, 0) := by decide +kernel
theorem e30_22 : vm_ent 30 22 = some (.iconst 1, 0, 0, 0) := by decide +kernel
theorem e30_23 : vm_ent 30 23 = some (.goto 4, 27, 0, 0) := by decide +kernel
theorem e30_26 : vm_ent 30 26 = some (.iconst 0, 0, 0, 0) := by decide +kernel
theorem e30_27 : vm_ent 30 27 = some (.ireturn, 0, 0, 0) := by decide +kernel
theorem e30_28 : vm_ent 30 28 = some (.aload_n 0, 0, 0, 0) := by decide +kernel
theorem e30_29 : vm_ent 30 29 = some (.getfield 39, 2, 2, 146) := by decide +kernel
theorem e30_32 : vm_ent 30 32 = some (.aload_n 1, 0, 0, 0) := by decide +kernel
theorem e30_33 : vm_ent 30 33 = some (.getfield 39, 2, 2, 146) := by decide +kernel
theorem e30_36 : vm_ent 30 36 = some (.if_icmp .eq 20, 56, 0, 0) := by decide +kernel
theorem e30_39 : vm_ent 30 39 = some (.aload_n 0, 0, 0, 0) := by decide +kernel
theorem e30_40 : vm_ent 30 40 = some (.getfield 39, 2, 2, 146) := by decide +kernel
theorem e30_43 : vm_ent 30 43 = some (.aload_n 1, 0, 0, 0) := by decide +kernel
theorem e30_44 : vm_ent 30 44 = some (.getfield 39, 2, 2, 146) := by decide +kernel
theorem e30_47 : vm_ent 30 47 = some (.if_icmp .ge 7, 54, 0, 0) := by decide +kernel
theorem e30_50 : vm_ent 30 50 = some (.iconst 1, 0, 0, 0) := by decide +kernel
theorem e30_51 : vm_ent 30 51 = some (.goto 4, 55, 0, 0) := by decide +kernel
theorem e30_54 : vm_ent 30 54 = some (.iconst 0, 0, 0, 0) := by decide +kernel
theorem e30_55 : vm_ent 30 55 = some (.ireturn, 0, 0, 0) := by decide +kernel
theorem e30_56 : vm_ent 30 56 = some (.aload_n 0, 0, 0, 0) := by decide +kernel
theorem e30_57 : vm_ent 30 57 = some (.getfield 12, 2, 0, 135) := by decide +kernel
theorem e30_60 : vm_ent 30 60 = some (.getfield 41, 1, 2, 115) := by decide +kernel
theorem e30_63 : vm_ent 30 63 = some (.aload_n 1, 0, 0, 0) := by decide +kernel
theorem e30_64 : vm_ent 30 64 = some (.getfield 12, 2, 0, 135) := by decide +kernel
theorem e30_67 : vm_ent 30 67 = some (.getfield 41, 1, 2, 115) := by decide +kernel
theorem e30_70 : vm_ent 30 70 = some (.if_icmp .ge 7, 77, 0, 0) := by decide +kernel
theorem e30_73 : vm_ent 30 73 = some (.iconst 1, 0, 0, 0) := by decide +kernel
theorem e30_74 : vm_ent 30 74 = some (.goto 4, 78, 0, 0) := by decide +kernel
theorem e30_77 : vm_ent 30 77 = some (.iconst 0, 0, 0, 0) := by decide +kernel
theorem e30_78 : vm_ent 30 78 = some (.ireturn, 0, 0, 0) := by decide +kernel
theorem e34_0 : vm_ent 34 0 = some (.aload_n 0, 0, 0, 0) := by decide +kernel
theorem e34_1 : vm_ent 34 1 = some (.getfield 9, 3, 0, 179) := by decide +kernel
theorem e34_4 : vm_ent 34 4 = some (.astore_n 1, 0, 0, 0) := by decide +kernel
theorem e34_5 : vm_ent 34 5 = some (.aload_n 0, 0, 0, 0) := by decide +kernel
theorem e34_6 : vm_ent 34 6 = some (.getfield 15, 3, 1, 180) := by decide +kernel
theorem e34_9 : vm_ent 34 9 = some (.astore_n 2, 0, 0, 0) := by decide +kernel
theorem e34_10 : vm_ent 34 10 = some (.aload_n 0, 0, 0, 0) := by decide +kernel
theorem e34_11 : vm_ent 34 11 = some (.aload_n 0, 0, 0, 0) := by decide +kernel
theorem e34_12 : vm_ent 34 12 = some (.getfield 18, 3, 2, 181) := by decide +kernel
theorem e34_15 : vm_ent 34 15 = some (.putfield 9, 3, 0, 179) := by decide +kernel
theorem e34_18 : vm_ent 34 18 = some (.aload_n 0, 0, 0, 0) := by decide +kernel
theorem e34_19 : vm_ent 34 19 = some (.aload_n 0, 0, 0, 0) := by decide +kernel
theorem e34_20 : vm_ent 34 20 = some (.getfield 21, 3, 3, 182) := by decide +kernel
theorem e34_23 : vm_ent 34 23 = some (.putfield 15, 3, 1, 180) := by decide +kernel
theorem e34_26 : vm_ent 34 26 = some (.aload_n 0, 0, 0, 0) := by decide +kernel
theorem e34_27 : vm_ent 34 27 = some (.aload_n 1, 0, 0, 0) := by decide +kernel
theorem e34_28 : vm_ent 34 28 = some (.putfield 18, 3, 2, 181) := by decide +kernel
theorem e34_31 : vm_ent 34 31 = some (.aload_n 0, 0, 0, 0) := by decide +kernel
theorem e34_32 : vm_ent 34 32 = some (.aload_n 2, 0, 0, 0) := by decide +kernel
theorem e34_33 : vm_ent 34 33 = some (.putfield 21, 3, 3, 182) := by decide +kernel
theorem e34_36 : vm_ent 34 36 = some (.return_, 0, 0, 0) := by decide +kernel
theorem e36_0 : vm_ent 36 0 = some (.aload_n 0, 0, 0, 0) := by decide +kernel
theorem e36_1 : vm_ent 36 1 = some (.getfield 9, 3, 0, 179) := by decide +kernel
theorem e36_4 : vm_ent 36 4 = some (.iconst 0, 0, 0, 0) := by decide +kernel
theorem e36_5 : vm_ent 36 5 = some (.aload_n 1, 0, 0, 0) := by decide +kernel
theorem e36_6 : vm_ent 36 6 = some (.getfield 46, 1, 0, 106) := by decide +kernel
theorem e36_9 : vm_ent 36 9 = some (.iconst 0, 0, 0, 0) := by decide +kernel
theorem e36_10 : vm_ent 36 10 = some (.aload_n 0, 0, 0, 0) := by decide +kernel
theorem e36_11 : vm_ent 36 11 = some (.getfield 42, 3, 4, 183) := by decide +kernel
theorem e36_14 : vm_ent 36 14 = some (.invokestatic 64, 9999, 9, 457) := by decide +kernel
theorem e36_17 : vm_ent 36 17 = some (.aload_n 0, 0, 0, 0) := by decide +kernel
theorem e36_18 : vm_ent 36 18 = some (.getfield 15, 3, 1, 180) := by decide +kernel
theorem e36_21 : vm_ent 36 21 = some (.iconst 0, 0, 0, 0) := by decide +kernel
theorem e36_22 : vm_ent 36 22 = some (.aload_n 1, 0, 0, 0) := by decide +kernel
theorem e36_23 : vm_ent 36 23 = some (.getfield 51, 1, 1, 110) := by decide +kernel
theorem e36_26 : vm_ent 36 26 = some (.iconst 0, 0, 0, 0) := by decide +kernel
theorem e36_27 : vm_ent 36 27 = some (.aload_n 0, 0, 0, 0) := by decide +kernel
theorem e36_28 : vm_ent 36 28 = some (.getfield 42, 3, 4, 183) := by decide +kernel
theorem e36_31 : vm_ent 36 31 = some (.invokestatic 64, 9999, 9, 457) := by decide +kernel
theorem e36_34 : vm_ent 36 34 = some (.aload_n 1, 0, 0, 0) := by decide +kernel
theorem e36_35 : vm_ent 36 35 = some (.aload_n 0, 0, 0, 0) := by decide +kernel
theorem e36_36 : vm_ent 36 36 = some (.getfield 42, 3, 4, 183) := by decide +kernel
theorem e36_39 : vm_ent 36 39 = some (.putfield 45, 1, 2, 114) := by decide +kernel
theorem e36_42 : vm_ent 36 42 = some (.return_, 0, 0, 0) := by decide +kernel
theorem e35_0 : vm_ent 35 0 = some (.aload_n 0, 0, 0, 0) := by decide +kernel
theorem e35_1 : vm_ent 35 1 = some (.getfield 42, 3, 4, 183) := by decide +kernel
theorem e35_4 : vm_ent 35 4 = some (.bipush 60, 0, 0, 0) := by decide +kernel
theorem e35_6 : vm_ent 35 6 = some (.if_icmp .le 5, 11, 0, 0) := by decide +kernel
theorem e35_9 : vm_ent 35 9 = some (.iconst 0, 0, 0, 0) := by decide +kernel
theorem e35_10 : vm_ent 35 10 = some (.ireturn, 0, 0, 0) := by decide +kernel
theorem e35_11 : vm_ent 35 11 = some (.iconst 0, 0, 0, 0) := by decide +kernel
theorem e35_12 : vm_ent 35 12 = some (.istore_n 1, 0, 0, 0) := by decide +kernel
theorem e35_13 : vm_ent 35 13 = some (.iload_n 1, 0, 0, 0) := by decide +kernel
theorem e35_14 : vm_ent 35 14 = some (.aload_n 0, 0, 0, 0) := by decide +kernel
theorem e35_15 : vm_ent 35 15 = some (.getfield 42, 3, 4, 183) := by decide +kernel
theorem e35_18 : vm_ent 35 18 = some (.if_icmp .ge 38, 56, 0, 0) := by decide +kernel
theorem e35_21 : vm_ent 35 21 = some (.aload_n 0, 0, 0, 0) := by decide +kernel
theorem e35_22 : vm_ent 35 22 = some (.getfield 15, 3, 1, 180) := by decide +kernel
theorem e35_25 : vm_ent 35 25 = some (.iload_n 1, 0, 0, 0) := by decide +kernel
theorem e35_26 : vm_ent 35 26 = some (.laload, 0, 0, 0) := by decide +kernel
theorem e35_27 : vm_ent 35 27 = some (.invokestatic 73, 74, 3, 466) := by decide +kernel
theorem e35_30 : vm_ent 35 30 = some (.ifCond .eq 18, 48, 0, 0) := by decide +kernel
theorem e35_33 : vm_ent 35 33 = some (.aload_n 0, 0, 0, 0) := by decide +kernel
theorem e35_34 : vm_ent 35 34 = some (.getfield 9, 3, 0, 179) := by decide +kernel
theorem e35_37 : vm_ent 35 37 = some (.iload_n 1, 0, 0, 0) := by decide +kernel
theorem e35_38 : vm_ent 35 38 = some (.laload, 0, 0, 0) := by decide +kernel
theorem e35_39 : vm_ent 35 39 = some (.ldc2_w 77, 17361641481138401520, 0, 467) := by decide +kernel
theorem e35_42 : vm_ent 35 42 = some (.land, 0, 0, 0) := by decide +kernel
theorem e35_43 : vm_ent 35 43 = some (.lconst 0, 0, 0, 0) := by decide +kernel
theorem e35_44 : vm_ent 35 44 = some (.lcmp, 0, 0, 0) := by decide +kernel
theorem e35_45 : vm_ent 35 45 = some (.ifCond .eq 5, 50, 0, 0) := by decide +kernel
theorem e35_48 : vm_ent 35 48 = some (.iconst 0, 0, 0, 0) := by decide +kernel
theorem e35_49 : vm_ent 35 49 = some (.ireturn, 0, 0, 0) := by decide +kernel
theorem e35_50 : vm_ent 35 50 = some (.iinc 1 1, 0, 0, 0) := by decide +kernel
theorem e35_53 : vm_ent 35 53 = some (.goto (-40), 13, 0, 0) := by decide +kernel
theorem e35_56 : vm_ent 35 56 = some (.iconst 1, 0, 0, 0) := by decide +kernel
theorem e35_57 : vm_ent 35 57 = some (.ireturn, 0, 0, 0) := by decide +kernel
theorem e33_0 : vm_ent 33 0 = some (.aload_n 0, 0, 0, 0) := by decide +kernel
theorem e33_1 : vm_ent 33 1 = some (.getfield 42, 3, 4, 183) := by decide +kernel
theorem e33_4 : vm_ent 33 4 = some (.aload 5, 0, 0, 0) := by decide +kernel
theorem e33_6 : vm_ent 33 6 = some (.getfield 45, 1, 2, 114) := by decide +kernel
theorem e33_9 : vm_ent 33 9 = some (.iadd, 0, 0, 0) := by decide +kernel
theorem e33_10 : vm_ent 33 10 = some (.sipush 3660, 0, 0, 0) := by decide +kernel
theorem e33_13 : vm_ent 33 13 = some (.if_icmp .le 5, 18, 0, 0) := by decide +kernel
theorem e33_16 : vm_ent 33 16 = some (.iconst 0, 0, 0, 0) := by decide +kernel
theorem e33_17 : vm_ent 33 17 = some (.ireturn, 0, 0, 0) := by decide +kernel
theorem e33_18 : vm_ent 33 18 = some (.iconst 0, 0, 0, 0) := by decide +kernel
theorem e33_19 : vm_ent 33 19 = some (.istore 8, 0, 0, 0) := by decide +kernel
theorem e33_21 : vm_ent 33 21 = some (.iconst 0, 0, 0, 0) := by decide +kernel
theorem e33_22 : vm_ent 33 22 = some (.istore 9, 0, 0, 0) := by decide +kernel
theorem e33_24 : vm_ent 33 24 = some (.iconst 0, 0, 0, 0) := by decide +kernel
theorem e33_25 : vm_ent 33 25 = some (.istore 10, 0, 0, 0) := by decide +kernel
theorem e33_27 : vm_ent 33 27 = some (.iload 10, 0, 0, 0) := by decide +kernel
theorem e33_29 : vm_ent 33 29 = some (.aload 5, 0, 0, 0) := by decide +kernel
theorem e33_31 : vm_ent 33 31 = some (.getfield 45, 1, 2, 114) := by decide +kernel
theorem e33_34 : vm_ent 33 34 = some (.if_icmp .ge 178, 212, 0, 0) := by decide +kernel
theorem e33_37 : vm_ent 33 37 = some (.aload 5, 0, 0, 0) := by decide +kernel
theorem e33_39 : vm_ent 33 39 = some (.getfield 46, 1, 0, 106) := by decide +kernel
theorem e33_42 : vm_ent 33 42 = some (.iload 10, 0, 0, 0) := by decide +kernel
theorem e33_44 : vm_ent 33 44 = some (.laload, 0, 0, 0) := by decide +kernel
theorem e33_45 : vm_ent 33 45 = some (.iload 6, 0, 0, 0) := by decide +kernel
theorem e33_47 : vm_ent 33 47 = some (.invokestatic 47, 73, 3, 452) := by decide +kernel
theorem e33_50 : vm_ent 33 50 = some (.iload 7, 0, 0, 0) := by decide +kernel
theorem e33_52 : vm_ent 33 52 = some (.if_icmp .ne 6, 58, 0, 0) := by decide +kernel
theorem e33_55 : vm_ent 33 55 = some (.goto 151, 206, 0, 0) := by decide +kernel
theorem e33_58 : vm_ent 33 58 = some (.aload 5, 0, 0, 0) := by decide +kernel
theorem e33_60 : vm_ent 33 60 = some (.getfield 46, 1, 0, 106) := by decide +kernel
theorem e33_63 : vm_ent 33 63 = some (.iload 10, 0, 0, 0) := by decide +kernel
theorem e33_65 : vm_ent 33 65 = some (.laload, 0, 0, 0) := by decide +kernel
theorem e33_66 : vm_ent 33 66 = some (.lload_n 1, 0, 0, 0) := by decide +kernel
theorem e33_67 : vm_ent 33 67 = some (.ladd, 0, 0, 0) := by decide +kernel
theorem e33_68 : vm_ent 33 68 = some (.lstore 11, 0, 0, 0) := by decide +kernel
theorem e33_70 : vm_ent 33 70 = some (.aload 5, 0, 0, 0) := by decide +kernel
theorem e33_72 : vm_ent 33 72 = some (.getfield 51, 1, 1, 110) := by decide +kernel
theorem e33_75 : vm_ent 33 75 = some (.iload 10, 0, 0, 0) := by decide +kernel
theorem e33_77 : vm_ent 33 77 = some (.laload, 0, 0, 0) := by decide +kernel
theorem e33_78 : vm_ent 33 78 = some (.lload_n 3, 0, 0, 0) := by decide +kernel
theorem e33_79 : vm_ent 33 79 = some (.lmul, 0, 0, 0) := by decide +kernel
theorem e33_80 : vm_ent 33 80 = some (.lstore 13, 0, 0, 0) := by decide +kernel
theorem e33_82 : vm_ent 33 82 = some (.iload 8, 0, 0, 0) := by decide +kernel
theorem e33_84 : vm_ent 33 84 = some (.aload_n 0, 0, 0, 0) := by decide +kernel
theorem e33_85 : vm_ent 33 85 = some (.getfield 42, 3, 4, 183) := by decide +kernel
theorem e33_88 : vm_ent 33 88 = some (.if_icmp .ge 53, 141, 0, 0) := by decide +kernel
theorem e33_91 : vm_ent 33 91 = some (.aload_n 0, 0, 0, 0) := by decide +kernel
theorem e33_92 : vm_ent 33 92 = some (.getfield 9, 3, 0, 179) := by decide +kernel
theorem e33_95 : vm_ent 33 95 = some (.iload 8, 0, 0, 0) := by decide +kernel
theorem e33_97 : vm_ent 33 97 = some (.laload, 0, 0, 0) := by decide +kernel
theorem e33_98 : vm_ent 33 98 = some (.lload 11, 0, 0, 0) := by decide +kernel
theorem e33_100 : vm_ent 33 100 = some (.lcmp, 0, 0, 0) := by decide +kernel
theorem e33_101 : vm_ent 33 101 = some (.ifCond .le 40, 141, 0, 0) := by decide +kernel
theorem e33_104 : vm_ent 33 104 = some (.aload_n 0, 0, 0, 0) := by decide +kernel
theorem e33_105 : vm_ent 33 105 = some (.getfield 18, 3, 2, 181) := by decide +kernel
theorem e33_108 : vm_ent 33 108 = some (.iload 9, 0, 0, 0) := by decide +kernel
theorem e33_110 : vm_ent 33 110 = some (.aload_n 0, 0, 0, 0) := by decide +kernel
theorem e33_111 : vm_ent 33 111 = some (.getfield 9, 3, 0, 179) := by decide +kernel
theorem e33_114 : vm_ent 33 114 = some (.iload 8, 0, 0, 0) := by decide +kernel
theorem e33_116 : vm_ent 33 116 = some (.laload, 0, 0, 0) := by decide +kernel
theorem e33_117 : vm_ent 33 117 = some (.lastore, 0, 0, 0) := by decide +kernel
theorem e33_118 : vm_ent 33 118 = some (.aload_n 0, 0, 0, 0) := by decide +kernel
theorem e33_119 : vm_ent 33 119 = some (.getfield 21, 3, 3, 182) := by decide +kernel
theorem e33_122 : vm_ent 33 122 = some (.iload 9, 0, 0, 0) := by decide +kernel
theorem e33_124 : vm_ent 33 124 = some (.aload_n 0, 0, 0, 0) := by decide +kernel
theorem e33_125 : vm_ent 33 125 = some (.getfield 15, 3, 1, 180) := by decide +kernel
theorem e33_128 : vm_ent 33 128 = some (.iload 8, 0, 0, 0) := by decide +kernel
theorem e33_130 : vm_ent 33 130 = some (.laload, 0, 0, 0) := by decide +kernel
theorem e33_131 : vm_ent 33 131 = some (.lastore, 0, 0, 0) := by decide +kernel
theorem e33_132 : vm_ent 33 132 = some (.iinc 8 1, 0, 0, 0) := by decide +kernel
theorem e33_135 : vm_ent 33 135 = some (.iinc 9 1, 0, 0, 0) := by decide +kernel
theorem e33_138 : vm_ent 33 138 = some (.goto (-56), 82, 0, 0) := by decide +kernel
theorem e33_141 : vm_ent 33 141 = some (.iload 8, 0, 0, 0) := by decide +kernel
theorem e33_143 : vm_ent 33 143 = some (.aload_n 0, 0, 0, 0) := by decide +kernel
theorem e33_144 : vm_ent 33 144 = some (.getfield 42, 3, 4, 183) := by decide +kernel
theorem e33_147 : vm_ent 33 147 = some (.if_icmp .ge 31, 178, 0, 0) := by decide +kernel
theorem e33_150 : vm_ent 33 150 = some (.aload_n 0, 0, 0, 0) := by decide +kernel
theorem e33_151 : vm_ent 33 151 = some (.getfield 9, 3, 0, 179) := by decide +kernel
theorem e33_154 : vm_ent 33 154 = some (.iload 8, 0, 0, 0) := by decide +kernel
theorem e33_156 : vm_ent 33 156 = some (.laload, 0, 0, 0) := by decide +kernel
theorem e33_157 : vm_ent 33 157 = some (.lload 11, 0, 0, 0) := by decide +kernel
theorem e33_159 : vm_ent 33 159 = some (.lcmp, 0, 0, 0) := by decide +kernel
theorem e33_160 : vm_ent 33 160 = some (.ifCond .ne 18, 178, 0, 0) := by decide +kernel
theorem e33_163 : vm_ent 33 163 = some (.lload 13, 0, 0, 0) := by decide +kernel
theorem e33_165 : vm_ent 33 165 = some (.aload_n 0, 0, 0, 0) := by decide +kernel
theorem e33_166 : vm_ent 33 166 = some (.getfield 15, 3, 1, 180) := by decide +kernel
theorem e33_169 : vm_ent 33 169 = some (.iload 8, 0, 0, 0) := by decide +kernel
theorem e33_171 : vm_ent 33 171 = some (.laload, 0, 0, 0) := by decide +kernel
theorem e33_172 : vm_ent 33 172 = some (.ladd, 0, 0, 0) := by decide +kernel
theorem e33_173 : vm_ent 33 173 = some (.lstore 13, 0, 0, 0) := by decide +kernel
theorem e33_175 : vm_ent 33 175 = some (.iinc 8 1, 0, 0, 0) := by decide +kernel
theorem e33_178 : vm_ent 33 178 = some (.lload 13, 0, 0, 0) := by decide +kernel
theorem e33_180 : vm_ent 33 180 = some (.lconst 0, 0, 0, 0) := by decide +kernel
theorem e33_181 : vm_ent 33 181 = some (.lcmp, 0, 0, 0) := by decide +kernel
theorem e33_182 : vm_ent 33 182 = some (.ifCond .eq 24, 206, 0, 0) := by decide +kernel
theorem e33_185 : vm_ent 33 185 = some (.aload_n 0, 0, 0, 0) := by decide +kernel
theorem e33_186 : vm_ent 33 186 = some (.getfield 18, 3, 2, 181) := by decide +kernel
theorem e33_189 : vm_ent 33 189 = some (.iload 9, 0, 0, 0) := by decide +kernel
theorem e33_191 : vm_ent 33 191 = some (.lload 11, 0, 0, 0) := by decide +kernel
theorem e33_193 : vm_ent 33 193 = some (.lastore, 0, 0, 0) := by decide +kernel
theorem e33_194 : vm_ent 33 194 = some (.aload_n 0, 0, 0, 0) := by decide +kernel
theorem e33_195 : vm_ent 33 195 = some (.getfield 21, 3, 3, 182) := by decide +kernel
theorem e33_198 : vm_ent 33 198 = some (.iload 9, 0, 0, 0) := by decide +kernel
theorem e33_200 : vm_ent 33 200 = some (.lload 13, 0, 0, 0) := by decide +kernel
theorem e33_202 : vm_ent 33 202 = some (.lastore, 0, 0, 0) := by decide +kernel
theorem e33_203 : vm_ent 33 203 = some (.iinc 9 1, 0, 0, 0) := by decide +kernel
theorem e33_206 : vm_ent 33 206 = some (.iinc 10 1, 0, 0, 0) := by decide +kernel
theorem e33_209 : vm_ent 33 209 = some (.goto (-182), 27, 0, 0) := by decide +kernel
theorem e33_212 : vm_ent 33 212 = some (.aload_n 0, 0, 0, 0) := by decide +kernel
theorem e33_213 : vm_ent 33 213 = some (.getfield 9, 3, 0, 179) := by decide +kernel
theorem e33_216 : vm_ent 33 216 = some (.iload 8, 0, 0, 0) := by decide +kernel
theorem e33_218 : vm_ent 33 218 = some (.aload_n 0, 0, 0, 0) := by decide +kernel
theorem e33_219 : vm_ent 33 219 = some (.getfield 18, 3, 2, 181) := by decide +kernel
theorem e33_222 : vm_ent 33 222 = some (.iload 9, 0, 0, 0) := by decide +kernel
theorem e33_224 : vm_ent 33 224 = some (.aload_n 0, 0, 0, 0) := by decide +kernel
theorem e33_225 : vm_ent 33 225 = some (.getfield 42, 3, 4, 183) := by decide +kernel
theorem e33_228 : vm_ent 33 228 = some (.iload 8, 0, 0, 0) := by decide +kernel
theorem e33_230 : vm_ent 33 230 = some (.isub, 0, 0, 0) := by decide +kernel
theorem e33_231 : vm_ent 33 231 = some (.invokestatic 64, 9999, 9, 457) := by decide +kernel
theorem e33_234 : vm_ent 33 234 = some (.aload_n 0, 0, 0, 0) := by decide +kernel
theorem e33_235 : vm_ent 33 235 = some (.getfield 15, 3, 1, 180) := by decide +kernel
theorem e33_238 : vm_ent 33 238 = some (.iload 8, 0, 0, 0) := by decide +kernel
theorem e33_240 : vm_ent 33 240 = some (.aload_n 0, 0, 0, 0) := by decide +kernel
theorem e33_241 : vm_ent 33 241 = some (.getfield 21, 3, 3, 182) := by decide +kernel
theorem e33_244 : vm_ent 33 244 = some (.iload 9, 0, 0, 0) := by decide +kernel
theorem e33_246 : vm_ent 33 246 = some (.aload_n 0, 0, 0, 0) := by decide +kernel
theorem e33_247 : vm_ent 33 247 = some (.getfield 42, 3, 4, 183) := by decide +kernel
theorem e33_250 : vm_ent 33 250 = some (.iload 8, 0, 0, 0) := by decide +kernel
theorem e33_252 : vm_ent 33 252 = some (.isub, 0, 0, 0) := by decide +kernel
theorem e33_253 : vm_ent 33 253 = some (.invokestatic 64, 9999, 9, 457) := by decide +kernel
theorem e33_256 : vm_ent 33 256 = some (.aload_n 0, 0, 0, 0) := by decide +kernel
theorem e33_257 : vm_ent 33 257 = some (.iload 9, 0, 0, 0) := by decide +kernel
theorem e33_259 : vm_ent 33 259 = some (.aload_n 0, 0, 0, 0) := by decide +kernel
theorem e33_260 : vm_ent 33 260 = some (.getfield 42, 3, 4, 183) := by decide +kernel
theorem e33_263 : vm_ent 33 263 = some (.iadd, 0, 0, 0) := by decide +kernel
theorem e33_264 : vm_ent 33 264 = some (.iload 8, 0, 0, 0) := by decide +kernel
theorem e33_266 : vm_ent 33 266 = some (.isub, 0, 0, 0) := by decide +kernel
theorem e33_267 : vm_ent 33 267 = some (.putfield 42, 3, 4, 183) := by decide +kernel
theorem e33_270 : vm_ent 33 270 = some (.aload_n 0, 0, 0, 0) := by decide +kernel
theorem e33_271 : vm_ent 33 271 = some (.invokevirtual 70, 34, 4, 458) := by decide +kernel
theorem e33_274 : vm_ent 33 274 = some (.iconst 1, 0, 0, 0) := by decide +kernel
theorem e33_275 : vm_ent 33 275 = some (.ireturn, 0, 0, 0) := by decide +kernel
theorem e32_0 : vm_ent 32 0 = some (.aload_n 2, 0, 0, 0) := by decide +kernel
theorem e32_1 : vm_ent 32 1 = some (.getfield 24, 2, 0, 136) := by decide +kernel
theorem e32_4 : vm_ent 32 4 = some (.astore_n 3, 0, 0, 0) := by decide +kernel
theorem e32_5 : vm_ent 32 5 = some (.aload_n 1, 0, 0, 0) := by decide +kernel
theorem e32_6 : vm_ent 32 6 = some (.aload_n 2, 0, 0, 0) := by decide +kernel
theorem e32_7 : vm_ent 32 7 = some (.getfield 30, 2, 1, 141) := by decide +kernel
theorem e32_10 : vm_ent 32 10 = some (.invokevirtual 34, 22, 4, 451) := by decide +kernel
theorem e32_13 : vm_ent 32 13 = some (.istore 4, 0, 0, 0) := by decide +kernel
theorem e32_15 : vm_ent 32 15 = some (.aload_n 2, 0, 0, 0) := by decide +kernel
theorem e32_16 : vm_ent 32 16 = some (.getfield 40, 2, 2, 145) := by decide +kernel
theorem e32_19 : vm_ent 32 19 = some (.i2l, 0, 0, 0) := by decide +kernel
theorem e32_20 : vm_ent 32 20 = some (.bipush 8, 0, 0, 0) := by decide +kernel
theorem e32_22 : vm_ent 32 22 = some (.aload_n 2, 0, 0, 0) := by decide +kernel
theorem e32_23 : vm_ent 32 23 = some (.getfield 30, 2, 1, 141) := by decide +kernel
theorem e32_26 : vm_ent 32 26 = some (.imul, 0, 0, 0) := by decide +kernel
theorem e32_27 : vm_ent 32 27 = some (.lshl, 0, 0, 0) := by decide +kernel
theorem e32_28 : vm_ent 32 28 = some (.lstore 5, 0, 0, 0) := by decide +kernel
theorem e32_30 : vm_ent 32 30 = some (.iconst 1, 0, 0, 0) := by decide +kernel
theorem e32_31 : vm_ent 32 31 = some (.istore 7, 0, 0, 0) := by decide +kernel
theorem e32_33 : vm_ent 32 33 = some (.aload_n 0, 0, 0, 0) := by decide +kernel
theorem e32_34 : vm_ent 32 34 = some (.iconst 0, 0, 0, 0) := by decide +kernel
theorem e32_35 : vm_ent 32 35 = some (.putfield 42, 3, 4, 183) := by decide +kernel
theorem e32_38 : vm_ent 32 38 = some (.iconst 0, 0, 0, 0) := by decide +kernel
theorem e32_39 : vm_ent 32 39 = some (.istore 8, 0, 0, 0) := by decide +kernel
theorem e32_41 : vm_ent 32 41 = some (.iload 8, 0, 0, 0) := by decide +kernel
theorem e32_43 : vm_ent 32 43 = some (.aload_n 3, 0, 0, 0) := by decide +kernel
theorem e32_44 : vm_ent 32 44 = some (.getfield 45, 1, 2, 114) := by decide +kernel
theorem e32_47 : vm_ent 32 47 = some (.if_icmp .ge 63, 110, 0, 0) := by decide +kernel
theorem e32_50 : vm_ent 32 50 = some (.aload_n 3, 0, 0, 0) := by decide +kernel
theorem e32_51 : vm_ent 32 51 = some (.getfield 46, 1, 0, 106) := by decide +kernel
theorem e32_54 : vm_ent 32 54 = some (.iload 8, 0, 0, 0) := by decide +kernel
theorem e32_56 : vm_ent 32 56 = some (.laload, 0, 0, 0) := by decide +kernel
theorem e32_57 : vm_ent 32 57 = some (.aload_n 2, 0, 0, 0) := by decide +kernel
theorem e32_58 : vm_ent 32 58 = some (.getfield 30, 2, 1, 141) := by decide +kernel
theorem e32_61 : vm_ent 32 61 = some (.invokestatic 47, 73, 3, 452) := by decide +kernel
theorem e32_64 : vm_ent 32 64 = some (.aload_n 2, 0, 0, 0) := by decide +kernel
theorem e32_65 : vm_ent 32 65 = some (.getfield 40, 2, 2, 145) := by decide +kernel
theorem e32_68 : vm_ent 32 68 = some (.if_icmp .ne 36, 104, 0, 0) := by decide +kernel
theorem e32_71 : vm_ent 32 71 = some (.iload 7, 0, 0, 0) := by decide +kernel
theorem e32_73 : vm_ent 32 73 = some (.aload_n 0, 0, 0, 0) := by decide +kernel
theorem e32_74 : vm_ent 32 74 = some (.aload_n 3, 0, 0, 0) := by decide +kernel
theorem e32_75 : vm_ent 32 75 = some (.getfield 46, 1, 0, 106) := by decide +kernel
theorem e32_78 : vm_ent 32 78 = some (.iload 8, 0, 0, 0) := by decide +kernel
theorem e32_80 : vm_ent 32 80 = some (.laload, 0, 0, 0) := by decide +kernel
theorem e32_81 : vm_ent 32 81 = some (.lload 5, 0, 0, 0) := by decide +kernel
theorem e32_83 : vm_ent 32 83 = some (.lsub, 0, 0, 0) := by decide +kernel
theorem e32_84 : vm_ent 32 84 = some (.aload_n 3, 0, 0, 0) := by decide +kernel
theorem e32_85 : vm_ent 32 85 = some (.getfield 51, 1, 1, 110) := by decide +kernel
theorem e32_88 : vm_ent 32 88 = some (.iload 8, 0, 0, 0) := by decide +kernel
theorem e32_90 : vm_ent 32 90 = some (.laload, 0, 0, 0) := by decide +kernel
theorem e32_91 : vm_ent 32 91 = some (.aload_n 1, 0, 0, 0) := by decide +kernel
theorem e32_92 : vm_ent 32 92 = some (.aload_n 2, 0, 0, 0) := by decide +kernel
theorem e32_93 : vm_ent 32 93 = some (.getfield 30, 2, 1, 141) := by decide +kernel
theorem e32_96 : vm_ent 32 96 = some (.iload 4, 0, 0, 0) := by decide +kernel
theorem e32_98 : vm_ent 32 98 = some (.invokevirtual 52, 33, 4, 453) := by decide +kernel
theorem e32_101 : vm_ent 32 101 = some (.iand, 0, 0, 0) := by decide +kernel
theorem e32_102 : vm_ent 32 102 = some (.istore 7, 0, 0, 0) := by decide +kernel
theorem e32_104 : vm_ent 32 104 = some (.iinc 8 1, 0, 0, 0) := by decide +kernel
theorem e32_107 : vm_ent 32 107 = some (.goto (-66), 41, 0, 0) := by decide +kernel
theorem e32_110 : vm_ent 32 110 = some (.iconst 0, 0, 0, 0) := by decide +kernel
theorem e32_111 : vm_ent 32 111 = some (.istore 8, 0, 0, 0) := by decide +kernel
theorem e32_113 : vm_ent 32 113 = some (.iload 8, 0, 0, 0) := by decide +kernel
theorem e32_115 : vm_ent 32 115 = some (.aload_n 1, 0, 0, 0) := by decide +kernel
theorem e32_116 : vm_ent 32 116 = some (.getfield 45, 1, 2, 114) := by decide +kernel
theorem e32_119 : vm_ent 32 119 = some (.if_icmp .ge 64, 183, 0, 0) := by decide +kernel
theorem e32_122 : vm_ent 32 122 = some (.aload_n 1, 0, 0, 0) := by decide +kernel
theorem e32_123 : vm_ent 32 123 = some (.getfield 46, 1, 0, 106) := by decide +kernel
theorem e32_126 : vm_ent 32 126 = some (.iload 8, 0, 0, 0) := by decide +kernel
theorem e32_128 : vm_ent 32 128 = some (.laload, 0, 0, 0) := by decide +kernel
theorem e32_129 : vm_ent 32 129 = some (.aload_n 2, 0, 0, 0) := by decide +kernel
theorem e32_130 : vm_ent 32 130 = some (.getfield 30, 2, 1, 141) := by decide +kernel
theorem e32_133 : vm_ent 32 133 = some (.invokestatic 47, 73, 3, 452) := by decide +kernel
theorem e32_136 : vm_ent 32 136 = some (.iload 4, 0, 0, 0) := by decide +kernel
theorem e32_138 : vm_ent 32 138 = some (.if_icmp .ne 39, 177, 0, 0) := by decide +kernel
theorem e32_141 : vm_ent 32 141 = some (.iload 7, 0, 0, 0) := by decide +kernel
theorem e32_143 : vm_ent 32 143 = some (.aload_n 0, 0, 0, 0) := by decide +kernel
theorem e32_144 : vm_ent 32 144 = some (.aload_n 1, 0, 0, 0) := by decide +kernel
theorem e32_145 : vm_ent 32 145 = some (.getfield 46, 1, 0, 106) := by decide +kernel
theorem e32_148 : vm_ent 32 148 = some (.iload 8, 0, 0, 0) := by decide +kernel
theorem e32_150 : vm_ent 32 150 = some (.laload, 0, 0, 0) := by decide +kernel
theorem e32_151 : vm_ent 32 151 = some (.lload 5, 0, 0, 0) := by decide +kernel
theorem e32_153 : vm_ent 32 153 = some (.lsub, 0, 0, 0) := by decide +kernel
theorem e32_154 : vm_ent 32 154 = some (.aload_n 1, 0, 0, 0) := by decide +kernel
theorem e32_155 : vm_ent 32 155 = some (.getfield 51, 1, 1, 110) := by decide +kernel
theorem e32_158 : vm_ent 32 158 = some (.iload 8, 0, 0, 0) := by decide +kernel
theorem e32_160 : vm_ent 32 160 = some (.laload, 0, 0, 0) := by decide +kernel
theorem e32_161 : vm_ent 32 161 = some (.lneg, 0, 0, 0) := by decide +kernel
theorem e32_162 : vm_ent 32 162 = some (.aload_n 3, 0, 0, 0) := by decide +kernel
theorem e32_163 : vm_ent 32 163 = some (.aload_n 2, 0, 0, 0) := by decide +kernel
theorem e32_164 : vm_ent 32 164 = some (.getfield 30, 2, 1, 141) := by decide +kernel
theorem e32_167 : vm_ent 32 167 = some (.aload_n 2, 0, 0, 0) := by decide +kernel
theorem e32_168 : vm_ent 32 168 = some (.getfield 40, 2, 2, 145) := by decide +kernel
theorem e32_171 : vm_ent 32 171 = some (.invokevirtual 52, 33, 4, 453) := by decide +kernel
theorem e32_174 : vm_ent 32 174 = some (.iand, 0, 0, 0) := by decide +kernel
theorem e32_175 : vm_ent 32 175 = some (.istore 7, 0, 0, 0) := by decide +kernel
theorem e32_177 : vm_ent 32 177 = some (.iinc 8 1, 0, 0, 0) := by decide +kernel
theorem e32_180 : vm_ent 32 180 = some (.goto (-67), 113, 0, 0) := by decide +kernel
theorem e32_183 : vm_ent 32 183 = some (.iload 7, 0, 0, 0) := by decide +kernel
theorem e32_185 : vm_ent 32 185 = some (.ifCond .eq 10, 195, 0, 0) := by decide +kernel
theorem e32_188 : vm_ent 32 188 = some (.aload_n 0, 0, 0, 0) := by decide +kernel
theorem e32_189 : vm_ent 32 189 = some (.invokevirtual 56, 35, 4, 462) := by decide +kernel
theorem e32_192 : vm_ent 32 192 = some (.ifCond .ne 5, 197, 0, 0) := by decide +kernel
theorem e32_195 : vm_ent 32 195 = some (.iconst 0, 0, 0, 0) := by decide +kernel
theorem e32_196 : vm_ent 32 196 = some (.ireturn, 0, 0, 0) := by decide +kernel
theorem e32_197 : vm_ent 32 197 = some (.aload_n 0, 0, 0, 0) := by decide +kernel
theorem e32_198 : vm_ent 32 198 = some (.aload_n 1, 0, 0, 0) := by decide +kernel
theorem e32_199 : vm_ent 32 199 = some (.invokevirtual 60, 36, 4, 468) := by decide +kernel
theorem e32_202 : vm_ent 32 202 = some (.iconst 1, 0, 0, 0) := by decide +kernel
theorem e32_203 : vm_ent 32 203 = some (.ireturn, 0, 0, 0) := by decide +kernel
theorem e42_0 : vm_ent 42 0 = some (.aload_n 2, 0, 0, 0) := by decide +kernel
theorem e42_1 : vm_ent 42 1 = some (.getfield 47, 1, 2, 116) := by decide +kernel
theorem e42_4 : vm_ent 42 4 = some (.ifCond .eq 11, 15, 0, 0) := by decide +kernel
theorem e42_7 : vm_ent 42 7 = some (.iload_n 1, 0, 0, 0) := by decide +kernel
theorem e42_8 : vm_ent 42 8 = some (.aload_n 0, 0, 0, 0) := by decide +kernel
theorem e42_9 : vm_ent 42 9 = some (.getfield 17, 4, 1, 166) := by decide +kernel
theorem e42_12 : vm_ent 42 12 = some (.if_icmp .lt 5, 17, 0, 0) := by decide +kernel
theorem e42_15 : vm_ent 42 15 = some (.iconst (-1), 0, 0, 0) := by decide +kernel
theorem e42_16 : vm_ent 42 16 = some (.ireturn, 0, 0, 0) := by decide +kernel
theorem e42_17 : vm_ent 42 17 = some (.iload_n 1, 0, 0, 0) := by decide +kernel
theorem e42_18 : vm_ent 42 18 = some (.istore_n 3, 0, 0, 0) := by decide +kernel
theorem e42_19 : vm_ent 42 19 = some (.iload_n 3, 0, 0, 0) := by decide +kernel
theorem e42_20 : vm_ent 42 20 = some (.ifCond .lt 36, 56, 0, 0) := by decide +kernel
theorem e42_23 : vm_ent 42 23 = some (.aload_n 2, 0, 0, 0) := by decide +kernel
theorem e42_24 : vm_ent 42 24 = some (.aload_n 0, 0, 0, 0) := by decide +kernel
theorem e42_25 : vm_ent 42 25 = some (.getfield 11, 4, 0, 164) := by decide +kernel
theorem e42_28 : vm_ent 42 28 = some (.iload_n 3, 0, 0, 0) := by decide +kernel
theorem e42_29 : vm_ent 42 29 = some (.aaload, 0, 0, 0) := by decide +kernel
theorem e42_30 : vm_ent 42 30 = some (.getfield 32, 2, 1, 142) := by decide +kernel
theorem e42_33 : vm_ent 42 33 = some (.invokevirtual 39, 22, 4, 423) := by decide +kernel
theorem e42_36 : vm_ent 42 36 = some (.aload_n 0, 0, 0, 0) := by decide +kernel
theorem e42_37 : vm_ent 42 37 = some (.getfield 11, 4, 0, 164) := by decide +kernel
theorem e42_40 : vm_ent 42 40 = some (.iload_n 3, 0, 0, 0) := by decide +kernel
theorem e42_41 : vm_ent 42 41 = some (.aaload, 0, 0, 0) := by decide +kernel
theorem e42_42 : vm_ent 42 42 = some (.getfield 45, 2, 2, 147) := by decide +kernel
theorem e42_45 : vm_ent 42 45 = some (.if_icmp .lt 5, 50, 0, 0) := by decide +kernel
theorem e42_48 : vm_ent 42 48 = some (.iload_n 3, 0, 0, 0) := by decide +kernel
theorem e42_49 : vm_ent 42 49 = some (.ireturn, 0, 0, 0) := by decide +kernel
theorem e42_50 : vm_ent 42 50 = some (.iinc 3 (-1), 0, 0, 0) := by decide +kernel
theorem e42_53 : vm_ent 42 53 = some (.goto (-34), 19, 0, 0) := by decide +kernel
theorem e42_56 : vm_ent 42 56 = some (.iconst (-1), 0, 0, 0) := by decide +kernel
theorem e42_57 : vm_ent 42 57 = some (.ireturn, 0, 0, 0) := by decide +kernel
theorem e41_0 : vm_ent 41 0 = some (.iconst 0, 0, 0, 0) := by decide +kernel
theorem e41_1 : vm_ent 41 1 = some (.istore_n 2, 0, 0, 0) := by decide +kernel
theorem e41_2 : vm_ent 41 2 = some (.iload_n 2, 0, 0, 0) := by decide +kernel
theorem e41_3 : vm_ent 41 3 = some (.aload_n 0, 0, 0, 0) := by decide +kernel
theorem e41_4 : vm_ent 41 4 = some (.getfield 17, 4, 1, 166) := by decide +kernel
theorem e41_7 : vm_ent 41 7 = some (.if_icmp .ge 21, 28, 0, 0) := by decide +kernel
theorem e41_10 : vm_ent 41 10 = some (.aload_n 0, 0, 0, 0) := by decide +kernel
theorem e41_11 : vm_ent 41 11 = some (.getfield 11, 4, 0, 164) := by decide +kernel
theorem e41_14 : vm_ent 41 14 = some (.iload_n 2, 0, 0, 0) := by decide +kernel
theorem e41_15 : vm_ent 41 15 = some (.aaload, 0, 0, 0) := by decide +kernel
theorem e41_16 : vm_ent 41 16 = some (.aload_n 1, 0, 0, 0) := by decide +kernel
theorem e41_17 : vm_ent 41 17 = some (.if_acmp .ne 5, 22, 0, 0) := by decide +kernel
theorem e41_20 : vm_ent 41 20 = some (.iconst 1, 0, 0, 0) := by decide +kernel
theorem e41_21 : vm_ent 41 21 = some (.ireturn, 0, 0, 0) := by decide +kernel
theorem e41_22 : vm_ent 41 22 = some (.iinc 2 1, 0, 0, 0) := by decide +kernel
theorem e41_25 : vm_ent 41 25 = some (.goto (-23), 2, 0, 0) := by decide +kernel
theorem e41_28 : vm_ent 41 28 = some (.iconst 0, 0, 0, 0) := by decide +kernel
theorem e41_29 : vm_ent 41 29 = some (.ireturn, 0, 0, 0) := by decide +kernel
theorem e40_0 : vm_ent 40 0 = some (.aload_n 0, 0, 0, 0) := by decide +kernel
theorem e40_1 : vm_ent 40 1 = some (.getfield 17, 4, 1, 166) := by decide +kernel
theorem e40_4 : vm_ent 40 4 = some (.ifCond .le 26, 30, 0, 0) := by decide +kernel
theorem e40_7 : vm_ent 40 7 = some (.aload_n 1, 0, 0, 0) := by decide +kernel
theorem e40_8 : vm_ent 40 8 = some (.getfield 32, 2, 1, 142) := by decide +kernel
theorem e40_11 : vm_ent 40 11 = some (.aload_n 0, 0, 0, 0) := by decide +kernel
theorem e40_12 : vm_ent 40 12 = some (.getfield 11, 4, 0, 164) := by decide +kernel
theorem e40_15 : vm_ent 40 15 = some (.aload_n 0, 0, 0, 0) := by decide +kernel
theorem e40_16 : vm_ent 40 16 = some (.getfield 17, 4, 1, 166) := by decide +kernel
theorem e40_19 : vm_ent 40 19 = some (.iconst 1, 0, 0, 0) := by decide +kernel
theorem e40_20 : vm_ent 40 20 = some (.isub, 0, 0, 0) := by decide +kernel
theorem e40_21 : vm_ent 40 21 = some (.aaload, 0, 0, 0) := by decide +kernel
theorem e40_22 : vm_ent 40 22 = some (.getfield 32, 2, 1, 142) := by decide +kernel
theorem e40_25 : vm_ent 40 25 = some (.if_icmp .gt 5, 30, 0, 0) := by decide +kernel
theorem e40_28 : vm_ent 40 28 = some (.iconst 0, 0, 0, 0) := by decide +kernel
theorem e40_29 : vm_ent 40 29 = some (.ireturn, 0, 0, 0) := by decide +kernel
theorem e40_30 : vm_ent 40 30 = some (.iconst 0, 0, 0, 0) := by decide +kernel
theorem e40_31 : vm_ent 40 31 = some (.istore_n 2, 0, 0, 0) := by decide +kernel
theorem e40_32 : vm_ent 40 32 = some (.iload_n 2, 0, 0, 0) := by decide +kernel
theorem e40_33 : vm_ent 40 33 = some (.aload_n 0, 0, 0, 0) := by decide +kernel
theorem e40_34 : vm_ent 40 34 = some (.getfield 17, 4, 1, 166) := by decide +kernel
theorem e40_37 : vm_ent 40 37 = some (.if_icmp .ge 39, 76, 0, 0) := by decide +kernel
theorem e40_40 : vm_ent 40 40 = some (.aload_n 1, 0, 0, 0) := by decide +kernel
theorem e40_41 : vm_ent 40 41 = some (.getfield 35, 2, 0, 137) := by decide +kernel
theorem e40_44 : vm_ent 40 44 = some (.aload_n 0, 0, 0, 0) := by decide +kernel
theorem e40_45 : vm_ent 40 45 = some (.getfield 11, 4, 0, 164) := by decide +kernel
theorem e40_48 : vm_ent 40 48 = some (.iload_n 2, 0, 0, 0) := by decide +kernel
theorem e40_49 : vm_ent 40 49 = some (.aaload, 0, 0, 0) := by decide +kernel
theorem e40_50 : vm_ent 40 50 = some (.getfield 32, 2, 1, 142) := by decide +kernel
theorem e40_53 : vm_ent 40 53 = some (.invokevirtual 39, 22, 4, 423) := by decide +kernel
theorem e40_56 : vm_ent 40 56 = some (.aload_n 0, 0, 0, 0) := by decide +kernel
theorem e40_57 : vm_ent 40 57 = some (.getfield 11, 4, 0, 164) := by decide +kernel
theorem e40_60 : vm_ent 40 60 = some (.iload_n 2, 0, 0, 0) := by decide +kernel
theorem e40_61 : vm_ent 40 61 = some (.aaload, 0, 0, 0) := by decide +kernel
theorem e40_62 : vm_ent 40 62 = some (.getfield 45, 2, 2, 147) := by decide +kernel
theorem e40_65 : vm_ent 40 65 = some (.if_icmp .lt 5, 70, 0, 0) := by decide +kernel
theorem e40_68 : vm_ent 40 68 = some (.iconst 0, 0, 0, 0) := by decide +kernel
theorem e40_69 : vm_ent 40 69 = some (.ireturn, 0, 0, 0) := by decide +kernel
theorem e40_70 : vm_ent 40 70 = some (.iinc 2 1, 0, 0, 0) := by decide +kernel
theorem e40_73 : vm_ent 40 73 = some (.goto (-41), 32, 0, 0) := by decide +kernel
theorem e40_76 : vm_ent 40 76 = some (.iconst 1, 0, 0, 0) := by decide +kernel
theorem e40_77 : vm_ent 40 77 = some (.ireturn, 0, 0, 0) := by decide +kernel
theorem e39_0 : vm_ent 39 0 = some (.aconst_null, 0, 0, 0) := by decide +kernel
theorem e39_1 : vm_ent 39 1 = some (.astore_n 3, 0, 0, 0) := by decide +kernel
theorem e39_2 : vm_ent 39 2 = some (.iconst 0, 0, 0, 0) := by decide +kernel
theorem e39_3 : vm_ent 39 3 = some (.istore 4, 0, 0, 0) := by decide +kernel
theorem e39_5 : vm_ent 39 5 = some (.iload 4, 0, 0, 0) := by decide +kernel
theorem e39_7 : vm_ent 39 7 = some (.iload_n 2, 0, 0, 0) := by decide +kernel
theorem e39_8 : vm_ent 39 8 = some (.if_icmp .ge 40, 48, 0, 0) := by decide +kernel
theorem e39_11 : vm_ent 39 11 = some (.aload_n 0, 0, 0, 0) := by decide +kernel
theorem e39_12 : vm_ent 39 12 = some (.aload_n 1, 0, 0, 0) := by decide +kernel
theorem e39_13 : vm_ent 39 13 = some (.iload 4, 0, 0, 0) := by decide +kernel
theorem e39_15 : vm_ent 39 15 = some (.aaload, 0, 0, 0) := by decide +kernel
theorem e39_16 : vm_ent 39 16 = some (.invokevirtual 25, 40, 4, 419) := by decide +kernel
theorem e39_19 : vm_ent 39 19 = some (.ifCond .eq 23, 42, 0, 0) := by decide +kernel
theorem e39_22 : vm_ent 39 22 = some (.aload_n 3, 0, 0, 0) := by decide +kernel
theorem e39_23 : vm_ent 39 23 = some (.ifnull 14, 37, 0, 0) := by decide +kernel
theorem e39_26 : vm_ent 39 26 = some (.aload_n 1, 0, 0, 0) := by decide +kernel
theorem e39_27 : vm_ent 39 27 = some (.iload 4, 0, 0, 0) := by decide +kernel
theorem e39_29 : vm_ent 39 29 = some (.aaload, 0, 0, 0) := by decide +kernel
theorem e39_30 : vm_ent 39 30 = some (.aload_n 3, 0, 0, 0) := by decide +kernel
theorem e39_31 : vm_ent 39 31 = some (.invokevirtual 29, 30, 4, 424) := by decide +kernel
theorem e39_34 : vm_ent 39 34 = some (.ifCond .eq 8, 42, 0, 0) := by decide +kernel
theorem e39_37 : vm_ent 39 37 = some (.aload_n 1, 0, 0, 0) := by decide +kernel
theorem e39_38 : vm_ent 39 38 = some (.iload 4, 0, 0, 0) := by decide +kernel
theorem e39_40 : vm_ent 39 40 = some (.aaload, 0, 0, 0) := by decide +kernel
theorem e39_41 : vm_ent 39 41 = some (.astore_n 3, 0, 0, 0) := by decide +kernel
theorem e39_42 : vm_ent 39 42 = some (.iinc 4 1, 0, 0, 0) := by decide +kernel
theorem e39_45 : vm_ent 39 45 = some (.goto (-40), 5, 0, 0) := by decide +kernel
theorem e39_48 : vm_ent 39 48 = some (.aload_n 3, 0, 0, 0) := by decide +kernel
theorem e39_49 : vm_ent 39 49 = some (.areturn, 0, 0, 0) := by decide +kernel
theorem e123_0 : vm_ent 123 0 = some (.iconst 0, 0, 0, 0) := by decide +kernel
theorem e123_1 : vm_ent 123 1 = some (.istore_n 2, 0, 0, 0) := by decide +kernel
theorem e123_2 : vm_ent 123 2 = some (.aload_n 0, 0, 0, 0) := by decide +kernel
theorem e123_3 : vm_ent 123 3 = some (.arraylength, 0, 0, 0) := by decide +kernel
theorem e123_4 : vm_ent 123 4 = some (.istore_n 3, 0, 0, 0) := by decide +kernel
theorem e123_5 : vm_ent 123 5 = some (.iload_n 2, 0, 0, 0) := by decide +kernel
theorem e123_6 : vm_ent 123 6 = some (.iload_n 3, 0, 0, 0) := by decide +kernel
theorem e123_7 : vm_ent 123 7 = some (.if_icmp .ge 13, 20, 0, 0) := by decide +kernel
theorem e123_10 : vm_ent 123 10 = some (.aload_n 0, 0, 0, 0) := by decide +kernel
theorem e123_11 : vm_ent 123 11 = some (.iload_n 2, 0, 0, 0) := by decide +kernel
theorem e123_12 : vm_ent 123 12 = some (.iload_n 1, 0, 0, 0) := by decide +kernel
theorem e123_13 : vm_ent 123 13 = some (.iastore, 0, 0, 0) := by decide +kernel
theorem e123_14 : vm_ent 123 14 = some (.iinc 2 1, 0, 0, 0) := by decide +kernel
theorem e123_17 : vm_ent 123 17 = some (.goto (-12), 5, 0, 0) := by decide +kernel
theorem e123_20 : vm_ent 123 20 = some (.return_, 0, 0, 0) := by decide +kernel
theorem e59_0 : vm_ent 59 0 = some (.iload_n 1, 0, 0, 0) := by decide +kernel
theorem e59_1 : vm_ent 59 1 = some (.ifCond .lt 15, 16, 0, 0) := by decide +kernel
theorem e59_4 : vm_ent 59 4 = some (.iload_n 1, 0, 0, 0) := by decide +kernel
theorem e59_5 : vm_ent 59 5 = some (.aload_n 0, 0, 0, 0) := by decide +kernel
theorem e59_6 : vm_ent 59 6 = some (.getfield 87, 5, 3, 198) := by decide +kernel
theorem e59_9 : vm_ent 59 9 = some (.if_icmp .ge 7, 16, 0, 0) := by decide +kernel
theorem e59_12 : vm_ent 59 12 = some (.iconst 1, 0, 0, 0) := by decide +kernel
theorem e59_13 : vm_ent 59 13 = some (.goto 4, 17, 0, 0) := by decide +kernel
theorem e59_16 : vm_ent 59 16 = some (.iconst 0, 0, 0, 0) := by decide +kernel
theorem e59_17 : vm_ent 59 17 = some (.ireturn, 0, 0, 0) := by decide +kernel
theorem e60_0 : vm_ent 60 0 = some (.iload_n 1, 0, 0, 0) := by decide +kernel
theorem e60_1 : vm_ent 60 1 = some (.ifCond .lt 18, 19, 0, 0) := by decide +kernel
theorem e60_4 : vm_ent 60 4 = some (.iload_n 1, 0, 0, 0) := by decide +kernel
theorem e60_5 : vm_ent 60 5 = some (.aload_n 0, 0, 0, 0) := by decide +kernel
theorem e60_6 : vm_ent 60 6 = some (.getfield 37, 5, 6, 201) := by decide +kernel
theorem e60_9 : vm_ent 60 9 = some (.getfield 112, 4, 1, 167) := by decide +kernel
theorem e60_12 : vm_ent 60 12 = some (.if_icmp .ge 7, 19, 0, 0) := by decide +kernel
theorem e60_15 : vm_ent 60 15 = some (.iconst 1, 0, 0, 0) := by decide +kernel
theorem e60_16 : vm_ent 60 16 = some (.goto 4, 20, 0, 0) := by decide +kernel
theorem e60_19 : vm_ent 60 19 = some (.iconst 0, 0, 0, 0) := by decide +kernel
theorem e60_20 : vm_ent 60 20 = some (.ireturn, 0, 0, 0) := by decide +kernel
theorem e61_0 : vm_ent 61 0 = some (.iconst 0, 0, 0, 0) := by decide +kernel
theorem e61_1 : vm_ent 61 1 = some (.istore_n 1, 0, 0, 0) := by decide +kernel
theorem e61_2 : vm_ent 61 2 = some (.iconst 0, 0, 0, 0) := by decide +kernel
theorem e61_3 : vm_ent 61 3 = some (.istore_n 2, 0, 0, 0) := by decide +kernel
theorem e61_4 : vm_ent 61 4 = some (.iload_n 2, 0, 0, 0) := by decide +kernel
theorem e61_5 : vm_ent 61 5 = some (.aload_n 0, 0, 0, 0) := by decide +kernel
theorem e61_6 : vm_ent 61 6 = some (.getfield 87, 5, 3, 198) := by decide +kernel
theorem e61_9 : vm_ent 61 9 = some (.if_icmp .ge 21, 30, 0, 0) := by decide +kernel
theorem e61_12 : vm_ent 61 12 = some (.aload_n 0, 0, 0, 0) := by decide +kernel
theorem e61_13 : vm_ent 61 13 = some (.getfield 23, 5, 2, 197) := by decide +kernel
theorem e61_16 : vm_ent 61 16 = some (.iload_n 2, 0, 0, 0) := by decide +kernel
theorem e61_17 : vm_ent 61 17 = some (.baload, 0, 0, 0) := by decide +kernel
theorem e61_18 : vm_ent 61 18 = some (.ifCond .eq 6, 24, 0, 0) := by decide +kernel
theorem e61_21 : vm_ent 61 21 = some (.iinc 1 1, 0, 0, 0) := by decide +kernel
theorem e61_24 : vm_ent 61 24 = some (.iinc 2 1, 0, 0, 0) := by decide +kernel
theorem e61_27 : vm_ent 61 27 = some (.goto (-23), 4, 0, 0) := by decide +kernel
theorem e61_30 : vm_ent 61 30 = some (.iload_n 1, 0, 0, 0) := by decide +kernel
theorem e61_31 : vm_ent 61 31 = some (.ireturn, 0, 0, 0) := by decide +kernel
theorem e65_0 : vm_ent 65 0 = some (.aload_n 0, 0, 0, 0) := by decide +kernel
theorem e65_1 : vm_ent 65 1 = some (.getfield 23, 5, 2, 197) := by decide +kernel
theorem e65_4 : vm_ent 65 4 = some (.iload_n 1, 0, 0, 0) := by decide +kernel
theorem e65_5 : vm_ent 65 5 = some (.baload, 0, 0, 0) := by decide +kernel
theorem e65_6 : vm_ent 65 6 = some (.ifCond .eq 19, 25, 0, 0) := by decide +kernel
theorem e65_9 : vm_ent 65 9 = some (.aload_n 0, 0, 0, 0) := by decide +kernel
theorem e65_10 : vm_ent 65 10 = some (.getfield 18, 5, 1, 196) := by decide +kernel
theorem e65_13 : vm_ent 65 13 = some (.iload_n 1, 0, 0, 0) := by decide +kernel
theorem e65_14 : vm_ent 65 14 = some (.aaload, 0, 0, 0) := by decide +kernel
theorem e65_15 : vm_ent 65 15 = some (.getfield 150, 1, 2, 117) := by decide +kernel
theorem e65_18 : vm_ent 65 18 = some (.ifCond .le 7, 25, 0, 0) := by decide +kernel
theorem e65_21 : vm_ent 65 21 = some (.iconst 1, 0, 0, 0) := by decide +kernel
theorem e65_22 : vm_ent 65 22 = some (.goto 4, 26, 0, 0) := by decide +kernel
theorem e65_25 : vm_ent 65 25 = some (.iconst 0, 0, 0, 0) := by decide +kernel
theorem e65_26 : vm_ent 65 26 = some (.ireturn, 0, 0, 0) := by decide +kernel
theorem e66_0 : vm_ent 66 0 = some (.iconst 0, 0, 0, 0) := by decide +kernel
theorem e66_1 : vm_ent 66 1 = some (.istore_n 1, 0, 0, 0) := by decide +kernel
theorem e66_2 : vm_ent 66 2 = some (.iload_n 1, 0, 0, 0) := by decide +kernel
theorem e66_3 : vm_ent 66 3 = some (.aload_n 0, 0, 0, 0) := by decide +kernel
theorem e66_4 : vm_ent 66 4 = some (.getfield 87, 5, 3, 198) := by decide +kernel
theorem e66_7 : vm_ent 66 7 = some (.if_icmp .ge 19, 26, 0, 0) := by decide +kernel
theorem e66_10 : vm_ent 66 10 = some (.aload_n 0, 0, 0, 0) := by decide +kernel
theorem e66_11 : vm_ent 66 11 = some (.iload_n 1, 0, 0, 0) := by decide +kernel
theorem e66_12 : vm_ent 66 12 = some (.invokevirtual 243, 65, 4, 363) := by decide +kernel
theorem e66_15 : vm_ent 66 15 = some (.ifCond .eq 5, 20, 0, 0) := by decide +kernel
theorem e66_18 : vm_ent 66 18 = some (.iconst 1, 0, 0, 0) := by decide +kernel
theorem e66_19 : vm_ent 66 19 = some (.ireturn, 0, 0, 0) := by decide +kernel
theorem e66_20 : vm_ent 66 20 = some (.iinc 1 1, 0, 0, 0) := by decide +kernel
theorem e66_23 : vm_ent 66 23 = some (.goto (-21), 2, 0, 0) := by decide +kernel
theorem e66_26 : vm_ent 66 26 = some (.iconst 0, 0, 0, 0) := by decide +kernel
theorem e66_27 : vm_ent 66 27 = some (.ireturn, 0, 0, 0) := by decide +kernel
theorem e71_0 : vm_ent 71 0 = some (.iconst 0, 0, 0, 0) := by decide +kernel
theorem e71_1 : vm_ent 71 1 = some (.istore_n 2, 0, 0, 0) := by decide +kernel
theorem e71_2 : vm_ent 71 2 = some (.iload_n 2, 0, 0, 0) := by decide +kernel
theorem e71_3 : vm_ent 71 3 = some (.aload_n 0, 0, 0, 0) := by decide +kernel
theorem e71_4 : vm_ent 71 4 = some (.getfield 175, 5, 5, 200) := by decide +kernel
theorem e71_7 : vm_ent 71 7 = some (.if_icmp .ge 27, 34, 0, 0) := by decide +kernel
theorem e71_10 : vm_ent 71 10 = some (.aload_n 0, 0, 0, 0) := by decide +kernel
theorem e71_11 : vm_ent 71 11 = some (.getfield 29, 5, 4, 199) := by decide +kernel
theorem e71_14 : vm_ent 71 14 = some (.iload_n 2, 0, 0, 0) := by decide +kernel
theorem e71_15 : vm_ent 71 15 = some (.aaload, 0, 0, 0) := by decide +kernel
theorem e71_16 : vm_ent 71 16 = some (.getfield 168, 2, 0, 139) := by decide +kernel
theorem e71_19 : vm_ent 71 19 = some (.aload_n 1, 0, 0, 0) := by decide +kernel
theorem e71_20 : vm_ent 71 20 = some (.invokevirtual 279, 21, 4, 477) := by decide +kernel
theorem e71_23 : vm_ent 71 23 = some (.ifCond .eq 5, 28, 0, 0) := by decide +kernel
theorem e71_26 : vm_ent 71 26 = some (.iconst 1, 0, 0, 0) := by decide +kernel
theorem e71_27 : vm_ent 71 27 = some (.ireturn, 0, 0, 0) := by decide +kernel
theorem e71_28 : vm_ent 71 28 = some (.iinc 2 1, 0, 0, 0) := by decide +kernel
theorem e71_31 : vm_ent 71 31 = some (.goto (-29), 2, 0, 0) := by decide +kernel
theorem e71_34 : vm_ent 71 34 = some (.iconst 0, 0, 0, 0) := by decide +kernel
theorem e71_35 : vm_ent 71 35 = some (.ireturn, 0, 0, 0) := by decide +kernel
theorem e63_0 : vm_ent 63 0 = some (.aload_n 0, 0, 0, 0) := by decide +kernel
theorem e63_1 : vm_ent 63 1 = some (.getfield 37, 5, 6, 201) := by decide +kernel
theorem e63_4 : vm_ent 63 4 = some (.iconst 0, 0, 0, 0) := by decide +kernel
theorem e63_5 : vm_ent 63 5 = some (.putfield 112, 4, 1, 167) := by decide +kernel
theorem e63_8 : vm_ent 63 8 = some (.aload_n 0, 0, 0, 0) := by decide +kernel
theorem e63_9 : vm_ent 63 9 = some (.getfield 52, 5, 9, 204) := by decide +kernel
theorem e63_12 : vm_ent 63 12 = some (.invokevirtual 109, 17, 4, 262) := by decide +kernel
theorem e63_15 : vm_ent 63 15 = some (.aload_n 0, 0, 0, 0) := by decide +kernel
theorem e63_16 : vm_ent 63 16 = some (.getfield 55, 5, 10, 205) := by decide +kernel
theorem e63_19 : vm_ent 63 19 = some (.invokevirtual 109, 17, 4, 262) := by decide +kernel
theorem e63_22 : vm_ent 63 22 = some (.aload_n 0, 0, 0, 0) := by decide +kernel
theorem e63_23 : vm_ent 63 23 = some (.getfield 58, 5, 11, 206) := by decide +kernel
theorem e63_26 : vm_ent 63 26 = some (.iconst 0, 0, 0, 0) := by decide +kernel
theorem e63_27 : vm_ent 63 27 = some (.invokestatic 228, 123, 1, 266) := by decide +kernel
theorem e63_30 : vm_ent 63 30 = some (.return_, 0, 0, 0) := by decide +kernel
theorem e64_0 : vm_ent 64 0 = some (.iconst 0, 0, 0, 0) := by decide +kernel
theorem e64_1 : vm_ent 64 1 = some (.istore_n 3, 0, 0, 0) := by decide +kernel
theorem e64_2 : vm_ent 64 2 = some (.iload_n 3, 0, 0, 0) := by decide +kernel
theorem e64_3 : vm_ent 64 3 = some (.aload_n 0, 0, 0, 0) := by decide +kernel
theorem e64_4 : vm_ent 64 4 = some (.getfield 87, 5, 3, 198) := by decide +kernel
theorem e64_7 : vm_ent 64 7 = some (.if_icmp .ge 22, 29, 0, 0) := by decide +kernel
theorem e64_10 : vm_ent 64 10 = some (.aload_n 0, 0, 0, 0) := by decide +kernel
theorem e64_11 : vm_ent 64 11 = some (.getfield 12, 5, 0, 195) := by decide +kernel
theorem e64_14 : vm_ent 64 14 = some (.aload_n 0, 0, 0, 0) := by decide +kernel
theorem e64_15 : vm_ent 64 15 = some (.getfield 18, 5, 1, 196) := by decide +kernel
theorem e64_18 : vm_ent 64 18 = some (.iload_n 3, 0, 0, 0) := by decide +kernel
theorem e64_19 : vm_ent 64 19 = some (.aaload, 0, 0, 0) := by decide +kernel
theorem e64_20 : vm_ent 64 20 = some (.invokevirtual 234, 10, 4, 285) := by decide +kernel
theorem e64_23 : vm_ent 64 23 = some (.iinc 3 1, 0, 0, 0) := by decide +kernel
theorem e64_26 : vm_ent 64 26 = some (.goto (-24), 2, 0, 0) := by decide +kernel
theorem e64_29 : vm_ent 64 29 = some (.aload_n 0, 0, 0, 0) := by decide +kernel
theorem e64_30 : vm_ent 64 30 = some (.getfield 12, 5, 0, 195) := by decide +kernel
theorem e64_33 : vm_ent 64 33 = some (.aload_n 0, 0, 0, 0) := by decide +kernel
theorem e64_34 : vm_ent 64 34 = some (.getfield 48, 5, 8, 203) := by decide +kernel
theorem e64_37 : vm_ent 64 37 = some (.invokevirtual 234, 10, 4, 285) := by decide +kernel
theorem e64_40 : vm_ent 64 40 = some (.aload_n 0, 0, 0, 0) := by decide +kernel
theorem e64_41 : vm_ent 64 41 = some (.getfield 12, 5, 0, 195) := by decide +kernel
theorem e64_44 : vm_ent 64 44 = some (.iload_n 1, 0, 0, 0) := by decide +kernel
theorem e64_45 : vm_ent 64 45 = some (.iload_n 2, 0, 0, 0) := by decide +kernel
theorem e64_46 : vm_ent 64 46 = some (.invokevirtual 237, 6, 4, 296) := by decide +kernel
theorem e64_49 : vm_ent 64 49 = some (.iconst 0, 0, 0, 0) := by decide +kernel
theorem e64_50 : vm_ent 64 50 = some (.istore_n 3, 0, 0, 0) := by decide +kernel
theorem e64_51 : vm_ent 64 51 = some (.iload_n 3, 0, 0, 0) := by decide +kernel
theorem e64_52 : vm_ent 64 52 = some (.aload_n 0, 0, 0, 0) := by decide +kernel
theorem e64_53 : vm_ent 64 53 = some (.getfield 87, 5, 3, 198) := by decide +kernel
theorem e64_56 : vm_ent 64 56 = some (.if_icmp .ge 22, 78, 0, 0) := by decide +kernel
theorem e64_59 : vm_ent 64 59 = some (.aload_n 0, 0, 0, 0) := by decide +kernel
theorem e64_60 : vm_ent 64 60 = some (.getfield 12, 5, 0, 195) := by decide +kernel
theorem e64_63 : vm_ent 64 63 = some (.aload_n 0, 0, 0, 0) := by decide +kernel
theorem e64_64 : vm_ent 64 64 = some (.getfield 18, 5, 1, 196) := by decide +kernel
theorem e64_67 : vm_ent 64 67 = some (.iload_n 3, 0, 0, 0) := by decide +kernel
theorem e64_68 : vm_ent 64 68 = some (.aaload, 0, 0, 0) := by decide +kernel
theorem e64_69 : vm_ent 64 69 = some (.invokevirtual 240, 11, 4, 300) := by decide +kernel
theorem e64_72 : vm_ent 64 72 = some (.iinc 3 1, 0, 0, 0) := by decide +kernel
theorem e64_75 : vm_ent 64 75 = some (.goto (-24), 51, 0, 0) := by decide +kernel
theorem e64_78 : vm_ent 64 78 = some (.aload_n 0, 0, 0, 0) := by decide +kernel
theorem e64_79 : vm_ent 64 79 = some (.getfield 12, 5, 0, 195) := by decide +kernel
theorem e64_82 : vm_ent 64 82 = some (.aload_n 0, 0, 0, 0) := by decide +kernel
theorem e64_83 : vm_ent 64 83 = some (.getfield 48, 5, 8, 203) := by decide +kernel
theorem e64_86 : vm_ent 64 86 = some (.invokevirtual 240, 11, 4, 300) := by decide +kernel
theorem e64_89 : vm_ent 64 89 = some (.return_, 0, 0, 0) := by decide +kernel
theorem e67_0 : vm_ent 67 0 = some (.aload_n 0, 0, 0, 0) := by decide +kernel
theorem e67_1 : vm_ent 67 1 = some (.iconst 0, 0, 0, 0) := by decide +kernel
theorem e67_2 : vm_ent 67 2 = some (.putfield 175, 5, 5, 200) := by decide +kernel
theorem e67_5 : vm_ent 67 5 = some (.iconst 0, 0, 0, 0) := by decide +kernel
theorem e67_6 : vm_ent 67 6 = some (.istore_n 1, 0, 0, 0) := by decide +kernel
theorem e67_7 : vm_ent 67 7 = some (.iload_n 1, 0, 0, 0) := by decide +kernel
theorem e67_8 : vm_ent 67 8 = some (.aload_n 0, 0, 0, 0) := by decide +kernel
theorem e67_9 : vm_ent 67 9 = some (.getfield 87, 5, 3, 198) := by decide +kernel
theorem e67_12 : vm_ent 67 12 = some (.if_icmp .ge 58, 70, 0, 0) := by decide +kernel
theorem e67_15 : vm_ent 67 15 = some (.aload_n 0, 0, 0, 0) := by decide +kernel
theorem e67_16 : vm_ent 67 16 = some (.iload_n 1, 0, 0, 0) := by decide +kernel
theorem e67_17 : vm_ent 67 17 = some (.invokevirtual 243, 65, 4, 363) := by decide +kernel
theorem e67_20 : vm_ent 67 20 = some (.ifCond .eq 44, 64, 0, 0) := by decide +kernel
theorem e67_23 : vm_ent 67 23 = some (.aload_n 0, 0, 0, 0) := by decide +kernel
theorem e67_24 : vm_ent 67 24 = some (.getfield 175, 5, 5, 200) := by decide +kernel
theorem e67_27 : vm_ent 67 27 = some (.bipush 40, 0, 0, 0) := by decide +kernel
theorem e67_29 : vm_ent 67 29 = some (.if_icmp .ge 35, 64, 0, 0) := by decide +kernel
theorem e67_32 : vm_ent 67 32 = some (.aload_n 0, 0, 0, 0) := by decide +kernel
theorem e67_33 : vm_ent 67 33 = some (.getfield 29, 5, 4, 199) := by decide +kernel
theorem e67_36 : vm_ent 67 36 = some (.aload_n 0, 0, 0, 0) := by decide +kernel
theorem e67_37 : vm_ent 67 37 = some (.getfield 175, 5, 5, 200) := by decide +kernel
theorem e67_40 : vm_ent 67 40 = some (.aaload, 0, 0, 0) := by decide +kernel
theorem e67_41 : vm_ent 67 41 = some (.aload_n 0, 0, 0, 0) := by decide +kernel
theorem e67_42 : vm_ent 67 42 = some (.getfield 18, 5, 1, 196) := by decide +kernel
theorem e67_45 : vm_ent 67 45 = some (.iload_n 1, 0, 0, 0) := by decide +kernel
theorem e67_46 : vm_ent 67 46 = some (.aaload, 0, 0, 0) := by decide +kernel
theorem e67_47 : vm_ent 67 47 = some (.aload_n 0, 0, 0, 0) := by decide +kernel
theorem e67_48 : vm_ent 67 48 = some (.getfield 12, 5, 0, 195) := by decide +kernel
theorem e67_51 : vm_ent 67 51 = some (.invokevirtual 246, 29, 4, 371) := by decide +kernel
theorem e67_54 : vm_ent 67 54 = some (.aload_n 0, 0, 0, 0) := by decide +kernel
theorem e67_55 : vm_ent 67 55 = some (.dup, 0, 0, 0) := by decide +kernel
theorem e67_56 : vm_ent 67 56 = some (.getfield 175, 5, 5, 200) := by decide +kernel
theorem e67_59 : vm_ent 67 59 = some (.iconst 1, 0, 0, 0) := by decide +kernel
theorem e67_60 : vm_ent 67 60 = some (.iadd, 0, 0, 0) := by decide +kernel
theorem e67_61 : vm_ent 67 61 = some (.putfield 175, 5, 5, 200) := by decide +kernel
theorem e67_64 : vm_ent 67 64 = some (.iinc 1 1, 0, 0, 0) := by decide +kernel
theorem e67_67 : vm_ent 67 67 = some (.goto (-60), 7, 0, 0) := by decide +kernel
theorem e67_70 : vm_ent 67 70 = some (.return_, 0, 0, 0) := by decide +kernel
theorem e68_0 : vm_ent 68 0 = some (.iconst 0, 0, 0, 0) := by decide +kernel
theorem e68_1 : vm_ent 68 1 = some (.istore_n 1, 0, 0, 0) := by decide +kernel
theorem e68_2 : vm_ent 68 2 = some (.iload_n 1, 0, 0, 0) := by decide +kernel
theorem e68_3 : vm_ent 68 3 = some (.aload_n 0, 0, 0, 0) := by decide +kernel
theorem e68_4 : vm_ent 68 4 = some (.getfield 175, 5, 5, 200) := by decide +kernel
theorem e68_7 : vm_ent 68 7 = some (.if_icmp .ge 40, 47, 0, 0) := by decide +kernel
theorem e68_10 : vm_ent 68 10 = some (.aload_n 0, 0, 0, 0) := by decide +kernel
theorem e68_11 : vm_ent 68 11 = some (.getfield 29, 5, 4, 199) := by decide +kernel
theorem e68_14 : vm_ent 68 14 = some (.iload_n 1, 0, 0, 0) := by decide +kernel
theorem e68_15 : vm_ent 68 15 = some (.aaload, 0, 0, 0) := by decide +kernel
theorem e68_16 : vm_ent 68 16 = some (.getfield 159, 2, 1, 144) := by decide +kernel
theorem e68_19 : vm_ent 68 19 = some (.iconst (-1), 0, 0, 0) := by decide +kernel
theorem e68_20 : vm_ent 68 20 = some (.if_icmp .ne 21, 41, 0, 0) := by decide +kernel
theorem e68_23 : vm_ent 68 23 = some (.aload_n 0, 0, 0, 0) := by decide +kernel
theorem e68_24 : vm_ent 68 24 = some (.getfield 48, 5, 8, 203) := by decide +kernel
theorem e68_27 : vm_ent 68 27 = some (.aload_n 0, 0, 0, 0) := by decide +kernel
theorem e68_28 : vm_ent 68 28 = some (.getfield 29, 5, 4, 199) := by decide +kernel
theorem e68_31 : vm_ent 68 31 = some (.iload_n 1, 0, 0, 0) := by decide +kernel
theorem e68_32 : vm_ent 68 32 = some (.aaload, 0, 0, 0) := by decide +kernel
theorem e68_33 : vm_ent 68 33 = some (.getfield 168, 2, 0, 139) := by decide +kernel
theorem e68_36 : vm_ent 68 36 = some (.invokevirtual 131, 19, 4, 406) := by decide +kernel
theorem e68_39 : vm_ent 68 39 = some (.iconst 1, 0, 0, 0) := by decide +kernel
theorem e68_40 : vm_ent 68 40 = some (.ireturn, 0, 0, 0) := by decide +kernel
theorem e68_41 : vm_ent 68 41 = some (.iinc 1 1, 0, 0, 0) := by decide +kernel
theorem e68_44 : vm_ent 68 44 = some (.goto (-42), 2, 0, 0) := by decide +kernel
theorem e68_47 : vm_ent 68 47 = some (.iconst 0, 0, 0, 0) := by decide +kernel
theorem e68_48 : vm_ent 68 48 = some (.ireturn, 0, 0, 0) := by decide +kernel
theorem e72_0 : vm_ent 72 0 = some (.aload_n 0, 0, 0, 0) := by decide +kernel
theorem e72_1 : vm_ent 72 1 = some (.iconst 0, 0, 0, 0) := by decide +kernel
theorem e72_2 : vm_ent 72 2 = some (.putfield 138, 5, 14, 209) := by decide +kernel
theorem e72_5 : vm_ent 72 5 = some (.aload_n 0, 0, 0, 0) := by decide +kernel
theorem e72_6 : vm_ent 72 6 = some (.getfield 65, 5, 13, 208) := by decide +kernel
theorem e72_9 : vm_ent 72 9 = some (.iconst 0, 0, 0, 0) := by decide +kernel
theorem e72_10 : vm_ent 72 10 = some (.invokestatic 228, 123, 1, 266) := by decide +kernel
theorem e72_13 : vm_ent 72 13 = some (.aload_n 0, 0, 0, 0) := by decide +kernel
theorem e72_14 : vm_ent 72 14 = some (.getfield 37, 5, 6, 201) := by decide +kernel
theorem e72_17 : vm_ent 72 17 = some (.getfield 112, 4, 1, 167) := by decide +kernel
theorem e72_20 : vm_ent 72 20 = some (.iconst 1, 0, 0, 0) := by decide +kernel
theorem e72_21 : vm_ent 72 21 = some (.isub, 0, 0, 0) := by decide +kernel
theorem e72_22 : vm_ent 72 22 = some (.istore_n 2, 0, 0, 0) := by decide +kernel
theorem e72_23 : vm_ent 72 23 = some (.iconst 0, 0, 0, 0) := by decide +kernel
theorem e72_24 : vm_ent 72 24 = some (.istore_n 3, 0, 0, 0) := by decide +kernel
theorem e72_25 : vm_ent 72 25 = some (.iload_n 3, 0, 0, 0) := by decide +kernel
theorem e72_26 : vm_ent 72 26 = some (.iload_n 1, 0, 0, 0) := by decide +kernel
theorem e72_27 : vm_ent 72 27 = some (.if_icmp .gt 79, 106, 0, 0) := by decide +kernel
theorem e72_30 : vm_ent 72 30 = some (.aload_n 0, 0, 0, 0) := by decide +kernel
theorem e72_31 : vm_ent 72 31 = some (.getfield 37, 5, 6, 201) := by decide +kernel
theorem e72_34 : vm_ent 72 34 = some (.iload_n 2, 0, 0, 0) := by decide +kernel
theorem e72_35 : vm_ent 72 35 = some (.aload_n 0, 0, 0, 0) := by decide +kernel
theorem e72_36 : vm_ent 72 36 = some (.getfield 62, 5, 12, 207) := by decide +kernel
theorem e72_39 : vm_ent 72 39 = some (.invokevirtual 203, 42, 4, 443) := by decide +kernel
theorem e72_42 : vm_ent 72 42 = some (.istore_n 2, 0, 0, 0) := by decide +kernel
theorem e72_43 : vm_ent 72 43 = some (.iload_n 2, 0, 0, 0) := by decide +kernel
theorem e72_44 : vm_ent 72 44 = some (.iconst (-1), 0, 0, 0) := by decide +kernel
theorem e72_45 : vm_ent 72 45 = some (.if_icmp .ne 5, 50, 0, 0) := by decide +kernel
theorem e72_48 : vm_ent 72 48 = some (.iconst 1, 0, 0, 0) := by decide +kernel
theorem e72_49 : vm_ent 72 49 = some (.ireturn, 0, 0, 0) := by decide +kernel
theorem e72_50 : vm_ent 72 50 = some (.iload_n 3, 0, 0, 0) := by decide +kernel
theorem e72_51 : vm_ent 72 51 = some (.iload_n 1, 0, 0, 0) := by decide +kernel
theorem e72_52 : vm_ent 72 52 = some (.if_icmp .eq 26, 78, 0, 0) := by decide +kernel
theorem e72_55 : vm_ent 72 55 = some (.aload_n 0, 0, 0, 0) := by decide +kernel
theorem e72_56 : vm_ent 72 56 = some (.getfield 44, 5, 7, 202) := by decide +kernel
theorem e72_59 : vm_ent 72 59 = some (.aload_n 0, 0, 0, 0) := by decide +kernel
theorem e72_60 : vm_ent 72 60 = some (.getfield 62, 5, 12, 207) := by decide +kernel
theorem e72_63 : vm_ent 72 63 = some (.aload_n 0, 0, 0, 0) := by decide +kernel
theorem e72_64 : vm_ent 72 64 = some (.getfield 37, 5, 6, 201) := by decide +kernel
theorem e72_67 : vm_ent 72 67 = some (.getfield 156, 4, 0, 165) := by decide +kernel
theorem e72_70 : vm_ent 72 70 = some (.iload_n 2, 0, 0, 0) := by decide +kernel
theorem e72_71 : vm_ent 72 71 = some (.aaload, 0, 0, 0) := by decide +kernel
theorem e72_72 : vm_ent 72 72 = some (.invokevirtual 213, 32, 4, 447) := by decide +kernel
theorem e72_75 : vm_ent 72 75 = some (.ifCond .ne 5, 80, 0, 0) := by decide +kernel
theorem e72_78 : vm_ent 72 78 = some (.iconst 0, 0, 0, 0) := by decide +kernel
theorem e72_79 : vm_ent 72 79 = some (.ireturn, 0, 0, 0) := by decide +kernel
theorem e72_80 : vm_ent 72 80 = some (.aload_n 0, 0, 0, 0) := by decide +kernel
theorem e72_81 : vm_ent 72 81 = some (.dup, 0, 0, 0) := by decide +kernel
theorem e72_82 : vm_ent 72 82 = some (.getfield 138, 5, 14, 209) := by decide +kernel
theorem e72_85 : vm_ent 72 85 = some (.iconst 1, 0, 0, 0) := by decide +kernel
theorem e72_86 : vm_ent 72 86 = some (.iadd, 0, 0, 0) := by decide +kernel
theorem e72_87 : vm_ent 72 87 = some (.putfield 138, 5, 14, 209) := by decide +kernel
theorem e72_90 : vm_ent 72 90 = some (.aload_n 0, 0, 0, 0) := by decide +kernel
theorem e72_91 : vm_ent 72 91 = some (.getfield 65, 5, 13, 208) := by decide +kernel
theorem e72_94 : vm_ent 72 94 = some (.iload_n 2, 0, 0, 0) := by decide +kernel
theorem e72_95 : vm_ent 72 95 = some (.dup2, 0, 0, 0) := by decide +kernel
theorem e72_96 : vm_ent 72 96 = some (.iaload, 0, 0, 0) := by decide +kernel
theorem e72_97 : vm_ent 72 97 = some (.iconst 1, 0, 0, 0) := by decide +kernel
theorem e72_98 : vm_ent 72 98 = some (.iadd, 0, 0, 0) := by decide +kernel
theorem e72_99 : vm_ent 72 99 = some (.iastore, 0, 0, 0) := by decide +kernel
theorem e72_100 : vm_ent 72 100 = some (.iinc 3 1, 0, 0, 0) := by decide +kernel
theorem e72_103 : vm_ent 72 103 = some (.goto (-78), 25, 0, 0) := by decide +kernel
theorem e72_106 : vm_ent 72 106 = some (.iconst 0, 0, 0, 0) := by decide +kernel
theorem e72_107 : vm_ent 72 107 = some (.ireturn, 0, 0, 0) := by decide +kernel
theorem e70_0 : vm_ent 70 0 = some (.aload_n 0, 0, 0, 0) := by decide +kernel
theorem e70_1 : vm_ent 70 1 = some (.getfield 62, 5, 12, 207) := by decide +kernel
theorem e70_4 : vm_ent 70 4 = some (.aload_n 1, 0, 0, 0) := by decide +kernel
theorem e70_5 : vm_ent 70 5 = some (.getfield 168, 2, 0, 139) := by decide +kernel
theorem e70_8 : vm_ent 70 8 = some (.invokevirtual 131, 19, 4, 406) := by decide +kernel
theorem e70_11 : vm_ent 70 11 = some (.aload_n 0, 0, 0, 0) := by decide +kernel
theorem e70_12 : vm_ent 70 12 = some (.sipush 200, 0, 0, 0) := by decide +kernel
theorem e70_15 : vm_ent 70 15 = some (.sipush 1000, 0, 0, 0) := by decide +kernel
theorem e70_18 : vm_ent 70 18 = some (.aload_n 0, 0, 0, 0) := by decide +kernel
theorem e70_19 : vm_ent 70 19 = some (.getfield 118, 5, 16, 211) := by decide +kernel
theorem e70_22 : vm_ent 70 22 = some (.isub, 0, 0, 0) := by decide +kernel
theorem e70_23 : vm_ent 70 23 = some (.invokestatic 262, 9999, 11, 436) := by decide +kernel
theorem e70_26 : vm_ent 70 26 = some (.invokevirtual 135, 72, 4, 439) := by decide +kernel
theorem e70_29 : vm_ent 70 29 = some (.istore_n 2, 0, 0, 0) := by decide +kernel
theorem e70_30 : vm_ent 70 30 = some (.aload_n 0, 0, 0, 0) := by decide +kernel
theorem e70_31 : vm_ent 70 31 = some (.dup, 0, 0, 0) := by decide +kernel
theorem e70_32 : vm_ent 70 32 = some (.getfield 118, 5, 16, 211) := by decide +kernel
theorem e70_35 : vm_ent 70 35 = some (.aload_n 0, 0, 0, 0) := by decide +kernel
theorem e70_36 : vm_ent 70 36 = some (.getfield 138, 5, 14, 209) := by decide +kernel
theorem e70_39 : vm_ent 70 39 = some (.iadd, 0, 0, 0) := by decide +kernel
theorem e70_40 : vm_ent 70 40 = some (.putfield 118, 5, 16, 211) := by decide +kernel
theorem e70_43 : vm_ent 70 43 = some (.iload_n 2, 0, 0, 0) := by decide +kernel
theorem e70_44 : vm_ent 70 44 = some (.ifCond .ne 5, 49, 0, 0) := by decide +kernel
theorem e70_47 : vm_ent 70 47 = some (.iconst 2, 0, 0, 0) := by decide +kernel
theorem e70_48 : vm_ent 70 48 = some (.ireturn, 0, 0, 0) := by decide +kernel
theorem e70_49 : vm_ent 70 49 = some (.aload_n 0, 0, 0, 0) := by decide +kernel
theorem e70_50 : vm_ent 70 50 = some (.getfield 62, 5, 12, 207) := by decide +kernel
theorem e70_53 : vm_ent 70 53 = some (.invokevirtual 268, 26, 4, 472) := by decide +kernel
theorem e70_56 : vm_ent 70 56 = some (.aload_n 0, 0, 0, 0) := by decide +kernel
theorem e70_57 : vm_ent 70 57 = some (.getfield 62, 5, 12, 207) := by decide +kernel
theorem e70_60 : vm_ent 70 60 = some (.getfield 150, 1, 2, 117) := by decide +kernel
theorem e70_63 : vm_ent 70 63 = some (.ifCond .eq 14, 77, 0, 0) := by decide +kernel
theorem e70_66 : vm_ent 70 66 = some (.aload_n 0, 0, 0, 0) := by decide +kernel
theorem e70_67 : vm_ent 70 67 = some (.aload_n 0, 0, 0, 0) := by decide +kernel
theorem e70_68 : vm_ent 70 68 = some (.getfield 62, 5, 12, 207) := by decide +kernel
theorem e70_71 : vm_ent 70 71 = some (.invokevirtual 271, 71, 4, 473) := by decide +kernel
theorem e70_74 : vm_ent 70 74 = some (.ifCond .eq 5, 79, 0, 0) := by decide +kernel
theorem e70_77 : vm_ent 70 77 = some (.iconst 3, 0, 0, 0) := by decide +kernel
theorem e70_78 : vm_ent 70 78 = some (.ireturn, 0, 0, 0) := by decide +kernel
theorem e70_79 : vm_ent 70 79 = some (.aload_n 0, 0, 0, 0) := by decide +kernel
theorem e70_80 : vm_ent 70 80 = some (.getfield 12, 5, 0, 195) := by decide +kernel
theorem e70_83 : vm_ent 70 83 = some (.aload_n 0, 0, 0, 0) := by decide +kernel
theorem e70_84 : vm_ent 70 84 = some (.getfield 62, 5, 12, 207) := by decide +kernel
theorem e70_87 : vm_ent 70 87 = some (.invokevirtual 275, 12, 4, 481) := by decide +kernel
theorem e70_90 : vm_ent 70 90 = some (.iconst (-1), 0, 0, 0) := by decide +kernel
theorem e70_91 : vm_ent 70 91 = some (.if_icmp .ne 16, 107, 0, 0) := by decide +kernel
theorem e70_94 : vm_ent 70 94 = some (.aload_n 0, 0, 0, 0) := by decide +kernel
theorem e70_95 : vm_ent 70 95 = some (.getfield 48, 5, 8, 203) := by decide +kernel
theorem e70_98 : vm_ent 70 98 = some (.aload_n 0, 0, 0, 0) := by decide +kernel
theorem e70_99 : vm_ent 70 99 = some (.getfield 62, 5, 12, 207) := by decide +kernel
theorem e70_102 : vm_ent 70 102 = some (.invokevirtual 131, 19, 4, 406) := by decide +kernel
theorem e70_105 : vm_ent 70 105 = some (.iconst 0, 0, 0, 0) := by decide +kernel
theorem e70_106 : vm_ent 70 106 = some (.ireturn, 0, 0, 0) := by decide +kernel
theorem e70_107 : vm_ent 70 107 = some (.aload_n 0, 0, 0, 0) := by decide +kernel
theorem e70_108 : vm_ent 70 108 = some (.getfield 175, 5, 5, 200) := by decide +kernel
theorem e70_111 : vm_ent 70 111 = some (.bipush 40, 0, 0, 0) := by decide +kernel
theorem e70_113 : vm_ent 70 113 = some (.if_icmp .lt 5, 118, 0, 0) := by decide +kernel
theorem e70_116 : vm_ent 70 116 = some (.iconst 2, 0, 0, 0) := by decide +kernel
theorem e70_117 : vm_ent 70 117 = some (.ireturn, 0, 0, 0) := by decide +kernel
theorem e70_118 : vm_ent 70 118 = some (.aload_n 0, 0, 0, 0) := by decide +kernel
theorem e70_119 : vm_ent 70 119 = some (.getfield 29, 5, 4, 199) := by decide +kernel
theorem e70_122 : vm_ent 70 122 = some (.aload_n 0, 0, 0, 0) := by decide +kernel
theorem e70_123 : vm_ent 70 123 = some (.getfield 175, 5, 5, 200) := by decide +kernel
theorem e70_126 : vm_ent 70 126 = some (.aaload, 0, 0, 0) := by decide +kernel
theorem e70_127 : vm_ent 70 127 = some (.aload_n 0, 0, 0, 0) := by decide +kernel
theorem e70_128 : vm_ent 70 128 = some (.getfield 62, 5, 12, 207) := by decide +kernel
theorem e70_131 : vm_ent 70 131 = some (.aload_n 0, 0, 0, 0) := by decide +kernel
theorem e70_132 : vm_ent 70 132 = some (.getfield 12, 5, 0, 195) := by decide +kernel
theorem e70_135 : vm_ent 70 135 = some (.invokevirtual 246, 29, 4, 371) := by decide +kernel
theorem e70_138 : vm_ent 70 138 = some (.aload_n 0, 0, 0, 0) := by decide +kernel
theorem e70_139 : vm_ent 70 139 = some (.dup, 0, 0, 0) := by decide +kernel
theorem e70_140 : vm_ent 70 140 = some (.getfield 175, 5, 5, 200) := by decide +kernel
theorem e70_143 : vm_ent 70 143 = some (.iconst 1, 0, 0, 0) := by decide +kernel
theorem e70_144 : vm_ent 70 144 = some (.iadd, 0, 0, 0) := by decide +kernel
theorem e70_145 : vm_ent 70 145 = some (.putfield 175, 5, 5, 200) := by decide +kernel
theorem e70_148 : vm_ent 70 148 = some (.iconst 3, 0, 0, 0) := by decide +kernel
theorem e70_149 : vm_ent 70 149 = some (.ireturn, 0, 0, 0) := by decide +kernel
theorem e62_0 : vm_ent 62 0 = some (.iload_n 1, 0, 0, 0) := by decide +kernel
theorem e62_1 : vm_ent 62 1 = some (.ifCond .ne 18, 19, 0, 0) := by decide +kernel
theorem e62_4 : vm_ent 62 4 = some (.aload_n 0, 0, 0, 0) := by decide +kernel
theorem e62_5 : vm_ent 62 5 = some (.iload_n 2, 0, 0, 0) := by decide +kernel
theorem e62_6 : vm_ent 62 6 = some (.invokevirtual 91, 59, 4, 320) := by decide +kernel
theorem e62_9 : vm_ent 62 9 = some (.ifCond .eq 10, 19, 0, 0) := by decide +kernel
theorem e62_12 : vm_ent 62 12 = some (.aload_n 0, 0, 0, 0) := by decide +kernel
theorem e62_13 : vm_ent 62 13 = some (.getfield 18, 5, 1, 196) := by decide +kernel
theorem e62_16 : vm_ent 62 16 = some (.iload_n 2, 0, 0, 0) := by decide +kernel
theorem e62_17 : vm_ent 62 17 = some (.aaload, 0, 0, 0) := by decide +kernel
theorem e62_18 : vm_ent 62 18 = some (.areturn, 0, 0, 0) := by decide +kernel
theorem e62_19 : vm_ent 62 19 = some (.iload_n 1, 0, 0, 0) := by decide +kernel
theorem e62_20 : vm_ent 62 20 = some (.iconst 1, 0, 0, 0) := by decide +kernel
theorem e62_21 : vm_ent 62 21 = some (.if_icmp .ne 24, 45, 0, 0) := by decide +kernel
theorem e62_24 : vm_ent 62 24 = some (.aload_n 0, 0, 0, 0) := by decide +kernel
theorem e62_25 : vm_ent 62 25 = some (.iload_n 2, 0, 0, 0) := by decide +kernel
theorem e62_26 : vm_ent 62 26 = some (.invokevirtual 153, 60, 4, 491) := by decide +kernel
theorem e62_29 : vm_ent 62 29 = some (.ifCond .eq 16, 45, 0, 0) := by decide +kernel
theorem e62_32 : vm_ent 62 32 = some (.aload_n 0, 0, 0, 0) := by decide +kernel
theorem e62_33 : vm_ent 62 33 = some (.getfield 37, 5, 6, 201) := by decide +kernel
theorem e62_36 : vm_ent 62 36 = some (.getfield 156, 4, 0, 165) := by decide +kernel
theorem e62_39 : vm_ent 62 39 = some (.iload_n 2, 0, 0, 0) := by decide +kernel
theorem e62_40 : vm_ent 62 40 = some (.aaload, 0, 0, 0) := by decide +kernel
theorem e62_41 : vm_ent 62 41 = some (.getfield 168, 2, 0, 139) := by decide +kernel
theorem e62_44 : vm_ent 62 44 = some (.areturn, 0, 0, 0) := by decide +kernel
theorem e62_45 : vm_ent 62 45 = some (.iload_n 1, 0, 0, 0) := by decide +kernel
theorem e62_46 : vm_ent 62 46 = some (.iconst 2, 0, 0, 0) := by decide +kernel
theorem e62_47 : vm_ent 62 47 = some (.if_icmp .ne 32, 79, 0, 0) := by decide +kernel
theorem e62_50 : vm_ent 62 50 = some (.aload_n 0, 0, 0, 0) := by decide +kernel
theorem e62_51 : vm_ent 62 51 = some (.iload_n 2, 0, 0, 0) := by decide +kernel
theorem e62_52 : vm_ent 62 52 = some (.invokevirtual 153, 60, 4, 491) := by decide +kernel
theorem e62_55 : vm_ent 62 55 = some (.ifCond .eq 24, 79, 0, 0) := by decide +kernel
theorem e62_58 : vm_ent 62 58 = some (.aload_n 0, 0, 0, 0) := by decide +kernel
theorem e62_59 : vm_ent 62 59 = some (.getfield 62, 5, 12, 207) := by decide +kernel
theorem e62_62 : vm_ent 62 62 = some (.aload_n 0, 0, 0, 0) := by decide +kernel
theorem e62_63 : vm_ent 62 63 = some (.getfield 37, 5, 6, 201) := by decide +kernel
theorem e62_66 : vm_ent 62 66 = some (.getfield 156, 4, 0, 165) := by decide +kernel
theorem e62_69 : vm_ent 62 69 = some (.iload_n 2, 0, 0, 0) := by decide +kernel
theorem e62_70 : vm_ent 62 70 = some (.aaload, 0, 0, 0) := by decide +kernel
theorem e62_71 : vm_ent 62 71 = some (.invokevirtual 224, 20, 4, 516) := by decide +kernel
theorem e62_74 : vm_ent 62 74 = some (.aload_n 0, 0, 0, 0) := by decide +kernel
theorem e62_75 : vm_ent 62 75 = some (.getfield 62, 5, 12, 207) := by decide +kernel
theorem e62_78 : vm_ent 62 78 = some (.areturn, 0, 0, 0) := by decide +kernel
theorem e62_79 : vm_ent 62 79 = some (.iload_n 1, 0, 0, 0) := by decide +kernel
theorem e62_80 : vm_ent 62 80 = some (.iconst 3, 0, 0, 0) := by decide +kernel
theorem e62_81 : vm_ent 62 81 = some (.if_icmp .ne 12, 93, 0, 0) := by decide +kernel
theorem e62_84 : vm_ent 62 84 = some (.iload_n 2, 0, 0, 0) := by decide +kernel
theorem e62_85 : vm_ent 62 85 = some (.ifCond .ne 8, 93, 0, 0) := by decide +kernel
theorem e62_88 : vm_ent 62 88 = some (.aload_n 0, 0, 0, 0) := by decide +kernel
theorem e62_89 : vm_ent 62 89 = some (.getfield 52, 5, 9, 204) := by decide +kernel
theorem e62_92 : vm_ent 62 92 = some (.areturn, 0, 0, 0) := by decide +kernel
theorem e62_93 : vm_ent 62 93 = some (.iload_n 1, 0, 0, 0) := by decide +kernel
theorem e62_94 : vm_ent 62 94 = some (.iconst 4, 0, 0, 0) := by decide +kernel
theorem e62_95 : vm_ent 62 95 = some (.if_icmp .ne 12, 107, 0, 0) := by decide +kernel
theorem e62_98 : vm_ent 62 98 = some (.iload_n 2, 0, 0, 0) := by decide +kernel
theorem e62_99 : vm_ent 62 99 = some (.ifCond .ne 8, 107, 0, 0) := by decide +kernel
theorem e62_102 : vm_ent 62 102 = some (.aload_n 0, 0, 0, 0) := by decide +kernel
theorem e62_103 : vm_ent 62 103 = some (.getfield 48, 5, 8, 203) := by decide +kernel
theorem e62_106 : vm_ent 62 106 = some (.areturn, 0, 0, 0) := by decide +kernel
theorem e62_107 : vm_ent 62 107 = some (.aconst_null, 0, 0, 0) := by decide +kernel
theorem e62_108 : vm_ent 62 108 = some (.areturn, 0, 0, 0) := by decide +kernel
theorem e45_0 : vm_ent 45 0 = some (.aload_n 0, 0, 0, 0) := by decide +kernel
theorem e45_1 : vm_ent 45 1 = some (.getfield 12, 5, 0, 195) := by decide +kernel
theorem e45_4 : vm_ent 45 4 = some (.iload_n 1, 0, 0, 0) := by decide +kernel
theorem e45_5 : vm_ent 45 5 = some (.invokevirtual 75, 2, 4, 273) := by decide +kernel
theorem e45_8 : vm_ent 45 8 = some (.ifCond .eq 14, 22, 0, 0) := by decide +kernel
theorem e45_11 : vm_ent 45 11 = some (.aload_n 0, 0, 0, 0) := by decide +kernel
theorem e45_12 : vm_ent 45 12 = some (.getfield 12, 5, 0, 195) := by decide +kernel
theorem e45_15 : vm_ent 45 15 = some (.iload_n 2, 0, 0, 0) := by decide +kernel
theorem e45_16 : vm_ent 45 16 = some (.invokevirtual 75, 2, 4, 273) := by decide +kernel
theorem e45_19 : vm_ent 45 19 = some (.ifCond .ne 5, 24, 0, 0) := by decide +kernel
theorem e45_22 : vm_ent 45 22 = some (.iconst 0, 0, 0, 0) := by decide +kernel
theorem e45_23 : vm_ent 45 23 = some (.ireturn, 0, 0, 0) := by decide +kernel
theorem e45_24 : vm_ent 45 24 = some (.aload_n 0, 0, 0, 0) := by decide +kernel
theorem e45_25 : vm_ent 45 25 = some (.getfield 12, 5, 0, 195) := by decide +kernel
theorem e45_28 : vm_ent 45 28 = some (.iload_n 2, 0, 0, 0) := by decide +kernel
theorem e45_29 : vm_ent 45 29 = some (.invokevirtual 79, 5, 4, 277) := by decide +kernel
theorem e45_32 : vm_ent 45 32 = some (.istore_n 3, 0, 0, 0) := by decide +kernel
theorem e45_33 : vm_ent 45 33 = some (.iload_n 3, 0, 0, 0) := by decide +kernel
theorem e45_34 : vm_ent 45 34 = some (.iconst (-1), 0, 0, 0) := by decide +kernel
theorem e45_35 : vm_ent 45 35 = some (.if_icmp .eq 18, 53, 0, 0) := by decide +kernel
theorem e45_38 : vm_ent 45 38 = some (.iload_n 3, 0, 0, 0) := by decide +kernel
theorem e45_39 : vm_ent 45 39 = some (.iload_n 1, 0, 0, 0) := by decide +kernel
theorem e45_40 : vm_ent 45 40 = some (.if_icmp .eq 13, 53, 0, 0) := by decide +kernel
theorem e45_43 : vm_ent 45 43 = some (.aload_n 0, 0, 0, 0) := by decide +kernel
theorem e45_44 : vm_ent 45 44 = some (.iload_n 3, 0, 0, 0) := by decide +kernel
theorem e45_45 : vm_ent 45 45 = some (.iload_n 1, 0, 0, 0) := by decide +kernel
theorem e45_46 : vm_ent 45 46 = some (.invokevirtual 83, 64, 4, 281) := by decide +kernel
theorem e45_49 : vm_ent 45 49 = some (.aload_n 0, 0, 0, 0) := by decide +kernel
theorem e45_50 : vm_ent 45 50 = some (.invokevirtual 72, 63, 4, 258) := by decide +kernel
theorem e45_53 : vm_ent 45 53 = some (.iconst 1, 0, 0, 0) := by decide +kernel
theorem e45_54 : vm_ent 45 54 = some (.ireturn, 0, 0, 0) := by decide +kernel
theorem e47_0 : vm_ent 47 0 = some (.aload_n 0, 0, 0, 0) := by decide +kernel
theorem e47_1 : vm_ent 47 1 = some (.iload_n 1, 0, 0, 0) := by decide +kernel
theorem e47_2 : vm_ent 47 2 = some (.invokevirtual 91, 59, 4, 320) := by decide +kernel
theorem e47_5 : vm_ent 47 5 = some (.ifCond .eq 15, 20, 0, 0) := by decide +kernel
theorem e47_8 : vm_ent 47 8 = some (.aload_n 0, 0, 0, 0) := by decide +kernel
theorem e47_9 : vm_ent 47 9 = some (.getfield 12, 5, 0, 195) := by decide +kernel
theorem e47_12 : vm_ent 47 12 = some (.iload 4, 0, 0, 0) := by decide +kernel
theorem e47_14 : vm_ent 47 14 = some (.invokevirtual 94, 7, 4, 324) := by decide +kernel
theorem e47_17 : vm_ent 47 17 = some (.ifCond .ne 5, 22, 0, 0) := by decide +kernel
theorem e47_20 : vm_ent 47 20 = some (.iconst 0, 0, 0, 0) := by decide +kernel
theorem e47_21 : vm_ent 47 21 = some (.ireturn, 0, 0, 0) := by decide +kernel
theorem e47_22 : vm_ent 47 22 = some (.lload_n 2, 0, 0, 0) := by decide +kernel
theorem e47_23 : vm_ent 47 23 = some (.lconst 0, 0, 0, 0) := by decide +kernel
theorem e47_24 : vm_ent 47 24 = some (.lcmp, 0, 0, 0) := by decide +kernel
theorem e47_25 : vm_ent 47 25 = some (.ifCond .ne 5, 30, 0, 0) := by decide +kernel
theorem e47_28 : vm_ent 47 28 = some (.iconst 1, 0, 0, 0) := by decide +kernel
theorem e47_29 : vm_ent 47 29 = some (.ireturn, 0, 0, 0) := by decide +kernel
theorem e47_30 : vm_ent 47 30 = some (.aload_n 0, 0, 0, 0) := by decide +kernel
theorem e47_31 : vm_ent 47 31 = some (.getfield 18, 5, 1, 196) := by decide +kernel
theorem e47_34 : vm_ent 47 34 = some (.iload_n 1, 0, 0, 0) := by decide +kernel
theorem e47_35 : vm_ent 47 35 = some (.aaload, 0, 0, 0) := by decide +kernel
theorem e47_36 : vm_ent 47 36 = some (.aload_n 0, 0, 0, 0) := by decide +kernel
theorem e47_37 : vm_ent 47 37 = some (.getfield 12, 5, 0, 195) := by decide +kernel
theorem e47_40 : vm_ent 47 40 = some (.iload 4, 0, 0, 0) := by decide +kernel
theorem e47_42 : vm_ent 47 42 = some (.invokevirtual 97, 8, 4, 328) := by decide +kernel
theorem e47_45 : vm_ent 47 45 = some (.lload_n 2, 0, 0, 0) := by decide +kernel
theorem e47_46 : vm_ent 47 46 = some (.invokevirtual 101, 23, 4, 329) := by decide +kernel
theorem e47_49 : vm_ent 47 49 = some (.ifCond .ne 5, 54, 0, 0) := by decide +kernel
theorem e47_52 : vm_ent 47 52 = some (.iconst 0, 0, 0, 0) := by decide +kernel
theorem e47_53 : vm_ent 47 53 = some (.ireturn, 0, 0, 0) := by decide +kernel
theorem e47_54 : vm_ent 47 54 = some (.aload_n 0, 0, 0, 0) := by decide +kernel
theorem e47_55 : vm_ent 47 55 = some (.getfield 23, 5, 2, 197) := by decide +kernel
theorem e47_58 : vm_ent 47 58 = some (.iload_n 1, 0, 0, 0) := by decide +kernel
theorem e47_59 : vm_ent 47 59 = some (.baload, 0, 0, 0) := by decide +kernel
theorem e47_60 : vm_ent 47 60 = some (.ifCond .eq 7, 67, 0, 0) := by decide +kernel
theorem e47_63 : vm_ent 47 63 = some (.aload_n 0, 0, 0, 0) := by decide +kernel
theorem e47_64 : vm_ent 47 64 = some (.invokevirtual 72, 63, 4, 258) := by decide +kernel
theorem e47_67 : vm_ent 47 67 = some (.iconst 1, 0, 0, 0) := by decide +kernel
theorem e47_68 : vm_ent 47 68 = some (.ireturn, 0, 0, 0) := by decide +kernel
theorem e50_0 : vm_ent 50 0 = some (.aload_n 0, 0, 0, 0) := by decide +kernel
theorem e50_1 : vm_ent 50 1 = some (.iload_n 1, 0, 0, 0) := by decide +kernel
theorem e50_2 : vm_ent 50 2 = some (.invokevirtual 91, 59, 4, 320) := by decide +kernel
theorem e50_5 : vm_ent 50 5 = some (.ifCond .eq 13, 18, 0, 0) := by decide +kernel
theorem e50_8 : vm_ent 50 8 = some (.aload_n 0, 0, 0, 0) := by decide +kernel
theorem e50_9 : vm_ent 50 9 = some (.getfield 37, 5, 6, 201) := by decide +kernel
theorem e50_12 : vm_ent 50 12 = some (.getfield 112, 4, 1, 167) := by decide +kernel
theorem e50_15 : vm_ent 50 15 = some (.ifCond .ne 5, 20, 0, 0) := by decide +kernel
theorem e50_18 : vm_ent 50 18 = some (.iconst (-1), 0, 0, 0) := by decide +kernel
theorem e50_19 : vm_ent 50 19 = some (.ireturn, 0, 0, 0) := by decide +kernel
theorem e50_20 : vm_ent 50 20 = some (.aload_n 0, 0, 0, 0) := by decide +kernel
theorem e50_21 : vm_ent 50 21 = some (.getfield 52, 5, 9, 204) := by decide +kernel
theorem e50_24 : vm_ent 50 24 = some (.invokevirtual 109, 17, 4, 262) := by decide +kernel
theorem e50_27 : vm_ent 50 27 = some (.aload_n 0, 0, 0, 0) := by decide +kernel
theorem e50_28 : vm_ent 50 28 = some (.getfield 62, 5, 12, 207) := by decide +kernel
theorem e50_31 : vm_ent 50 31 = some (.aload_n 0, 0, 0, 0) := by decide +kernel
theorem e50_32 : vm_ent 50 32 = some (.getfield 18, 5, 1, 196) := by decide +kernel
theorem e50_35 : vm_ent 50 35 = some (.iload_n 1, 0, 0, 0) := by decide +kernel
theorem e50_36 : vm_ent 50 36 = some (.aaload, 0, 0, 0) := by decide +kernel
theorem e50_37 : vm_ent 50 37 = some (.invokevirtual 131, 19, 4, 406) := by decide +kernel
theorem e50_40 : vm_ent 50 40 = some (.aload_n 0, 0, 0, 0) := by decide +kernel
theorem e50_41 : vm_ent 50 41 = some (.sipush 200, 0, 0, 0) := by decide +kernel
theorem e50_44 : vm_ent 50 44 = some (.invokevirtual 135, 72, 4, 439) := by decide +kernel
theorem e50_47 : vm_ent 50 47 = some (.istore_n 2, 0, 0, 0) := by decide +kernel
theorem e50_48 : vm_ent 50 48 = some (.aload_n 0, 0, 0, 0) := by decide +kernel
theorem e50_49 : vm_ent 50 49 = some (.aload_n 0, 0, 0, 0) := by decide +kernel
theorem e50_50 : vm_ent 50 50 = some (.getfield 138, 5, 14, 209) := by decide +kernel
theorem e50_53 : vm_ent 50 53 = some (.putfield 141, 5, 17, 212) := by decide +kernel
theorem e50_56 : vm_ent 50 56 = some (.iload_n 2, 0, 0, 0) := by decide +kernel
theorem e50_57 : vm_ent 50 57 = some (.ifCond .ne 5, 62, 0, 0) := by decide +kernel
theorem e50_60 : vm_ent 50 60 = some (.iconst 2, 0, 0, 0) := by decide +kernel
theorem e50_61 : vm_ent 50 61 = some (.ireturn, 0, 0, 0) := by decide +kernel
theorem e50_62 : vm_ent 50 62 = some (.aload_n 0, 0, 0, 0) := by decide +kernel
theorem e50_63 : vm_ent 50 63 = some (.getfield 55, 5, 10, 205) := by decide +kernel
theorem e50_66 : vm_ent 50 66 = some (.aload_n 0, 0, 0, 0) := by decide +kernel
theorem e50_67 : vm_ent 50 67 = some (.getfield 18, 5, 1, 196) := by decide +kernel
theorem e50_70 : vm_ent 50 70 = some (.iload_n 1, 0, 0, 0) := by decide +kernel
theorem e50_71 : vm_ent 50 71 = some (.aaload, 0, 0, 0) := by decide +kernel
theorem e50_72 : vm_ent 50 72 = some (.invokevirtual 131, 19, 4, 406) := by decide +kernel
theorem e50_75 : vm_ent 50 75 = some (.aload_n 0, 0, 0, 0) := by decide +kernel
theorem e50_76 : vm_ent 50 76 = some (.getfield 65, 5, 13, 208) := by decide +kernel
theorem e50_79 : vm_ent 50 79 = some (.iconst 0, 0, 0, 0) := by decide +kernel
theorem e50_80 : vm_ent 50 80 = some (.aload_n 0, 0, 0, 0) := by decide +kernel
theorem e50_81 : vm_ent 50 81 = some (.getfield 58, 5, 11, 206) := by decide +kernel
theorem e50_84 : vm_ent 50 84 = some (.iconst 0, 0, 0, 0) := by decide +kernel
theorem e50_85 : vm_ent 50 85 = some (.bipush 8, 0, 0, 0) := by decide +kernel
theorem e50_87 : vm_ent 50 87 = some (.invokestatic 144, 9999, 9, 486) := by decide +kernel
theorem e50_90 : vm_ent 50 90 = some (.aload_n 0, 0, 0, 0) := by decide +kernel
theorem e50_91 : vm_ent 50 91 = some (.getfield 52, 5, 9, 204) := by decide +kernel
theorem e50_94 : vm_ent 50 94 = some (.aload_n 0, 0, 0, 0) := by decide +kernel
theorem e50_95 : vm_ent 50 95 = some (.getfield 62, 5, 12, 207) := by decide +kernel
theorem e50_98 : vm_ent 50 98 = some (.invokevirtual 131, 19, 4, 406) := by decide +kernel
theorem e50_101 : vm_ent 50 101 = some (.aload_n 0, 0, 0, 0) := by decide +kernel
theorem e50_102 : vm_ent 50 102 = some (.getfield 52, 5, 9, 204) := by decide +kernel
theorem e50_105 : vm_ent 50 105 = some (.getfield 150, 1, 2, 117) := by decide +kernel
theorem e50_108 : vm_ent 50 108 = some (.ifCond .ne 7, 115, 0, 0) := by decide +kernel
theorem e50_111 : vm_ent 50 111 = some (.iconst 1, 0, 0, 0) := by decide +kernel
theorem e50_112 : vm_ent 50 112 = some (.goto 4, 116, 0, 0) := by decide +kernel
theorem e50_115 : vm_ent 50 115 = some (.iconst 0, 0, 0, 0) := by decide +kernel
theorem e50_116 : vm_ent 50 116 = some (.ireturn, 0, 0, 0) := by decide +kernel
theorem e51_0 : vm_ent 51 0 = some (.aload_n 0, 0, 0, 0) := by decide +kernel
theorem e51_1 : vm_ent 51 1 = some (.iload_n 1, 0, 0, 0) := by decide +kernel
theorem e51_2 : vm_ent 51 2 = some (.invokevirtual 153, 60, 4, 491) := by decide +kernel
theorem e51_5 : vm_ent 51 5 = some (.ifCond .ne 5, 10, 0, 0) := by decide +kernel
theorem e51_8 : vm_ent 51 8 = some (.iconst (-1), 0, 0, 0) := by decide +kernel
theorem e51_9 : vm_ent 51 9 = some (.ireturn, 0, 0, 0) := by decide +kernel
theorem e51_10 : vm_ent 51 10 = some (.aload_n 0, 0, 0, 0) := by decide +kernel
theorem e51_11 : vm_ent 51 11 = some (.getfield 37, 5, 6, 201) := by decide +kernel
theorem e51_14 : vm_ent 51 14 = some (.getfield 156, 4, 0, 165) := by decide +kernel
theorem e51_17 : vm_ent 51 17 = some (.iload_n 1, 0, 0, 0) := by decide +kernel
theorem e51_18 : vm_ent 51 18 = some (.aaload, 0, 0, 0) := by decide +kernel
theorem e51_19 : vm_ent 51 19 = some (.astore_n 3, 0, 0, 0) := by decide +kernel
theorem e51_20 : vm_ent 51 20 = some (.iload_n 2, 0, 0, 0) := by decide +kernel
theorem e51_21 : vm_ent 51 21 = some (.tableswitch 63 0 3 #[31, 43, 48, 56], 31, 0, 0) := by decide +kernel
theorem e51_52 : vm_ent 51 52 = some (.aload_n 0, 0, 0, 0) := by decide +kernel
theorem e51_53 : vm_ent 51 53 = some (.getfield 12, 5, 0, 195) := by decide +kernel
theorem e51_56 : vm_ent 51 56 = some (.aload_n 3, 0, 0, 0) := by decide +kernel
theorem e51_57 : vm_ent 51 57 = some (.getfield 159, 2, 1, 144) := by decide +kernel
theorem e51_60 : vm_ent 51 60 = some (.invokevirtual 162, 4, 4, 495) := by decide +kernel
theorem e51_63 : vm_ent 51 63 = some (.ireturn, 0, 0, 0) := by decide +kernel
theorem e51_64 : vm_ent 51 64 = some (.aload_n 3, 0, 0, 0) := by decide +kernel
theorem e51_65 : vm_ent 51 65 = some (.getfield 165, 2, 2, 149) := by decide +kernel
theorem e51_68 : vm_ent 51 68 = some (.ireturn, 0, 0, 0) := by decide +kernel
theorem e51_69 : vm_ent 51 69 = some (.aload_n 3, 0, 0, 0) := by decide +kernel
theorem e51_70 : vm_ent 51 70 = some (.getfield 168, 2, 0, 139) := by decide +kernel
theorem e51_73 : vm_ent 51 73 = some (.getfield 150, 1, 2, 117) := by decide +kernel
theorem e51_76 : vm_ent 51 76 = some (.ireturn, 0, 0, 0) := by decide +kernel
theorem e51_77 : vm_ent 51 77 = some (.aload_n 0, 0, 0, 0) := by decide +kernel
theorem e51_78 : vm_ent 51 78 = some (.getfield 58, 5, 11, 206) := by decide +kernel
theorem e51_81 : vm_ent 51 81 = some (.iload_n 1, 0, 0, 0) := by decide +kernel
theorem e51_82 : vm_ent 51 82 = some (.iaload, 0, 0, 0) := by decide +kernel
theorem e51_83 : vm_ent 51 83 = some (.ireturn, 0, 0, 0) := by decide +kernel
theorem e51_84 : vm_ent 51 84 = some (.iconst (-1), 0, 0, 0) := by decide +kernel
theorem e51_85 : vm_ent 51 85 = some (.ireturn, 0, 0, 0) := by decide +kernel
theorem e52_0 : vm_ent 52 0 = some (.iload_n 1, 0, 0, 0) := by decide +kernel
theorem e52_1 : vm_ent 52 1 = some (.tableswitch 117 0 9 #[55, 63, 68, 73, 81, 86, 91, 96, 101, 109], 55, 0, 0) := by decide +kernel
theorem e52_56 : vm_ent 52 56 = some (.aload_n 0, 0, 0, 0) := by decide +kernel
theorem e52_57 : vm_ent 52 57 = some (.getfield 12, 5, 0, 195) := by decide +kernel
theorem e52_60 : vm_ent 52 60 = some (.getfield 171, 0, 0, 81) := by decide +kernel
theorem e52_63 : vm_ent 52 63 = some (.ireturn, 0, 0, 0) := by decide +kernel
theorem e52_64 : vm_ent 52 64 = some (.aload_n 0, 0, 0, 0) := by decide +kernel
theorem e52_65 : vm_ent 52 65 = some (.getfield 87, 5, 3, 198) := by decide +kernel
theorem e52_68 : vm_ent 52 68 = some (.ireturn, 0, 0, 0) := by decide +kernel
theorem e52_69 : vm_ent 52 69 = some (.aload_n 0, 0, 0, 0) := by decide +kernel
theorem e52_70 : vm_ent 52 70 = some (.invokevirtual 172, 61, 4, 504) := by decide +kernel
theorem e52_73 : vm_ent 52 73 = some (.ireturn, 0, 0, 0) := by decide +kernel
theorem e52_74 : vm_ent 52 74 = some (.aload_n 0, 0, 0, 0) := by decide +kernel
theorem e52_75 : vm_ent 52 75 = some (.getfield 37, 5, 6, 201) := by decide +kernel
theorem e52_78 : vm_ent 52 78 = some (.getfield 112, 4, 1, 167) := by decide +kernel
theorem e52_81 : vm_ent 52 81 = some (.ireturn, 0, 0, 0) := by decide +kernel
theorem e52_82 : vm_ent 52 82 = some (.aload_n 0, 0, 0, 0) := by decide +kernel
theorem e52_83 : vm_ent 52 83 = some (.getfield 115, 5, 15, 210) := by decide +kernel
theorem e52_86 : vm_ent 52 86 = some (.ireturn, 0, 0, 0) := by decide +kernel
theorem e52_87 : vm_ent 52 87 = some (.aload_n 0, 0, 0, 0) := by decide +kernel
theorem e52_88 : vm_ent 52 88 = some (.getfield 175, 5, 5, 200) := by decide +kernel
theorem e52_91 : vm_ent 52 91 = some (.ireturn, 0, 0, 0) := by decide +kernel
theorem e52_92 : vm_ent 52 92 = some (.aload_n 0, 0, 0, 0) := by decide +kernel
theorem e52_93 : vm_ent 52 93 = some (.getfield 118, 5, 16, 211) := by decide +kernel
theorem e52_96 : vm_ent 52 96 = some (.ireturn, 0, 0, 0) := by decide +kernel
theorem e52_97 : vm_ent 52 97 = some (.aload_n 0, 0, 0, 0) := by decide +kernel
theorem e52_98 : vm_ent 52 98 = some (.getfield 141, 5, 17, 212) := by decide +kernel
theorem e52_101 : vm_ent 52 101 = some (.ireturn, 0, 0, 0) := by decide +kernel
theorem e52_102 : vm_ent 52 102 = some (.aload_n 0, 0, 0, 0) := by decide +kernel
theorem e52_103 : vm_ent 52 103 = some (.getfield 48, 5, 8, 203) := by decide +kernel
theorem e52_106 : vm_ent 52 106 = some (.getfield 150, 1, 2, 117) := by decide +kernel
theorem e52_109 : vm_ent 52 109 = some (.ireturn, 0, 0, 0) := by decide +kernel
theorem e52_110 : vm_ent 52 110 = some (.aload_n 0, 0, 0, 0) := by decide +kernel
theorem e52_111 : vm_ent 52 111 = some (.getfield 52, 5, 9, 204) := by decide +kernel
theorem e52_114 : vm_ent 52 114 = some (.getfield 150, 1, 2, 117) := by decide +kernel
theorem e52_117 : vm_ent 52 117 = some (.ireturn, 0, 0, 0) := by decide +kernel
theorem e52_118 : vm_ent 52 118 = some (.iconst (-1), 0, 0, 0) := by decide +kernel
theorem e52_119 : vm_ent 52 119 = some (.ireturn, 0, 0, 0) := by decide +kernel
theorem e53_0 : vm_ent 53 0 = some (.aload_n 0, 0, 0, 0) := by decide +kernel
theorem e53_1 : vm_ent 53 1 = some (.iload_n 1, 0, 0, 0) := by decide +kernel
theorem e53_2 : vm_ent 53 2 = some (.iload_n 2, 0, 0, 0) := by decide +kernel
theorem e53_3 : vm_ent 53 3 = some (.invokevirtual 178, 62, 4, 512) := by decide +kernel
theorem e53_6 : vm_ent 53 6 = some (.astore 4, 0, 0, 0) := by decide +kernel
theorem e53_8 : vm_ent 53 8 = some (.aload 4, 0, 0, 0) := by decide +kernel
theorem e53_10 : vm_ent 53 10 = some (.ifnull 12, 22, 0, 0) := by decide +kernel
theorem e53_13 : vm_ent 53 13 = some (.aload 4, 0, 0, 0) := by decide +kernel
theorem e53_15 : vm_ent 53 15 = some (.iload_n 3, 0, 0, 0) := by decide +kernel
theorem e53_16 : vm_ent 53 16 = some (.invokevirtual 182, 18, 4, 520) := by decide +kernel
theorem e53_19 : vm_ent 53 19 = some (.ifCond .ne 5, 24, 0, 0) := by decide +kernel
theorem e53_22 : vm_ent 53 22 = some (.lconst 0, 0, 0, 0) := by decide +kernel
theorem e53_23 : vm_ent 53 23 = some (.lreturn, 0, 0, 0) := by decide +kernel
theorem e53_24 : vm_ent 53 24 = some (.aload 4, 0, 0, 0) := by decide +kernel
theorem e53_26 : vm_ent 53 26 = some (.getfield 185, 1, 1, 111) := by decide +kernel
theorem e53_29 : vm_ent 53 29 = some (.iload_n 3, 0, 0, 0) := by decide +kernel
theorem e53_30 : vm_ent 53 30 = some (.laload, 0, 0, 0) := by decide +kernel
theorem e53_31 : vm_ent 53 31 = some (.lreturn, 0, 0, 0) := by decide +kernel
theorem e54_0 : vm_ent 54 0 = some (.aload_n 0, 0, 0, 0) := by decide +kernel
theorem e54_1 : vm_ent 54 1 = some (.iload_n 1, 0, 0, 0) := by decide +kernel
theorem e54_2 : vm_ent 54 2 = some (.iload_n 2, 0, 0, 0) := by decide +kernel
theorem e54_3 : vm_ent 54 3 = some (.invokevirtual 178, 62, 4, 512) := by decide +kernel
theorem e54_6 : vm_ent 54 6 = some (.astore 4, 0, 0, 0) := by decide +kernel
theorem e54_8 : vm_ent 54 8 = some (.aload 4, 0, 0, 0) := by decide +kernel
theorem e54_10 : vm_ent 54 10 = some (.ifnull 12, 22, 0, 0) := by decide +kernel
theorem e54_13 : vm_ent 54 13 = some (.aload 4, 0, 0, 0) := by decide +kernel
theorem e54_15 : vm_ent 54 15 = some (.iload_n 3, 0, 0, 0) := by decide +kernel
theorem e54_16 : vm_ent 54 16 = some (.invokevirtual 182, 18, 4, 520) := by decide +kernel
theorem e54_19 : vm_ent 54 19 = some (.ifCond .ne 5, 24, 0, 0) := by decide +kernel
theorem e54_22 : vm_ent 54 22 = some (.iconst (-1), 0, 0, 0) := by decide +kernel
theorem e54_23 : vm_ent 54 23 = some (.ireturn, 0, 0, 0) := by decide +kernel
theorem e54_24 : vm_ent 54 24 = some (.aload_n 0, 0, 0, 0) := by decide +kernel
theorem e54_25 : vm_ent 54 25 = some (.getfield 12, 5, 0, 195) := by decide +kernel
theorem e54_28 : vm_ent 54 28 = some (.aload 4, 0, 0, 0) := by decide +kernel
theorem e54_30 : vm_ent 54 30 = some (.getfield 189, 1, 0, 108) := by decide +kernel
theorem e54_33 : vm_ent 54 33 = some (.iload_n 3, 0, 0, 0) := by decide +kernel
theorem e54_34 : vm_ent 54 34 = some (.laload, 0, 0, 0) := by decide +kernel
theorem e54_35 : vm_ent 54 35 = some (.invokevirtual 192, 9, 4, 528) := by decide +kernel
theorem e54_38 : vm_ent 54 38 = some (.ireturn, 0, 0, 0) := by decide +kernel
theorem e55_0 : vm_ent 55 0 = some (.aload_n 0, 0, 0, 0) := by decide +kernel
theorem e55_1 : vm_ent 55 1 = some (.getfield 12, 5, 0, 195) := by decide +kernel
theorem e55_4 : vm_ent 55 4 = some (.iload_n 1, 0, 0, 0) := by decide +kernel
theorem e55_5 : vm_ent 55 5 = some (.invokevirtual 75, 2, 4, 273) := by decide +kernel
theorem e55_8 : vm_ent 55 8 = some (.ifCond .ne 5, 13, 0, 0) := by decide +kernel
theorem e55_11 : vm_ent 55 11 = some (.iconst 0, 0, 0, 0) := by decide +kernel
theorem e55_12 : vm_ent 55 12 = some (.ireturn, 0, 0, 0) := by decide +kernel
theorem e55_13 : vm_ent 55 13 = some (.aload_n 0, 0, 0, 0) := by decide +kernel
theorem e55_14 : vm_ent 55 14 = some (.getfield 12, 5, 0, 195) := by decide +kernel
theorem e55_17 : vm_ent 55 17 = some (.getfield 196, 0, 2, 84) := by decide +kernel
theorem e55_20 : vm_ent 55 20 = some (.iload_n 1, 0, 0, 0) := by decide +kernel
theorem e55_21 : vm_ent 55 21 = some (.lload_n 2, 0, 0, 0) := by decide +kernel
theorem e55_22 : vm_ent 55 22 = some (.lastore, 0, 0, 0) := by decide +kernel
theorem e55_23 : vm_ent 55 23 = some (.iconst 1, 0, 0, 0) := by decide +kernel
theorem e55_24 : vm_ent 55 24 = some (.ireturn, 0, 0, 0) := by decide +kernel
theorem e56_0 : vm_ent 56 0 = some (.aload_n 0, 0, 0, 0) := by decide +kernel
theorem e56_1 : vm_ent 56 1 = some (.iload_n 1, 0, 0, 0) := by decide +kernel
theorem e56_2 : vm_ent 56 2 = some (.iload_n 2, 0, 0, 0) := by decide +kernel
theorem e56_3 : vm_ent 56 3 = some (.invokevirtual 178, 62, 4, 512) := by decide +kernel
theorem e56_6 : vm_ent 56 6 = some (.astore_n 3, 0, 0, 0) := by decide +kernel
theorem e56_7 : vm_ent 56 7 = some (.aload_n 3, 0, 0, 0) := by decide +kernel
theorem e56_8 : vm_ent 56 8 = some (.ifnonnull 7, 15, 0, 0) := by decide +kernel
theorem e56_11 : vm_ent 56 11 = some (.lconst 0, 0, 0, 0) := by decide +kernel
theorem e56_12 : vm_ent 56 12 = some (.goto 11, 23, 0, 0) := by decide +kernel
theorem e56_15 : vm_ent 56 15 = some (.aload_n 0, 0, 0, 0) := by decide +kernel
theorem e56_16 : vm_ent 56 16 = some (.getfield 12, 5, 0, 195) := by decide +kernel
theorem e56_19 : vm_ent 56 19 = some (.aload_n 3, 0, 0, 0) := by decide +kernel
theorem e56_20 : vm_ent 56 20 = some (.invokevirtual 199, 13, 4, 537) := by decide +kernel
theorem e56_23 : vm_ent 56 23 = some (.lreturn, 0, 0, 0) := by decide +kernel
theorem e57_0 : vm_ent 57 0 = some (.aload_n 0, 0, 0, 0) := by decide +kernel
theorem e57_1 : vm_ent 57 1 = some (.iload_n 1, 0, 0, 0) := by decide +kernel
theorem e57_2 : vm_ent 57 2 = some (.invokevirtual 153, 60, 4, 491) := by decide +kernel
theorem e57_5 : vm_ent 57 5 = some (.ifCond .ne 5, 10, 0, 0) := by decide +kernel
theorem e57_8 : vm_ent 57 8 = some (.lconst 0, 0, 0, 0) := by decide +kernel
theorem e57_9 : vm_ent 57 9 = some (.lreturn, 0, 0, 0) := by decide +kernel
theorem e57_10 : vm_ent 57 10 = some (.aload_n 0, 0, 0, 0) := by decide +kernel
theorem e57_11 : vm_ent 57 11 = some (.getfield 62, 5, 12, 207) := by decide +kernel
theorem e57_14 : vm_ent 57 14 = some (.aload_n 0, 0, 0, 0) := by decide +kernel
theorem e57_15 : vm_ent 57 15 = some (.getfield 55, 5, 10, 205) := by decide +kernel
theorem e57_18 : vm_ent 57 18 = some (.invokevirtual 131, 19, 4, 406) := by decide +kernel
theorem e57_21 : vm_ent 57 21 = some (.lconst 0, 0, 0, 0) := by decide +kernel
theorem e57_22 : vm_ent 57 22 = some (.lstore_n 2, 0, 0, 0) := by decide +kernel
theorem e57_23 : vm_ent 57 23 = some (.aload_n 0, 0, 0, 0) := by decide +kernel
theorem e57_24 : vm_ent 57 24 = some (.getfield 37, 5, 6, 201) := by decide +kernel
theorem e57_27 : vm_ent 57 27 = some (.getfield 112, 4, 1, 167) := by decide +kernel
theorem e57_30 : vm_ent 57 30 = some (.iconst 1, 0, 0, 0) := by decide +kernel
theorem e57_31 : vm_ent 57 31 = some (.isub, 0, 0, 0) := by decide +kernel
theorem e57_32 : vm_ent 57 32 = some (.istore 4, 0, 0, 0) := by decide +kernel
theorem e57_34 : vm_ent 57 34 = some (.iconst 0, 0, 0, 0) := by decide +kernel
theorem e57_35 : vm_ent 57 35 = some (.istore 5, 0, 0, 0) := by decide +kernel
theorem e57_37 : vm_ent 57 37 = some (.iload 5, 0, 0, 0) := by decide +kernel
theorem e57_39 : vm_ent 57 39 = some (.sipush 200, 0, 0, 0) := by decide +kernel
theorem e57_42 : vm_ent 57 42 = some (.if_icmp .ge 136, 178, 0, 0) := by decide +kernel
theorem e57_45 : vm_ent 57 45 = some (.aload_n 0, 0, 0, 0) := by decide +kernel
theorem e57_46 : vm_ent 57 46 = some (.getfield 37, 5, 6, 201) := by decide +kernel
theorem e57_49 : vm_ent 57 49 = some (.iload 4, 0, 0, 0) := by decide +kernel
theorem e57_51 : vm_ent 57 51 = some (.aload_n 0, 0, 0, 0) := by decide +kernel
theorem e57_52 : vm_ent 57 52 = some (.getfield 62, 5, 12, 207) := by decide +kernel
theorem e57_55 : vm_ent 57 55 = some (.invokevirtual 203, 42, 4, 443) := by decide +kernel
theorem e57_58 : vm_ent 57 58 = some (.istore 4, 0, 0, 0) := by decide +kernel
theorem e57_60 : vm_ent 57 60 = some (.iload 4, 0, 0, 0) := by decide +kernel
theorem e57_62 : vm_ent 57 62 = some (.iconst (-1), 0, 0, 0) := by decide +kernel
theorem e57_63 : vm_ent 57 63 = some (.if_icmp .ne 6, 69, 0, 0) := by decide +kernel
theorem e57_66 : vm_ent 57 66 = some (.goto 112, 178, 0, 0) := by decide +kernel
theorem e57_69 : vm_ent 57 69 = some (.aload_n 0, 0, 0, 0) := by decide +kernel
theorem e57_70 : vm_ent 57 70 = some (.getfield 37, 5, 6, 201) := by decide +kernel
theorem e57_73 : vm_ent 57 73 = some (.getfield 156, 4, 0, 165) := by decide +kernel
theorem e57_76 : vm_ent 57 76 = some (.iload 4, 0, 0, 0) := by decide +kernel
theorem e57_78 : vm_ent 57 78 = some (.aaload, 0, 0, 0) := by decide +kernel
theorem e57_79 : vm_ent 57 79 = some (.astore 6, 0, 0, 0) := by decide +kernel
theorem e57_81 : vm_ent 57 81 = some (.lload_n 2, 0, 0, 0) := by decide +kernel
theorem e57_82 : vm_ent 57 82 = some (.aload_n 0, 0, 0, 0) := by decide +kernel
theorem e57_83 : vm_ent 57 83 = some (.getfield 12, 5, 0, 195) := by decide +kernel
theorem e57_86 : vm_ent 57 86 = some (.aload 6, 0, 0, 0) := by decide +kernel
theorem e57_88 : vm_ent 57 88 = some (.getfield 168, 2, 0, 139) := by decide +kernel
theorem e57_91 : vm_ent 57 91 = some (.aload 6, 0, 0, 0) := by decide +kernel
theorem e57_93 : vm_ent 57 93 = some (.getfield 159, 2, 1, 144) := by decide +kernel
theorem e57_96 : vm_ent 57 96 = some (.aload 6, 0, 0, 0) := by decide +kernel
theorem e57_98 : vm_ent 57 98 = some (.getfield 165, 2, 2, 149) := by decide +kernel
theorem e57_101 : vm_ent 57 101 = some (.aload 6, 0, 0, 0) := by decide +kernel
theorem e57_103 : vm_ent 57 103 = some (.getfield 165, 2, 2, 149) := by decide +kernel
theorem e57_106 : vm_ent 57 106 = some (.invokevirtual 207, 14, 4, 549) := by decide +kernel
theorem e57_109 : vm_ent 57 109 = some (.lmul, 0, 0, 0) := by decide +kernel
theorem e57_110 : vm_ent 57 110 = some (.lstore_n 2, 0, 0, 0) := by decide +kernel
theorem e57_111 : vm_ent 57 111 = some (.iload 4, 0, 0, 0) := by decide +kernel
theorem e57_113 : vm_ent 57 113 = some (.iload_n 1, 0, 0, 0) := by decide +kernel
theorem e57_114 : vm_ent 57 114 = some (.if_icmp .ne 39, 153, 0, 0) := by decide +kernel
theorem e57_117 : vm_ent 57 117 = some (.lload_n 2, 0, 0, 0) := by decide +kernel
theorem e57_118 : vm_ent 57 118 = some (.aload_n 0, 0, 0, 0) := by decide +kernel
theorem e57_119 : vm_ent 57 119 = some (.getfield 12, 5, 0, 195) := by decide +kernel
theorem e57_122 : vm_ent 57 122 = some (.aload_n 0, 0, 0, 0) := by decide +kernel
theorem e57_123 : vm_ent 57 123 = some (.getfield 62, 5, 12, 207) := by decide +kernel
theorem e57_126 : vm_ent 57 126 = some (.aload 6, 0, 0, 0) := by decide +kernel
theorem e57_128 : vm_ent 57 128 = some (.getfield 159, 2, 1, 144) := by decide +kernel
theorem e57_131 : vm_ent 57 131 = some (.aload_n 0, 0, 0, 0) := by decide +kernel
theorem e57_132 : vm_ent 57 132 = some (.getfield 62, 5, 12, 207) := by decide +kernel
theorem e57_135 : vm_ent 57 135 = some (.aload 6, 0, 0, 0) := by decide +kernel
theorem e57_137 : vm_ent 57 137 = some (.getfield 159, 2, 1, 144) := by decide +kernel
theorem e57_140 : vm_ent 57 140 = some (.invokevirtual 211, 22, 4, 553) := by decide +kernel
theorem e57_143 : vm_ent 57 143 = some (.aload 6, 0, 0, 0) := by decide +kernel
theorem e57_145 : vm_ent 57 145 = some (.getfield 165, 2, 2, 149) := by decide +kernel
theorem e57_148 : vm_ent 57 148 = some (.invokevirtual 207, 14, 4, 549) := by decide +kernel
theorem e57_151 : vm_ent 57 151 = some (.ladd, 0, 0, 0) := by decide +kernel
theorem e57_152 : vm_ent 57 152 = some (.lstore_n 2, 0, 0, 0) := by decide +kernel
theorem e57_153 : vm_ent 57 153 = some (.aload_n 0, 0, 0, 0) := by decide +kernel
theorem e57_154 : vm_ent 57 154 = some (.getfield 44, 5, 7, 202) := by decide +kernel
theorem e57_157 : vm_ent 57 157 = some (.aload_n 0, 0, 0, 0) := by decide +kernel
theorem e57_158 : vm_ent 57 158 = some (.getfield 62, 5, 12, 207) := by decide +kernel
theorem e57_161 : vm_ent 57 161 = some (.aload 6, 0, 0, 0) := by decide +kernel
theorem e57_163 : vm_ent 57 163 = some (.invokevirtual 213, 32, 4, 447) := by decide +kernel
theorem e57_166 : vm_ent 57 166 = some (.ifCond .ne 6, 172, 0, 0) := by decide +kernel
theorem e57_169 : vm_ent 57 169 = some (.goto 9, 178, 0, 0) := by decide +kernel
theorem e57_172 : vm_ent 57 172 = some (.iinc 5 1, 0, 0, 0) := by decide +kernel
theorem e57_175 : vm_ent 57 175 = some (.goto (-138), 37, 0, 0) := by decide +kernel
theorem e57_178 : vm_ent 57 178 = some (.lload_n 2, 0, 0, 0) := by decide +kernel
theorem e57_179 : vm_ent 57 179 = some (.lreturn, 0, 0, 0) := by decide +kernel
theorem e3_0 : vm_ent 3 0 = some (.aload_n 0, 0, 0, 0) := by decide +kernel
theorem e3_1 : vm_ent 3 1 = some (.getfield 23, 0, 0, 80) := by decide +kernel
theorem e3_4 : vm_ent 3 4 = some (.bipush 8, 0, 0, 0) := by decide +kernel
theorem e3_6 : vm_ent 3 6 = some (.if_icmp .lt 5, 11, 0, 0) := by decide +kernel
theorem e3_9 : vm_ent 3 9 = some (.iconst (-1), 0, 0, 0) := by decide +kernel
theorem e3_10 : vm_ent 3 10 = some (.ireturn, 0, 0, 0) := by decide +kernel
theorem e3_11 : vm_ent 3 11 = some (.aload_n 0, 0, 0, 0) := by decide +kernel
theorem e3_12 : vm_ent 3 12 = some (.getfield 9, 0, 1, 82) := by decide +kernel
theorem e3_15 : vm_ent 3 15 = some (.aload_n 0, 0, 0, 0) := by decide +kernel
theorem e3_16 : vm_ent 3 16 = some (.getfield 23, 0, 0, 80) := by decide +kernel
theorem e3_19 : vm_ent 3 19 = some (.iload_n 1, 0, 0, 0) := by decide +kernel
theorem e3_20 : vm_ent 3 20 = some (.bastore, 0, 0, 0) := by decide +kernel
theorem e3_21 : vm_ent 3 21 = some (.aload_n 0, 0, 0, 0) := by decide +kernel
theorem e3_22 : vm_ent 3 22 = some (.getfield 19, 0, 3, 85) := by decide +kernel
theorem e3_25 : vm_ent 3 25 = some (.aload_n 0, 0, 0, 0) := by decide +kernel
theorem e3_26 : vm_ent 3 26 = some (.getfield 23, 0, 0, 80) := by decide +kernel
theorem e3_29 : vm_ent 3 29 = some (.aload_n 0, 0, 0, 0) := by decide +kernel
theorem e3_30 : vm_ent 3 30 = some (.getfield 23, 0, 0, 80) := by decide +kernel
theorem e3_33 : vm_ent 3 33 = some (.iastore, 0, 0, 0) := by decide +kernel
theorem e3_34 : vm_ent 3 34 = some (.aload_n 0, 0, 0, 0) := by decide +kernel
theorem e3_35 : vm_ent 3 35 = some (.dup, 0, 0, 0) := by decide +kernel
theorem e3_36 : vm_ent 3 36 = some (.getfield 23, 0, 0, 80) := by decide +kernel
theorem e3_39 : vm_ent 3 39 = some (.iconst 1, 0, 0, 0) := by decide +kernel
theorem e3_40 : vm_ent 3 40 = some (.iadd, 0, 0, 0) := by decide +kernel
theorem e3_41 : vm_ent 3 41 = some (.putfield 23, 0, 0, 80) := by decide +kernel
theorem e3_44 : vm_ent 3 44 = some (.aload_n 0, 0, 0, 0) := by decide +kernel
theorem e3_45 : vm_ent 3 45 = some (.getfield 23, 0, 0, 80) := by decide +kernel
theorem e3_48 : vm_ent 3 48 = some (.iconst 1, 0, 0, 0) := by decide +kernel
theorem e3_49 : vm_ent 3 49 = some (.isub, 0, 0, 0) := by decide +kernel
theorem e3_50 : vm_ent 3 50 = some (.ireturn, 0, 0, 0) := by decide +kernel
theorem e44_0 : vm_ent 44 0 = some (.aload_n 0, 0, 0, 0) := by decide +kernel
theorem e44_1 : vm_ent 44 1 = some (.getfield 12, 5, 0, 195) := by decide +kernel
theorem e44_4 : vm_ent 44 4 = some (.iload_n 1, 0, 0, 0) := by decide +kernel
theorem e44_5 : vm_ent 44 5 = some (.invokevirtual 68, 3, 4, 254) := by decide +kernel
theorem e44_8 : vm_ent 44 8 = some (.istore_n 2, 0, 0, 0) := by decide +kernel
theorem e44_9 : vm_ent 44 9 = some (.iload_n 2, 0, 0, 0) := by decide +kernel
theorem e44_10 : vm_ent 44 10 = some (.iconst (-1), 0, 0, 0) := by decide +kernel
theorem e44_11 : vm_ent 44 11 = some (.if_icmp .eq 7, 18, 0, 0) := by decide +kernel
theorem e44_14 : vm_ent 44 14 = some (.aload_n 0, 0, 0, 0) := by decide +kernel
theorem e44_15 : vm_ent 44 15 = some (.invokevirtual 72, 63, 4, 258) := by decide +kernel
theorem e44_18 : vm_ent 44 18 = some (.iload_n 2, 0, 0, 0) := by decide +kernel
theorem e44_19 : vm_ent 44 19 = some (.ireturn, 0, 0, 0) := by decide +kernel
theorem e46_0 : vm_ent 46 0 = some (.aload_n 0, 0, 0, 0) := by decide +kernel
theorem e46_1 : vm_ent 46 1 = some (.getfield 87, 5, 3, 198) := by decide +kernel
theorem e46_4 : vm_ent 46 4 = some (.bipush 16, 0, 0, 0) := by decide +kernel
theorem e46_6 : vm_ent 46 6 = some (.if_icmp .lt 5, 11, 0, 0) := by decide +kernel
theorem e46_9 : vm_ent 46 9 = some (.iconst (-1), 0, 0, 0) := by decide +kernel
theorem e46_10 : vm_ent 46 10 = some (.ireturn, 0, 0, 0) := by decide +kernel
theorem e46_11 : vm_ent 46 11 = some (.aload_n 0, 0, 0, 0) := by decide +kernel
theorem e46_12 : vm_ent 46 12 = some (.dup, 0, 0, 0) := by decide +kernel
theorem e46_13 : vm_ent 46 13 = some (.getfield 87, 5, 3, 198) := by decide +kernel
theorem e46_16 : vm_ent 46 16 = some (.iconst 1, 0, 0, 0) := by decide +kernel
theorem e46_17 : vm_ent 46 17 = some (.iadd, 0, 0, 0) := by decide +kernel
theorem e46_18 : vm_ent 46 18 = some (.putfield 87, 5, 3, 198) := by decide +kernel
theorem e46_21 : vm_ent 46 21 = some (.aload_n 0, 0, 0, 0) := by decide +kernel
theorem e46_22 : vm_ent 46 22 = some (.getfield 87, 5, 3, 198) := by decide +kernel
theorem e46_25 : vm_ent 46 25 = some (.iconst 1, 0, 0, 0) := by decide +kernel
theorem e46_26 : vm_ent 46 26 = some (.isub, 0, 0, 0) := by decide +kernel
theorem e46_27 : vm_ent 46 27 = some (.ireturn, 0, 0, 0) := by decide +kernel
theorem e38_0 : vm_ent 38 0 = some (.aload_n 0, 0, 0, 0) := by decide +kernel
theorem e38_1 : vm_ent 38 1 = some (.iconst 0, 0, 0, 0) := by decide +kernel
theorem e38_2 : vm_ent 38 2 = some (.putfield 17, 4, 1, 166) := by decide +kernel
theorem e38_5 : vm_ent 38 5 = some (.aload_n 0, 0, 0, 0) := by decide +kernel
theorem e38_6 : vm_ent 38 6 = some (.getfield 17, 4, 1, 166) := by decide +kernel
theorem e38_9 : vm_ent 38 9 = some (.bipush 8, 0, 0, 0) := by decide +kernel
theorem e38_11 : vm_ent 38 11 = some (.if_icmp .ge 38, 49, 0, 0) := by decide +kernel
theorem e38_14 : vm_ent 38 14 = some (.aload_n 0, 0, 0, 0) := by decide +kernel
theorem e38_15 : vm_ent 38 15 = some (.aload_n 1, 0, 0, 0) := by decide +kernel
theorem e38_16 : vm_ent 38 16 = some (.iload_n 2, 0, 0, 0) := by decide +kernel
theorem e38_17 : vm_ent 38 17 = some (.invokevirtual 21, 39, 4, 415) := by decide +kernel
theorem e38_20 : vm_ent 38 20 = some (.astore_n 3, 0, 0, 0) := by decide +kernel
theorem e38_21 : vm_ent 38 21 = some (.aload_n 3, 0, 0, 0) := by decide +kernel
theorem e38_22 : vm_ent 38 22 = some (.ifnonnull 4, 26, 0, 0) := by decide +kernel
theorem e38_25 : vm_ent 38 25 = some (.return_, 0, 0, 0) := by decide +kernel
theorem e38_26 : vm_ent 38 26 = some (.aload_n 0, 0, 0, 0) := by decide +kernel
theorem e38_27 : vm_ent 38 27 = some (.getfield 11, 4, 0, 164) := by decide +kernel
theorem e38_30 : vm_ent 38 30 = some (.aload_n 0, 0, 0, 0) := by decide +kernel
theorem e38_31 : vm_ent 38 31 = some (.getfield 17, 4, 1, 166) := by decide +kernel
theorem e38_34 : vm_ent 38 34 = some (.aload_n 3, 0, 0, 0) := by decide +kernel
theorem e38_35 : vm_ent 38 35 = some (.aastore, 0, 0, 0) := by decide +kernel
theorem e38_36 : vm_ent 38 36 = some (.aload_n 0, 0, 0, 0) := by decide +kernel
theorem e38_37 : vm_ent 38 37 = some (.dup, 0, 0, 0) := by decide +kernel
theorem e38_38 : vm_ent 38 38 = some (.getfield 17, 4, 1, 166) := by decide +kernel
theorem e38_41 : vm_ent 38 41 = some (.iconst 1, 0, 0, 0) := by decide +kernel
theorem e38_42 : vm_ent 38 42 = some (.iadd, 0, 0, 0) := by decide +kernel
theorem e38_43 : vm_ent 38 43 = some (.putfield 17, 4, 1, 166) := by decide +kernel
theorem e38_46 : vm_ent 38 46 = some (.goto (-41), 5, 0, 0) := by decide +kernel
theorem e38_49 : vm_ent 38 49 = some (.return_, 0, 0, 0) := by decide +kernel
theorem e69_0 : vm_ent 69 0 = some (.aload_n 0, 0, 0, 0) := by decide +kernel
theorem e69_1 : vm_ent 69 1 = some (.getfield 175, 5, 5, 200) := by decide +kernel
theorem e69_4 : vm_ent 69 4 = some (.istore_n 1, 0, 0, 0) := by decide +kernel
theorem e69_5 : vm_ent 69 5 = some (.aload_n 0, 0, 0, 0) := by decide +kernel
theorem e69_6 : vm_ent 69 6 = some (.getfield 37, 5, 6, 201) := by decide +kernel
theorem e69_9 : vm_ent 69 9 = some (.aload_n 0, 0, 0, 0) := by decide +kernel
theorem e69_10 : vm_ent 69 10 = some (.getfield 29, 5, 4, 199) := by decide +kernel
theorem e69_13 : vm_ent 69 13 = some (.iload_n 1, 0, 0, 0) := by decide +kernel
theorem e69_14 : vm_ent 69 14 = some (.invokevirtual 250, 38, 4, 411) := by decide +kernel
theorem e69_17 : vm_ent 69 17 = some (.iconst 0, 0, 0, 0) := by decide +kernel
theorem e69_18 : vm_ent 69 18 = some (.istore_n 2, 0, 0, 0) := by decide +kernel
theorem e69_19 : vm_ent 69 19 = some (.iload_n 2, 0, 0, 0) := by decide +kernel
theorem e69_20 : vm_ent 69 20 = some (.iload_n 1, 0, 0, 0) := by decide +kernel
theorem e69_21 : vm_ent 69 21 = some (.if_icmp .ge 46, 67, 0, 0) := by decide +kernel
theorem e69_24 : vm_ent 69 24 = some (.aload_n 0, 0, 0, 0) := by decide +kernel
theorem e69_25 : vm_ent 69 25 = some (.getfield 37, 5, 6, 201) := by decide +kernel
theorem e69_28 : vm_ent 69 28 = some (.aload_n 0, 0, 0, 0) := by decide +kernel
theorem e69_29 : vm_ent 69 29 = some (.getfield 29, 5, 4, 199) := by decide +kernel
theorem e69_32 : vm_ent 69 32 = some (.iload_n 2, 0, 0, 0) := by decide +kernel
theorem e69_33 : vm_ent 69 33 = some (.aaload, 0, 0, 0) := by decide +kernel
theorem e69_34 : vm_ent 69 34 = some (.invokevirtual 254, 41, 4, 428) := by decide +kernel
theorem e69_37 : vm_ent 69 37 = some (.ifCond .eq 6, 43, 0, 0) := by decide +kernel
theorem e69_40 : vm_ent 69 40 = some (.goto 21, 61, 0, 0) := by decide +kernel
theorem e69_43 : vm_ent 69 43 = some (.aload_n 0, 0, 0, 0) := by decide +kernel
theorem e69_44 : vm_ent 69 44 = some (.aload_n 0, 0, 0, 0) := by decide +kernel
theorem e69_45 : vm_ent 69 45 = some (.getfield 29, 5, 4, 199) := by decide +kernel
theorem e69_48 : vm_ent 69 48 = some (.iload_n 2, 0, 0, 0) := by decide +kernel
theorem e69_49 : vm_ent 69 49 = some (.aaload, 0, 0, 0) := by decide +kernel
theorem e69_50 : vm_ent 69 50 = some (.invokevirtual 258, 70, 4, 432) := by decide +kernel
theorem e69_53 : vm_ent 69 53 = some (.istore_n 3, 0, 0, 0) := by decide +kernel
theorem e69_54 : vm_ent 69 54 = some (.iload_n 3, 0, 0, 0) := by decide +kernel
theorem e69_55 : vm_ent 69 55 = some (.iconst 3, 0, 0, 0) := by decide +kernel
theorem e69_56 : vm_ent 69 56 = some (.if_icmp .eq 5, 61, 0, 0) := by decide +kernel
theorem e69_59 : vm_ent 69 59 = some (.iload_n 3, 0, 0, 0) := by decide +kernel
theorem e69_60 : vm_ent 69 60 = some (.ireturn, 0, 0, 0) := by decide +kernel
theorem e69_61 : vm_ent 69 61 = some (.iinc 2 1, 0, 0, 0) := by decide +kernel
theorem e69_64 : vm_ent 69 64 = some (.goto (-45), 19, 0, 0) := by decide +kernel
theorem e69_67 : vm_ent 69 67 = some (.aload_n 0, 0, 0, 0) := by decide +kernel
theorem e69_68 : vm_ent 69 68 = some (.getfield 175, 5, 5, 200) := by decide +kernel
theorem e69_71 : vm_ent 69 71 = some (.iload_n 1, 0, 0, 0) := by decide +kernel
theorem e69_72 : vm_ent 69 72 = some (.if_icmp .ne 7, 79, 0, 0) := by decide +kernel
theorem e69_75 : vm_ent 69 75 = some (.iconst 1, 0, 0, 0) := by decide +kernel
theorem e69_76 : vm_ent 69 76 = some (.goto 4, 80, 0, 0) := by decide +kernel
theorem e69_79 : vm_ent 69 79 = some (.iconst 3, 0, 0, 0) := by decide +kernel
theorem e69_80 : vm_ent 69 80 = some (.ireturn, 0, 0, 0) := by decide +kernel
theorem e49_0 : vm_ent 49 0 = some (.aload_n 0, 0, 0, 0) := by decide +kernel
theorem e49_1 : vm_ent 49 1 = some (.invokevirtual 105, 66, 4, 359) := by decide +kernel
theorem e49_4 : vm_ent 49 4 = some (.ifCond .ne 5, 9, 0, 0) := by decide +kernel
theorem e49_7 : vm_ent 49 7 = some (.iconst (-1), 0, 0, 0) := by decide +kernel
theorem e49_8 : vm_ent 49 8 = some (.ireturn, 0, 0, 0) := by decide +kernel
theorem e49_9 : vm_ent 49 9 = some (.aload_n 0, 0, 0, 0) := by decide +kernel
theorem e49_10 : vm_ent 49 10 = some (.getfield 52, 5, 9, 204) := by decide +kernel
theorem e49_13 : vm_ent 49 13 = some (.invokevirtual 109, 17, 4, 262) := by decide +kernel
theorem e49_16 : vm_ent 49 16 = some (.aload_n 0, 0, 0, 0) := by decide +kernel
theorem e49_17 : vm_ent 49 17 = some (.getfield 37, 5, 6, 201) := by decide +kernel
theorem e49_20 : vm_ent 49 20 = some (.getfield 112, 4, 1, 167) := by decide +kernel
theorem e49_23 : vm_ent 49 23 = some (.ifCond .le 5, 28, 0, 0) := by decide +kernel
theorem e49_26 : vm_ent 49 26 = some (.iconst 1, 0, 0, 0) := by decide +kernel
theorem e49_27 : vm_ent 49 27 = some (.ireturn, 0, 0, 0) := by decide +kernel
theorem e49_28 : vm_ent 49 28 = some (.aload_n 0, 0, 0, 0) := by decide +kernel
theorem e49_29 : vm_ent 49 29 = some (.getfield 48, 5, 8, 203) := by decide +kernel
theorem e49_32 : vm_ent 49 32 = some (.invokevirtual 109, 17, 4, 262) := by decide +kernel
theorem e49_35 : vm_ent 49 35 = some (.aload_n 0, 0, 0, 0) := by decide +kernel
theorem e49_36 : vm_ent 49 36 = some (.iconst 0, 0, 0, 0) := by decide +kernel
theorem e49_37 : vm_ent 49 37 = some (.putfield 115, 5, 15, 210) := by decide +kernel
theorem e49_40 : vm_ent 49 40 = some (.aload_n 0, 0, 0, 0) := by decide +kernel
theorem e49_41 : vm_ent 49 41 = some (.iconst 0, 0, 0, 0) := by decide +kernel
theorem e49_42 : vm_ent 49 42 = some (.putfield 118, 5, 16, 211) := by decide +kernel
theorem e49_45 : vm_ent 49 45 = some (.aload_n 0, 0, 0, 0) := by decide +kernel
theorem e49_46 : vm_ent 49 46 = some (.invokevirtual 121, 67, 4, 367) := by decide +kernel
theorem e49_49 : vm_ent 49 49 = some (.aload_n 0, 0, 0, 0) := by decide +kernel
theorem e49_50 : vm_ent 49 50 = some (.invokevirtual 124, 68, 4, 402) := by decide +kernel
theorem e49_53 : vm_ent 49 53 = some (.ifCond .eq 7, 60, 0, 0) := by decide +kernel
theorem e49_56 : vm_ent 49 56 = some (.iconst 0, 0, 0, 0) := by decide +kernel
theorem e49_57 : vm_ent 49 57 = some (.goto 4, 61, 0, 0) := by decide +kernel
theorem e49_60 : vm_ent 49 60 = some (.iconst 3, 0, 0, 0) := by decide +kernel
theorem e49_61 : vm_ent 49 61 = some (.istore_n 1, 0, 0, 0) := by decide +kernel
theorem e49_62 : vm_ent 49 62 = some (.iload_n 1, 0, 0, 0) := by decide +kernel
theorem e49_63 : vm_ent 49 63 = some (.iconst 3, 0, 0, 0) := by decide +kernel
theorem e49_64 : vm_ent 49 64 = some (.if_icmp .ne 30, 94, 0, 0) := by decide +kernel
theorem e49_67 : vm_ent 49 67 = some (.aload_n 0, 0, 0, 0) := by decide +kernel
theorem e49_68 : vm_ent 49 68 = some (.getfield 115, 5, 15, 210) := by decide +kernel
theorem e49_71 : vm_ent 49 71 = some (.bipush 12, 0, 0, 0) := by decide +kernel
theorem e49_73 : vm_ent 49 73 = some (.if_icmp .ge 21, 94, 0, 0) := by decide +kernel
theorem e49_76 : vm_ent 49 76 = some (.aload_n 0, 0, 0, 0) := by decide +kernel
theorem e49_77 : vm_ent 49 77 = some (.dup, 0, 0, 0) := by decide +kernel
theorem e49_78 : vm_ent 49 78 = some (.getfield 115, 5, 15, 210) := by decide +kernel
theorem e49_81 : vm_ent 49 81 = some (.iconst 1, 0, 0, 0) := by decide +kernel
theorem e49_82 : vm_ent 49 82 = some (.iadd, 0, 0, 0) := by decide +kernel
theorem e49_83 : vm_ent 49 83 = some (.putfield 115, 5, 15, 210) := by decide +kernel
theorem e49_86 : vm_ent 49 86 = some (.aload_n 0, 0, 0, 0) := by decide +kernel
theorem e49_87 : vm_ent 49 87 = some (.invokevirtual 127, 69, 4, 407) := by decide +kernel
theorem e49_90 : vm_ent 49 90 = some (.istore_n 1, 0, 0, 0) := by decide +kernel
theorem e49_91 : vm_ent 49 91 = some (.goto (-29), 62, 0, 0) := by decide +kernel
theorem e49_94 : vm_ent 49 94 = some (.iload_n 1, 0, 0, 0) := by decide +kernel
theorem e49_95 : vm_ent 49 95 = some (.iconst 1, 0, 0, 0) := by decide +kernel
theorem e49_96 : vm_ent 49 96 = some (.if_icmp .eq 11, 107, 0, 0) := by decide +kernel
theorem e49_99 : vm_ent 49 99 = some (.aload_n 0, 0, 0, 0) := by decide +kernel
theorem e49_100 : vm_ent 49 100 = some (.getfield 37, 5, 6, 201) := by decide +kernel
theorem e49_103 : vm_ent 49 103 = some (.iconst 0, 0, 0, 0) := by decide +kernel
theorem e49_104 : vm_ent 49 104 = some (.putfield 112, 4, 1, 167) := by decide +kernel
theorem e49_107 : vm_ent 49 107 = some (.iload_n 1, 0, 0, 0) := by decide +kernel
theorem e49_108 : vm_ent 49 108 = some (.iconst 3, 0, 0, 0) := by decide +kernel
theorem e49_109 : vm_ent 49 109 = some (.if_icmp .ne 7, 116, 0, 0) := by decide +kernel
theorem e49_112 : vm_ent 49 112 = some (.iconst 2, 0, 0, 0) := by decide +kernel
theorem e49_113 : vm_ent 49 113 = some (.goto 4, 117, 0, 0) := by decide +kernel
theorem e49_116 : vm_ent 49 116 = some (.iload_n 1, 0, 0, 0) := by decide +kernel
theorem e49_117 : vm_ent 49 117 = some (.ireturn, 0, 0, 0) := by decide +kernel
theorem e48_0 : vm_ent 48 0 = some (.aload_n 0, 0, 0, 0) := by decide +kernel
theorem e48_1 : vm_ent 48 1 = some (.iload_n 1, 0, 0, 0) := by decide +kernel
theorem e48_2 : vm_ent 48 2 = some (.invokevirtual 91, 59, 4, 320) := by decide +kernel
theorem e48_5 : vm_ent 48 5 = some (.ifCond .eq 13, 18, 0, 0) := by decide +kernel
theorem e48_8 : vm_ent 48 8 = some (.aload_n 0, 0, 0, 0) := by decide +kernel
theorem e48_9 : vm_ent 48 9 = some (.getfield 23, 5, 2, 197) := by decide +kernel
theorem e48_12 : vm_ent 48 12 = some (.iload_n 1, 0, 0, 0) := by decide +kernel
theorem e48_13 : vm_ent 48 13 = some (.baload, 0, 0, 0) := by decide +kernel
theorem e48_14 : vm_ent 48 14 = some (.iload_n 2, 0, 0, 0) := by decide +kernel
theorem e48_15 : vm_ent 48 15 = some (.if_icmp .ne 5, 20, 0, 0) := by decide +kernel
theorem e48_18 : vm_ent 48 18 = some (.iconst 0, 0, 0, 0) := by decide +kernel
theorem e48_19 : vm_ent 48 19 = some (.ireturn, 0, 0, 0) := by decide +kernel
theorem e48_20 : vm_ent 48 20 = some (.aload_n 0, 0, 0, 0) := by decide +kernel
theorem e48_21 : vm_ent 48 21 = some (.getfield 23, 5, 2, 197) := by decide +kernel
theorem e48_24 : vm_ent 48 24 = some (.iload_n 1, 0, 0, 0) := by decide +kernel
theorem e48_25 : vm_ent 48 25 = some (.iload_n 2, 0, 0, 0) := by decide +kernel
theorem e48_26 : vm_ent 48 26 = some (.bastore, 0, 0, 0) := by decide +kernel
theorem e48_27 : vm_ent 48 27 = some (.aload_n 0, 0, 0, 0) := by decide +kernel
theorem e48_28 : vm_ent 48 28 = some (.invokevirtual 72, 63, 4, 258) := by decide +kernel
theorem e48_31 : vm_ent 48 31 = some (.iconst 1, 0, 0, 0) := by decide +kernel
theorem e48_32 : vm_ent 48 32 = some (.ireturn, 0, 0, 0) := by decide +kernel
