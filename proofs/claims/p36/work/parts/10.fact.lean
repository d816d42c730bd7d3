/-! facts: the instructions by number -/
theorem c0 : 0 < mnames ∧ nA 0 = 2 ∧ nS 0 = 0 := by decide +kernel
theorem m0 : (0 ≠ ensK ∧ 0 < mnames) ∧ nA 0 = 2 ∧ nL 0 = 2 := by decide +kernel
theorem r0 : nR 0 = none := by decide +kernel
theorem i0_0 : ins 0 0 = some (.aload_n 0, 0, 0, 0, 0) := by decide +kernel
theorem i0_1 : ins 0 1 = some (.getfield 11, 0, 1, 0, 3) := by decide +kernel
theorem i0_4 : ins 0 4 = some (.aload_n 0, 0, 0, 0, 0) := by decide +kernel
theorem i0_5 : ins 0 5 = some (.getfield 18, 1, 1, 1, 0) := by decide +kernel
theorem i0_8 : ins 0 8 = some (.aaload, 0, 0, 0, 0) := by decide +kernel
theorem i0_9 : ins 0 9 = some (.aload_n 1, 0, 0, 0, 0) := by decide +kernel
theorem i0_10 : ins 0 10 = some (.invokevirtual 22, 0, 19, 0, 0) := by decide +kernel
theorem i0_13 : ins 0 13 = some (.return_, 0, 0, 0, 0) := by decide +kernel
theorem c1 : 1 < mnames ∧ nA 1 = 2 ∧ nS 1 = 0 := by decide +kernel
theorem m1 : (1 ≠ ensK ∧ 1 < mnames) ∧ nA 1 = 2 ∧ nL 1 = 2 := by decide +kernel
theorem r1 : nR 1 = none := by decide +kernel
theorem i1_0 : ins 1 0 = some (.aload_n 1, 0, 0, 0, 0) := by decide +kernel
theorem i1_1 : ins 1 1 = some (.aload_n 0, 0, 0, 0, 0) := by decide +kernel
theorem i1_2 : ins 1 2 = some (.getfield 11, 0, 1, 0, 3) := by decide +kernel
theorem i1_5 : ins 1 5 = some (.aload_n 0, 0, 0, 0, 0) := by decide +kernel
theorem i1_6 : ins 1 6 = some (.getfield 18, 1, 1, 1, 0) := by decide +kernel
theorem i1_9 : ins 1 9 = some (.aaload, 0, 0, 0, 0) := by decide +kernel
theorem i1_10 : ins 1 10 = some (.invokevirtual 22, 0, 19, 0, 0) := by decide +kernel
theorem i1_13 : ins 1 13 = some (.return_, 0, 0, 0, 0) := by decide +kernel
theorem c2 : 2 < mnames ∧ nA 2 = 1 ∧ nS 2 = 0 := by decide +kernel
theorem m2 : (2 ≠ ensK ∧ 2 < mnames) ∧ nA 2 = 1 ∧ nL 2 = 1 := by decide +kernel
theorem r2 : nR 2 = none := by decide +kernel
theorem i2_0 : ins 2 0 = some (.aload_n 0, 0, 0, 0, 0) := by decide +kernel
theorem i2_1 : ins 2 1 = some (.aload_n 0, 0, 0, 0, 0) := by decide +kernel
theorem i2_2 : ins 2 2 = some (.getfield 18, 1, 1, 1, 0) := by decide +kernel
theorem i2_5 : ins 2 5 = some (.bipush 8, 0, 0, 0, 0) := by decide +kernel
theorem i2_7 : ins 2 7 = some (.if_icmp .ge 12, 0, 0, 0, 0) := by decide +kernel
theorem g2_7 : tg 7 (12) = 19 := by decide
theorem i2_10 : ins 2 10 = some (.aload_n 0, 0, 0, 0, 0) := by decide +kernel
theorem i2_11 : ins 2 11 = some (.getfield 18, 1, 1, 1, 0) := by decide +kernel
theorem i2_14 : ins 2 14 = some (.iconst 1, 0, 0, 0, 0) := by decide +kernel
theorem i2_15 : ins 2 15 = some (.iadd, 0, 0, 0, 0) := by decide +kernel
theorem i2_16 : ins 2 16 = some (.goto 4, 0, 0, 0, 0) := by decide +kernel
theorem g2_16 : tg 16 (4) = 20 := by decide
theorem i2_19 : ins 2 19 = some (.iconst 0, 0, 0, 0, 0) := by decide +kernel
theorem i2_20 : ins 2 20 = some (.putfield 18, 1, 1, 1, 0) := by decide +kernel
theorem i2_23 : ins 2 23 = some (.aload_n 0, 0, 0, 0, 0) := by decide +kernel
theorem i2_24 : ins 2 24 = some (.aload_n 0, 0, 0, 0, 0) := by decide +kernel
theorem i2_25 : ins 2 25 = some (.getfield 26, 2, 1, 2, 0) := by decide +kernel
theorem i2_28 : ins 2 28 = some (.iconst 1, 0, 0, 0, 0) := by decide +kernel
theorem i2_29 : ins 2 29 = some (.iadd, 0, 0, 0, 0) := by decide +kernel
theorem i2_30 : ins 2 30 = some (.bipush 8, 0, 0, 0, 0) := by decide +kernel
theorem i2_32 : ins 2 32 = some (.invokestatic 29, 1, 202, 1, 0) := by decide +kernel
theorem i2_35 : ins 2 35 = some (.putfield 26, 2, 1, 2, 0) := by decide +kernel
theorem i2_38 : ins 2 38 = some (.return_, 0, 0, 0, 0) := by decide +kernel
theorem c3 : 3 < mnames ∧ nA 3 = 2 ∧ nS 3 = 0 := by decide +kernel
theorem m3 : (3 ≠ ensK ∧ 3 < mnames) ∧ nA 3 = 2 ∧ nL 3 = 2 := by decide +kernel
theorem r3 : nR 3 = (some .boolean) := by decide +kernel
theorem i3_0 : ins 3 0 = some (.aload_n 0, 0, 0, 0, 0) := by decide +kernel
theorem i3_1 : ins 3 1 = some (.getfield 26, 2, 1, 2, 0) := by decide +kernel
theorem i3_4 : ins 3 4 = some (.ifCond .ne 5, 0, 0, 0, 0) := by decide +kernel
theorem g3_4 : tg 4 (5) = 9 := by decide
theorem i3_7 : ins 3 7 = some (.iconst 0, 0, 0, 0, 0) := by decide +kernel
theorem i3_8 : ins 3 8 = some (.ireturn, 0, 0, 0, 0) := by decide +kernel
theorem i3_9 : ins 3 9 = some (.aload_n 0, 0, 0, 0, 0) := by decide +kernel
theorem i3_10 : ins 3 10 = some (.dup, 0, 0, 0, 0) := by decide +kernel
theorem i3_11 : ins 3 11 = some (.getfield 26, 2, 1, 2, 0) := by decide +kernel
theorem i3_14 : ins 3 14 = some (.iconst 1, 0, 0, 0, 0) := by decide +kernel
theorem i3_15 : ins 3 15 = some (.isub, 0, 0, 0, 0) := by decide +kernel
theorem i3_16 : ins 3 16 = some (.putfield 26, 2, 1, 2, 0) := by decide +kernel
theorem i3_19 : ins 3 19 = some (.aload_n 0, 0, 0, 0, 0) := by decide +kernel
theorem i3_20 : ins 3 20 = some (.aload_n 0, 0, 0, 0, 0) := by decide +kernel
theorem i3_21 : ins 3 21 = some (.getfield 18, 1, 1, 1, 0) := by decide +kernel
theorem i3_24 : ins 3 24 = some (.ifCond .le 12, 0, 0, 0, 0) := by decide +kernel
theorem g3_24 : tg 24 (12) = 36 := by decide
theorem i3_27 : ins 3 27 = some (.aload_n 0, 0, 0, 0, 0) := by decide +kernel
theorem i3_28 : ins 3 28 = some (.getfield 18, 1, 1, 1, 0) := by decide +kernel
theorem i3_31 : ins 3 31 = some (.iconst 1, 0, 0, 0, 0) := by decide +kernel
theorem i3_32 : ins 3 32 = some (.isub, 0, 0, 0, 0) := by decide +kernel
theorem i3_33 : ins 3 33 = some (.goto 5, 0, 0, 0, 0) := by decide +kernel
theorem g3_33 : tg 33 (5) = 38 := by decide
theorem i3_36 : ins 3 36 = some (.bipush 8, 0, 0, 0, 0) := by decide +kernel
theorem i3_38 : ins 3 38 = some (.putfield 18, 1, 1, 1, 0) := by decide +kernel
theorem i3_41 : ins 3 41 = some (.aload_n 0, 0, 0, 0, 0) := by decide +kernel
theorem i3_42 : ins 3 42 = some (.aload_n 1, 0, 0, 0, 0) := by decide +kernel
theorem i3_43 : ins 3 43 = some (.invokevirtual 35, 2, 1, 0, 0) := by decide +kernel
theorem i3_46 : ins 3 46 = some (.iconst 1, 0, 0, 0, 0) := by decide +kernel
theorem i3_47 : ins 3 47 = some (.ireturn, 0, 0, 0, 0) := by decide +kernel
theorem c4 : 4 < mnames ∧ nA 4 = 1 ∧ nS 4 = 0 := by decide +kernel
theorem m4 : (4 ≠ ensK ∧ 4 < mnames) ∧ nA 4 = 1 ∧ nL 4 = 1 := by decide +kernel
theorem r4 : nR 4 = none := by decide +kernel
theorem i4_0 : ins 4 0 = some (.aload_n 0, 0, 0, 0, 0) := by decide +kernel
theorem i4_1 : ins 4 1 = some (.iconst 0, 0, 0, 0, 0) := by decide +kernel
theorem i4_2 : ins 4 2 = some (.putfield 26, 2, 1, 2, 0) := by decide +kernel
theorem i4_5 : ins 4 5 = some (.return_, 0, 0, 0, 0) := by decide +kernel
theorem c5 : 5 < mnames ∧ nA 5 = 2 ∧ nS 5 = 0 := by decide +kernel
theorem m5 : (5 ≠ ensK ∧ 5 < mnames) ∧ nA 5 = 2 ∧ nL 5 = 3 := by decide +kernel
theorem r5 : nR 5 = (some .int) := by decide +kernel
theorem i5_0 : ins 5 0 = some (.aload_n 0, 0, 0, 0, 0) := by decide +kernel
theorem i5_1 : ins 5 1 = some (.iconst 0, 0, 0, 0, 0) := by decide +kernel
theorem i5_2 : ins 5 2 = some (.putfield 24, 3, 2, 4, 0) := by decide +kernel
theorem i5_5 : ins 5 5 = some (.aload_n 0, 0, 0, 0, 0) := by decide +kernel
theorem i5_6 : ins 5 6 = some (.iconst 0, 0, 0, 0, 0) := by decide +kernel
theorem i5_7 : ins 5 7 = some (.putfield 28, 4, 2, 5, 0) := by decide +kernel
theorem i5_10 : ins 5 10 = some (.iconst 0, 0, 0, 0, 0) := by decide +kernel
theorem i5_11 : ins 5 11 = some (.istore_n 2, 0, 0, 0, 0) := by decide +kernel
theorem i5_12 : ins 5 12 = some (.iload_n 2, 0, 0, 0, 0) := by decide +kernel
theorem i5_13 : ins 5 13 = some (.bipush 60, 0, 0, 0, 0) := by decide +kernel
theorem i5_15 : ins 5 15 = some (.if_icmp .ge 58, 0, 0, 0, 0) := by decide +kernel
theorem g5_15 : tg 15 (58) = 73 := by decide
theorem i5_18 : ins 5 18 = some (.aload_n 0, 0, 0, 0, 0) := by decide +kernel
theorem i5_19 : ins 5 19 = some (.aload_n 1, 0, 0, 0, 0) := by decide +kernel
theorem i5_20 : ins 5 20 = some (.iload_n 2, 0, 0, 0, 0) := by decide +kernel
theorem i5_21 : ins 5 21 = some (.invokevirtual 31, 3, 6, 0, 0) := by decide +kernel
theorem i5_24 : ins 5 24 = some (.ifCond .ne 8, 0, 0, 0, 0) := by decide +kernel
theorem g5_24 : tg 24 (8) = 32 := by decide
theorem i5_27 : ins 5 27 = some (.aload_n 0, 0, 0, 0, 0) := by decide +kernel
theorem i5_28 : ins 5 28 = some (.getfield 28, 4, 2, 5, 0) := by decide +kernel
theorem i5_31 : ins 5 31 = some (.ireturn, 0, 0, 0, 0) := by decide +kernel
theorem i5_32 : ins 5 32 = some (.aload_n 0, 0, 0, 0, 0) := by decide +kernel
theorem i5_33 : ins 5 33 = some (.iload_n 2, 0, 0, 0, 0) := by decide +kernel
theorem i5_34 : ins 5 34 = some (.iconst 1, 0, 0, 0, 0) := by decide +kernel
theorem i5_35 : ins 5 35 = some (.iadd, 0, 0, 0, 0) := by decide +kernel
theorem i5_36 : ins 5 36 = some (.putfield 24, 3, 2, 4, 0) := by decide +kernel
theorem i5_39 : ins 5 39 = some (.aload_n 0, 0, 0, 0, 0) := by decide +kernel
theorem i5_40 : ins 5 40 = some (.getfield 28, 4, 2, 5, 0) := by decide +kernel
theorem i5_43 : ins 5 43 = some (.aload_n 1, 0, 0, 0, 0) := by decide +kernel
theorem i5_44 : ins 5 44 = some (.invokevirtual 35, 4, 193, 0, 0) := by decide +kernel
theorem i5_47 : ins 5 47 = some (.if_icmp .lt 5, 0, 0, 0, 0) := by decide +kernel
theorem g5_47 : tg 47 (5) = 52 := by decide
theorem i5_50 : ins 5 50 = some (.iconst (-1), 0, 0, 0, 0) := by decide +kernel
theorem i5_51 : ins 5 51 = some (.ireturn, 0, 0, 0, 0) := by decide +kernel
theorem i5_52 : ins 5 52 = some (.aload_n 0, 0, 0, 0, 0) := by decide +kernel
theorem i5_53 : ins 5 53 = some (.aload_n 1, 0, 0, 0, 0) := by decide +kernel
theorem i5_54 : ins 5 54 = some (.bipush 59, 0, 0, 0, 0) := by decide +kernel
theorem i5_56 : ins 5 56 = some (.invokevirtual 41, 5, 8, 0, 0) := by decide +kernel
theorem i5_59 : ins 5 59 = some (.ifCond .ne 8, 0, 0, 0, 0) := by decide +kernel
theorem g5_59 : tg 59 (8) = 67 := by decide
theorem i5_62 : ins 5 62 = some (.aload_n 0, 0, 0, 0, 0) := by decide +kernel
theorem i5_63 : ins 5 63 = some (.getfield 28, 4, 2, 5, 0) := by decide +kernel
theorem i5_66 : ins 5 66 = some (.ireturn, 0, 0, 0, 0) := by decide +kernel
theorem i5_67 : ins 5 67 = some (.iinc 2 1, 0, 0, 0, 0) := by decide +kernel
theorem i5_70 : ins 5 70 = some (.goto (-58), 0, 0, 0, 0) := by decide +kernel
theorem g5_70 : tg 70 (-58) = 12 := by decide
theorem i5_73 : ins 5 73 = some (.aload_n 0, 0, 0, 0, 0) := by decide +kernel
theorem i5_74 : ins 5 74 = some (.getfield 28, 4, 2, 5, 0) := by decide +kernel
theorem i5_77 : ins 5 77 = some (.ireturn, 0, 0, 0, 0) := by decide +kernel
theorem c6 : 6 < mnames ∧ nA 6 = 3 ∧ nS 6 = 0 := by decide +kernel
theorem m6 : (6 ≠ ensK ∧ 6 < mnames) ∧ nA 6 = 3 ∧ nL 6 = 8 := by decide +kernel
theorem r6 : nR 6 = (some .boolean) := by decide +kernel
theorem i6_0 : ins 6 0 = some (.aload_n 0, 0, 0, 0, 0) := by decide +kernel
theorem i6_1 : ins 6 1 = some (.getfield 28, 4, 2, 5, 0) := by decide +kernel
theorem i6_4 : ins 6 4 = some (.aload_n 1, 0, 0, 0, 0) := by decide +kernel
theorem i6_5 : ins 6 5 = some (.invokevirtual 35, 4, 193, 0, 0) := by decide +kernel
theorem i6_8 : ins 6 8 = some (.if_icmp .ge 19, 0, 0, 0, 0) := by decide +kernel
theorem g6_8 : tg 8 (19) = 27 := by decide
theorem i6_11 : ins 6 11 = some (.ldc 45, 0, 1, 0, 0) := by decide +kernel
theorem i6_13 : ins 6 13 = some (.aload_n 1, 0, 0, 0, 0) := by decide +kernel
theorem i6_14 : ins 6 14 = some (.aload_n 0, 0, 0, 0, 0) := by decide +kernel
theorem i6_15 : ins 6 15 = some (.getfield 28, 4, 2, 5, 0) := by decide +kernel
theorem i6_18 : ins 6 18 = some (.invokevirtual 47, 6, 191, 0, 0) := by decide +kernel
theorem i6_21 : ins 6 21 = some (.invokevirtual 51, 7, 206, 0, 0) := by decide +kernel
theorem i6_24 : ins 6 24 = some (.ifCond .ge 5, 0, 0, 0, 0) := by decide +kernel
theorem g6_24 : tg 24 (5) = 29 := by decide
theorem i6_27 : ins 6 27 = some (.iconst 0, 0, 0, 0, 0) := by decide +kernel
theorem i6_28 : ins 6 28 = some (.ireturn, 0, 0, 0, 0) := by decide +kernel
theorem i6_29 : ins 6 29 = some (.aload_n 1, 0, 0, 0, 0) := by decide +kernel
theorem i6_30 : ins 6 30 = some (.aload_n 0, 0, 0, 0, 0) := by decide +kernel
theorem i6_31 : ins 6 31 = some (.getfield 28, 4, 2, 5, 0) := by decide +kernel
theorem i6_34 : ins 6 34 = some (.invokevirtual 47, 6, 191, 0, 0) := by decide +kernel
theorem i6_37 : ins 6 37 = some (.istore_n 3, 0, 0, 0, 0) := by decide +kernel
theorem i6_38 : ins 6 38 = some (.iload_n 3, 0, 0, 0, 0) := by decide +kernel
theorem i6_39 : ins 6 39 = some (.invokestatic 57, 8, 7, 1, 0) := by decide +kernel
theorem i6_42 : ins 6 42 = some (.astore 4, 0, 0, 0, 0) := by decide +kernel
theorem i6_44 : ins 6 44 = some (.aload_n 0, 0, 0, 0, 0) := by decide +kernel
theorem i6_45 : ins 6 45 = some (.getfield 9, 5, 2, 0, 3) := by decide +kernel
theorem i6_48 : ins 6 48 = some (.iload_n 2, 0, 0, 0, 0) := by decide +kernel
theorem i6_49 : ins 6 49 = some (.iload_n 3, 0, 0, 0, 0) := by decide +kernel
theorem i6_50 : ins 6 50 = some (.iastore, 0, 0, 0, 0) := by decide +kernel
theorem i6_51 : ins 6 51 = some (.aload_n 0, 0, 0, 0, 0) := by decide +kernel
theorem i6_52 : ins 6 52 = some (.dup, 0, 0, 0, 0) := by decide +kernel
theorem i6_53 : ins 6 53 = some (.getfield 28, 4, 2, 5, 0) := by decide +kernel
theorem i6_56 : ins 6 56 = some (.iconst 1, 0, 0, 0, 0) := by decide +kernel
theorem i6_57 : ins 6 57 = some (.iadd, 0, 0, 0, 0) := by decide +kernel
theorem i6_58 : ins 6 58 = some (.putfield 28, 4, 2, 5, 0) := by decide +kernel
theorem i6_61 : ins 6 61 = some (.iconst 0, 0, 0, 0, 0) := by decide +kernel
theorem i6_62 : ins 6 62 = some (.istore 5, 0, 0, 0, 0) := by decide +kernel
theorem i6_64 : ins 6 64 = some (.iconst 0, 0, 0, 0, 0) := by decide +kernel
theorem i6_65 : ins 6 65 = some (.istore 6, 0, 0, 0, 0) := by decide +kernel
theorem i6_67 : ins 6 67 = some (.iload 6, 0, 0, 0, 0) := by decide +kernel
theorem i6_69 : ins 6 69 = some (.aload 4, 0, 0, 0, 0) := by decide +kernel
theorem i6_71 : ins 6 71 = some (.invokevirtual 61, 9, 204, 0, 0) := by decide +kernel
theorem i6_74 : ins 6 74 = some (.if_icmp .ge 74, 0, 0, 0, 0) := by decide +kernel
theorem g6_74 : tg 74 (74) = 148 := by decide
theorem i6_77 : ins 6 77 = some (.aload 4, 0, 0, 0, 0) := by decide +kernel
theorem i6_79 : ins 6 79 = some (.iload 6, 0, 0, 0, 0) := by decide +kernel
theorem i6_81 : ins 6 81 = some (.invokevirtual 62, 10, 205, 0, 0) := by decide +kernel
theorem i6_84 : ins 6 84 = some (.istore 7, 0, 0, 0, 0) := by decide +kernel
theorem i6_86 : ins 6 86 = some (.iload 7, 0, 0, 0, 0) := by decide +kernel
theorem i6_88 : ins 6 88 = some (.bipush 49, 0, 0, 0, 0) := by decide +kernel
theorem i6_90 : ins 6 90 = some (.if_icmp .eq 10, 0, 0, 0, 0) := by decide +kernel
theorem g6_90 : tg 90 (10) = 100 := by decide
theorem i6_93 : ins 6 93 = some (.iload 7, 0, 0, 0, 0) := by decide +kernel
theorem i6_95 : ins 6 95 = some (.bipush 50, 0, 0, 0, 0) := by decide +kernel
theorem i6_97 : ins 6 97 = some (.if_icmp .ne 33, 0, 0, 0, 0) := by decide +kernel
theorem g6_97 : tg 97 (33) = 130 := by decide
theorem i6_100 : ins 6 100 = some (.aload_n 0, 0, 0, 0, 0) := by decide +kernel
theorem i6_101 : ins 6 101 = some (.aload_n 1, 0, 0, 0, 0) := by decide +kernel
theorem i6_102 : ins 6 102 = some (.invokevirtual 63, 11, 9, 0, 0) := by decide +kernel
theorem i6_105 : ins 6 105 = some (.ifCond .ne 5, 0, 0, 0, 0) := by decide +kernel
theorem g6_105 : tg 105 (5) = 110 := by decide
theorem i6_108 : ins 6 108 = some (.iconst 0, 0, 0, 0, 0) := by decide +kernel
theorem i6_109 : ins 6 109 = some (.ireturn, 0, 0, 0, 0) := by decide +kernel
theorem i6_110 : ins 6 110 = some (.aload_n 0, 0, 0, 0, 0) := by decide +kernel
theorem i6_111 : ins 6 111 = some (.iload_n 2, 0, 0, 0, 0) := by decide +kernel
theorem i6_112 : ins 6 112 = some (.iload 5, 0, 0, 0, 0) := by decide +kernel
theorem i6_114 : ins 6 114 = some (.aload_n 0, 0, 0, 0, 0) := by decide +kernel
theorem i6_115 : ins 6 115 = some (.aload_n 1, 0, 0, 0, 0) := by decide +kernel
theorem i6_116 : ins 6 116 = some (.iload 7, 0, 0, 0, 0) := by decide +kernel
theorem i6_118 : ins 6 118 = some (.invokevirtual 67, 12, 10, 0, 0) := by decide +kernel
theorem i6_121 : ins 6 121 = some (.invokevirtual 71, 13, 11, 0, 0) := by decide +kernel
theorem i6_124 : ins 6 124 = some (.iinc 5 1, 0, 0, 0, 0) := by decide +kernel
theorem i6_127 : ins 6 127 = some (.goto 15, 0, 0, 0, 0) := by decide +kernel
theorem g6_127 : tg 127 (15) = 142 := by decide
theorem i6_130 : ins 6 130 = some (.aload_n 0, 0, 0, 0, 0) := by decide +kernel
theorem i6_131 : ins 6 131 = some (.aload_n 1, 0, 0, 0, 0) := by decide +kernel
theorem i6_132 : ins 6 132 = some (.iload 7, 0, 0, 0, 0) := by decide +kernel
theorem i6_134 : ins 6 134 = some (.invokevirtual 41, 5, 8, 0, 0) := by decide +kernel
theorem i6_137 : ins 6 137 = some (.ifCond .ne 5, 0, 0, 0, 0) := by decide +kernel
theorem g6_137 : tg 137 (5) = 142 := by decide
theorem i6_140 : ins 6 140 = some (.iconst 0, 0, 0, 0, 0) := by decide +kernel
theorem i6_141 : ins 6 141 = some (.ireturn, 0, 0, 0, 0) := by decide +kernel
theorem i6_142 : ins 6 142 = some (.iinc 6 1, 0, 0, 0, 0) := by decide +kernel
theorem i6_145 : ins 6 145 = some (.goto (-78), 0, 0, 0, 0) := by decide +kernel
theorem g6_145 : tg 145 (-78) = 67 := by decide
theorem i6_148 : ins 6 148 = some (.iconst 1, 0, 0, 0, 0) := by decide +kernel
theorem i6_149 : ins 6 149 = some (.ireturn, 0, 0, 0, 0) := by decide +kernel
theorem c7 : 7 < mnames ∧ nA 7 = 1 ∧ nS 7 = 1 := by decide +kernel
theorem m7 : (7 ≠ ensK ∧ 7 < mnames) ∧ nA 7 = 1 ∧ nL 7 = 1 := by decide +kernel
theorem r7 : nR 7 = (some (.object "java/lang/String")) := by decide +kernel
theorem i7_0 : ins 7 0 = some (.iload_n 0, 0, 0, 0, 0) := by decide +kernel
theorem i7_1 : ins 7 1 = some (.tableswitch 130 98 119 #[106, 130, 130, 124, 130, 130, 121, 130, 130, 130, 130, 118, 130, 109, 115, 130, 130, 103, 127, 130, 130, 112], 0, 0, 0, 0) := by decide +kernel
theorem i7_104 : ins 7 104 = some (.ldc 75, 1, 1, 1, 0) := by decide +kernel
theorem i7_106 : ins 7 106 = some (.areturn, 0, 0, 0, 0) := by decide +kernel
theorem i7_107 : ins 7 107 = some (.ldc 77, 2, 1, 2, 0) := by decide +kernel
theorem i7_109 : ins 7 109 = some (.areturn, 0, 0, 0, 0) := by decide +kernel
theorem i7_110 : ins 7 110 = some (.ldc 79, 3, 1, 3, 0) := by decide +kernel
theorem i7_112 : ins 7 112 = some (.areturn, 0, 0, 0, 0) := by decide +kernel
theorem i7_113 : ins 7 113 = some (.ldc 81, 4, 1, 4, 0) := by decide +kernel
theorem i7_115 : ins 7 115 = some (.areturn, 0, 0, 0, 0) := by decide +kernel
theorem i7_116 : ins 7 116 = some (.ldc 83, 5, 1, 5, 0) := by decide +kernel
theorem i7_118 : ins 7 118 = some (.areturn, 0, 0, 0, 0) := by decide +kernel
theorem i7_119 : ins 7 119 = some (.ldc 75, 1, 1, 1, 0) := by decide +kernel
theorem i7_121 : ins 7 121 = some (.areturn, 0, 0, 0, 0) := by decide +kernel
theorem i7_122 : ins 7 122 = some (.ldc 85, 6, 1, 6, 0) := by decide +kernel
theorem i7_124 : ins 7 124 = some (.areturn, 0, 0, 0, 0) := by decide +kernel
theorem i7_125 : ins 7 125 = some (.ldc 87, 7, 1, 7, 0) := by decide +kernel
theorem i7_127 : ins 7 127 = some (.areturn, 0, 0, 0, 0) := by decide +kernel
theorem i7_128 : ins 7 128 = some (.ldc 89, 8, 1, 8, 0) := by decide +kernel
theorem i7_130 : ins 7 130 = some (.areturn, 0, 0, 0, 0) := by decide +kernel
theorem i7_131 : ins 7 131 = some (.ldc 91, 9, 1, 9, 0) := by decide +kernel
theorem i7_133 : ins 7 133 = some (.areturn, 0, 0, 0, 0) := by decide +kernel
theorem c8 : 8 < mnames ∧ nA 8 = 3 ∧ nS 8 = 0 := by decide +kernel
theorem m8 : (8 ≠ ensK ∧ 8 < mnames) ∧ nA 8 = 3 ∧ nL 8 = 3 := by decide +kernel
theorem r8 : nR 8 = (some .boolean) := by decide +kernel
theorem i8_0 : ins 8 0 = some (.aload_n 0, 0, 0, 0, 0) := by decide +kernel
theorem i8_1 : ins 8 1 = some (.getfield 28, 4, 2, 5, 0) := by decide +kernel
theorem i8_4 : ins 8 4 = some (.aload_n 1, 0, 0, 0, 0) := by decide +kernel
theorem i8_5 : ins 8 5 = some (.invokevirtual 35, 4, 193, 0, 0) := by decide +kernel
theorem i8_8 : ins 8 8 = some (.if_icmp .ge 15, 0, 0, 0, 0) := by decide +kernel
theorem g8_8 : tg 8 (15) = 23 := by decide
theorem i8_11 : ins 8 11 = some (.aload_n 1, 0, 0, 0, 0) := by decide +kernel
theorem i8_12 : ins 8 12 = some (.aload_n 0, 0, 0, 0, 0) := by decide +kernel
theorem i8_13 : ins 8 13 = some (.getfield 28, 4, 2, 5, 0) := by decide +kernel
theorem i8_16 : ins 8 16 = some (.invokevirtual 47, 6, 191, 0, 0) := by decide +kernel
theorem i8_19 : ins 8 19 = some (.iload_n 2, 0, 0, 0, 0) := by decide +kernel
theorem i8_20 : ins 8 20 = some (.if_icmp .eq 5, 0, 0, 0, 0) := by decide +kernel
theorem g8_20 : tg 20 (5) = 25 := by decide
theorem i8_23 : ins 8 23 = some (.iconst 0, 0, 0, 0, 0) := by decide +kernel
theorem i8_24 : ins 8 24 = some (.ireturn, 0, 0, 0, 0) := by decide +kernel
theorem i8_25 : ins 8 25 = some (.aload_n 0, 0, 0, 0, 0) := by decide +kernel
theorem i8_26 : ins 8 26 = some (.dup, 0, 0, 0, 0) := by decide +kernel
theorem i8_27 : ins 8 27 = some (.getfield 28, 4, 2, 5, 0) := by decide +kernel
theorem i8_30 : ins 8 30 = some (.iconst 1, 0, 0, 0, 0) := by decide +kernel
theorem i8_31 : ins 8 31 = some (.iadd, 0, 0, 0, 0) := by decide +kernel
theorem i8_32 : ins 8 32 = some (.putfield 28, 4, 2, 5, 0) := by decide +kernel
theorem i8_35 : ins 8 35 = some (.iconst 1, 0, 0, 0, 0) := by decide +kernel
theorem i8_36 : ins 8 36 = some (.ireturn, 0, 0, 0, 0) := by decide +kernel
theorem c9 : 9 < mnames ∧ nA 9 = 2 ∧ nS 9 = 0 := by decide +kernel
theorem m9 : (9 ≠ ensK ∧ 9 < mnames) ∧ nA 9 = 2 ∧ nL 9 = 2 := by decide +kernel
theorem r9 : nR 9 = (some .boolean) := by decide +kernel
theorem i9_0 : ins 9 0 = some (.aload_n 0, 0, 0, 0, 0) := by decide +kernel
theorem i9_1 : ins 9 1 = some (.getfield 28, 4, 2, 5, 0) := by decide +kernel
theorem i9_4 : ins 9 4 = some (.aload_n 1, 0, 0, 0, 0) := by decide +kernel
theorem i9_5 : ins 9 5 = some (.invokevirtual 35, 4, 193, 0, 0) := by decide +kernel
theorem i9_8 : ins 9 8 = some (.if_icmp .ge 33, 0, 0, 0, 0) := by decide +kernel
theorem g9_8 : tg 8 (33) = 41 := by decide
theorem i9_11 : ins 9 11 = some (.aload_n 1, 0, 0, 0, 0) := by decide +kernel
theorem i9_12 : ins 9 12 = some (.aload_n 0, 0, 0, 0, 0) := by decide +kernel
theorem i9_13 : ins 9 13 = some (.getfield 28, 4, 2, 5, 0) := by decide +kernel
theorem i9_16 : ins 9 16 = some (.invokevirtual 47, 6, 191, 0, 0) := by decide +kernel
theorem i9_19 : ins 9 19 = some (.bipush 48, 0, 0, 0, 0) := by decide +kernel
theorem i9_21 : ins 9 21 = some (.if_icmp .lt 20, 0, 0, 0, 0) := by decide +kernel
theorem g9_21 : tg 21 (20) = 41 := by decide
theorem i9_24 : ins 9 24 = some (.aload_n 1, 0, 0, 0, 0) := by decide +kernel
theorem i9_25 : ins 9 25 = some (.aload_n 0, 0, 0, 0, 0) := by decide +kernel
theorem i9_26 : ins 9 26 = some (.getfield 28, 4, 2, 5, 0) := by decide +kernel
theorem i9_29 : ins 9 29 = some (.invokevirtual 47, 6, 191, 0, 0) := by decide +kernel
theorem i9_32 : ins 9 32 = some (.bipush 57, 0, 0, 0, 0) := by decide +kernel
theorem i9_34 : ins 9 34 = some (.if_icmp .gt 7, 0, 0, 0, 0) := by decide +kernel
theorem g9_34 : tg 34 (7) = 41 := by decide
theorem i9_37 : ins 9 37 = some (.iconst 1, 0, 0, 0, 0) := by decide +kernel
theorem i9_38 : ins 9 38 = some (.goto 4, 0, 0, 0, 0) := by decide +kernel
theorem g9_38 : tg 38 (4) = 42 := by decide
theorem i9_41 : ins 9 41 = some (.iconst 0, 0, 0, 0, 0) := by decide +kernel
theorem i9_42 : ins 9 42 = some (.ireturn, 0, 0, 0, 0) := by decide +kernel
theorem c10 : 10 < mnames ∧ nA 10 = 3 ∧ nS 10 = 0 := by decide +kernel
theorem m10 : (10 ≠ ensK ∧ 10 < mnames) ∧ nA 10 = 3 ∧ nL 10 = 6 := by decide +kernel
theorem r10 : nR 10 = (some .int) := by decide +kernel
theorem i10_0 : ins 10 0 = some (.iconst 0, 0, 0, 0, 0) := by decide +kernel
theorem i10_1 : ins 10 1 = some (.istore_n 3, 0, 0, 0, 0) := by decide +kernel
theorem i10_2 : ins 10 2 = some (.iload_n 2, 0, 0, 0, 0) := by decide +kernel
theorem i10_3 : ins 10 3 = some (.bipush 49, 0, 0, 0, 0) := by decide +kernel
theorem i10_5 : ins 10 5 = some (.if_icmp .ne 7, 0, 0, 0, 0) := by decide +kernel
theorem g10_5 : tg 5 (7) = 12 := by decide
theorem i10_8 : ins 10 8 = some (.iconst 1, 0, 0, 0, 0) := by decide +kernel
theorem i10_9 : ins 10 9 = some (.goto 4, 0, 0, 0, 0) := by decide +kernel
theorem g10_9 : tg 9 (4) = 13 := by decide
theorem i10_12 : ins 10 12 = some (.iconst 2, 0, 0, 0, 0) := by decide +kernel
theorem i10_13 : ins 10 13 = some (.istore 4, 0, 0, 0, 0) := by decide +kernel
theorem i10_15 : ins 10 15 = some (.iconst 0, 0, 0, 0, 0) := by decide +kernel
theorem i10_16 : ins 10 16 = some (.istore 5, 0, 0, 0, 0) := by decide +kernel
theorem i10_18 : ins 10 18 = some (.iload 5, 0, 0, 0, 0) := by decide +kernel
theorem i10_20 : ins 10 20 = some (.iload 4, 0, 0, 0, 0) := by decide +kernel
theorem i10_22 : ins 10 22 = some (.if_icmp .ge 44, 0, 0, 0, 0) := by decide +kernel
theorem g10_22 : tg 22 (44) = 66 := by decide
theorem i10_25 : ins 10 25 = some (.aload_n 0, 0, 0, 0, 0) := by decide +kernel
theorem i10_26 : ins 10 26 = some (.aload_n 1, 0, 0, 0, 0) := by decide +kernel
theorem i10_27 : ins 10 27 = some (.invokevirtual 63, 11, 9, 0, 0) := by decide +kernel
theorem i10_30 : ins 10 30 = some (.ifCond .eq 36, 0, 0, 0, 0) := by decide +kernel
theorem g10_30 : tg 30 (36) = 66 := by decide
theorem i10_33 : ins 10 33 = some (.iload_n 3, 0, 0, 0, 0) := by decide +kernel
theorem i10_34 : ins 10 34 = some (.bipush 10, 0, 0, 0, 0) := by decide +kernel
theorem i10_36 : ins 10 36 = some (.imul, 0, 0, 0, 0) := by decide +kernel
theorem i10_37 : ins 10 37 = some (.aload_n 1, 0, 0, 0, 0) := by decide +kernel
theorem i10_38 : ins 10 38 = some (.aload_n 0, 0, 0, 0, 0) := by decide +kernel
theorem i10_39 : ins 10 39 = some (.getfield 28, 4, 2, 5, 0) := by decide +kernel
theorem i10_42 : ins 10 42 = some (.invokevirtual 47, 6, 191, 0, 0) := by decide +kernel
theorem i10_45 : ins 10 45 = some (.bipush 48, 0, 0, 0, 0) := by decide +kernel
theorem i10_47 : ins 10 47 = some (.isub, 0, 0, 0, 0) := by decide +kernel
theorem i10_48 : ins 10 48 = some (.iadd, 0, 0, 0, 0) := by decide +kernel
theorem i10_49 : ins 10 49 = some (.istore_n 3, 0, 0, 0, 0) := by decide +kernel
theorem i10_50 : ins 10 50 = some (.aload_n 0, 0, 0, 0, 0) := by decide +kernel
theorem i10_51 : ins 10 51 = some (.dup, 0, 0, 0, 0) := by decide +kernel
theorem i10_52 : ins 10 52 = some (.getfield 28, 4, 2, 5, 0) := by decide +kernel
theorem i10_55 : ins 10 55 = some (.iconst 1, 0, 0, 0, 0) := by decide +kernel
theorem i10_56 : ins 10 56 = some (.iadd, 0, 0, 0, 0) := by decide +kernel
theorem i10_57 : ins 10 57 = some (.putfield 28, 4, 2, 5, 0) := by decide +kernel
theorem i10_60 : ins 10 60 = some (.iinc 5 1, 0, 0, 0, 0) := by decide +kernel
theorem i10_63 : ins 10 63 = some (.goto (-45), 0, 0, 0, 0) := by decide +kernel
theorem g10_63 : tg 63 (-45) = 18 := by decide
theorem i10_66 : ins 10 66 = some (.iload_n 3, 0, 0, 0, 0) := by decide +kernel
theorem i10_67 : ins 10 67 = some (.ireturn, 0, 0, 0, 0) := by decide +kernel
theorem c11 : 11 < mnames ∧ nA 11 = 4 ∧ nS 11 = 0 := by decide +kernel
theorem m11 : (11 ≠ ensK ∧ 11 < mnames) ∧ nA 11 = 4 ∧ nL 11 = 4 := by decide +kernel
theorem r11 : nR 11 = none := by decide +kernel
theorem i11_0 : ins 11 0 = some (.iload_n 2, 0, 0, 0, 0) := by decide +kernel
theorem i11_1 : ins 11 1 = some (.ifCond .ne 13, 0, 0, 0, 0) := by decide +kernel
theorem g11_1 : tg 1 (13) = 14 := by decide
theorem i11_4 : ins 11 4 = some (.aload_n 0, 0, 0, 0, 0) := by decide +kernel
theorem i11_5 : ins 11 5 = some (.getfield 15, 6, 2, 1, 3) := by decide +kernel
theorem i11_8 : ins 11 8 = some (.iload_n 1, 0, 0, 0, 0) := by decide +kernel
theorem i11_9 : ins 11 9 = some (.iload_n 3, 0, 0, 0, 0) := by decide +kernel
theorem i11_10 : ins 11 10 = some (.iastore, 0, 0, 0, 0) := by decide +kernel
theorem i11_11 : ins 11 11 = some (.goto 25, 0, 0, 0, 0) := by decide +kernel
theorem g11_11 : tg 11 (25) = 36 := by decide
theorem i11_14 : ins 11 14 = some (.iload_n 2, 0, 0, 0, 0) := by decide +kernel
theorem i11_15 : ins 11 15 = some (.iconst 1, 0, 0, 0, 0) := by decide +kernel
theorem i11_16 : ins 11 16 = some (.if_icmp .ne 13, 0, 0, 0, 0) := by decide +kernel
theorem g11_16 : tg 16 (13) = 29 := by decide
theorem i11_19 : ins 11 19 = some (.aload_n 0, 0, 0, 0, 0) := by decide +kernel
theorem i11_20 : ins 11 20 = some (.getfield 18, 7, 2, 2, 3) := by decide +kernel
theorem i11_23 : ins 11 23 = some (.iload_n 1, 0, 0, 0, 0) := by decide +kernel
theorem i11_24 : ins 11 24 = some (.iload_n 3, 0, 0, 0, 0) := by decide +kernel
theorem i11_25 : ins 11 25 = some (.iastore, 0, 0, 0, 0) := by decide +kernel
theorem i11_26 : ins 11 26 = some (.goto 10, 0, 0, 0, 0) := by decide +kernel
theorem g11_26 : tg 26 (10) = 36 := by decide
theorem i11_29 : ins 11 29 = some (.aload_n 0, 0, 0, 0, 0) := by decide +kernel
theorem i11_30 : ins 11 30 = some (.getfield 21, 8, 2, 3, 3) := by decide +kernel
theorem i11_33 : ins 11 33 = some (.iload_n 1, 0, 0, 0, 0) := by decide +kernel
theorem i11_34 : ins 11 34 = some (.iload_n 3, 0, 0, 0, 0) := by decide +kernel
theorem i11_35 : ins 11 35 = some (.iastore, 0, 0, 0, 0) := by decide +kernel
theorem i11_36 : ins 11 36 = some (.return_, 0, 0, 0, 0) := by decide +kernel
theorem c12 : 12 < mnames ∧ nA 12 = 1 ∧ nS 12 = 0 := by decide +kernel
theorem m12 : (12 ≠ ensK ∧ 12 < mnames) ∧ nA 12 = 1 ∧ nL 12 = 1 := by decide +kernel
theorem r12 : nR 12 = none := by decide +kernel
theorem i12_0 : ins 12 0 = some (.aload_n 0, 0, 0, 0, 0) := by decide +kernel
theorem i12_1 : ins 12 1 = some (.iconst 0, 0, 0, 0, 0) := by decide +kernel
theorem i12_2 : ins 12 2 = some (.putfield 18, 9, 3, 2, 0) := by decide +kernel
theorem i12_5 : ins 12 5 = some (.return_, 0, 0, 0, 0) := by decide +kernel
theorem c13 : 13 < mnames ∧ nA 13 = 3 ∧ nS 13 = 0 := by decide +kernel
theorem m13 : (13 ≠ ensK ∧ 13 < mnames) ∧ nA 13 = 3 ∧ nL 13 = 3 := by decide +kernel
theorem r13 : nR 13 = none := by decide +kernel
theorem i13_0 : ins 13 0 = some (.aload_n 0, 0, 0, 0, 0) := by decide +kernel
theorem i13_1 : ins 13 1 = some (.getfield 18, 9, 3, 2, 0) := by decide +kernel
theorem i13_4 : ins 13 4 = some (.iconst 3, 0, 0, 0, 0) := by decide +kernel
theorem i13_5 : ins 13 5 = some (.if_icmp .ge 33, 0, 0, 0, 0) := by decide +kernel
theorem g13_5 : tg 5 (33) = 38 := by decide
theorem i13_8 : ins 13 8 = some (.aload_n 0, 0, 0, 0, 0) := by decide +kernel
theorem i13_9 : ins 13 9 = some (.getfield 9, 10, 3, 0, 3) := by decide +kernel
theorem i13_12 : ins 13 12 = some (.aload_n 0, 0, 0, 0, 0) := by decide +kernel
theorem i13_13 : ins 13 13 = some (.getfield 18, 9, 3, 2, 0) := by decide +kernel
theorem i13_16 : ins 13 16 = some (.iload_n 1, 0, 0, 0, 0) := by decide +kernel
theorem i13_17 : ins 13 17 = some (.iastore, 0, 0, 0, 0) := by decide +kernel
theorem i13_18 : ins 13 18 = some (.aload_n 0, 0, 0, 0, 0) := by decide +kernel
theorem i13_19 : ins 13 19 = some (.getfield 15, 11, 3, 1, 3) := by decide +kernel
theorem i13_22 : ins 13 22 = some (.aload_n 0, 0, 0, 0, 0) := by decide +kernel
theorem i13_23 : ins 13 23 = some (.getfield 18, 9, 3, 2, 0) := by decide +kernel
theorem i13_26 : ins 13 26 = some (.iload_n 2, 0, 0, 0, 0) := by decide +kernel
theorem i13_27 : ins 13 27 = some (.iastore, 0, 0, 0, 0) := by decide +kernel
theorem i13_28 : ins 13 28 = some (.aload_n 0, 0, 0, 0, 0) := by decide +kernel
theorem i13_29 : ins 13 29 = some (.dup, 0, 0, 0, 0) := by decide +kernel
theorem i13_30 : ins 13 30 = some (.getfield 18, 9, 3, 2, 0) := by decide +kernel
theorem i13_33 : ins 13 33 = some (.iconst 1, 0, 0, 0, 0) := by decide +kernel
theorem i13_34 : ins 13 34 = some (.iadd, 0, 0, 0, 0) := by decide +kernel
theorem i13_35 : ins 13 35 = some (.putfield 18, 9, 3, 2, 0) := by decide +kernel
theorem i13_38 : ins 13 38 = some (.return_, 0, 0, 0, 0) := by decide +kernel
theorem c14 : 14 < mnames ∧ nA 14 = 3 ∧ nS 14 = 0 := by decide +kernel
theorem m14 : (14 ≠ ensK ∧ 14 < mnames) ∧ nA 14 = 3 ∧ nL 14 = 4 := by decide +kernel
theorem r14 : nR 14 = none := by decide +kernel
theorem i14_0 : ins 14 0 = some (.aload_n 0, 0, 0, 0, 0) := by decide +kernel
theorem i14_1 : ins 14 1 = some (.aload_n 0, 0, 0, 0, 0) := by decide +kernel
theorem i14_2 : ins 14 2 = some (.getfield 18, 9, 3, 2, 0) := by decide +kernel
theorem i14_5 : ins 14 5 = some (.iconst 1, 0, 0, 0, 0) := by decide +kernel
theorem i14_6 : ins 14 6 = some (.iadd, 0, 0, 0, 0) := by decide +kernel
theorem i14_7 : ins 14 7 = some (.iconst 3, 0, 0, 0, 0) := by decide +kernel
theorem i14_8 : ins 14 8 = some (.invokestatic 22, 14, 202, 1, 0) := by decide +kernel
theorem i14_11 : ins 14 11 = some (.putfield 18, 9, 3, 2, 0) := by decide +kernel
theorem i14_14 : ins 14 14 = some (.aload_n 0, 0, 0, 0, 0) := by decide +kernel
theorem i14_15 : ins 14 15 = some (.getfield 18, 9, 3, 2, 0) := by decide +kernel
theorem i14_18 : ins 14 18 = some (.iconst 1, 0, 0, 0, 0) := by decide +kernel
theorem i14_19 : ins 14 19 = some (.isub, 0, 0, 0, 0) := by decide +kernel
theorem i14_20 : ins 14 20 = some (.istore_n 3, 0, 0, 0, 0) := by decide +kernel
theorem i14_21 : ins 14 21 = some (.iload_n 3, 0, 0, 0, 0) := by decide +kernel
theorem i14_22 : ins 14 22 = some (.ifCond .le 37, 0, 0, 0, 0) := by decide +kernel
theorem g14_22 : tg 22 (37) = 59 := by decide
theorem i14_25 : ins 14 25 = some (.aload_n 0, 0, 0, 0, 0) := by decide +kernel
theorem i14_26 : ins 14 26 = some (.getfield 9, 10, 3, 0, 3) := by decide +kernel
theorem i14_29 : ins 14 29 = some (.iload_n 3, 0, 0, 0, 0) := by decide +kernel
theorem i14_30 : ins 14 30 = some (.aload_n 0, 0, 0, 0, 0) := by decide +kernel
theorem i14_31 : ins 14 31 = some (.getfield 9, 10, 3, 0, 3) := by decide +kernel
theorem i14_34 : ins 14 34 = some (.iload_n 3, 0, 0, 0, 0) := by decide +kernel
theorem i14_35 : ins 14 35 = some (.iconst 1, 0, 0, 0, 0) := by decide +kernel
theorem i14_36 : ins 14 36 = some (.isub, 0, 0, 0, 0) := by decide +kernel
theorem i14_37 : ins 14 37 = some (.iaload, 0, 0, 0, 0) := by decide +kernel
theorem i14_38 : ins 14 38 = some (.iastore, 0, 0, 0, 0) := by decide +kernel
theorem i14_39 : ins 14 39 = some (.aload_n 0, 0, 0, 0, 0) := by decide +kernel
theorem i14_40 : ins 14 40 = some (.getfield 15, 11, 3, 1, 3) := by decide +kernel
theorem i14_43 : ins 14 43 = some (.iload_n 3, 0, 0, 0, 0) := by decide +kernel
theorem i14_44 : ins 14 44 = some (.aload_n 0, 0, 0, 0, 0) := by decide +kernel
theorem i14_45 : ins 14 45 = some (.getfield 15, 11, 3, 1, 3) := by decide +kernel
theorem i14_48 : ins 14 48 = some (.iload_n 3, 0, 0, 0, 0) := by decide +kernel
theorem i14_49 : ins 14 49 = some (.iconst 1, 0, 0, 0, 0) := by decide +kernel
theorem i14_50 : ins 14 50 = some (.isub, 0, 0, 0, 0) := by decide +kernel
theorem i14_51 : ins 14 51 = some (.iaload, 0, 0, 0, 0) := by decide +kernel
theorem i14_52 : ins 14 52 = some (.iastore, 0, 0, 0, 0) := by decide +kernel
theorem i14_53 : ins 14 53 = some (.iinc 3 (-1), 0, 0, 0, 0) := by decide +kernel
theorem i14_56 : ins 14 56 = some (.goto (-35), 0, 0, 0, 0) := by decide +kernel
theorem g14_56 : tg 56 (-35) = 21 := by decide
theorem i14_59 : ins 14 59 = some (.aload_n 0, 0, 0, 0, 0) := by decide +kernel
theorem i14_60 : ins 14 60 = some (.getfield 9, 10, 3, 0, 3) := by decide +kernel
theorem i14_63 : ins 14 63 = some (.iconst 0, 0, 0, 0, 0) := by decide +kernel
theorem i14_64 : ins 14 64 = some (.iload_n 1, 0, 0, 0, 0) := by decide +kernel
theorem i14_65 : ins 14 65 = some (.iastore, 0, 0, 0, 0) := by decide +kernel
theorem i14_66 : ins 14 66 = some (.aload_n 0, 0, 0, 0, 0) := by decide +kernel
theorem i14_67 : ins 14 67 = some (.getfield 15, 11, 3, 1, 3) := by decide +kernel
theorem i14_70 : ins 14 70 = some (.iconst 0, 0, 0, 0, 0) := by decide +kernel
theorem i14_71 : ins 14 71 = some (.iload_n 2, 0, 0, 0, 0) := by decide +kernel
theorem i14_72 : ins 14 72 = some (.iastore, 0, 0, 0, 0) := by decide +kernel
theorem i14_73 : ins 14 73 = some (.return_, 0, 0, 0, 0) := by decide +kernel
theorem c15 : 15 < mnames ∧ nA 15 = 2 ∧ nS 15 = 0 := by decide +kernel
theorem m15 : (15 ≠ ensK ∧ 15 < mnames) ∧ nA 15 = 2 ∧ nL 15 = 6 := by decide +kernel
theorem r15 : nR 15 = none := by decide +kernel
theorem i15_0 : ins 15 0 = some (.aload_n 1, 0, 0, 0, 0) := by decide +kernel
theorem i15_1 : ins 15 1 = some (.invokevirtual 21, 15, 22, 0, 0) := by decide +kernel
theorem i15_4 : ins 15 4 = some (.istore_n 2, 0, 0, 0, 0) := by decide +kernel
theorem i15_5 : ins 15 5 = some (.iload_n 2, 0, 0, 0, 0) := by decide +kernel
theorem i15_6 : ins 15 6 = some (.ifCond .ne 7, 0, 0, 0, 0) := by decide +kernel
theorem g15_6 : tg 6 (7) = 13 := by decide
theorem i15_9 : ins 15 9 = some (.iconst 0, 0, 0, 0, 0) := by decide +kernel
theorem i15_10 : ins 15 10 = some (.goto 7, 0, 0, 0, 0) := by decide +kernel
theorem g15_10 : tg 10 (7) = 17 := by decide
theorem i15_13 : ins 15 13 = some (.aload_n 1, 0, 0, 0, 0) := by decide +kernel
theorem i15_14 : ins 15 14 = some (.getfield 27, 12, 5, 5, 0) := by decide +kernel
theorem i15_17 : ins 15 17 = some (.istore_n 3, 0, 0, 0, 0) := by decide +kernel
theorem i15_18 : ins 15 18 = some (.iconst 0, 0, 0, 0, 0) := by decide +kernel
theorem i15_19 : ins 15 19 = some (.istore 4, 0, 0, 0, 0) := by decide +kernel
theorem i15_21 : ins 15 21 = some (.iload 4, 0, 0, 0, 0) := by decide +kernel
theorem i15_23 : ins 15 23 = some (.bipush 6, 0, 0, 0, 0) := by decide +kernel
theorem i15_25 : ins 15 25 = some (.if_icmp .ge 70, 0, 0, 0, 0) := by decide +kernel
theorem g15_25 : tg 25 (70) = 95 := by decide
theorem i15_28 : ins 15 28 = some (.aload_n 1, 0, 0, 0, 0) := by decide +kernel
theorem i15_29 : ins 15 29 = some (.getfield 27, 12, 5, 5, 0) := by decide +kernel
theorem i15_32 : ins 15 32 = some (.aload_n 1, 0, 0, 0, 0) := by decide +kernel
theorem i15_33 : ins 15 33 = some (.iload 4, 0, 0, 0, 0) := by decide +kernel
theorem i15_35 : ins 15 35 = some (.invokevirtual 31, 16, 21, 0, 0) := by decide +kernel
theorem i15_38 : ins 15 38 = some (.imul, 0, 0, 0, 0) := by decide +kernel
theorem i15_39 : ins 15 39 = some (.istore 5, 0, 0, 0, 0) := by decide +kernel
theorem i15_41 : ins 15 41 = some (.aload_n 0, 0, 0, 0, 0) := by decide +kernel
theorem i15_42 : ins 15 42 = some (.getfield 9, 13, 4, 0, 3) := by decide +kernel
theorem i15_45 : ins 15 45 = some (.iload 4, 0, 0, 0, 0) := by decide +kernel
theorem i15_47 : ins 15 47 = some (.iload_n 2, 0, 0, 0, 0) := by decide +kernel
theorem i15_48 : ins 15 48 = some (.ifCond .ne 7, 0, 0, 0, 0) := by decide +kernel
theorem g15_48 : tg 48 (7) = 55 := by decide
theorem i15_51 : ins 15 51 = some (.iconst 0, 0, 0, 0, 0) := by decide +kernel
theorem i15_52 : ins 15 52 = some (.goto 7, 0, 0, 0, 0) := by decide +kernel
theorem g15_52 : tg 52 (7) = 59 := by decide
theorem i15_55 : ins 15 55 = some (.iload 5, 0, 0, 0, 0) := by decide +kernel
theorem i15_57 : ins 15 57 = some (.iload_n 2, 0, 0, 0, 0) := by decide +kernel
theorem i15_58 : ins 15 58 = some (.idiv, 0, 0, 0, 0) := by decide +kernel
theorem i15_59 : ins 15 59 = some (.iastore, 0, 0, 0, 0) := by decide +kernel
theorem i15_60 : ins 15 60 = some (.aload_n 0, 0, 0, 0, 0) := by decide +kernel
theorem i15_61 : ins 15 61 = some (.getfield 18, 14, 4, 2, 3) := by decide +kernel
theorem i15_64 : ins 15 64 = some (.iload 4, 0, 0, 0, 0) := by decide +kernel
theorem i15_66 : ins 15 66 = some (.iload_n 2, 0, 0, 0, 0) := by decide +kernel
theorem i15_67 : ins 15 67 = some (.ifCond .ne 7, 0, 0, 0, 0) := by decide +kernel
theorem g15_67 : tg 67 (7) = 74 := by decide
theorem i15_70 : ins 15 70 = some (.iconst 0, 0, 0, 0, 0) := by decide +kernel
theorem i15_71 : ins 15 71 = some (.goto 7, 0, 0, 0, 0) := by decide +kernel
theorem g15_71 : tg 71 (7) = 78 := by decide
theorem i15_74 : ins 15 74 = some (.iload 5, 0, 0, 0, 0) := by decide +kernel
theorem i15_76 : ins 15 76 = some (.iload_n 2, 0, 0, 0, 0) := by decide +kernel
theorem i15_77 : ins 15 77 = some (.irem, 0, 0, 0, 0) := by decide +kernel
theorem i15_78 : ins 15 78 = some (.iastore, 0, 0, 0, 0) := by decide +kernel
theorem i15_79 : ins 15 79 = some (.iload_n 3, 0, 0, 0, 0) := by decide +kernel
theorem i15_80 : ins 15 80 = some (.aload_n 0, 0, 0, 0, 0) := by decide +kernel
theorem i15_81 : ins 15 81 = some (.getfield 9, 13, 4, 0, 3) := by decide +kernel
theorem i15_84 : ins 15 84 = some (.iload 4, 0, 0, 0, 0) := by decide +kernel
theorem i15_86 : ins 15 86 = some (.iaload, 0, 0, 0, 0) := by decide +kernel
theorem i15_87 : ins 15 87 = some (.isub, 0, 0, 0, 0) := by decide +kernel
theorem i15_88 : ins 15 88 = some (.istore_n 3, 0, 0, 0, 0) := by decide +kernel
theorem i15_89 : ins 15 89 = some (.iinc 4 1, 0, 0, 0, 0) := by decide +kernel
theorem i15_92 : ins 15 92 = some (.goto (-71), 0, 0, 0, 0) := by decide +kernel
theorem g15_92 : tg 92 (-71) = 21 := by decide
theorem i15_95 : ins 15 95 = some (.iconst 0, 0, 0, 0, 0) := by decide +kernel
theorem i15_96 : ins 15 96 = some (.istore 4, 0, 0, 0, 0) := by decide +kernel
theorem i15_98 : ins 15 98 = some (.iload 4, 0, 0, 0, 0) := by decide +kernel
theorem i15_100 : ins 15 100 = some (.bipush 6, 0, 0, 0, 0) := by decide +kernel
theorem i15_102 : ins 15 102 = some (.if_icmp .ge 19, 0, 0, 0, 0) := by decide +kernel
theorem g15_102 : tg 102 (19) = 121 := by decide
theorem i15_105 : ins 15 105 = some (.iload 4, 0, 0, 0, 0) := by decide +kernel
theorem i15_107 : ins 15 107 = some (.iload_n 3, 0, 0, 0, 0) := by decide +kernel
theorem i15_108 : ins 15 108 = some (.if_icmp .ge 13, 0, 0, 0, 0) := by decide +kernel
theorem g15_108 : tg 108 (13) = 121 := by decide
theorem i15_111 : ins 15 111 = some (.aload_n 0, 0, 0, 0, 0) := by decide +kernel
theorem i15_112 : ins 15 112 = some (.invokevirtual 35, 17, 16, 0, 0) := by decide +kernel
theorem i15_115 : ins 15 115 = some (.iinc 4 1, 0, 0, 0, 0) := by decide +kernel
theorem i15_118 : ins 15 118 = some (.goto (-20), 0, 0, 0, 0) := by decide +kernel
theorem g15_118 : tg 118 (-20) = 98 := by decide
theorem i15_121 : ins 15 121 = some (.return_, 0, 0, 0, 0) := by decide +kernel
theorem c16 : 16 < mnames ∧ nA 16 = 1 ∧ nS 16 = 0 := by decide +kernel
theorem m16 : (16 ≠ ensK ∧ 16 < mnames) ∧ nA 16 = 1 ∧ nL 16 = 2 := by decide +kernel
theorem r16 : nR 16 = none := by decide +kernel
theorem i16_0 : ins 16 0 = some (.aload_n 0, 0, 0, 0, 0) := by decide +kernel
theorem i16_1 : ins 16 1 = some (.getfield 18, 14, 4, 2, 3) := by decide +kernel
theorem i16_4 : ins 16 4 = some (.invokestatic 38, 18, 18, 1, 0) := by decide +kernel
theorem i16_7 : ins 16 7 = some (.istore_n 1, 0, 0, 0, 0) := by decide +kernel
theorem i16_8 : ins 16 8 = some (.aload_n 0, 0, 0, 0, 0) := by decide +kernel
theorem i16_9 : ins 16 9 = some (.getfield 18, 14, 4, 2, 3) := by decide +kernel
theorem i16_12 : ins 16 12 = some (.iload_n 1, 0, 0, 0, 0) := by decide +kernel
theorem i16_13 : ins 16 13 = some (.iaload, 0, 0, 0, 0) := by decide +kernel
theorem i16_14 : ins 16 14 = some (.ifCond .le 20, 0, 0, 0, 0) := by decide +kernel
theorem g16_14 : tg 14 (20) = 34 := by decide
theorem i16_17 : ins 16 17 = some (.aload_n 0, 0, 0, 0, 0) := by decide +kernel
theorem i16_18 : ins 16 18 = some (.getfield 9, 13, 4, 0, 3) := by decide +kernel
theorem i16_21 : ins 16 21 = some (.iload_n 1, 0, 0, 0, 0) := by decide +kernel
theorem i16_22 : ins 16 22 = some (.dup2, 0, 0, 0, 0) := by decide +kernel
theorem i16_23 : ins 16 23 = some (.iaload, 0, 0, 0, 0) := by decide +kernel
theorem i16_24 : ins 16 24 = some (.iconst 1, 0, 0, 0, 0) := by decide +kernel
theorem i16_25 : ins 16 25 = some (.iadd, 0, 0, 0, 0) := by decide +kernel
theorem i16_26 : ins 16 26 = some (.iastore, 0, 0, 0, 0) := by decide +kernel
theorem i16_27 : ins 16 27 = some (.aload_n 0, 0, 0, 0, 0) := by decide +kernel
theorem i16_28 : ins 16 28 = some (.getfield 18, 14, 4, 2, 3) := by decide +kernel
theorem i16_31 : ins 16 31 = some (.iload_n 1, 0, 0, 0, 0) := by decide +kernel
theorem i16_32 : ins 16 32 = some (.iconst 0, 0, 0, 0, 0) := by decide +kernel
theorem i16_33 : ins 16 33 = some (.iastore, 0, 0, 0, 0) := by decide +kernel
theorem i16_34 : ins 16 34 = some (.return_, 0, 0, 0, 0) := by decide +kernel
theorem c17 : 17 < mnames ∧ nA 17 = 2 ∧ nS 17 = 0 := by decide +kernel
theorem m17 : (17 ≠ ensK ∧ 17 < mnames) ∧ nA 17 = 2 ∧ nL 17 = 6 := by decide +kernel
theorem r17 : nR 17 = none := by decide +kernel
theorem i17_0 : ins 17 0 = some (.aload_n 1, 0, 0, 0, 0) := by decide +kernel
theorem i17_1 : ins 17 1 = some (.invokevirtual 21, 15, 22, 0, 0) := by decide +kernel
theorem i17_4 : ins 17 4 = some (.istore_n 2, 0, 0, 0, 0) := by decide +kernel
theorem i17_5 : ins 17 5 = some (.iconst 0, 0, 0, 0, 0) := by decide +kernel
theorem i17_6 : ins 17 6 = some (.istore_n 3, 0, 0, 0, 0) := by decide +kernel
theorem i17_7 : ins 17 7 = some (.iload_n 3, 0, 0, 0, 0) := by decide +kernel
theorem i17_8 : ins 17 8 = some (.bipush 6, 0, 0, 0, 0) := by decide +kernel
theorem i17_10 : ins 17 10 = some (.if_icmp .ge 32, 0, 0, 0, 0) := by decide +kernel
theorem g17_10 : tg 10 (32) = 42 := by decide
theorem i17_13 : ins 17 13 = some (.aload_n 0, 0, 0, 0, 0) := by decide +kernel
theorem i17_14 : ins 17 14 = some (.getfield 15, 15, 4, 1, 3) := by decide +kernel
theorem i17_17 : ins 17 17 = some (.iload_n 3, 0, 0, 0, 0) := by decide +kernel
theorem i17_18 : ins 17 18 = some (.iconst 0, 0, 0, 0, 0) := by decide +kernel
theorem i17_19 : ins 17 19 = some (.iastore, 0, 0, 0, 0) := by decide +kernel
theorem i17_20 : ins 17 20 = some (.aload_n 0, 0, 0, 0, 0) := by decide +kernel
theorem i17_21 : ins 17 21 = some (.getfield 18, 14, 4, 2, 3) := by decide +kernel
theorem i17_24 : ins 17 24 = some (.iload_n 3, 0, 0, 0, 0) := by decide +kernel
theorem i17_25 : ins 17 25 = some (.aload_n 1, 0, 0, 0, 0) := by decide +kernel
theorem i17_26 : ins 17 26 = some (.getfield 27, 12, 5, 5, 0) := by decide +kernel
theorem i17_29 : ins 17 29 = some (.aload_n 1, 0, 0, 0, 0) := by decide +kernel
theorem i17_30 : ins 17 30 = some (.iload_n 3, 0, 0, 0, 0) := by decide +kernel
theorem i17_31 : ins 17 31 = some (.invokevirtual 31, 16, 21, 0, 0) := by decide +kernel
theorem i17_34 : ins 17 34 = some (.imul, 0, 0, 0, 0) := by decide +kernel
theorem i17_35 : ins 17 35 = some (.iastore, 0, 0, 0, 0) := by decide +kernel
theorem i17_36 : ins 17 36 = some (.iinc 3 1, 0, 0, 0, 0) := by decide +kernel
theorem i17_39 : ins 17 39 = some (.goto (-32), 0, 0, 0, 0) := by decide +kernel
theorem g17_39 : tg 39 (-32) = 7 := by decide
theorem i17_42 : ins 17 42 = some (.iload_n 2, 0, 0, 0, 0) := by decide +kernel
theorem i17_43 : ins 17 43 = some (.ifCond .ne 7, 0, 0, 0, 0) := by decide +kernel
theorem g17_43 : tg 43 (7) = 50 := by decide
theorem i17_46 : ins 17 46 = some (.iconst 0, 0, 0, 0, 0) := by decide +kernel
theorem i17_47 : ins 17 47 = some (.goto 7, 0, 0, 0, 0) := by decide +kernel
theorem g17_47 : tg 47 (7) = 54 := by decide
theorem i17_50 : ins 17 50 = some (.aload_n 1, 0, 0, 0, 0) := by decide +kernel
theorem i17_51 : ins 17 51 = some (.getfield 27, 12, 5, 5, 0) := by decide +kernel
theorem i17_54 : ins 17 54 = some (.istore_n 3, 0, 0, 0, 0) := by decide +kernel
theorem i17_55 : ins 17 55 = some (.iconst 0, 0, 0, 0, 0) := by decide +kernel
theorem i17_56 : ins 17 56 = some (.istore 4, 0, 0, 0, 0) := by decide +kernel
theorem i17_58 : ins 17 58 = some (.iload 4, 0, 0, 0, 0) := by decide +kernel
theorem i17_60 : ins 17 60 = some (.iload_n 3, 0, 0, 0, 0) := by decide +kernel
theorem i17_61 : ins 17 61 = some (.if_icmp .ge 40, 0, 0, 0, 0) := by decide +kernel
theorem g17_61 : tg 61 (40) = 101 := by decide
theorem i17_64 : ins 17 64 = some (.aload_n 0, 0, 0, 0, 0) := by decide +kernel
theorem i17_65 : ins 17 65 = some (.getfield 18, 14, 4, 2, 3) := by decide +kernel
theorem i17_68 : ins 17 68 = some (.invokestatic 38, 18, 18, 1, 0) := by decide +kernel
theorem i17_71 : ins 17 71 = some (.istore 5, 0, 0, 0, 0) := by decide +kernel
theorem i17_73 : ins 17 73 = some (.aload_n 0, 0, 0, 0, 0) := by decide +kernel
theorem i17_74 : ins 17 74 = some (.getfield 15, 15, 4, 1, 3) := by decide +kernel
theorem i17_77 : ins 17 77 = some (.iload 5, 0, 0, 0, 0) := by decide +kernel
theorem i17_79 : ins 17 79 = some (.dup2, 0, 0, 0, 0) := by decide +kernel
theorem i17_80 : ins 17 80 = some (.iaload, 0, 0, 0, 0) := by decide +kernel
theorem i17_81 : ins 17 81 = some (.iconst 1, 0, 0, 0, 0) := by decide +kernel
theorem i17_82 : ins 17 82 = some (.iadd, 0, 0, 0, 0) := by decide +kernel
theorem i17_83 : ins 17 83 = some (.iastore, 0, 0, 0, 0) := by decide +kernel
theorem i17_84 : ins 17 84 = some (.aload_n 0, 0, 0, 0, 0) := by decide +kernel
theorem i17_85 : ins 17 85 = some (.getfield 18, 14, 4, 2, 3) := by decide +kernel
theorem i17_88 : ins 17 88 = some (.iload 5, 0, 0, 0, 0) := by decide +kernel
theorem i17_90 : ins 17 90 = some (.dup2, 0, 0, 0, 0) := by decide +kernel
theorem i17_91 : ins 17 91 = some (.iaload, 0, 0, 0, 0) := by decide +kernel
theorem i17_92 : ins 17 92 = some (.iload_n 2, 0, 0, 0, 0) := by decide +kernel
theorem i17_93 : ins 17 93 = some (.isub, 0, 0, 0, 0) := by decide +kernel
theorem i17_94 : ins 17 94 = some (.iastore, 0, 0, 0, 0) := by decide +kernel
theorem i17_95 : ins 17 95 = some (.iinc 4 1, 0, 0, 0, 0) := by decide +kernel
theorem i17_98 : ins 17 98 = some (.goto (-40), 0, 0, 0, 0) := by decide +kernel
theorem g17_98 : tg 98 (-40) = 58 := by decide
theorem i17_101 : ins 17 101 = some (.return_, 0, 0, 0, 0) := by decide +kernel
theorem c18 : 18 < mnames ∧ nA 18 = 1 ∧ nS 18 = 1 := by decide +kernel
theorem m18 : (18 ≠ ensK ∧ 18 < mnames) ∧ nA 18 = 1 ∧ nL 18 = 3 := by decide +kernel
theorem r18 : nR 18 = (some .int) := by decide +kernel
theorem i18_0 : ins 18 0 = some (.iconst 0, 0, 0, 0, 0) := by decide +kernel
theorem i18_1 : ins 18 1 = some (.istore_n 1, 0, 0, 0, 0) := by decide +kernel
theorem i18_2 : ins 18 2 = some (.iconst 1, 0, 0, 0, 0) := by decide +kernel
theorem i18_3 : ins 18 3 = some (.istore_n 2, 0, 0, 0, 0) := by decide +kernel
theorem i18_4 : ins 18 4 = some (.iload_n 2, 0, 0, 0, 0) := by decide +kernel
theorem i18_5 : ins 18 5 = some (.bipush 6, 0, 0, 0, 0) := by decide +kernel
theorem i18_7 : ins 18 7 = some (.if_icmp .ge 20, 0, 0, 0, 0) := by decide +kernel
theorem g18_7 : tg 7 (20) = 27 := by decide
theorem i18_10 : ins 18 10 = some (.aload_n 0, 0, 0, 0, 0) := by decide +kernel
theorem i18_11 : ins 18 11 = some (.iload_n 2, 0, 0, 0, 0) := by decide +kernel
theorem i18_12 : ins 18 12 = some (.iaload, 0, 0, 0, 0) := by decide +kernel
theorem i18_13 : ins 18 13 = some (.aload_n 0, 0, 0, 0, 0) := by decide +kernel
theorem i18_14 : ins 18 14 = some (.iload_n 1, 0, 0, 0, 0) := by decide +kernel
theorem i18_15 : ins 18 15 = some (.iaload, 0, 0, 0, 0) := by decide +kernel
theorem i18_16 : ins 18 16 = some (.if_icmp .le 5, 0, 0, 0, 0) := by decide +kernel
theorem g18_16 : tg 16 (5) = 21 := by decide
theorem i18_19 : ins 18 19 = some (.iload_n 2, 0, 0, 0, 0) := by decide +kernel
theorem i18_20 : ins 18 20 = some (.istore_n 1, 0, 0, 0, 0) := by decide +kernel
theorem i18_21 : ins 18 21 = some (.iinc 2 1, 0, 0, 0, 0) := by decide +kernel
theorem i18_24 : ins 18 24 = some (.goto (-20), 0, 0, 0, 0) := by decide +kernel
theorem g18_24 : tg 24 (-20) = 4 := by decide
theorem i18_27 : ins 18 27 = some (.iload_n 1, 0, 0, 0, 0) := by decide +kernel
theorem i18_28 : ins 18 28 = some (.ireturn, 0, 0, 0, 0) := by decide +kernel
theorem c19 : 19 < mnames ∧ nA 19 = 2 ∧ nS 19 = 0 := by decide +kernel
theorem m19 : (19 ≠ ensK ∧ 19 < mnames) ∧ nA 19 = 2 ∧ nL 19 = 3 := by decide +kernel
theorem r19 : nR 19 = none := by decide +kernel
theorem i19_0 : ins 19 0 = some (.aload_n 0, 0, 0, 0, 0) := by decide +kernel
theorem i19_1 : ins 19 1 = some (.getfield 12, 16, 5, 0, 3) := by decide +kernel
theorem i19_4 : ins 19 4 = some (.aload_n 1, 0, 0, 0, 0) := by decide +kernel
theorem i19_5 : ins 19 5 = some (.getfield 12, 16, 5, 0, 3) := by decide +kernel
theorem i19_8 : ins 19 8 = some (.invokevirtual 32, 19, 33, 0, 0) := by decide +kernel
theorem i19_11 : ins 19 11 = some (.iconst 0, 0, 0, 0, 0) := by decide +kernel
theorem i19_12 : ins 19 12 = some (.istore_n 2, 0, 0, 0, 0) := by decide +kernel
theorem i19_13 : ins 19 13 = some (.iload_n 2, 0, 0, 0, 0) := by decide +kernel
theorem i19_14 : ins 19 14 = some (.bipush 6, 0, 0, 0, 0) := by decide +kernel
theorem i19_16 : ins 19 16 = some (.if_icmp .ge 57, 0, 0, 0, 0) := by decide +kernel
theorem g19_16 : tg 16 (57) = 73 := by decide
theorem i19_19 : ins 19 19 = some (.aload_n 0, 0, 0, 0, 0) := by decide +kernel
theorem i19_20 : ins 19 20 = some (.getfield 18, 17, 5, 1, 3) := by decide +kernel
theorem i19_23 : ins 19 23 = some (.iload_n 2, 0, 0, 0, 0) := by decide +kernel
theorem i19_24 : ins 19 24 = some (.aload_n 1, 0, 0, 0, 0) := by decide +kernel
theorem i19_25 : ins 19 25 = some (.getfield 18, 17, 5, 1, 3) := by decide +kernel
theorem i19_28 : ins 19 28 = some (.iload_n 2, 0, 0, 0, 0) := by decide +kernel
theorem i19_29 : ins 19 29 = some (.baload, 0, 0, 0, 0) := by decide +kernel
theorem i19_30 : ins 19 30 = some (.bastore, 0, 0, 0, 0) := by decide +kernel
theorem i19_31 : ins 19 31 = some (.aload_n 0, 0, 0, 0, 0) := by decide +kernel
theorem i19_32 : ins 19 32 = some (.getfield 22, 18, 5, 2, 3) := by decide +kernel
theorem i19_35 : ins 19 35 = some (.iload_n 2, 0, 0, 0, 0) := by decide +kernel
theorem i19_36 : ins 19 36 = some (.aload_n 1, 0, 0, 0, 0) := by decide +kernel
theorem i19_37 : ins 19 37 = some (.getfield 22, 18, 5, 2, 3) := by decide +kernel
theorem i19_40 : ins 19 40 = some (.iload_n 2, 0, 0, 0, 0) := by decide +kernel
theorem i19_41 : ins 19 41 = some (.iaload, 0, 0, 0, 0) := by decide +kernel
theorem i19_42 : ins 19 42 = some (.iastore, 0, 0, 0, 0) := by decide +kernel
theorem i19_43 : ins 19 43 = some (.aload_n 0, 0, 0, 0, 0) := by decide +kernel
theorem i19_44 : ins 19 44 = some (.getfield 26, 19, 5, 3, 3) := by decide +kernel
theorem i19_47 : ins 19 47 = some (.iload_n 2, 0, 0, 0, 0) := by decide +kernel
theorem i19_48 : ins 19 48 = some (.aload_n 1, 0, 0, 0, 0) := by decide +kernel
theorem i19_49 : ins 19 49 = some (.getfield 26, 19, 5, 3, 3) := by decide +kernel
theorem i19_52 : ins 19 52 = some (.iload_n 2, 0, 0, 0, 0) := by decide +kernel
theorem i19_53 : ins 19 53 = some (.iaload, 0, 0, 0, 0) := by decide +kernel
theorem i19_54 : ins 19 54 = some (.iastore, 0, 0, 0, 0) := by decide +kernel
theorem i19_55 : ins 19 55 = some (.aload_n 0, 0, 0, 0, 0) := by decide +kernel
theorem i19_56 : ins 19 56 = some (.getfield 29, 20, 5, 4, 3) := by decide +kernel
theorem i19_59 : ins 19 59 = some (.iload_n 2, 0, 0, 0, 0) := by decide +kernel
theorem i19_60 : ins 19 60 = some (.aload_n 1, 0, 0, 0, 0) := by decide +kernel
theorem i19_61 : ins 19 61 = some (.getfield 29, 20, 5, 4, 3) := by decide +kernel
theorem i19_64 : ins 19 64 = some (.iload_n 2, 0, 0, 0, 0) := by decide +kernel
theorem i19_65 : ins 19 65 = some (.iaload, 0, 0, 0, 0) := by decide +kernel
theorem i19_66 : ins 19 66 = some (.iastore, 0, 0, 0, 0) := by decide +kernel
theorem i19_67 : ins 19 67 = some (.iinc 2 1, 0, 0, 0, 0) := by decide +kernel
theorem i19_70 : ins 19 70 = some (.goto (-57), 0, 0, 0, 0) := by decide +kernel
theorem g19_70 : tg 70 (-57) = 13 := by decide
theorem i19_73 : ins 19 73 = some (.aload_n 0, 0, 0, 0, 0) := by decide +kernel
theorem i19_74 : ins 19 74 = some (.aload_n 1, 0, 0, 0, 0) := by decide +kernel
theorem i19_75 : ins 19 75 = some (.getfield 36, 21, 5, 5, 0) := by decide +kernel
theorem i19_78 : ins 19 78 = some (.putfield 36, 21, 5, 5, 0) := by decide +kernel
theorem i19_81 : ins 19 81 = some (.aload_n 0, 0, 0, 0, 0) := by decide +kernel
theorem i19_82 : ins 19 82 = some (.aload_n 1, 0, 0, 0, 0) := by decide +kernel
theorem i19_83 : ins 19 83 = some (.getfield 40, 22, 5, 6, 0) := by decide +kernel
theorem i19_86 : ins 19 86 = some (.putfield 40, 22, 5, 6, 0) := by decide +kernel
theorem i19_89 : ins 19 89 = some (.aload_n 0, 0, 0, 0, 0) := by decide +kernel
theorem i19_90 : ins 19 90 = some (.aload_n 1, 0, 0, 0, 0) := by decide +kernel
theorem i19_91 : ins 19 91 = some (.getfield 43, 23, 5, 7, 0) := by decide +kernel
theorem i19_94 : ins 19 94 = some (.putfield 43, 23, 5, 7, 0) := by decide +kernel
theorem i19_97 : ins 19 97 = some (.aload_n 0, 0, 0, 0, 0) := by decide +kernel
theorem i19_98 : ins 19 98 = some (.aload_n 1, 0, 0, 0, 0) := by decide +kernel
theorem i19_99 : ins 19 99 = some (.getfield 46, 24, 5, 8, 0) := by decide +kernel
theorem i19_102 : ins 19 102 = some (.putfield 46, 24, 5, 8, 0) := by decide +kernel
theorem i19_105 : ins 19 105 = some (.aload_n 0, 0, 0, 0, 0) := by decide +kernel
theorem i19_106 : ins 19 106 = some (.aload_n 1, 0, 0, 0, 0) := by decide +kernel
theorem i19_107 : ins 19 107 = some (.getfield 49, 25, 5, 9, 0) := by decide +kernel
theorem i19_110 : ins 19 110 = some (.putfield 49, 25, 5, 9, 0) := by decide +kernel
theorem i19_113 : ins 19 113 = some (.aload_n 0, 0, 0, 0, 0) := by decide +kernel
theorem i19_114 : ins 19 114 = some (.aload_n 1, 0, 0, 0, 0) := by decide +kernel
theorem i19_115 : ins 19 115 = some (.getfield 52, 26, 5, 10, 0) := by decide +kernel
theorem i19_118 : ins 19 118 = some (.putfield 52, 26, 5, 10, 0) := by decide +kernel
theorem i19_121 : ins 19 121 = some (.return_, 0, 0, 0, 0) := by decide +kernel
theorem c20 : 20 < mnames ∧ nA 20 = 3 ∧ nS 20 = 0 := by decide +kernel
theorem m20 : (20 ≠ ensK ∧ 20 < mnames) ∧ nA 20 = 3 ∧ nL 20 = 5 := by decide +kernel
theorem r20 : nR 20 = (some .int) := by decide +kernel
theorem i20_0 : ins 20 0 = some (.iload_n 2, 0, 0, 0, 0) := by decide +kernel
theorem i20_1 : ins 20 1 = some (.aload_n 0, 0, 0, 0, 0) := by decide +kernel
theorem i20_2 : ins 20 2 = some (.getfield 12, 16, 5, 0, 3) := by decide +kernel
theorem i20_5 : ins 20 5 = some (.getfield 55, 27, 6, 2, 3) := by decide +kernel
theorem i20_8 : ins 20 8 = some (.iload_n 1, 0, 0, 0, 0) := by decide +kernel
theorem i20_9 : ins 20 9 = some (.iaload, 0, 0, 0, 0) := by decide +kernel
theorem i20_10 : ins 20 10 = some (.imul, 0, 0, 0, 0) := by decide +kernel
theorem i20_11 : ins 20 11 = some (.istore_n 3, 0, 0, 0, 0) := by decide +kernel
theorem i20_12 : ins 20 12 = some (.aload_n 0, 0, 0, 0, 0) := by decide +kernel
theorem i20_13 : ins 20 13 = some (.getfield 12, 16, 5, 0, 3) := by decide +kernel
theorem i20_16 : ins 20 16 = some (.iload_n 1, 0, 0, 0, 0) := by decide +kernel
theorem i20_17 : ins 20 17 = some (.iload_n 3, 0, 0, 0, 0) := by decide +kernel
theorem i20_18 : ins 20 18 = some (.invokevirtual 58, 20, 40, 0, 0) := by decide +kernel
theorem i20_21 : ins 20 21 = some (.istore 4, 0, 0, 0, 0) := by decide +kernel
theorem i20_23 : ins 20 23 = some (.aload_n 0, 0, 0, 0, 0) := by decide +kernel
theorem i20_24 : ins 20 24 = some (.getfield 12, 16, 5, 0, 3) := by decide +kernel
theorem i20_27 : ins 20 27 = some (.getfield 62, 28, 6, 7, 3) := by decide +kernel
theorem i20_30 : ins 20 30 = some (.iload_n 1, 0, 0, 0, 0) := by decide +kernel
theorem i20_31 : ins 20 31 = some (.dup2, 0, 0, 0, 0) := by decide +kernel
theorem i20_32 : ins 20 32 = some (.iaload, 0, 0, 0, 0) := by decide +kernel
theorem i20_33 : ins 20 33 = some (.iload_n 3, 0, 0, 0, 0) := by decide +kernel
theorem i20_34 : ins 20 34 = some (.iadd, 0, 0, 0, 0) := by decide +kernel
theorem i20_35 : ins 20 35 = some (.iastore, 0, 0, 0, 0) := by decide +kernel
theorem i20_36 : ins 20 36 = some (.aload_n 0, 0, 0, 0, 0) := by decide +kernel
theorem i20_37 : ins 20 37 = some (.dup, 0, 0, 0, 0) := by decide +kernel
theorem i20_38 : ins 20 38 = some (.getfield 46, 24, 5, 8, 0) := by decide +kernel
theorem i20_41 : ins 20 41 = some (.iload_n 3, 0, 0, 0, 0) := by decide +kernel
theorem i20_42 : ins 20 42 = some (.iadd, 0, 0, 0, 0) := by decide +kernel
theorem i20_43 : ins 20 43 = some (.putfield 46, 24, 5, 8, 0) := by decide +kernel
theorem i20_46 : ins 20 46 = some (.aload_n 0, 0, 0, 0, 0) := by decide +kernel
theorem i20_47 : ins 20 47 = some (.dup, 0, 0, 0, 0) := by decide +kernel
theorem i20_48 : ins 20 48 = some (.getfield 49, 25, 5, 9, 0) := by decide +kernel
theorem i20_51 : ins 20 51 = some (.iload 4, 0, 0, 0, 0) := by decide +kernel
theorem i20_53 : ins 20 53 = some (.iadd, 0, 0, 0, 0) := by decide +kernel
theorem i20_54 : ins 20 54 = some (.putfield 49, 25, 5, 9, 0) := by decide +kernel
theorem i20_57 : ins 20 57 = some (.aload_n 0, 0, 0, 0, 0) := by decide +kernel
theorem i20_58 : ins 20 58 = some (.dup, 0, 0, 0, 0) := by decide +kernel
theorem i20_59 : ins 20 59 = some (.getfield 43, 23, 5, 7, 0) := by decide +kernel
theorem i20_62 : ins 20 62 = some (.iload_n 2, 0, 0, 0, 0) := by decide +kernel
theorem i20_63 : ins 20 63 = some (.iadd, 0, 0, 0, 0) := by decide +kernel
theorem i20_64 : ins 20 64 = some (.putfield 43, 23, 5, 7, 0) := by decide +kernel
theorem i20_67 : ins 20 67 = some (.aload_n 0, 0, 0, 0, 0) := by decide +kernel
theorem i20_68 : ins 20 68 = some (.getfield 12, 16, 5, 0, 3) := by decide +kernel
theorem i20_71 : ins 20 71 = some (.iload_n 1, 0, 0, 0, 0) := by decide +kernel
theorem i20_72 : ins 20 72 = some (.iload_n 2, 0, 0, 0, 0) := by decide +kernel
theorem i20_73 : ins 20 73 = some (.invokevirtual 65, 21, 37, 0, 0) := by decide +kernel
theorem i20_76 : ins 20 76 = some (.iload 4, 0, 0, 0, 0) := by decide +kernel
theorem i20_78 : ins 20 78 = some (.ireturn, 0, 0, 0, 0) := by decide +kernel
theorem c21 : 21 < mnames ∧ nA 21 = 2 ∧ nS 21 = 0 := by decide +kernel
theorem m21 : (21 ≠ ensK ∧ 21 < mnames) ∧ nA 21 = 2 ∧ nL 21 = 2 := by decide +kernel
theorem r21 : nR 21 = (some .int) := by decide +kernel
theorem i21_0 : ins 21 0 = some (.aload_n 0, 0, 0, 0, 0) := by decide +kernel
theorem i21_1 : ins 21 1 = some (.getfield 18, 17, 5, 1, 3) := by decide +kernel
theorem i21_4 : ins 21 4 = some (.iload_n 1, 0, 0, 0, 0) := by decide +kernel
theorem i21_5 : ins 21 5 = some (.baload, 0, 0, 0, 0) := by decide +kernel
theorem i21_6 : ins 21 6 = some (.ifCond .eq 21, 0, 0, 0, 0) := by decide +kernel
theorem g21_6 : tg 6 (21) = 27 := by decide
theorem i21_9 : ins 21 9 = some (.aload_n 0, 0, 0, 0, 0) := by decide +kernel
theorem i21_10 : ins 21 10 = some (.getfield 29, 20, 5, 4, 3) := by decide +kernel
theorem i21_13 : ins 21 13 = some (.iload_n 1, 0, 0, 0, 0) := by decide +kernel
theorem i21_14 : ins 21 14 = some (.iaload, 0, 0, 0, 0) := by decide +kernel
theorem i21_15 : ins 21 15 = some (.aload_n 0, 0, 0, 0, 0) := by decide +kernel
theorem i21_16 : ins 21 16 = some (.getfield 12, 16, 5, 0, 3) := by decide +kernel
theorem i21_19 : ins 21 19 = some (.iload_n 1, 0, 0, 0, 0) := by decide +kernel
theorem i21_20 : ins 21 20 = some (.invokevirtual 69, 22, 47, 0, 0) := by decide +kernel
theorem i21_23 : ins 21 23 = some (.iadd, 0, 0, 0, 0) := by decide +kernel
theorem i21_24 : ins 21 24 = some (.goto 4, 0, 0, 0, 0) := by decide +kernel
theorem g21_24 : tg 24 (4) = 28 := by decide
theorem i21_27 : ins 21 27 = some (.iconst 0, 0, 0, 0, 0) := by decide +kernel
theorem i21_28 : ins 21 28 = some (.ireturn, 0, 0, 0, 0) := by decide +kernel
theorem c22 : 22 < mnames ∧ nA 22 = 1 ∧ nS 22 = 0 := by decide +kernel
theorem m22 : (22 ≠ ensK ∧ 22 < mnames) ∧ nA 22 = 1 ∧ nL 22 = 3 := by decide +kernel
theorem r22 : nR 22 = (some .int) := by decide +kernel
theorem i22_0 : ins 22 0 = some (.iconst 0, 0, 0, 0, 0) := by decide +kernel
theorem i22_1 : ins 22 1 = some (.istore_n 1, 0, 0, 0, 0) := by decide +kernel
theorem i22_2 : ins 22 2 = some (.iconst 0, 0, 0, 0, 0) := by decide +kernel
theorem i22_3 : ins 22 3 = some (.istore_n 2, 0, 0, 0, 0) := by decide +kernel
theorem i22_4 : ins 22 4 = some (.iload_n 2, 0, 0, 0, 0) := by decide +kernel
theorem i22_5 : ins 22 5 = some (.bipush 6, 0, 0, 0, 0) := by decide +kernel
theorem i22_7 : ins 22 7 = some (.if_icmp .ge 17, 0, 0, 0, 0) := by decide +kernel
theorem g22_7 : tg 7 (17) = 24 := by decide
theorem i22_10 : ins 22 10 = some (.iload_n 1, 0, 0, 0, 0) := by decide +kernel
theorem i22_11 : ins 22 11 = some (.aload_n 0, 0, 0, 0, 0) := by decide +kernel
theorem i22_12 : ins 22 12 = some (.iload_n 2, 0, 0, 0, 0) := by decide +kernel
theorem i22_13 : ins 22 13 = some (.invokevirtual 73, 23, 21, 0, 0) := by decide +kernel
theorem i22_16 : ins 22 16 = some (.iadd, 0, 0, 0, 0) := by decide +kernel
theorem i22_17 : ins 22 17 = some (.istore_n 1, 0, 0, 0, 0) := by decide +kernel
theorem i22_18 : ins 22 18 = some (.iinc 2 1, 0, 0, 0, 0) := by decide +kernel
theorem i22_21 : ins 22 21 = some (.goto (-17), 0, 0, 0, 0) := by decide +kernel
theorem g22_21 : tg 21 (-17) = 4 := by decide
theorem i22_24 : ins 22 24 = some (.iload_n 1, 0, 0, 0, 0) := by decide +kernel
theorem i22_25 : ins 22 25 = some (.ireturn, 0, 0, 0, 0) := by decide +kernel
theorem c23 : 23 < mnames ∧ nA 23 = 1 ∧ nS 23 = 0 := by decide +kernel
theorem m23 : (23 ≠ ensK ∧ 23 < mnames) ∧ nA 23 = 1 ∧ nL 23 = 3 := by decide +kernel
theorem r23 : nR 23 = (some .int) := by decide +kernel
theorem i23_0 : ins 23 0 = some (.iconst 0, 0, 0, 0, 0) := by decide +kernel
theorem i23_1 : ins 23 1 = some (.istore_n 1, 0, 0, 0, 0) := by decide +kernel
theorem i23_2 : ins 23 2 = some (.iconst 0, 0, 0, 0, 0) := by decide +kernel
theorem i23_3 : ins 23 3 = some (.istore_n 2, 0, 0, 0, 0) := by decide +kernel
theorem i23_4 : ins 23 4 = some (.iload_n 2, 0, 0, 0, 0) := by decide +kernel
theorem i23_5 : ins 23 5 = some (.bipush 6, 0, 0, 0, 0) := by decide +kernel
theorem i23_7 : ins 23 7 = some (.if_icmp .ge 18, 0, 0, 0, 0) := by decide +kernel
theorem g23_7 : tg 7 (18) = 25 := by decide
theorem i23_10 : ins 23 10 = some (.iload_n 1, 0, 0, 0, 0) := by decide +kernel
theorem i23_11 : ins 23 11 = some (.aload_n 0, 0, 0, 0, 0) := by decide +kernel
theorem i23_12 : ins 23 12 = some (.getfield 26, 19, 5, 3, 3) := by decide +kernel
theorem i23_15 : ins 23 15 = some (.iload_n 2, 0, 0, 0, 0) := by decide +kernel
theorem i23_16 : ins 23 16 = some (.iaload, 0, 0, 0, 0) := by decide +kernel
theorem i23_17 : ins 23 17 = some (.iadd, 0, 0, 0, 0) := by decide +kernel
theorem i23_18 : ins 23 18 = some (.istore_n 1, 0, 0, 0, 0) := by decide +kernel
theorem i23_19 : ins 23 19 = some (.iinc 2 1, 0, 0, 0, 0) := by decide +kernel
theorem i23_22 : ins 23 22 = some (.goto (-18), 0, 0, 0, 0) := by decide +kernel
theorem g23_22 : tg 22 (-18) = 4 := by decide
theorem i23_25 : ins 23 25 = some (.iload_n 1, 0, 0, 0, 0) := by decide +kernel
theorem i23_26 : ins 23 26 = some (.ireturn, 0, 0, 0, 0) := by decide +kernel
theorem c24 : 24 < mnames ∧ nA 24 = 1 ∧ nS 24 = 0 := by decide +kernel
theorem m24 : (24 ≠ ensK ∧ 24 < mnames) ∧ nA 24 = 1 ∧ nL 24 = 3 := by decide +kernel
theorem r24 : nR 24 = (some .int) := by decide +kernel
theorem i24_0 : ins 24 0 = some (.iconst 0, 0, 0, 0, 0) := by decide +kernel
theorem i24_1 : ins 24 1 = some (.istore_n 1, 0, 0, 0, 0) := by decide +kernel
theorem i24_2 : ins 24 2 = some (.iconst 0, 0, 0, 0, 0) := by decide +kernel
theorem i24_3 : ins 24 3 = some (.istore_n 2, 0, 0, 0, 0) := by decide +kernel
theorem i24_4 : ins 24 4 = some (.iload_n 2, 0, 0, 0, 0) := by decide +kernel
theorem i24_5 : ins 24 5 = some (.bipush 6, 0, 0, 0, 0) := by decide +kernel
theorem i24_7 : ins 24 7 = some (.if_icmp .ge 18, 0, 0, 0, 0) := by decide +kernel
theorem g24_7 : tg 7 (18) = 25 := by decide
theorem i24_10 : ins 24 10 = some (.iload_n 1, 0, 0, 0, 0) := by decide +kernel
theorem i24_11 : ins 24 11 = some (.aload_n 0, 0, 0, 0, 0) := by decide +kernel
theorem i24_12 : ins 24 12 = some (.getfield 29, 20, 5, 4, 3) := by decide +kernel
theorem i24_15 : ins 24 15 = some (.iload_n 2, 0, 0, 0, 0) := by decide +kernel
theorem i24_16 : ins 24 16 = some (.iaload, 0, 0, 0, 0) := by decide +kernel
theorem i24_17 : ins 24 17 = some (.iadd, 0, 0, 0, 0) := by decide +kernel
theorem i24_18 : ins 24 18 = some (.istore_n 1, 0, 0, 0, 0) := by decide +kernel
theorem i24_19 : ins 24 19 = some (.iinc 2 1, 0, 0, 0, 0) := by decide +kernel
theorem i24_22 : ins 24 22 = some (.goto (-18), 0, 0, 0, 0) := by decide +kernel
theorem g24_22 : tg 22 (-18) = 4 := by decide
theorem i24_25 : ins 24 25 = some (.iload_n 1, 0, 0, 0, 0) := by decide +kernel
theorem i24_26 : ins 24 26 = some (.ireturn, 0, 0, 0, 0) := by decide +kernel
theorem c25 : 25 < mnames ∧ nA 25 = 1 ∧ nS 25 = 0 := by decide +kernel
theorem m25 : (25 ≠ ensK ∧ 25 < mnames) ∧ nA 25 = 1 ∧ nL 25 = 3 := by decide +kernel
theorem r25 : nR 25 = (some .int) := by decide +kernel
theorem i25_0 : ins 25 0 = some (.iconst 0, 0, 0, 0, 0) := by decide +kernel
theorem i25_1 : ins 25 1 = some (.istore_n 1, 0, 0, 0, 0) := by decide +kernel
theorem i25_2 : ins 25 2 = some (.iconst 0, 0, 0, 0, 0) := by decide +kernel
theorem i25_3 : ins 25 3 = some (.istore_n 2, 0, 0, 0, 0) := by decide +kernel
theorem i25_4 : ins 25 4 = some (.iload_n 2, 0, 0, 0, 0) := by decide +kernel
theorem i25_5 : ins 25 5 = some (.bipush 6, 0, 0, 0, 0) := by decide +kernel
theorem i25_7 : ins 25 7 = some (.if_icmp .ge 26, 0, 0, 0, 0) := by decide +kernel
theorem g25_7 : tg 7 (26) = 33 := by decide
theorem i25_10 : ins 25 10 = some (.iload_n 1, 0, 0, 0, 0) := by decide +kernel
theorem i25_11 : ins 25 11 = some (.aload_n 0, 0, 0, 0, 0) := by decide +kernel
theorem i25_12 : ins 25 12 = some (.getfield 18, 17, 5, 1, 3) := by decide +kernel
theorem i25_15 : ins 25 15 = some (.iload_n 2, 0, 0, 0, 0) := by decide +kernel
theorem i25_16 : ins 25 16 = some (.baload, 0, 0, 0, 0) := by decide +kernel
theorem i25_17 : ins 25 17 = some (.ifCond .eq 7, 0, 0, 0, 0) := by decide +kernel
theorem g25_17 : tg 17 (7) = 24 := by decide
theorem i25_20 : ins 25 20 = some (.iconst 1, 0, 0, 0, 0) := by decide +kernel
theorem i25_21 : ins 25 21 = some (.goto 4, 0, 0, 0, 0) := by decide +kernel
theorem g25_21 : tg 21 (4) = 25 := by decide
theorem i25_24 : ins 25 24 = some (.iconst 0, 0, 0, 0, 0) := by decide +kernel
theorem i25_25 : ins 25 25 = some (.iadd, 0, 0, 0, 0) := by decide +kernel
theorem i25_26 : ins 25 26 = some (.istore_n 1, 0, 0, 0, 0) := by decide +kernel
theorem i25_27 : ins 25 27 = some (.iinc 2 1, 0, 0, 0, 0) := by decide +kernel
theorem i25_30 : ins 25 30 = some (.goto (-26), 0, 0, 0, 0) := by decide +kernel
theorem g25_30 : tg 30 (-26) = 4 := by decide
theorem i25_33 : ins 25 33 = some (.iload_n 1, 0, 0, 0, 0) := by decide +kernel
theorem i25_34 : ins 25 34 = some (.ireturn, 0, 0, 0, 0) := by decide +kernel
theorem c26 : 26 < mnames ∧ nA 26 = 2 ∧ nS 26 = 0 := by decide +kernel
theorem m26 : (26 ≠ ensK ∧ 26 < mnames) ∧ nA 26 = 2 ∧ nL 26 = 4 := by decide +kernel
theorem r26 : nR 26 = (some .int) := by decide +kernel
theorem i26_0 : ins 26 0 = some (.aload_n 0, 0, 0, 0, 0) := by decide +kernel
theorem i26_1 : ins 26 1 = some (.getfield 18, 17, 5, 1, 3) := by decide +kernel
theorem i26_4 : ins 26 4 = some (.iload_n 1, 0, 0, 0, 0) := by decide +kernel
theorem i26_5 : ins 26 5 = some (.baload, 0, 0, 0, 0) := by decide +kernel
theorem i26_6 : ins 26 6 = some (.ifCond .ne 5, 0, 0, 0, 0) := by decide +kernel
theorem g26_6 : tg 6 (5) = 11 := by decide
theorem i26_9 : ins 26 9 = some (.iconst (-1), 0, 0, 0, 0) := by decide +kernel
theorem i26_10 : ins 26 10 = some (.ireturn, 0, 0, 0, 0) := by decide +kernel
theorem i26_11 : ins 26 11 = some (.aload_n 0, 0, 0, 0, 0) := by decide +kernel
theorem i26_12 : ins 26 12 = some (.getfield 22, 18, 5, 2, 3) := by decide +kernel
theorem i26_15 : ins 26 15 = some (.iload_n 1, 0, 0, 0, 0) := by decide +kernel
theorem i26_16 : ins 26 16 = some (.iaload, 0, 0, 0, 0) := by decide +kernel
theorem i26_17 : ins 26 17 = some (.istore_n 2, 0, 0, 0, 0) := by decide +kernel
theorem i26_18 : ins 26 18 = some (.iconst 0, 0, 0, 0, 0) := by decide +kernel
theorem i26_19 : ins 26 19 = some (.istore_n 3, 0, 0, 0, 0) := by decide +kernel
theorem i26_20 : ins 26 20 = some (.iload_n 3, 0, 0, 0, 0) := by decide +kernel
theorem i26_21 : ins 26 21 = some (.bipush 6, 0, 0, 0, 0) := by decide +kernel
theorem i26_23 : ins 26 23 = some (.if_icmp .ge 32, 0, 0, 0, 0) := by decide +kernel
theorem g26_23 : tg 23 (32) = 55 := by decide
theorem i26_26 : ins 26 26 = some (.iload_n 2, 0, 0, 0, 0) := by decide +kernel
theorem i26_27 : ins 26 27 = some (.iload_n 1, 0, 0, 0, 0) := by decide +kernel
theorem i26_28 : ins 26 28 = some (.if_icmp .eq 14, 0, 0, 0, 0) := by decide +kernel
theorem g26_28 : tg 28 (14) = 42 := by decide
theorem i26_31 : ins 26 31 = some (.aload_n 0, 0, 0, 0, 0) := by decide +kernel
theorem i26_32 : ins 26 32 = some (.getfield 18, 17, 5, 1, 3) := by decide +kernel
theorem i26_35 : ins 26 35 = some (.iload_n 2, 0, 0, 0, 0) := by decide +kernel
theorem i26_36 : ins 26 36 = some (.baload, 0, 0, 0, 0) := by decide +kernel
theorem i26_37 : ins 26 37 = some (.ifCond .eq 5, 0, 0, 0, 0) := by decide +kernel
theorem g26_37 : tg 37 (5) = 42 := by decide
theorem i26_40 : ins 26 40 = some (.iload_n 2, 0, 0, 0, 0) := by decide +kernel
theorem i26_41 : ins 26 41 = some (.ireturn, 0, 0, 0, 0) := by decide +kernel
theorem i26_42 : ins 26 42 = some (.aload_n 0, 0, 0, 0, 0) := by decide +kernel
theorem i26_43 : ins 26 43 = some (.getfield 22, 18, 5, 2, 3) := by decide +kernel
theorem i26_46 : ins 26 46 = some (.iload_n 2, 0, 0, 0, 0) := by decide +kernel
theorem i26_47 : ins 26 47 = some (.iaload, 0, 0, 0, 0) := by decide +kernel
theorem i26_48 : ins 26 48 = some (.istore_n 2, 0, 0, 0, 0) := by decide +kernel
theorem i26_49 : ins 26 49 = some (.iinc 3 1, 0, 0, 0, 0) := by decide +kernel
theorem i26_52 : ins 26 52 = some (.goto (-32), 0, 0, 0, 0) := by decide +kernel
theorem g26_52 : tg 52 (-32) = 20 := by decide
theorem i26_55 : ins 26 55 = some (.iconst 0, 0, 0, 0, 0) := by decide +kernel
theorem i26_56 : ins 26 56 = some (.istore_n 3, 0, 0, 0, 0) := by decide +kernel
theorem i26_57 : ins 26 57 = some (.iload_n 3, 0, 0, 0, 0) := by decide +kernel
theorem i26_58 : ins 26 58 = some (.bipush 6, 0, 0, 0, 0) := by decide +kernel
theorem i26_60 : ins 26 60 = some (.if_icmp .ge 25, 0, 0, 0, 0) := by decide +kernel
theorem g26_60 : tg 60 (25) = 85 := by decide
theorem i26_63 : ins 26 63 = some (.iload_n 3, 0, 0, 0, 0) := by decide +kernel
theorem i26_64 : ins 26 64 = some (.iload_n 1, 0, 0, 0, 0) := by decide +kernel
theorem i26_65 : ins 26 65 = some (.if_icmp .eq 14, 0, 0, 0, 0) := by decide +kernel
theorem g26_65 : tg 65 (14) = 79 := by decide
theorem i26_68 : ins 26 68 = some (.aload_n 0, 0, 0, 0, 0) := by decide +kernel
theorem i26_69 : ins 26 69 = some (.getfield 18, 17, 5, 1, 3) := by decide +kernel
theorem i26_72 : ins 26 72 = some (.iload_n 3, 0, 0, 0, 0) := by decide +kernel
theorem i26_73 : ins 26 73 = some (.baload, 0, 0, 0, 0) := by decide +kernel
theorem i26_74 : ins 26 74 = some (.ifCond .eq 5, 0, 0, 0, 0) := by decide +kernel
theorem g26_74 : tg 74 (5) = 79 := by decide
theorem i26_77 : ins 26 77 = some (.iload_n 3, 0, 0, 0, 0) := by decide +kernel
theorem i26_78 : ins 26 78 = some (.ireturn, 0, 0, 0, 0) := by decide +kernel
theorem i26_79 : ins 26 79 = some (.iinc 3 1, 0, 0, 0, 0) := by decide +kernel
theorem i26_82 : ins 26 82 = some (.goto (-25), 0, 0, 0, 0) := by decide +kernel
theorem g26_82 : tg 82 (-25) = 57 := by decide
theorem i26_85 : ins 26 85 = some (.iconst (-1), 0, 0, 0, 0) := by decide +kernel
theorem i26_86 : ins 26 86 = some (.ireturn, 0, 0, 0, 0) := by decide +kernel
theorem c27 : 27 < mnames ∧ nA 27 = 3 ∧ nS 27 = 0 := by decide +kernel
theorem m27 : (27 ≠ ensK ∧ 27 < mnames) ∧ nA 27 = 3 ∧ nL 27 = 3 := by decide +kernel
theorem r27 : nR 27 = none := by decide +kernel
theorem i27_0 : ins 27 0 = some (.aload_n 0, 0, 0, 0, 0) := by decide +kernel
theorem i27_1 : ins 27 1 = some (.getfield 18, 17, 5, 1, 3) := by decide +kernel
theorem i27_4 : ins 27 4 = some (.iload_n 1, 0, 0, 0, 0) := by decide +kernel
theorem i27_5 : ins 27 5 = some (.iconst 0, 0, 0, 0, 0) := by decide +kernel
theorem i27_6 : ins 27 6 = some (.bastore, 0, 0, 0, 0) := by decide +kernel
theorem i27_7 : ins 27 7 = some (.aload_n 0, 0, 0, 0, 0) := by decide +kernel
theorem i27_8 : ins 27 8 = some (.getfield 26, 19, 5, 3, 3) := by decide +kernel
theorem i27_11 : ins 27 11 = some (.iload_n 2, 0, 0, 0, 0) := by decide +kernel
theorem i27_12 : ins 27 12 = some (.dup2, 0, 0, 0, 0) := by decide +kernel
theorem i27_13 : ins 27 13 = some (.iaload, 0, 0, 0, 0) := by decide +kernel
theorem i27_14 : ins 27 14 = some (.aload_n 0, 0, 0, 0, 0) := by decide +kernel
theorem i27_15 : ins 27 15 = some (.getfield 26, 19, 5, 3, 3) := by decide +kernel
theorem i27_18 : ins 27 18 = some (.iload_n 1, 0, 0, 0, 0) := by decide +kernel
theorem i27_19 : ins 27 19 = some (.iaload, 0, 0, 0, 0) := by decide +kernel
theorem i27_20 : ins 27 20 = some (.iadd, 0, 0, 0, 0) := by decide +kernel
theorem i27_21 : ins 27 21 = some (.iastore, 0, 0, 0, 0) := by decide +kernel
theorem i27_22 : ins 27 22 = some (.aload_n 0, 0, 0, 0, 0) := by decide +kernel
theorem i27_23 : ins 27 23 = some (.getfield 26, 19, 5, 3, 3) := by decide +kernel
theorem i27_26 : ins 27 26 = some (.iload_n 1, 0, 0, 0, 0) := by decide +kernel
theorem i27_27 : ins 27 27 = some (.iconst 0, 0, 0, 0, 0) := by decide +kernel
theorem i27_28 : ins 27 28 = some (.iastore, 0, 0, 0, 0) := by decide +kernel
theorem i27_29 : ins 27 29 = some (.aload_n 0, 0, 0, 0, 0) := by decide +kernel
theorem i27_30 : ins 27 30 = some (.getfield 29, 20, 5, 4, 3) := by decide +kernel
theorem i27_33 : ins 27 33 = some (.iload_n 2, 0, 0, 0, 0) := by decide +kernel
theorem i27_34 : ins 27 34 = some (.dup2, 0, 0, 0, 0) := by decide +kernel
theorem i27_35 : ins 27 35 = some (.iaload, 0, 0, 0, 0) := by decide +kernel
theorem i27_36 : ins 27 36 = some (.aload_n 0, 0, 0, 0, 0) := by decide +kernel
theorem i27_37 : ins 27 37 = some (.getfield 29, 20, 5, 4, 3) := by decide +kernel
theorem i27_40 : ins 27 40 = some (.iload_n 1, 0, 0, 0, 0) := by decide +kernel
theorem i27_41 : ins 27 41 = some (.iaload, 0, 0, 0, 0) := by decide +kernel
theorem i27_42 : ins 27 42 = some (.iadd, 0, 0, 0, 0) := by decide +kernel
theorem i27_43 : ins 27 43 = some (.iastore, 0, 0, 0, 0) := by decide +kernel
theorem i27_44 : ins 27 44 = some (.aload_n 0, 0, 0, 0, 0) := by decide +kernel
theorem i27_45 : ins 27 45 = some (.getfield 29, 20, 5, 4, 3) := by decide +kernel
theorem i27_48 : ins 27 48 = some (.iload_n 1, 0, 0, 0, 0) := by decide +kernel
theorem i27_49 : ins 27 49 = some (.iconst 0, 0, 0, 0, 0) := by decide +kernel
theorem i27_50 : ins 27 50 = some (.iastore, 0, 0, 0, 0) := by decide +kernel
theorem i27_51 : ins 27 51 = some (.aload_n 0, 0, 0, 0, 0) := by decide +kernel
theorem i27_52 : ins 27 52 = some (.iload_n 1, 0, 0, 0, 0) := by decide +kernel
theorem i27_53 : ins 27 53 = some (.iload_n 2, 0, 0, 0, 0) := by decide +kernel
theorem i27_54 : ins 27 54 = some (.invokevirtual 76, 24, 28, 0, 0) := by decide +kernel
theorem i27_57 : ins 27 57 = some (.aload_n 0, 0, 0, 0, 0) := by decide +kernel
theorem i27_58 : ins 27 58 = some (.iload_n 1, 0, 0, 0, 0) := by decide +kernel
theorem i27_59 : ins 27 59 = some (.iload_n 2, 0, 0, 0, 0) := by decide +kernel
theorem i27_60 : ins 27 60 = some (.invokevirtual 79, 25, 29, 0, 0) := by decide +kernel
theorem i27_63 : ins 27 63 = some (.aload_n 0, 0, 0, 0, 0) := by decide +kernel
theorem i27_64 : ins 27 64 = some (.invokevirtual 82, 26, 30, 0, 0) := by decide +kernel
theorem i27_67 : ins 27 67 = some (.return_, 0, 0, 0, 0) := by decide +kernel
theorem c28 : 28 < mnames ∧ nA 28 = 3 ∧ nS 28 = 0 := by decide +kernel
theorem m28 : (28 ≠ ensK ∧ 28 < mnames) ∧ nA 28 = 3 ∧ nL 28 = 4 := by decide +kernel
theorem r28 : nR 28 = none := by decide +kernel
theorem i28_0 : ins 28 0 = some (.iconst 0, 0, 0, 0, 0) := by decide +kernel
theorem i28_1 : ins 28 1 = some (.istore_n 3, 0, 0, 0, 0) := by decide +kernel
theorem i28_2 : ins 28 2 = some (.iload_n 3, 0, 0, 0, 0) := by decide +kernel
theorem i28_3 : ins 28 3 = some (.aload_n 0, 0, 0, 0, 0) := by decide +kernel
theorem i28_4 : ins 28 4 = some (.getfield 12, 16, 5, 0, 3) := by decide +kernel
theorem i28_7 : ins 28 7 = some (.getfield 85, 29, 6, 8, 0) := by decide +kernel
theorem i28_10 : ins 28 10 = some (.if_icmp .ge 53, 0, 0, 0, 0) := by decide +kernel
theorem g28_10 : tg 10 (53) = 63 := by decide
theorem i28_13 : ins 28 13 = some (.aload_n 0, 0, 0, 0, 0) := by decide +kernel
theorem i28_14 : ins 28 14 = some (.getfield 12, 16, 5, 0, 3) := by decide +kernel
theorem i28_17 : ins 28 17 = some (.getfield 88, 30, 6, 3, 3) := by decide +kernel
theorem i28_20 : ins 28 20 = some (.iload_n 3, 0, 0, 0, 0) := by decide +kernel
theorem i28_21 : ins 28 21 = some (.iaload, 0, 0, 0, 0) := by decide +kernel
theorem i28_22 : ins 28 22 = some (.iload_n 1, 0, 0, 0, 0) := by decide +kernel
theorem i28_23 : ins 28 23 = some (.if_icmp .ne 13, 0, 0, 0, 0) := by decide +kernel
theorem g28_23 : tg 23 (13) = 36 := by decide
theorem i28_26 : ins 28 26 = some (.aload_n 0, 0, 0, 0, 0) := by decide +kernel
theorem i28_27 : ins 28 27 = some (.getfield 12, 16, 5, 0, 3) := by decide +kernel
theorem i28_30 : ins 28 30 = some (.getfield 88, 30, 6, 3, 3) := by decide +kernel
theorem i28_33 : ins 28 33 = some (.iload_n 3, 0, 0, 0, 0) := by decide +kernel
theorem i28_34 : ins 28 34 = some (.iload_n 2, 0, 0, 0, 0) := by decide +kernel
theorem i28_35 : ins 28 35 = some (.iastore, 0, 0, 0, 0) := by decide +kernel
theorem i28_36 : ins 28 36 = some (.aload_n 0, 0, 0, 0, 0) := by decide +kernel
theorem i28_37 : ins 28 37 = some (.getfield 12, 16, 5, 0, 3) := by decide +kernel
theorem i28_40 : ins 28 40 = some (.getfield 91, 31, 6, 5, 3) := by decide +kernel
theorem i28_43 : ins 28 43 = some (.iload_n 3, 0, 0, 0, 0) := by decide +kernel
theorem i28_44 : ins 28 44 = some (.iaload, 0, 0, 0, 0) := by decide +kernel
theorem i28_45 : ins 28 45 = some (.iload_n 1, 0, 0, 0, 0) := by decide +kernel
theorem i28_46 : ins 28 46 = some (.if_icmp .ne 11, 0, 0, 0, 0) := by decide +kernel
theorem g28_46 : tg 46 (11) = 57 := by decide
theorem i28_49 : ins 28 49 = some (.aload_n 0, 0, 0, 0, 0) := by decide +kernel
theorem i28_50 : ins 28 50 = some (.getfield 12, 16, 5, 0, 3) := by decide +kernel
theorem i28_53 : ins 28 53 = some (.iload_n 3, 0, 0, 0, 0) := by decide +kernel
theorem i28_54 : ins 28 54 = some (.invokevirtual 94, 27, 39, 0, 0) := by decide +kernel
theorem i28_57 : ins 28 57 = some (.iinc 3 1, 0, 0, 0, 0) := by decide +kernel
theorem i28_60 : ins 28 60 = some (.goto (-58), 0, 0, 0, 0) := by decide +kernel
theorem g28_60 : tg 60 (-58) = 2 := by decide
theorem i28_63 : ins 28 63 = some (.return_, 0, 0, 0, 0) := by decide +kernel
theorem c29 : 29 < mnames ∧ nA 29 = 3 ∧ nS 29 = 0 := by decide +kernel
theorem m29 : (29 ≠ ensK ∧ 29 < mnames) ∧ nA 29 = 3 ∧ nL 29 = 7 := by decide +kernel
theorem r29 : nR 29 = none := by decide +kernel
theorem i29_0 : ins 29 0 = some (.aload_n 0, 0, 0, 0, 0) := by decide +kernel
theorem i29_1 : ins 29 1 = some (.getfield 12, 16, 5, 0, 3) := by decide +kernel
theorem i29_4 : ins 29 4 = some (.iload_n 2, 0, 0, 0, 0) := by decide +kernel
theorem i29_5 : ins 29 5 = some (.invokevirtual 98, 28, 43, 0, 0) := by decide +kernel
theorem i29_8 : ins 29 8 = some (.istore_n 3, 0, 0, 0, 0) := by decide +kernel
theorem i29_9 : ins 29 9 = some (.iconst 0, 0, 0, 0, 0) := by decide +kernel
theorem i29_10 : ins 29 10 = some (.istore 4, 0, 0, 0, 0) := by decide +kernel
theorem i29_12 : ins 29 12 = some (.aload_n 0, 0, 0, 0, 0) := by decide +kernel
theorem i29_13 : ins 29 13 = some (.getfield 12, 16, 5, 0, 3) := by decide +kernel
theorem i29_16 : ins 29 16 = some (.getfield 85, 29, 6, 8, 0) := by decide +kernel
theorem i29_19 : ins 29 19 = some (.istore 5, 0, 0, 0, 0) := by decide +kernel
theorem i29_21 : ins 29 21 = some (.iload 5, 0, 0, 0, 0) := by decide +kernel
theorem i29_23 : ins 29 23 = some (.ifCond .le 102, 0, 0, 0, 0) := by decide +kernel
theorem g29_23 : tg 23 (102) = 125 := by decide
theorem i29_26 : ins 29 26 = some (.aload_n 0, 0, 0, 0, 0) := by decide +kernel
theorem i29_27 : ins 29 27 = some (.getfield 12, 16, 5, 0, 3) := by decide +kernel
theorem i29_30 : ins 29 30 = some (.getfield 101, 32, 6, 1, 3) := by decide +kernel
theorem i29_33 : ins 29 33 = some (.iload 4, 0, 0, 0, 0) := by decide +kernel
theorem i29_35 : ins 29 35 = some (.iaload, 0, 0, 0, 0) := by decide +kernel
theorem i29_36 : ins 29 36 = some (.iconst 1, 0, 0, 0, 0) := by decide +kernel
theorem i29_37 : ins 29 37 = some (.iadd, 0, 0, 0, 0) := by decide +kernel
theorem i29_38 : ins 29 38 = some (.istore 6, 0, 0, 0, 0) := by decide +kernel
theorem i29_40 : ins 29 40 = some (.aload_n 0, 0, 0, 0, 0) := by decide +kernel
theorem i29_41 : ins 29 41 = some (.getfield 12, 16, 5, 0, 3) := by decide +kernel
theorem i29_44 : ins 29 44 = some (.getfield 104, 33, 6, 0, 3) := by decide +kernel
theorem i29_47 : ins 29 47 = some (.iload 4, 0, 0, 0, 0) := by decide +kernel
theorem i29_49 : ins 29 49 = some (.iaload, 0, 0, 0, 0) := by decide +kernel
theorem i29_50 : ins 29 50 = some (.iload_n 1, 0, 0, 0, 0) := by decide +kernel
theorem i29_51 : ins 29 51 = some (.if_icmp .eq 9, 0, 0, 0, 0) := by decide +kernel
theorem g29_51 : tg 51 (9) = 60 := by decide
theorem i29_54 : ins 29 54 = some (.iinc 4 1, 0, 0, 0, 0) := by decide +kernel
theorem i29_57 : ins 29 57 = some (.goto 62, 0, 0, 0, 0) := by decide +kernel
theorem g29_57 : tg 57 (62) = 119 := by decide
theorem i29_60 : ins 29 60 = some (.iload_n 3, 0, 0, 0, 0) := by decide +kernel
theorem i29_61 : ins 29 61 = some (.iload 6, 0, 0, 0, 0) := by decide +kernel
theorem i29_63 : ins 29 63 = some (.iadd, 0, 0, 0, 0) := by decide +kernel
theorem i29_64 : ins 29 64 = some (.bipush 60, 0, 0, 0, 0) := by decide +kernel
theorem i29_66 : ins 29 66 = some (.if_icmp .gt 25, 0, 0, 0, 0) := by decide +kernel
theorem g29_66 : tg 66 (25) = 91 := by decide
theorem i29_69 : ins 29 69 = some (.aload_n 0, 0, 0, 0, 0) := by decide +kernel
theorem i29_70 : ins 29 70 = some (.getfield 12, 16, 5, 0, 3) := by decide +kernel
theorem i29_73 : ins 29 73 = some (.getfield 104, 33, 6, 0, 3) := by decide +kernel
theorem i29_76 : ins 29 76 = some (.iload 4, 0, 0, 0, 0) := by decide +kernel
theorem i29_78 : ins 29 78 = some (.iload_n 2, 0, 0, 0, 0) := by decide +kernel
theorem i29_79 : ins 29 79 = some (.iastore, 0, 0, 0, 0) := by decide +kernel
theorem i29_80 : ins 29 80 = some (.iload_n 3, 0, 0, 0, 0) := by decide +kernel
theorem i29_81 : ins 29 81 = some (.iload 6, 0, 0, 0, 0) := by decide +kernel
theorem i29_83 : ins 29 83 = some (.iadd, 0, 0, 0, 0) := by decide +kernel
theorem i29_84 : ins 29 84 = some (.istore_n 3, 0, 0, 0, 0) := by decide +kernel
theorem i29_85 : ins 29 85 = some (.iinc 4 1, 0, 0, 0, 0) := by decide +kernel
theorem i29_88 : ins 29 88 = some (.goto 31, 0, 0, 0, 0) := by decide +kernel
theorem g29_88 : tg 88 (31) = 119 := by decide
theorem i29_91 : ins 29 91 = some (.aload_n 0, 0, 0, 0, 0) := by decide +kernel
theorem i29_92 : ins 29 92 = some (.getfield 26, 19, 5, 3, 3) := by decide +kernel
theorem i29_95 : ins 29 95 = some (.iload_n 2, 0, 0, 0, 0) := by decide +kernel
theorem i29_96 : ins 29 96 = some (.dup2, 0, 0, 0, 0) := by decide +kernel
theorem i29_97 : ins 29 97 = some (.iaload, 0, 0, 0, 0) := by decide +kernel
theorem i29_98 : ins 29 98 = some (.aload_n 0, 0, 0, 0, 0) := by decide +kernel
theorem i29_99 : ins 29 99 = some (.getfield 12, 16, 5, 0, 3) := by decide +kernel
theorem i29_102 : ins 29 102 = some (.getfield 101, 32, 6, 1, 3) := by decide +kernel
theorem i29_105 : ins 29 105 = some (.iload 4, 0, 0, 0, 0) := by decide +kernel
theorem i29_107 : ins 29 107 = some (.iaload, 0, 0, 0, 0) := by decide +kernel
theorem i29_108 : ins 29 108 = some (.iadd, 0, 0, 0, 0) := by decide +kernel
theorem i29_109 : ins 29 109 = some (.iastore, 0, 0, 0, 0) := by decide +kernel
theorem i29_110 : ins 29 110 = some (.aload_n 0, 0, 0, 0, 0) := by decide +kernel
theorem i29_111 : ins 29 111 = some (.getfield 12, 16, 5, 0, 3) := by decide +kernel
theorem i29_114 : ins 29 114 = some (.iload 4, 0, 0, 0, 0) := by decide +kernel
theorem i29_116 : ins 29 116 = some (.invokevirtual 107, 29, 36, 0, 0) := by decide +kernel
theorem i29_119 : ins 29 119 = some (.iinc 5 (-1), 0, 0, 0, 0) := by decide +kernel
theorem i29_122 : ins 29 122 = some (.goto (-101), 0, 0, 0, 0) := by decide +kernel
theorem g29_122 : tg 122 (-101) = 21 := by decide
theorem i29_125 : ins 29 125 = some (.return_, 0, 0, 0, 0) := by decide +kernel
theorem c30 : 30 < mnames ∧ nA 30 = 1 ∧ nS 30 = 0 := by decide +kernel
theorem m30 : (30 ≠ ensK ∧ 30 < mnames) ∧ nA 30 = 1 ∧ nL 30 = 2 := by decide +kernel
theorem r30 : nR 30 = none := by decide +kernel
theorem i30_0 : ins 30 0 = some (.iconst 0, 0, 0, 0, 0) := by decide +kernel
theorem i30_1 : ins 30 1 = some (.istore_n 1, 0, 0, 0, 0) := by decide +kernel
theorem i30_2 : ins 30 2 = some (.iload_n 1, 0, 0, 0, 0) := by decide +kernel
theorem i30_3 : ins 30 3 = some (.aload_n 0, 0, 0, 0, 0) := by decide +kernel
theorem i30_4 : ins 30 4 = some (.getfield 12, 16, 5, 0, 3) := by decide +kernel
theorem i30_7 : ins 30 7 = some (.getfield 85, 29, 6, 8, 0) := by decide +kernel
theorem i30_10 : ins 30 10 = some (.if_icmp .ge 67, 0, 0, 0, 0) := by decide +kernel
theorem g30_10 : tg 10 (67) = 77 := by decide
theorem i30_13 : ins 30 13 = some (.aload_n 0, 0, 0, 0, 0) := by decide +kernel
theorem i30_14 : ins 30 14 = some (.getfield 12, 16, 5, 0, 3) := by decide +kernel
theorem i30_17 : ins 30 17 = some (.getfield 88, 30, 6, 3, 3) := by decide +kernel
theorem i30_20 : ins 30 20 = some (.iload_n 1, 0, 0, 0, 0) := by decide +kernel
theorem i30_21 : ins 30 21 = some (.iaload, 0, 0, 0, 0) := by decide +kernel
theorem i30_22 : ins 30 22 = some (.aload_n 0, 0, 0, 0, 0) := by decide +kernel
theorem i30_23 : ins 30 23 = some (.getfield 12, 16, 5, 0, 3) := by decide +kernel
theorem i30_26 : ins 30 26 = some (.getfield 104, 33, 6, 0, 3) := by decide +kernel
theorem i30_29 : ins 30 29 = some (.iload_n 1, 0, 0, 0, 0) := by decide +kernel
theorem i30_30 : ins 30 30 = some (.iaload, 0, 0, 0, 0) := by decide +kernel
theorem i30_31 : ins 30 31 = some (.if_icmp .ne 11, 0, 0, 0, 0) := by decide +kernel
theorem g30_31 : tg 31 (11) = 42 := by decide
theorem i30_34 : ins 30 34 = some (.aload_n 0, 0, 0, 0, 0) := by decide +kernel
theorem i30_35 : ins 30 35 = some (.getfield 12, 16, 5, 0, 3) := by decide +kernel
theorem i30_38 : ins 30 38 = some (.iload_n 1, 0, 0, 0, 0) := by decide +kernel
theorem i30_39 : ins 30 39 = some (.invokevirtual 110, 30, 38, 0, 0) := by decide +kernel
theorem i30_42 : ins 30 42 = some (.aload_n 0, 0, 0, 0, 0) := by decide +kernel
theorem i30_43 : ins 30 43 = some (.getfield 12, 16, 5, 0, 3) := by decide +kernel
theorem i30_46 : ins 30 46 = some (.getfield 91, 31, 6, 5, 3) := by decide +kernel
theorem i30_49 : ins 30 49 = some (.iload_n 1, 0, 0, 0, 0) := by decide +kernel
theorem i30_50 : ins 30 50 = some (.iaload, 0, 0, 0, 0) := by decide +kernel
theorem i30_51 : ins 30 51 = some (.aload_n 0, 0, 0, 0, 0) := by decide +kernel
theorem i30_52 : ins 30 52 = some (.getfield 12, 16, 5, 0, 3) := by decide +kernel
theorem i30_55 : ins 30 55 = some (.getfield 104, 33, 6, 0, 3) := by decide +kernel
theorem i30_58 : ins 30 58 = some (.iload_n 1, 0, 0, 0, 0) := by decide +kernel
theorem i30_59 : ins 30 59 = some (.iaload, 0, 0, 0, 0) := by decide +kernel
theorem i30_60 : ins 30 60 = some (.if_icmp .ne 11, 0, 0, 0, 0) := by decide +kernel
theorem g30_60 : tg 60 (11) = 71 := by decide
theorem i30_63 : ins 30 63 = some (.aload_n 0, 0, 0, 0, 0) := by decide +kernel
theorem i30_64 : ins 30 64 = some (.getfield 12, 16, 5, 0, 3) := by decide +kernel
theorem i30_67 : ins 30 67 = some (.iload_n 1, 0, 0, 0, 0) := by decide +kernel
theorem i30_68 : ins 30 68 = some (.invokevirtual 94, 27, 39, 0, 0) := by decide +kernel
theorem i30_71 : ins 30 71 = some (.iinc 1 1, 0, 0, 0, 0) := by decide +kernel
theorem i30_74 : ins 30 74 = some (.goto (-72), 0, 0, 0, 0) := by decide +kernel
theorem g30_74 : tg 74 (-72) = 2 := by decide
theorem i30_77 : ins 30 77 = some (.return_, 0, 0, 0, 0) := by decide +kernel
theorem c31 : 31 < mnames ∧ nA 31 = 2 ∧ nS 31 = 0 := by decide +kernel
theorem m31 : (31 ≠ ensK ∧ 31 < mnames) ∧ nA 31 = 2 ∧ nL 31 = 4 := by decide +kernel
theorem r31 : nR 31 = (some .int) := by decide +kernel
theorem i31_0 : ins 31 0 = some (.iconst 0, 0, 0, 0, 0) := by decide +kernel
theorem i31_1 : ins 31 1 = some (.istore_n 2, 0, 0, 0, 0) := by decide +kernel
theorem i31_2 : ins 31 2 = some (.iconst 0, 0, 0, 0, 0) := by decide +kernel
theorem i31_3 : ins 31 3 = some (.istore_n 3, 0, 0, 0, 0) := by decide +kernel
theorem i31_4 : ins 31 4 = some (.iload_n 3, 0, 0, 0, 0) := by decide +kernel
theorem i31_5 : ins 31 5 = some (.bipush 6, 0, 0, 0, 0) := by decide +kernel
theorem i31_7 : ins 31 7 = some (.if_icmp .ge 26, 0, 0, 0, 0) := by decide +kernel
theorem g31_7 : tg 7 (26) = 33 := by decide
theorem i31_10 : ins 31 10 = some (.iload_n 2, 0, 0, 0, 0) := by decide +kernel
theorem i31_11 : ins 31 11 = some (.aload_n 0, 0, 0, 0, 0) := by decide +kernel
theorem i31_12 : ins 31 12 = some (.iload_n 3, 0, 0, 0, 0) := by decide +kernel
theorem i31_13 : ins 31 13 = some (.iload_n 1, 0, 0, 0, 0) := by decide +kernel
theorem i31_14 : ins 31 14 = some (.invokevirtual 113, 31, 32, 0, 0) := by decide +kernel
theorem i31_17 : ins 31 17 = some (.ifCond .eq 7, 0, 0, 0, 0) := by decide +kernel
theorem g31_17 : tg 17 (7) = 24 := by decide
theorem i31_20 : ins 31 20 = some (.iconst 1, 0, 0, 0, 0) := by decide +kernel
theorem i31_21 : ins 31 21 = some (.goto 4, 0, 0, 0, 0) := by decide +kernel
theorem g31_21 : tg 21 (4) = 25 := by decide
theorem i31_24 : ins 31 24 = some (.iconst 0, 0, 0, 0, 0) := by decide +kernel
theorem i31_25 : ins 31 25 = some (.iadd, 0, 0, 0, 0) := by decide +kernel
theorem i31_26 : ins 31 26 = some (.istore_n 2, 0, 0, 0, 0) := by decide +kernel
theorem i31_27 : ins 31 27 = some (.iinc 3 1, 0, 0, 0, 0) := by decide +kernel
theorem i31_30 : ins 31 30 = some (.goto (-26), 0, 0, 0, 0) := by decide +kernel
theorem g31_30 : tg 30 (-26) = 4 := by decide
theorem i31_33 : ins 31 33 = some (.iload_n 2, 0, 0, 0, 0) := by decide +kernel
theorem i31_34 : ins 31 34 = some (.ireturn, 0, 0, 0, 0) := by decide +kernel
theorem c32 : 32 < mnames ∧ nA 32 = 3 ∧ nS 32 = 0 := by decide +kernel
theorem m32 : (32 ≠ ensK ∧ 32 < mnames) ∧ nA 32 = 3 ∧ nL 32 = 5 := by decide +kernel
theorem r32 : nR 32 = (some .boolean) := by decide +kernel
theorem i32_0 : ins 32 0 = some (.aload_n 0, 0, 0, 0, 0) := by decide +kernel
theorem i32_1 : ins 32 1 = some (.iload_n 1, 0, 0, 0, 0) := by decide +kernel
theorem i32_2 : ins 32 2 = some (.invokevirtual 73, 23, 21, 0, 0) := by decide +kernel
theorem i32_5 : ins 32 5 = some (.istore_n 3, 0, 0, 0, 0) := by decide +kernel
theorem i32_6 : ins 32 6 = some (.aload_n 0, 0, 0, 0, 0) := by decide +kernel
theorem i32_7 : ins 32 7 = some (.iload_n 2, 0, 0, 0, 0) := by decide +kernel
theorem i32_8 : ins 32 8 = some (.invokevirtual 73, 23, 21, 0, 0) := by decide +kernel
theorem i32_11 : ins 32 11 = some (.istore 4, 0, 0, 0, 0) := by decide +kernel
theorem i32_13 : ins 32 13 = some (.iload_n 3, 0, 0, 0, 0) := by decide +kernel
theorem i32_14 : ins 32 14 = some (.iload 4, 0, 0, 0, 0) := by decide +kernel
theorem i32_16 : ins 32 16 = some (.if_icmp .eq 15, 0, 0, 0, 0) := by decide +kernel
theorem g32_16 : tg 16 (15) = 31 := by decide
theorem i32_19 : ins 32 19 = some (.iload_n 3, 0, 0, 0, 0) := by decide +kernel
theorem i32_20 : ins 32 20 = some (.iload 4, 0, 0, 0, 0) := by decide +kernel
theorem i32_22 : ins 32 22 = some (.if_icmp .le 7, 0, 0, 0, 0) := by decide +kernel
theorem g32_22 : tg 22 (7) = 29 := by decide
theorem i32_25 : ins 32 25 = some (.iconst 1, 0, 0, 0, 0) := by decide +kernel
theorem i32_26 : ins 32 26 = some (.goto 4, 0, 0, 0, 0) := by decide +kernel
theorem g32_26 : tg 26 (4) = 30 := by decide
theorem i32_29 : ins 32 29 = some (.iconst 0, 0, 0, 0, 0) := by decide +kernel
theorem i32_30 : ins 32 30 = some (.ireturn, 0, 0, 0, 0) := by decide +kernel
theorem i32_31 : ins 32 31 = some (.aload_n 0, 0, 0, 0, 0) := by decide +kernel
theorem i32_32 : ins 32 32 = some (.getfield 26, 19, 5, 3, 3) := by decide +kernel
theorem i32_35 : ins 32 35 = some (.iload_n 1, 0, 0, 0, 0) := by decide +kernel
theorem i32_36 : ins 32 36 = some (.iaload, 0, 0, 0, 0) := by decide +kernel
theorem i32_37 : ins 32 37 = some (.aload_n 0, 0, 0, 0, 0) := by decide +kernel
theorem i32_38 : ins 32 38 = some (.getfield 26, 19, 5, 3, 3) := by decide +kernel
theorem i32_41 : ins 32 41 = some (.iload_n 2, 0, 0, 0, 0) := by decide +kernel
theorem i32_42 : ins 32 42 = some (.iaload, 0, 0, 0, 0) := by decide +kernel
theorem i32_43 : ins 32 43 = some (.if_icmp .eq 24, 0, 0, 0, 0) := by decide +kernel
theorem g32_43 : tg 43 (24) = 67 := by decide
theorem i32_46 : ins 32 46 = some (.aload_n 0, 0, 0, 0, 0) := by decide +kernel
theorem i32_47 : ins 32 47 = some (.getfield 26, 19, 5, 3, 3) := by decide +kernel
theorem i32_50 : ins 32 50 = some (.iload_n 1, 0, 0, 0, 0) := by decide +kernel
theorem i32_51 : ins 32 51 = some (.iaload, 0, 0, 0, 0) := by decide +kernel
theorem i32_52 : ins 32 52 = some (.aload_n 0, 0, 0, 0, 0) := by decide +kernel
theorem i32_53 : ins 32 53 = some (.getfield 26, 19, 5, 3, 3) := by decide +kernel
theorem i32_56 : ins 32 56 = some (.iload_n 2, 0, 0, 0, 0) := by decide +kernel
theorem i32_57 : ins 32 57 = some (.iaload, 0, 0, 0, 0) := by decide +kernel
theorem i32_58 : ins 32 58 = some (.if_icmp .le 7, 0, 0, 0, 0) := by decide +kernel
theorem g32_58 : tg 58 (7) = 65 := by decide
theorem i32_61 : ins 32 61 = some (.iconst 1, 0, 0, 0, 0) := by decide +kernel
theorem i32_62 : ins 32 62 = some (.goto 4, 0, 0, 0, 0) := by decide +kernel
theorem g32_62 : tg 62 (4) = 66 := by decide
theorem i32_65 : ins 32 65 = some (.iconst 0, 0, 0, 0, 0) := by decide +kernel
theorem i32_66 : ins 32 66 = some (.ireturn, 0, 0, 0, 0) := by decide +kernel
theorem i32_67 : ins 32 67 = some (.iload_n 1, 0, 0, 0, 0) := by decide +kernel
theorem i32_68 : ins 32 68 = some (.iload_n 2, 0, 0, 0, 0) := by decide +kernel
theorem i32_69 : ins 32 69 = some (.if_icmp .ge 7, 0, 0, 0, 0) := by decide +kernel
theorem g32_69 : tg 69 (7) = 76 := by decide
theorem i32_72 : ins 32 72 = some (.iconst 1, 0, 0, 0, 0) := by decide +kernel
theorem i32_73 : ins 32 73 = some (.goto 4, 0, 0, 0, 0) := by decide +kernel
theorem g32_73 : tg 73 (4) = 77 := by decide
theorem i32_76 : ins 32 76 = some (.iconst 0, 0, 0, 0, 0) := by decide +kernel
theorem i32_77 : ins 32 77 = some (.ireturn, 0, 0, 0, 0) := by decide +kernel
theorem c33 : 33 < mnames ∧ nA 33 = 2 ∧ nS 33 = 0 := by decide +kernel
theorem m33 : (33 ≠ ensK ∧ 33 < mnames) ∧ nA 33 = 2 ∧ nL 33 = 3 := by decide +kernel
theorem r33 : nR 33 = none := by decide +kernel
theorem i33_0 : ins 33 0 = some (.aload_n 0, 0, 0, 0, 0) := by decide +kernel
theorem i33_1 : ins 33 1 = some (.aload_n 1, 0, 0, 0, 0) := by decide +kernel
theorem i33_2 : ins 33 2 = some (.getfield 36, 34, 6, 8, 0) := by decide +kernel
theorem i33_5 : ins 33 5 = some (.putfield 36, 34, 6, 8, 0) := by decide +kernel
theorem i33_8 : ins 33 8 = some (.iconst 0, 0, 0, 0, 0) := by decide +kernel
theorem i33_9 : ins 33 9 = some (.istore_n 2, 0, 0, 0, 0) := by decide +kernel
theorem i33_10 : ins 33 10 = some (.iload_n 2, 0, 0, 0, 0) := by decide +kernel
theorem i33_11 : ins 33 11 = some (.bipush 12, 0, 0, 0, 0) := by decide +kernel
theorem i33_13 : ins 33 13 = some (.if_icmp .ge 16, 0, 0, 0, 0) := by decide +kernel
theorem g33_13 : tg 13 (16) = 29 := by decide
theorem i33_16 : ins 33 16 = some (.aload_n 0, 0, 0, 0, 0) := by decide +kernel
theorem i33_17 : ins 33 17 = some (.iload_n 2, 0, 0, 0, 0) := by decide +kernel
theorem i33_18 : ins 33 18 = some (.aload_n 1, 0, 0, 0, 0) := by decide +kernel
theorem i33_19 : ins 33 19 = some (.iload_n 2, 0, 0, 0, 0) := by decide +kernel
theorem i33_20 : ins 33 20 = some (.invokevirtual 40, 32, 34, 0, 0) := by decide +kernel
theorem i33_23 : ins 33 23 = some (.iinc 2 1, 0, 0, 0, 0) := by decide +kernel
theorem i33_26 : ins 33 26 = some (.goto (-16), 0, 0, 0, 0) := by decide +kernel
theorem g33_26 : tg 26 (-16) = 10 := by decide
theorem i33_29 : ins 33 29 = some (.return_, 0, 0, 0, 0) := by decide +kernel
theorem c34 : 34 < mnames ∧ nA 34 = 4 ∧ nS 34 = 0 := by decide +kernel
theorem m34 : (34 ≠ ensK ∧ 34 < mnames) ∧ nA 34 = 4 ∧ nL 34 = 4 := by decide +kernel
theorem r34 : nR 34 = none := by decide +kernel
theorem i34_0 : ins 34 0 = some (.aload_n 0, 0, 0, 0, 0) := by decide +kernel
theorem i34_1 : ins 34 1 = some (.getfield 9, 35, 6, 0, 3) := by decide +kernel
theorem i34_4 : ins 34 4 = some (.iload_n 1, 0, 0, 0, 0) := by decide +kernel
theorem i34_5 : ins 34 5 = some (.aload_n 2, 0, 0, 0, 0) := by decide +kernel
theorem i34_6 : ins 34 6 = some (.getfield 9, 35, 6, 0, 3) := by decide +kernel
theorem i34_9 : ins 34 9 = some (.iload_n 3, 0, 0, 0, 0) := by decide +kernel
theorem i34_10 : ins 34 10 = some (.iaload, 0, 0, 0, 0) := by decide +kernel
theorem i34_11 : ins 34 11 = some (.iastore, 0, 0, 0, 0) := by decide +kernel
theorem i34_12 : ins 34 12 = some (.aload_n 0, 0, 0, 0, 0) := by decide +kernel
theorem i34_13 : ins 34 13 = some (.getfield 15, 36, 6, 1, 3) := by decide +kernel
theorem i34_16 : ins 34 16 = some (.iload_n 1, 0, 0, 0, 0) := by decide +kernel
theorem i34_17 : ins 34 17 = some (.aload_n 2, 0, 0, 0, 0) := by decide +kernel
theorem i34_18 : ins 34 18 = some (.getfield 15, 36, 6, 1, 3) := by decide +kernel
theorem i34_21 : ins 34 21 = some (.iload_n 3, 0, 0, 0, 0) := by decide +kernel
theorem i34_22 : ins 34 22 = some (.iaload, 0, 0, 0, 0) := by decide +kernel
theorem i34_23 : ins 34 23 = some (.iastore, 0, 0, 0, 0) := by decide +kernel
theorem i34_24 : ins 34 24 = some (.aload_n 0, 0, 0, 0, 0) := by decide +kernel
theorem i34_25 : ins 34 25 = some (.getfield 18, 37, 6, 2, 3) := by decide +kernel
theorem i34_28 : ins 34 28 = some (.iload_n 1, 0, 0, 0, 0) := by decide +kernel
theorem i34_29 : ins 34 29 = some (.aload_n 2, 0, 0, 0, 0) := by decide +kernel
theorem i34_30 : ins 34 30 = some (.getfield 18, 37, 6, 2, 3) := by decide +kernel
theorem i34_33 : ins 34 33 = some (.iload_n 3, 0, 0, 0, 0) := by decide +kernel
theorem i34_34 : ins 34 34 = some (.iaload, 0, 0, 0, 0) := by decide +kernel
theorem i34_35 : ins 34 35 = some (.iastore, 0, 0, 0, 0) := by decide +kernel
theorem i34_36 : ins 34 36 = some (.aload_n 0, 0, 0, 0, 0) := by decide +kernel
theorem i34_37 : ins 34 37 = some (.getfield 21, 38, 6, 3, 3) := by decide +kernel
theorem i34_40 : ins 34 40 = some (.iload_n 1, 0, 0, 0, 0) := by decide +kernel
theorem i34_41 : ins 34 41 = some (.aload_n 2, 0, 0, 0, 0) := by decide +kernel
theorem i34_42 : ins 34 42 = some (.getfield 21, 38, 6, 3, 3) := by decide +kernel
theorem i34_45 : ins 34 45 = some (.iload_n 3, 0, 0, 0, 0) := by decide +kernel
theorem i34_46 : ins 34 46 = some (.iaload, 0, 0, 0, 0) := by decide +kernel
theorem i34_47 : ins 34 47 = some (.iastore, 0, 0, 0, 0) := by decide +kernel
theorem i34_48 : ins 34 48 = some (.aload_n 0, 0, 0, 0, 0) := by decide +kernel
theorem i34_49 : ins 34 49 = some (.getfield 24, 39, 6, 4, 3) := by decide +kernel
theorem i34_52 : ins 34 52 = some (.iload_n 1, 0, 0, 0, 0) := by decide +kernel
theorem i34_53 : ins 34 53 = some (.aload_n 2, 0, 0, 0, 0) := by decide +kernel
theorem i34_54 : ins 34 54 = some (.getfield 24, 39, 6, 4, 3) := by decide +kernel
theorem i34_57 : ins 34 57 = some (.iload_n 3, 0, 0, 0, 0) := by decide +kernel
theorem i34_58 : ins 34 58 = some (.iaload, 0, 0, 0, 0) := by decide +kernel
theorem i34_59 : ins 34 59 = some (.iastore, 0, 0, 0, 0) := by decide +kernel
theorem i34_60 : ins 34 60 = some (.aload_n 0, 0, 0, 0, 0) := by decide +kernel
theorem i34_61 : ins 34 61 = some (.getfield 27, 40, 6, 5, 3) := by decide +kernel
theorem i34_64 : ins 34 64 = some (.iload_n 1, 0, 0, 0, 0) := by decide +kernel
theorem i34_65 : ins 34 65 = some (.aload_n 2, 0, 0, 0, 0) := by decide +kernel
theorem i34_66 : ins 34 66 = some (.getfield 27, 40, 6, 5, 3) := by decide +kernel
theorem i34_69 : ins 34 69 = some (.iload_n 3, 0, 0, 0, 0) := by decide +kernel
theorem i34_70 : ins 34 70 = some (.iaload, 0, 0, 0, 0) := by decide +kernel
theorem i34_71 : ins 34 71 = some (.iastore, 0, 0, 0, 0) := by decide +kernel
theorem i34_72 : ins 34 72 = some (.aload_n 0, 0, 0, 0, 0) := by decide +kernel
theorem i34_73 : ins 34 73 = some (.getfield 30, 41, 6, 6, 3) := by decide +kernel
theorem i34_76 : ins 34 76 = some (.iload_n 1, 0, 0, 0, 0) := by decide +kernel
theorem i34_77 : ins 34 77 = some (.aload_n 2, 0, 0, 0, 0) := by decide +kernel
theorem i34_78 : ins 34 78 = some (.getfield 30, 41, 6, 6, 3) := by decide +kernel
theorem i34_81 : ins 34 81 = some (.iload_n 3, 0, 0, 0, 0) := by decide +kernel
theorem i34_82 : ins 34 82 = some (.iaload, 0, 0, 0, 0) := by decide +kernel
theorem i34_83 : ins 34 83 = some (.iastore, 0, 0, 0, 0) := by decide +kernel
theorem i34_84 : ins 34 84 = some (.aload_n 0, 0, 0, 0, 0) := by decide +kernel
theorem i34_85 : ins 34 85 = some (.getfield 33, 42, 6, 7, 3) := by decide +kernel
theorem i34_88 : ins 34 88 = some (.iload_n 1, 0, 0, 0, 0) := by decide +kernel
theorem i34_89 : ins 34 89 = some (.aload_n 2, 0, 0, 0, 0) := by decide +kernel
theorem i34_90 : ins 34 90 = some (.getfield 33, 42, 6, 7, 3) := by decide +kernel
theorem i34_93 : ins 34 93 = some (.iload_n 3, 0, 0, 0, 0) := by decide +kernel
theorem i34_94 : ins 34 94 = some (.iaload, 0, 0, 0, 0) := by decide +kernel
theorem i34_95 : ins 34 95 = some (.iastore, 0, 0, 0, 0) := by decide +kernel
theorem i34_96 : ins 34 96 = some (.return_, 0, 0, 0, 0) := by decide +kernel
theorem c35 : 35 < mnames ∧ nA 35 = 4 ∧ nS 35 = 0 := by decide +kernel
theorem m35 : (35 ≠ ensK ∧ 35 < mnames) ∧ nA 35 = 4 ∧ nL 35 = 5 := by decide +kernel
theorem r35 : nR 35 = (some .int) := by decide +kernel
theorem i35_0 : ins 35 0 = some (.aload_n 0, 0, 0, 0, 0) := by decide +kernel
theorem i35_1 : ins 35 1 = some (.getfield 36, 34, 6, 8, 0) := by decide +kernel
theorem i35_4 : ins 35 4 = some (.istore 4, 0, 0, 0, 0) := by decide +kernel
theorem i35_6 : ins 35 6 = some (.aload_n 0, 0, 0, 0, 0) := by decide +kernel
theorem i35_7 : ins 35 7 = some (.getfield 9, 35, 6, 0, 3) := by decide +kernel
theorem i35_10 : ins 35 10 = some (.iload 4, 0, 0, 0, 0) := by decide +kernel
theorem i35_12 : ins 35 12 = some (.iload_n 1, 0, 0, 0, 0) := by decide +kernel
theorem i35_13 : ins 35 13 = some (.iastore, 0, 0, 0, 0) := by decide +kernel
theorem i35_14 : ins 35 14 = some (.aload_n 0, 0, 0, 0, 0) := by decide +kernel
theorem i35_15 : ins 35 15 = some (.getfield 15, 36, 6, 1, 3) := by decide +kernel
theorem i35_18 : ins 35 18 = some (.iload 4, 0, 0, 0, 0) := by decide +kernel
theorem i35_20 : ins 35 20 = some (.iload_n 2, 0, 0, 0, 0) := by decide +kernel
theorem i35_21 : ins 35 21 = some (.iastore, 0, 0, 0, 0) := by decide +kernel
theorem i35_22 : ins 35 22 = some (.aload_n 0, 0, 0, 0, 0) := by decide +kernel
theorem i35_23 : ins 35 23 = some (.getfield 18, 37, 6, 2, 3) := by decide +kernel
theorem i35_26 : ins 35 26 = some (.iload 4, 0, 0, 0, 0) := by decide +kernel
theorem i35_28 : ins 35 28 = some (.iload_n 3, 0, 0, 0, 0) := by decide +kernel
theorem i35_29 : ins 35 29 = some (.iastore, 0, 0, 0, 0) := by decide +kernel
theorem i35_30 : ins 35 30 = some (.aload_n 0, 0, 0, 0, 0) := by decide +kernel
theorem i35_31 : ins 35 31 = some (.iload 4, 0, 0, 0, 0) := by decide +kernel
theorem i35_33 : ins 35 33 = some (.invokevirtual 44, 33, 38, 0, 0) := by decide +kernel
theorem i35_36 : ins 35 36 = some (.aload_n 0, 0, 0, 0, 0) := by decide +kernel
theorem i35_37 : ins 35 37 = some (.iload 4, 0, 0, 0, 0) := by decide +kernel
theorem i35_39 : ins 35 39 = some (.invokevirtual 48, 34, 39, 0, 0) := by decide +kernel
theorem i35_42 : ins 35 42 = some (.aload_n 0, 0, 0, 0, 0) := by decide +kernel
theorem i35_43 : ins 35 43 = some (.getfield 33, 42, 6, 7, 3) := by decide +kernel
theorem i35_46 : ins 35 46 = some (.iload 4, 0, 0, 0, 0) := by decide +kernel
theorem i35_48 : ins 35 48 = some (.iconst 0, 0, 0, 0, 0) := by decide +kernel
theorem i35_49 : ins 35 49 = some (.iastore, 0, 0, 0, 0) := by decide +kernel
theorem i35_50 : ins 35 50 = some (.aload_n 0, 0, 0, 0, 0) := by decide +kernel
theorem i35_51 : ins 35 51 = some (.dup, 0, 0, 0, 0) := by decide +kernel
theorem i35_52 : ins 35 52 = some (.getfield 36, 34, 6, 8, 0) := by decide +kernel
theorem i35_55 : ins 35 55 = some (.iconst 1, 0, 0, 0, 0) := by decide +kernel
theorem i35_56 : ins 35 56 = some (.iadd, 0, 0, 0, 0) := by decide +kernel
theorem i35_57 : ins 35 57 = some (.putfield 36, 34, 6, 8, 0) := by decide +kernel
theorem i35_60 : ins 35 60 = some (.iload 4, 0, 0, 0, 0) := by decide +kernel
theorem i35_62 : ins 35 62 = some (.ireturn, 0, 0, 0, 0) := by decide +kernel
theorem c36 : 36 < mnames ∧ nA 36 = 2 ∧ nS 36 = 0 := by decide +kernel
theorem m36 : (36 ≠ ensK ∧ 36 < mnames) ∧ nA 36 = 2 ∧ nL 36 = 3 := by decide +kernel
theorem r36 : nR 36 = none := by decide +kernel
theorem i36_0 : ins 36 0 = some (.aload_n 0, 0, 0, 0, 0) := by decide +kernel
theorem i36_1 : ins 36 1 = some (.dup, 0, 0, 0, 0) := by decide +kernel
theorem i36_2 : ins 36 2 = some (.getfield 36, 34, 6, 8, 0) := by decide +kernel
theorem i36_5 : ins 36 5 = some (.iconst 1, 0, 0, 0, 0) := by decide +kernel
theorem i36_6 : ins 36 6 = some (.isub, 0, 0, 0, 0) := by decide +kernel
theorem i36_7 : ins 36 7 = some (.putfield 36, 34, 6, 8, 0) := by decide +kernel
theorem i36_10 : ins 36 10 = some (.iload_n 1, 0, 0, 0, 0) := by decide +kernel
theorem i36_11 : ins 36 11 = some (.istore_n 2, 0, 0, 0, 0) := by decide +kernel
theorem i36_12 : ins 36 12 = some (.iload_n 2, 0, 0, 0, 0) := by decide +kernel
theorem i36_13 : ins 36 13 = some (.aload_n 0, 0, 0, 0, 0) := by decide +kernel
theorem i36_14 : ins 36 14 = some (.getfield 36, 34, 6, 8, 0) := by decide +kernel
theorem i36_17 : ins 36 17 = some (.if_icmp .ge 18, 0, 0, 0, 0) := by decide +kernel
theorem g36_17 : tg 17 (18) = 35 := by decide
theorem i36_20 : ins 36 20 = some (.aload_n 0, 0, 0, 0, 0) := by decide +kernel
theorem i36_21 : ins 36 21 = some (.iload_n 2, 0, 0, 0, 0) := by decide +kernel
theorem i36_22 : ins 36 22 = some (.aload_n 0, 0, 0, 0, 0) := by decide +kernel
theorem i36_23 : ins 36 23 = some (.iload_n 2, 0, 0, 0, 0) := by decide +kernel
theorem i36_24 : ins 36 24 = some (.iconst 1, 0, 0, 0, 0) := by decide +kernel
theorem i36_25 : ins 36 25 = some (.iadd, 0, 0, 0, 0) := by decide +kernel
theorem i36_26 : ins 36 26 = some (.invokevirtual 40, 32, 34, 0, 0) := by decide +kernel
theorem i36_29 : ins 36 29 = some (.iinc 2 1, 0, 0, 0, 0) := by decide +kernel
theorem i36_32 : ins 36 32 = some (.goto (-20), 0, 0, 0, 0) := by decide +kernel
theorem g36_32 : tg 32 (-20) = 12 := by decide
theorem i36_35 : ins 36 35 = some (.return_, 0, 0, 0, 0) := by decide +kernel
theorem c37 : 37 < mnames ∧ nA 37 = 3 ∧ nS 37 = 0 := by decide +kernel
theorem m37 : (37 ≠ ensK ∧ 37 < mnames) ∧ nA 37 = 3 ∧ nL 37 = 3 := by decide +kernel
theorem r37 : nR 37 = none := by decide +kernel
theorem i37_0 : ins 37 0 = some (.aload_n 0, 0, 0, 0, 0) := by decide +kernel
theorem i37_1 : ins 37 1 = some (.getfield 15, 36, 6, 1, 3) := by decide +kernel
theorem i37_4 : ins 37 4 = some (.iload_n 1, 0, 0, 0, 0) := by decide +kernel
theorem i37_5 : ins 37 5 = some (.dup2, 0, 0, 0, 0) := by decide +kernel
theorem i37_6 : ins 37 6 = some (.iaload, 0, 0, 0, 0) := by decide +kernel
theorem i37_7 : ins 37 7 = some (.iload_n 2, 0, 0, 0, 0) := by decide +kernel
theorem i37_8 : ins 37 8 = some (.isub, 0, 0, 0, 0) := by decide +kernel
theorem i37_9 : ins 37 9 = some (.iastore, 0, 0, 0, 0) := by decide +kernel
theorem i37_10 : ins 37 10 = some (.aload_n 0, 0, 0, 0, 0) := by decide +kernel
theorem i37_11 : ins 37 11 = some (.getfield 15, 36, 6, 1, 3) := by decide +kernel
theorem i37_14 : ins 37 14 = some (.iload_n 1, 0, 0, 0, 0) := by decide +kernel
theorem i37_15 : ins 37 15 = some (.iaload, 0, 0, 0, 0) := by decide +kernel
theorem i37_16 : ins 37 16 = some (.ifCond .ne 8, 0, 0, 0, 0) := by decide +kernel
theorem g37_16 : tg 16 (8) = 24 := by decide
theorem i37_19 : ins 37 19 = some (.aload_n 0, 0, 0, 0, 0) := by decide +kernel
theorem i37_20 : ins 37 20 = some (.iload_n 1, 0, 0, 0, 0) := by decide +kernel
theorem i37_21 : ins 37 21 = some (.invokevirtual 51, 35, 36, 0, 0) := by decide +kernel
theorem i37_24 : ins 37 24 = some (.return_, 0, 0, 0, 0) := by decide +kernel
theorem c38 : 38 < mnames ∧ nA 38 = 2 ∧ nS 38 = 0 := by decide +kernel
theorem m38 : (38 ≠ ensK ∧ 38 < mnames) ∧ nA 38 = 2 ∧ nL 38 = 2 := by decide +kernel
theorem r38 : nR 38 = none := by decide +kernel
theorem i38_0 : ins 38 0 = some (.aload_n 0, 0, 0, 0, 0) := by decide +kernel
theorem i38_1 : ins 38 1 = some (.getfield 21, 38, 6, 3, 3) := by decide +kernel
theorem i38_4 : ins 38 4 = some (.iload_n 1, 0, 0, 0, 0) := by decide +kernel
theorem i38_5 : ins 38 5 = some (.iconst (-1), 0, 0, 0, 0) := by decide +kernel
theorem i38_6 : ins 38 6 = some (.iastore, 0, 0, 0, 0) := by decide +kernel
theorem i38_7 : ins 38 7 = some (.aload_n 0, 0, 0, 0, 0) := by decide +kernel
theorem i38_8 : ins 38 8 = some (.getfield 24, 39, 6, 4, 3) := by decide +kernel
theorem i38_11 : ins 38 11 = some (.iload_n 1, 0, 0, 0, 0) := by decide +kernel
theorem i38_12 : ins 38 12 = some (.iconst 0, 0, 0, 0, 0) := by decide +kernel
theorem i38_13 : ins 38 13 = some (.iastore, 0, 0, 0, 0) := by decide +kernel
theorem i38_14 : ins 38 14 = some (.return_, 0, 0, 0, 0) := by decide +kernel
theorem c39 : 39 < mnames ∧ nA 39 = 2 ∧ nS 39 = 0 := by decide +kernel
theorem m39 : (39 ≠ ensK ∧ 39 < mnames) ∧ nA 39 = 2 ∧ nL 39 = 2 := by decide +kernel
theorem r39 : nR 39 = none := by decide +kernel
theorem i39_0 : ins 39 0 = some (.aload_n 0, 0, 0, 0, 0) := by decide +kernel
theorem i39_1 : ins 39 1 = some (.getfield 27, 40, 6, 5, 3) := by decide +kernel
theorem i39_4 : ins 39 4 = some (.iload_n 1, 0, 0, 0, 0) := by decide +kernel
theorem i39_5 : ins 39 5 = some (.iconst (-1), 0, 0, 0, 0) := by decide +kernel
theorem i39_6 : ins 39 6 = some (.iastore, 0, 0, 0, 0) := by decide +kernel
theorem i39_7 : ins 39 7 = some (.aload_n 0, 0, 0, 0, 0) := by decide +kernel
theorem i39_8 : ins 39 8 = some (.getfield 30, 41, 6, 6, 3) := by decide +kernel
theorem i39_11 : ins 39 11 = some (.iload_n 1, 0, 0, 0, 0) := by decide +kernel
theorem i39_12 : ins 39 12 = some (.iconst 0, 0, 0, 0, 0) := by decide +kernel
theorem i39_13 : ins 39 13 = some (.iastore, 0, 0, 0, 0) := by decide +kernel
theorem i39_14 : ins 39 14 = some (.return_, 0, 0, 0, 0) := by decide +kernel
theorem c40 : 40 < mnames ∧ nA 40 = 3 ∧ nS 40 = 0 := by decide +kernel
theorem m40 : (40 ≠ ensK ∧ 40 < mnames) ∧ nA 40 = 3 ∧ nL 40 = 4 := by decide +kernel
theorem r40 : nR 40 = (some .int) := by decide +kernel
theorem i40_0 : ins 40 0 = some (.iload_n 2, 0, 0, 0, 0) := by decide +kernel
theorem i40_1 : ins 40 1 = some (.aload_n 0, 0, 0, 0, 0) := by decide +kernel
theorem i40_2 : ins 40 2 = some (.getfield 24, 39, 6, 4, 3) := by decide +kernel
theorem i40_5 : ins 40 5 = some (.iload_n 1, 0, 0, 0, 0) := by decide +kernel
theorem i40_6 : ins 40 6 = some (.iaload, 0, 0, 0, 0) := by decide +kernel
theorem i40_7 : ins 40 7 = some (.invokestatic 54, 36, 202, 1, 0) := by decide +kernel
theorem i40_10 : ins 40 10 = some (.istore_n 3, 0, 0, 0, 0) := by decide +kernel
theorem i40_11 : ins 40 11 = some (.aload_n 0, 0, 0, 0, 0) := by decide +kernel
theorem i40_12 : ins 40 12 = some (.getfield 24, 39, 6, 4, 3) := by decide +kernel
theorem i40_15 : ins 40 15 = some (.iload_n 1, 0, 0, 0, 0) := by decide +kernel
theorem i40_16 : ins 40 16 = some (.dup2, 0, 0, 0, 0) := by decide +kernel
theorem i40_17 : ins 40 17 = some (.iaload, 0, 0, 0, 0) := by decide +kernel
theorem i40_18 : ins 40 18 = some (.iload_n 3, 0, 0, 0, 0) := by decide +kernel
theorem i40_19 : ins 40 19 = some (.isub, 0, 0, 0, 0) := by decide +kernel
theorem i40_20 : ins 40 20 = some (.iastore, 0, 0, 0, 0) := by decide +kernel
theorem i40_21 : ins 40 21 = some (.aload_n 0, 0, 0, 0, 0) := by decide +kernel
theorem i40_22 : ins 40 22 = some (.getfield 24, 39, 6, 4, 3) := by decide +kernel
theorem i40_25 : ins 40 25 = some (.iload_n 1, 0, 0, 0, 0) := by decide +kernel
theorem i40_26 : ins 40 26 = some (.iaload, 0, 0, 0, 0) := by decide +kernel
theorem i40_27 : ins 40 27 = some (.ifCond .ne 8, 0, 0, 0, 0) := by decide +kernel
theorem g40_27 : tg 27 (8) = 35 := by decide
theorem i40_30 : ins 40 30 = some (.aload_n 0, 0, 0, 0, 0) := by decide +kernel
theorem i40_31 : ins 40 31 = some (.iload_n 1, 0, 0, 0, 0) := by decide +kernel
theorem i40_32 : ins 40 32 = some (.invokevirtual 44, 33, 38, 0, 0) := by decide +kernel
theorem i40_35 : ins 40 35 = some (.iload_n 3, 0, 0, 0, 0) := by decide +kernel
theorem i40_36 : ins 40 36 = some (.ireturn, 0, 0, 0, 0) := by decide +kernel
theorem c41 : 41 < mnames ∧ nA 41 = 2 ∧ nS 41 = 0 := by decide +kernel
theorem m41 : (41 ≠ ensK ∧ 41 < mnames) ∧ nA 41 = 2 ∧ nL 41 = 4 := by decide +kernel
theorem r41 : nR 41 = (some .int) := by decide +kernel
theorem i41_0 : ins 41 0 = some (.iconst 0, 0, 0, 0, 0) := by decide +kernel
theorem i41_1 : ins 41 1 = some (.istore_n 2, 0, 0, 0, 0) := by decide +kernel
theorem i41_2 : ins 41 2 = some (.iconst 0, 0, 0, 0, 0) := by decide +kernel
theorem i41_3 : ins 41 3 = some (.istore_n 3, 0, 0, 0, 0) := by decide +kernel
theorem i41_4 : ins 41 4 = some (.iload_n 3, 0, 0, 0, 0) := by decide +kernel
theorem i41_5 : ins 41 5 = some (.aload_n 0, 0, 0, 0, 0) := by decide +kernel
theorem i41_6 : ins 41 6 = some (.getfield 36, 34, 6, 8, 0) := by decide +kernel
theorem i41_9 : ins 41 9 = some (.if_icmp .ge 46, 0, 0, 0, 0) := by decide +kernel
theorem g41_9 : tg 9 (46) = 55 := by decide
theorem i41_12 : ins 41 12 = some (.aload_n 0, 0, 0, 0, 0) := by decide +kernel
theorem i41_13 : ins 41 13 = some (.getfield 27, 40, 6, 5, 3) := by decide +kernel
theorem i41_16 : ins 41 16 = some (.iload_n 3, 0, 0, 0, 0) := by decide +kernel
theorem i41_17 : ins 41 17 = some (.iaload, 0, 0, 0, 0) := by decide +kernel
theorem i41_18 : ins 41 18 = some (.iconst (-1), 0, 0, 0, 0) := by decide +kernel
theorem i41_19 : ins 41 19 = some (.if_icmp .eq 30, 0, 0, 0, 0) := by decide +kernel
theorem g41_19 : tg 19 (30) = 49 := by decide
theorem i41_22 : ins 41 22 = some (.aload_n 0, 0, 0, 0, 0) := by decide +kernel
theorem i41_23 : ins 41 23 = some (.getfield 30, 41, 6, 6, 3) := by decide +kernel
theorem i41_26 : ins 41 26 = some (.iload_n 3, 0, 0, 0, 0) := by decide +kernel
theorem i41_27 : ins 41 27 = some (.dup2, 0, 0, 0, 0) := by decide +kernel
theorem i41_28 : ins 41 28 = some (.iaload, 0, 0, 0, 0) := by decide +kernel
theorem i41_29 : ins 41 29 = some (.iload_n 1, 0, 0, 0, 0) := by decide +kernel
theorem i41_30 : ins 41 30 = some (.isub, 0, 0, 0, 0) := by decide +kernel
theorem i41_31 : ins 41 31 = some (.iastore, 0, 0, 0, 0) := by decide +kernel
theorem i41_32 : ins 41 32 = some (.aload_n 0, 0, 0, 0, 0) := by decide +kernel
theorem i41_33 : ins 41 33 = some (.getfield 30, 41, 6, 6, 3) := by decide +kernel
theorem i41_36 : ins 41 36 = some (.iload_n 3, 0, 0, 0, 0) := by decide +kernel
theorem i41_37 : ins 41 37 = some (.iaload, 0, 0, 0, 0) := by decide +kernel
theorem i41_38 : ins 41 38 = some (.ifCond .gt 11, 0, 0, 0, 0) := by decide +kernel
theorem g41_38 : tg 38 (11) = 49 := by decide
theorem i41_41 : ins 41 41 = some (.aload_n 0, 0, 0, 0, 0) := by decide +kernel
theorem i41_42 : ins 41 42 = some (.iload_n 3, 0, 0, 0, 0) := by decide +kernel
theorem i41_43 : ins 41 43 = some (.invokevirtual 48, 34, 39, 0, 0) := by decide +kernel
theorem i41_46 : ins 41 46 = some (.iinc 2 1, 0, 0, 0, 0) := by decide +kernel
theorem i41_49 : ins 41 49 = some (.iinc 3 1, 0, 0, 0, 0) := by decide +kernel
theorem i41_52 : ins 41 52 = some (.goto (-48), 0, 0, 0, 0) := by decide +kernel
theorem g41_52 : tg 52 (-48) = 4 := by decide
theorem i41_55 : ins 41 55 = some (.iload_n 2, 0, 0, 0, 0) := by decide +kernel
theorem i41_56 : ins 41 56 = some (.ireturn, 0, 0, 0, 0) := by decide +kernel
theorem c42 : 42 < mnames ∧ nA 42 = 2 ∧ nS 42 = 0 := by decide +kernel
theorem m42 : (42 ≠ ensK ∧ 42 < mnames) ∧ nA 42 = 2 ∧ nL 42 = 4 := by decide +kernel
theorem r42 : nR 42 = (some .int) := by decide +kernel
theorem i42_0 : ins 42 0 = some (.iconst 0, 0, 0, 0, 0) := by decide +kernel
theorem i42_1 : ins 42 1 = some (.istore_n 2, 0, 0, 0, 0) := by decide +kernel
theorem i42_2 : ins 42 2 = some (.iconst 0, 0, 0, 0, 0) := by decide +kernel
theorem i42_3 : ins 42 3 = some (.istore_n 3, 0, 0, 0, 0) := by decide +kernel
theorem i42_4 : ins 42 4 = some (.iload_n 3, 0, 0, 0, 0) := by decide +kernel
theorem i42_5 : ins 42 5 = some (.aload_n 0, 0, 0, 0, 0) := by decide +kernel
theorem i42_6 : ins 42 6 = some (.getfield 36, 34, 6, 8, 0) := by decide +kernel
theorem i42_9 : ins 42 9 = some (.if_icmp .ge 27, 0, 0, 0, 0) := by decide +kernel
theorem g42_9 : tg 9 (27) = 36 := by decide
theorem i42_12 : ins 42 12 = some (.iload_n 2, 0, 0, 0, 0) := by decide +kernel
theorem i42_13 : ins 42 13 = some (.aload_n 0, 0, 0, 0, 0) := by decide +kernel
theorem i42_14 : ins 42 14 = some (.getfield 9, 35, 6, 0, 3) := by decide +kernel
theorem i42_17 : ins 42 17 = some (.iload_n 3, 0, 0, 0, 0) := by decide +kernel
theorem i42_18 : ins 42 18 = some (.iaload, 0, 0, 0, 0) := by decide +kernel
theorem i42_19 : ins 42 19 = some (.iload_n 1, 0, 0, 0, 0) := by decide +kernel
theorem i42_20 : ins 42 20 = some (.if_icmp .ne 7, 0, 0, 0, 0) := by decide +kernel
theorem g42_20 : tg 20 (7) = 27 := by decide
theorem i42_23 : ins 42 23 = some (.iconst 1, 0, 0, 0, 0) := by decide +kernel
theorem i42_24 : ins 42 24 = some (.goto 4, 0, 0, 0, 0) := by decide +kernel
theorem g42_24 : tg 24 (4) = 28 := by decide
theorem i42_27 : ins 42 27 = some (.iconst 0, 0, 0, 0, 0) := by decide +kernel
theorem i42_28 : ins 42 28 = some (.iadd, 0, 0, 0, 0) := by decide +kernel
theorem i42_29 : ins 42 29 = some (.istore_n 2, 0, 0, 0, 0) := by decide +kernel
theorem i42_30 : ins 42 30 = some (.iinc 3 1, 0, 0, 0, 0) := by decide +kernel
theorem i42_33 : ins 42 33 = some (.goto (-29), 0, 0, 0, 0) := by decide +kernel
theorem g42_33 : tg 33 (-29) = 4 := by decide
theorem i42_36 : ins 42 36 = some (.iload_n 2, 0, 0, 0, 0) := by decide +kernel
theorem i42_37 : ins 42 37 = some (.ireturn, 0, 0, 0, 0) := by decide +kernel
theorem c43 : 43 < mnames ∧ nA 43 = 2 ∧ nS 43 = 0 := by decide +kernel
theorem m43 : (43 ≠ ensK ∧ 43 < mnames) ∧ nA 43 = 2 ∧ nL 43 = 4 := by decide +kernel
theorem r43 : nR 43 = (some .int) := by decide +kernel
theorem i43_0 : ins 43 0 = some (.iconst 0, 0, 0, 0, 0) := by decide +kernel
theorem i43_1 : ins 43 1 = some (.istore_n 2, 0, 0, 0, 0) := by decide +kernel
theorem i43_2 : ins 43 2 = some (.iconst 0, 0, 0, 0, 0) := by decide +kernel
theorem i43_3 : ins 43 3 = some (.istore_n 3, 0, 0, 0, 0) := by decide +kernel
theorem i43_4 : ins 43 4 = some (.iload_n 3, 0, 0, 0, 0) := by decide +kernel
theorem i43_5 : ins 43 5 = some (.aload_n 0, 0, 0, 0, 0) := by decide +kernel
theorem i43_6 : ins 43 6 = some (.getfield 36, 34, 6, 8, 0) := by decide +kernel
theorem i43_9 : ins 43 9 = some (.if_icmp .ge 34, 0, 0, 0, 0) := by decide +kernel
theorem g43_9 : tg 9 (34) = 43 := by decide
theorem i43_12 : ins 43 12 = some (.iload_n 2, 0, 0, 0, 0) := by decide +kernel
theorem i43_13 : ins 43 13 = some (.aload_n 0, 0, 0, 0, 0) := by decide +kernel
theorem i43_14 : ins 43 14 = some (.getfield 9, 35, 6, 0, 3) := by decide +kernel
theorem i43_17 : ins 43 17 = some (.iload_n 3, 0, 0, 0, 0) := by decide +kernel
theorem i43_18 : ins 43 18 = some (.iaload, 0, 0, 0, 0) := by decide +kernel
theorem i43_19 : ins 43 19 = some (.iload_n 1, 0, 0, 0, 0) := by decide +kernel
theorem i43_20 : ins 43 20 = some (.if_icmp .ne 14, 0, 0, 0, 0) := by decide +kernel
theorem g43_20 : tg 20 (14) = 34 := by decide
theorem i43_23 : ins 43 23 = some (.aload_n 0, 0, 0, 0, 0) := by decide +kernel
theorem i43_24 : ins 43 24 = some (.getfield 15, 36, 6, 1, 3) := by decide +kernel
theorem i43_27 : ins 43 27 = some (.iload_n 3, 0, 0, 0, 0) := by decide +kernel
theorem i43_28 : ins 43 28 = some (.iaload, 0, 0, 0, 0) := by decide +kernel
theorem i43_29 : ins 43 29 = some (.iconst 1, 0, 0, 0, 0) := by decide +kernel
theorem i43_30 : ins 43 30 = some (.iadd, 0, 0, 0, 0) := by decide +kernel
theorem i43_31 : ins 43 31 = some (.goto 4, 0, 0, 0, 0) := by decide +kernel
theorem g43_31 : tg 31 (4) = 35 := by decide
theorem i43_34 : ins 43 34 = some (.iconst 0, 0, 0, 0, 0) := by decide +kernel
theorem i43_35 : ins 43 35 = some (.iadd, 0, 0, 0, 0) := by decide +kernel
theorem i43_36 : ins 43 36 = some (.istore_n 2, 0, 0, 0, 0) := by decide +kernel
theorem i43_37 : ins 43 37 = some (.iinc 3 1, 0, 0, 0, 0) := by decide +kernel
theorem i43_40 : ins 43 40 = some (.goto (-36), 0, 0, 0, 0) := by decide +kernel
theorem g43_40 : tg 40 (-36) = 4 := by decide
theorem i43_43 : ins 43 43 = some (.iload_n 2, 0, 0, 0, 0) := by decide +kernel
theorem i43_44 : ins 43 44 = some (.ireturn, 0, 0, 0, 0) := by decide +kernel
theorem c44 : 44 < mnames ∧ nA 44 = 2 ∧ nS 44 = 0 := by decide +kernel
theorem m44 : (44 ≠ ensK ∧ 44 < mnames) ∧ nA 44 = 2 ∧ nL 44 = 4 := by decide +kernel
theorem r44 : nR 44 = (some .int) := by decide +kernel
theorem i44_0 : ins 44 0 = some (.aload_n 0, 0, 0, 0, 0) := by decide +kernel
theorem i44_1 : ins 44 1 = some (.invokevirtual 60, 37, 50, 0, 0) := by decide +kernel
theorem i44_4 : ins 44 4 = some (.aload_n 0, 0, 0, 0, 0) := by decide +kernel
theorem i44_5 : ins 44 5 = some (.getfield 36, 34, 6, 8, 0) := by decide +kernel
theorem i44_8 : ins 44 8 = some (.iconst 1, 0, 0, 0, 0) := by decide +kernel
theorem i44_9 : ins 44 9 = some (.imul, 0, 0, 0, 0) := by decide +kernel
theorem i44_10 : ins 44 10 = some (.iadd, 0, 0, 0, 0) := by decide +kernel
theorem i44_11 : ins 44 11 = some (.istore_n 2, 0, 0, 0, 0) := by decide +kernel
theorem i44_12 : ins 44 12 = some (.iconst 0, 0, 0, 0, 0) := by decide +kernel
theorem i44_13 : ins 44 13 = some (.istore_n 3, 0, 0, 0, 0) := by decide +kernel
theorem i44_14 : ins 44 14 = some (.iload_n 3, 0, 0, 0, 0) := by decide +kernel
theorem i44_15 : ins 44 15 = some (.bipush 6, 0, 0, 0, 0) := by decide +kernel
theorem i44_17 : ins 44 17 = some (.if_icmp .ge 26, 0, 0, 0, 0) := by decide +kernel
theorem g44_17 : tg 17 (26) = 43 := by decide
theorem i44_20 : ins 44 20 = some (.iload_n 2, 0, 0, 0, 0) := by decide +kernel
theorem i44_21 : ins 44 21 = some (.iload_n 3, 0, 0, 0, 0) := by decide +kernel
theorem i44_22 : ins 44 22 = some (.iload_n 1, 0, 0, 0, 0) := by decide +kernel
theorem i44_23 : ins 44 23 = some (.if_icmp .ne 7, 0, 0, 0, 0) := by decide +kernel
theorem g44_23 : tg 23 (7) = 30 := by decide
theorem i44_26 : ins 44 26 = some (.iconst 0, 0, 0, 0, 0) := by decide +kernel
theorem i44_27 : ins 44 27 = some (.goto 8, 0, 0, 0, 0) := by decide +kernel
theorem g44_27 : tg 27 (8) = 35 := by decide
theorem i44_30 : ins 44 30 = some (.aload_n 0, 0, 0, 0, 0) := by decide +kernel
theorem i44_31 : ins 44 31 = some (.iload_n 3, 0, 0, 0, 0) := by decide +kernel
theorem i44_32 : ins 44 32 = some (.invokevirtual 64, 38, 43, 0, 0) := by decide +kernel
theorem i44_35 : ins 44 35 = some (.isub, 0, 0, 0, 0) := by decide +kernel
theorem i44_36 : ins 44 36 = some (.istore_n 2, 0, 0, 0, 0) := by decide +kernel
theorem i44_37 : ins 44 37 = some (.iinc 3 1, 0, 0, 0, 0) := by decide +kernel
theorem i44_40 : ins 44 40 = some (.goto (-26), 0, 0, 0, 0) := by decide +kernel
theorem g44_40 : tg 40 (-26) = 14 := by decide
theorem i44_43 : ins 44 43 = some (.iload_n 2, 0, 0, 0, 0) := by decide +kernel
theorem i44_44 : ins 44 44 = some (.ireturn, 0, 0, 0, 0) := by decide +kernel
theorem c45 : 45 < mnames ∧ nA 45 = 3 ∧ nS 45 = 0 := by decide +kernel
theorem m45 : (45 ≠ ensK ∧ 45 < mnames) ∧ nA 45 = 3 ∧ nL 45 = 7 := by decide +kernel
theorem r45 : nR 45 = (some .int) := by decide +kernel
theorem i45_0 : ins 45 0 = some (.aload_n 0, 0, 0, 0, 0) := by decide +kernel
theorem i45_1 : ins 45 1 = some (.iload_n 2, 0, 0, 0, 0) := by decide +kernel
theorem i45_2 : ins 45 2 = some (.invokevirtual 64, 38, 43, 0, 0) := by decide +kernel
theorem i45_5 : ins 45 5 = some (.istore_n 3, 0, 0, 0, 0) := by decide +kernel
theorem i45_6 : ins 45 6 = some (.iconst 0, 0, 0, 0, 0) := by decide +kernel
theorem i45_7 : ins 45 7 = some (.istore 4, 0, 0, 0, 0) := by decide +kernel
theorem i45_9 : ins 45 9 = some (.iconst 0, 0, 0, 0, 0) := by decide +kernel
theorem i45_10 : ins 45 10 = some (.istore 5, 0, 0, 0, 0) := by decide +kernel
theorem i45_12 : ins 45 12 = some (.iload 5, 0, 0, 0, 0) := by decide +kernel
theorem i45_14 : ins 45 14 = some (.aload_n 0, 0, 0, 0, 0) := by decide +kernel
theorem i45_15 : ins 45 15 = some (.getfield 36, 34, 6, 8, 0) := by decide +kernel
theorem i45_18 : ins 45 18 = some (.if_icmp .ge 51, 0, 0, 0, 0) := by decide +kernel
theorem g45_18 : tg 18 (51) = 69 := by decide
theorem i45_21 : ins 45 21 = some (.aload_n 0, 0, 0, 0, 0) := by decide +kernel
theorem i45_22 : ins 45 22 = some (.getfield 9, 35, 6, 0, 3) := by decide +kernel
theorem i45_25 : ins 45 25 = some (.iload 5, 0, 0, 0, 0) := by decide +kernel
theorem i45_27 : ins 45 27 = some (.iaload, 0, 0, 0, 0) := by decide +kernel
theorem i45_28 : ins 45 28 = some (.iload_n 1, 0, 0, 0, 0) := by decide +kernel
theorem i45_29 : ins 45 29 = some (.if_icmp .ne 34, 0, 0, 0, 0) := by decide +kernel
theorem g45_29 : tg 29 (34) = 63 := by decide
theorem i45_32 : ins 45 32 = some (.aload_n 0, 0, 0, 0, 0) := by decide +kernel
theorem i45_33 : ins 45 33 = some (.getfield 15, 36, 6, 1, 3) := by decide +kernel
theorem i45_36 : ins 45 36 = some (.iload 5, 0, 0, 0, 0) := by decide +kernel
theorem i45_38 : ins 45 38 = some (.iaload, 0, 0, 0, 0) := by decide +kernel
theorem i45_39 : ins 45 39 = some (.iconst 1, 0, 0, 0, 0) := by decide +kernel
theorem i45_40 : ins 45 40 = some (.iadd, 0, 0, 0, 0) := by decide +kernel
theorem i45_41 : ins 45 41 = some (.istore 6, 0, 0, 0, 0) := by decide +kernel
theorem i45_43 : ins 45 43 = some (.iload_n 3, 0, 0, 0, 0) := by decide +kernel
theorem i45_44 : ins 45 44 = some (.iload 6, 0, 0, 0, 0) := by decide +kernel
theorem i45_46 : ins 45 46 = some (.iadd, 0, 0, 0, 0) := by decide +kernel
theorem i45_47 : ins 45 47 = some (.bipush 60, 0, 0, 0, 0) := by decide +kernel
theorem i45_49 : ins 45 49 = some (.if_icmp .gt 11, 0, 0, 0, 0) := by decide +kernel
theorem g45_49 : tg 49 (11) = 60 := by decide
theorem i45_52 : ins 45 52 = some (.iload_n 3, 0, 0, 0, 0) := by decide +kernel
theorem i45_53 : ins 45 53 = some (.iload 6, 0, 0, 0, 0) := by decide +kernel
theorem i45_55 : ins 45 55 = some (.iadd, 0, 0, 0, 0) := by decide +kernel
theorem i45_56 : ins 45 56 = some (.istore_n 3, 0, 0, 0, 0) := by decide +kernel
theorem i45_57 : ins 45 57 = some (.goto 6, 0, 0, 0, 0) := by decide +kernel
theorem g45_57 : tg 57 (6) = 63 := by decide
theorem i45_60 : ins 45 60 = some (.iinc 4 1, 0, 0, 0, 0) := by decide +kernel
theorem i45_63 : ins 45 63 = some (.iinc 5 1, 0, 0, 0, 0) := by decide +kernel
theorem i45_66 : ins 45 66 = some (.goto (-54), 0, 0, 0, 0) := by decide +kernel
theorem g45_66 : tg 66 (-54) = 12 := by decide
theorem i45_69 : ins 45 69 = some (.iload 4, 0, 0, 0, 0) := by decide +kernel
theorem i45_71 : ins 45 71 = some (.ireturn, 0, 0, 0, 0) := by decide +kernel
theorem c46 : 46 < mnames ∧ nA 46 = 2 ∧ nS 46 = 0 := by decide +kernel
theorem m46 : (46 ≠ ensK ∧ 46 < mnames) ∧ nA 46 = 2 ∧ nL 46 = 4 := by decide +kernel
theorem r46 : nR 46 = (some .int) := by decide +kernel
theorem i46_0 : ins 46 0 = some (.iconst 0, 0, 0, 0, 0) := by decide +kernel
theorem i46_1 : ins 46 1 = some (.istore_n 2, 0, 0, 0, 0) := by decide +kernel
theorem i46_2 : ins 46 2 = some (.iconst 0, 0, 0, 0, 0) := by decide +kernel
theorem i46_3 : ins 46 3 = some (.istore_n 3, 0, 0, 0, 0) := by decide +kernel
theorem i46_4 : ins 46 4 = some (.iload_n 3, 0, 0, 0, 0) := by decide +kernel
theorem i46_5 : ins 46 5 = some (.aload_n 0, 0, 0, 0, 0) := by decide +kernel
theorem i46_6 : ins 46 6 = some (.getfield 36, 34, 6, 8, 0) := by decide +kernel
theorem i46_9 : ins 46 9 = some (.if_icmp .ge 27, 0, 0, 0, 0) := by decide +kernel
theorem g46_9 : tg 9 (27) = 36 := by decide
theorem i46_12 : ins 46 12 = some (.iload_n 2, 0, 0, 0, 0) := by decide +kernel
theorem i46_13 : ins 46 13 = some (.aload_n 0, 0, 0, 0, 0) := by decide +kernel
theorem i46_14 : ins 46 14 = some (.getfield 27, 40, 6, 5, 3) := by decide +kernel
theorem i46_17 : ins 46 17 = some (.iload_n 3, 0, 0, 0, 0) := by decide +kernel
theorem i46_18 : ins 46 18 = some (.iaload, 0, 0, 0, 0) := by decide +kernel
theorem i46_19 : ins 46 19 = some (.iload_n 1, 0, 0, 0, 0) := by decide +kernel
theorem i46_20 : ins 46 20 = some (.if_icmp .ne 7, 0, 0, 0, 0) := by decide +kernel
theorem g46_20 : tg 20 (7) = 27 := by decide
theorem i46_23 : ins 46 23 = some (.iconst 1, 0, 0, 0, 0) := by decide +kernel
theorem i46_24 : ins 46 24 = some (.goto 4, 0, 0, 0, 0) := by decide +kernel
theorem g46_24 : tg 24 (4) = 28 := by decide
theorem i46_27 : ins 46 27 = some (.iconst 0, 0, 0, 0, 0) := by decide +kernel
theorem i46_28 : ins 46 28 = some (.iadd, 0, 0, 0, 0) := by decide +kernel
theorem i46_29 : ins 46 29 = some (.istore_n 2, 0, 0, 0, 0) := by decide +kernel
theorem i46_30 : ins 46 30 = some (.iinc 3 1, 0, 0, 0, 0) := by decide +kernel
theorem i46_33 : ins 46 33 = some (.goto (-29), 0, 0, 0, 0) := by decide +kernel
theorem g46_33 : tg 33 (-29) = 4 := by decide
theorem i46_36 : ins 46 36 = some (.iload_n 2, 0, 0, 0, 0) := by decide +kernel
theorem i46_37 : ins 46 37 = some (.ireturn, 0, 0, 0, 0) := by decide +kernel
theorem c47 : 47 < mnames ∧ nA 47 = 2 ∧ nS 47 = 0 := by decide +kernel
theorem m47 : (47 ≠ ensK ∧ 47 < mnames) ∧ nA 47 = 2 ∧ nL 47 = 4 := by decide +kernel
theorem r47 : nR 47 = (some .int) := by decide +kernel
theorem i47_0 : ins 47 0 = some (.iconst 0, 0, 0, 0, 0) := by decide +kernel
theorem i47_1 : ins 47 1 = some (.istore_n 2, 0, 0, 0, 0) := by decide +kernel
theorem i47_2 : ins 47 2 = some (.iconst 0, 0, 0, 0, 0) := by decide +kernel
theorem i47_3 : ins 47 3 = some (.istore_n 3, 0, 0, 0, 0) := by decide +kernel
theorem i47_4 : ins 47 4 = some (.iload_n 3, 0, 0, 0, 0) := by decide +kernel
theorem i47_5 : ins 47 5 = some (.aload_n 0, 0, 0, 0, 0) := by decide +kernel
theorem i47_6 : ins 47 6 = some (.getfield 36, 34, 6, 8, 0) := by decide +kernel
theorem i47_9 : ins 47 9 = some (.if_icmp .ge 32, 0, 0, 0, 0) := by decide +kernel
theorem g47_9 : tg 9 (32) = 41 := by decide
theorem i47_12 : ins 47 12 = some (.iload_n 2, 0, 0, 0, 0) := by decide +kernel
theorem i47_13 : ins 47 13 = some (.aload_n 0, 0, 0, 0, 0) := by decide +kernel
theorem i47_14 : ins 47 14 = some (.getfield 21, 38, 6, 3, 3) := by decide +kernel
theorem i47_17 : ins 47 17 = some (.iload_n 3, 0, 0, 0, 0) := by decide +kernel
theorem i47_18 : ins 47 18 = some (.iaload, 0, 0, 0, 0) := by decide +kernel
theorem i47_19 : ins 47 19 = some (.iload_n 1, 0, 0, 0, 0) := by decide +kernel
theorem i47_20 : ins 47 20 = some (.if_icmp .ne 12, 0, 0, 0, 0) := by decide +kernel
theorem g47_20 : tg 20 (12) = 32 := by decide
theorem i47_23 : ins 47 23 = some (.aload_n 0, 0, 0, 0, 0) := by decide +kernel
theorem i47_24 : ins 47 24 = some (.getfield 24, 39, 6, 4, 3) := by decide +kernel
theorem i47_27 : ins 47 27 = some (.iload_n 3, 0, 0, 0, 0) := by decide +kernel
theorem i47_28 : ins 47 28 = some (.iaload, 0, 0, 0, 0) := by decide +kernel
theorem i47_29 : ins 47 29 = some (.goto 4, 0, 0, 0, 0) := by decide +kernel
theorem g47_29 : tg 29 (4) = 33 := by decide
theorem i47_32 : ins 47 32 = some (.iconst 0, 0, 0, 0, 0) := by decide +kernel
theorem i47_33 : ins 47 33 = some (.iadd, 0, 0, 0, 0) := by decide +kernel
theorem i47_34 : ins 47 34 = some (.istore_n 2, 0, 0, 0, 0) := by decide +kernel
theorem i47_35 : ins 47 35 = some (.iinc 3 1, 0, 0, 0, 0) := by decide +kernel
theorem i47_38 : ins 47 38 = some (.goto (-34), 0, 0, 0, 0) := by decide +kernel
theorem g47_38 : tg 38 (-34) = 4 := by decide
theorem i47_41 : ins 47 41 = some (.iload_n 2, 0, 0, 0, 0) := by decide +kernel
theorem i47_42 : ins 47 42 = some (.ireturn, 0, 0, 0, 0) := by decide +kernel
theorem c48 : 48 < mnames ∧ nA 48 = 2 ∧ nS 48 = 0 := by decide +kernel
theorem m48 : (48 ≠ ensK ∧ 48 < mnames) ∧ nA 48 = 2 ∧ nL 48 = 4 := by decide +kernel
theorem r48 : nR 48 = (some .int) := by decide +kernel
theorem i48_0 : ins 48 0 = some (.iconst 0, 0, 0, 0, 0) := by decide +kernel
theorem i48_1 : ins 48 1 = some (.istore_n 2, 0, 0, 0, 0) := by decide +kernel
theorem i48_2 : ins 48 2 = some (.iconst 0, 0, 0, 0, 0) := by decide +kernel
theorem i48_3 : ins 48 3 = some (.istore_n 3, 0, 0, 0, 0) := by decide +kernel
theorem i48_4 : ins 48 4 = some (.iload_n 3, 0, 0, 0, 0) := by decide +kernel
theorem i48_5 : ins 48 5 = some (.aload_n 0, 0, 0, 0, 0) := by decide +kernel
theorem i48_6 : ins 48 6 = some (.getfield 36, 34, 6, 8, 0) := by decide +kernel
theorem i48_9 : ins 48 9 = some (.if_icmp .ge 32, 0, 0, 0, 0) := by decide +kernel
theorem g48_9 : tg 9 (32) = 41 := by decide
theorem i48_12 : ins 48 12 = some (.iload_n 2, 0, 0, 0, 0) := by decide +kernel
theorem i48_13 : ins 48 13 = some (.aload_n 0, 0, 0, 0, 0) := by decide +kernel
theorem i48_14 : ins 48 14 = some (.getfield 9, 35, 6, 0, 3) := by decide +kernel
theorem i48_17 : ins 48 17 = some (.iload_n 3, 0, 0, 0, 0) := by decide +kernel
theorem i48_18 : ins 48 18 = some (.iaload, 0, 0, 0, 0) := by decide +kernel
theorem i48_19 : ins 48 19 = some (.iload_n 1, 0, 0, 0, 0) := by decide +kernel
theorem i48_20 : ins 48 20 = some (.if_icmp .ne 12, 0, 0, 0, 0) := by decide +kernel
theorem g48_20 : tg 20 (12) = 32 := by decide
theorem i48_23 : ins 48 23 = some (.aload_n 0, 0, 0, 0, 0) := by decide +kernel
theorem i48_24 : ins 48 24 = some (.getfield 24, 39, 6, 4, 3) := by decide +kernel
theorem i48_27 : ins 48 27 = some (.iload_n 3, 0, 0, 0, 0) := by decide +kernel
theorem i48_28 : ins 48 28 = some (.iaload, 0, 0, 0, 0) := by decide +kernel
theorem i48_29 : ins 48 29 = some (.goto 4, 0, 0, 0, 0) := by decide +kernel
theorem g48_29 : tg 29 (4) = 33 := by decide
theorem i48_32 : ins 48 32 = some (.iconst 0, 0, 0, 0, 0) := by decide +kernel
theorem i48_33 : ins 48 33 = some (.iadd, 0, 0, 0, 0) := by decide +kernel
theorem i48_34 : ins 48 34 = some (.istore_n 2, 0, 0, 0, 0) := by decide +kernel
theorem i48_35 : ins 48 35 = some (.iinc 3 1, 0, 0, 0, 0) := by decide +kernel
theorem i48_38 : ins 48 38 = some (.goto (-34), 0, 0, 0, 0) := by decide +kernel
theorem g48_38 : tg 38 (-34) = 4 := by decide
theorem i48_41 : ins 48 41 = some (.iload_n 2, 0, 0, 0, 0) := by decide +kernel
theorem i48_42 : ins 48 42 = some (.ireturn, 0, 0, 0, 0) := by decide +kernel
theorem c49 : 49 < mnames ∧ nA 49 = 1 ∧ nS 49 = 0 := by decide +kernel
theorem m49 : (49 ≠ ensK ∧ 49 < mnames) ∧ nA 49 = 1 ∧ nL 49 = 3 := by decide +kernel
theorem r49 : nR 49 = (some .int) := by decide +kernel
theorem i49_0 : ins 49 0 = some (.iconst 0, 0, 0, 0, 0) := by decide +kernel
theorem i49_1 : ins 49 1 = some (.istore_n 1, 0, 0, 0, 0) := by decide +kernel
theorem i49_2 : ins 49 2 = some (.iconst 0, 0, 0, 0, 0) := by decide +kernel
theorem i49_3 : ins 49 3 = some (.istore_n 2, 0, 0, 0, 0) := by decide +kernel
theorem i49_4 : ins 49 4 = some (.iload_n 2, 0, 0, 0, 0) := by decide +kernel
theorem i49_5 : ins 49 5 = some (.aload_n 0, 0, 0, 0, 0) := by decide +kernel
theorem i49_6 : ins 49 6 = some (.getfield 36, 34, 6, 8, 0) := by decide +kernel
theorem i49_9 : ins 49 9 = some (.if_icmp .ge 27, 0, 0, 0, 0) := by decide +kernel
theorem g49_9 : tg 9 (27) = 36 := by decide
theorem i49_12 : ins 49 12 = some (.iload_n 1, 0, 0, 0, 0) := by decide +kernel
theorem i49_13 : ins 49 13 = some (.aload_n 0, 0, 0, 0, 0) := by decide +kernel
theorem i49_14 : ins 49 14 = some (.getfield 27, 40, 6, 5, 3) := by decide +kernel
theorem i49_17 : ins 49 17 = some (.iload_n 2, 0, 0, 0, 0) := by decide +kernel
theorem i49_18 : ins 49 18 = some (.iaload, 0, 0, 0, 0) := by decide +kernel
theorem i49_19 : ins 49 19 = some (.iconst (-1), 0, 0, 0, 0) := by decide +kernel
theorem i49_20 : ins 49 20 = some (.if_icmp .ne 7, 0, 0, 0, 0) := by decide +kernel
theorem g49_20 : tg 20 (7) = 27 := by decide
theorem i49_23 : ins 49 23 = some (.iconst 0, 0, 0, 0, 0) := by decide +kernel
theorem i49_24 : ins 49 24 = some (.goto 4, 0, 0, 0, 0) := by decide +kernel
theorem g49_24 : tg 24 (4) = 28 := by decide
theorem i49_27 : ins 49 27 = some (.iconst 1, 0, 0, 0, 0) := by decide +kernel
theorem i49_28 : ins 49 28 = some (.iadd, 0, 0, 0, 0) := by decide +kernel
theorem i49_29 : ins 49 29 = some (.istore_n 1, 0, 0, 0, 0) := by decide +kernel
theorem i49_30 : ins 49 30 = some (.iinc 2 1, 0, 0, 0, 0) := by decide +kernel
theorem i49_33 : ins 49 33 = some (.goto (-29), 0, 0, 0, 0) := by decide +kernel
theorem g49_33 : tg 33 (-29) = 4 := by decide
theorem i49_36 : ins 49 36 = some (.iload_n 1, 0, 0, 0, 0) := by decide +kernel
theorem i49_37 : ins 49 37 = some (.ireturn, 0, 0, 0, 0) := by decide +kernel
theorem c50 : 50 < mnames ∧ nA 50 = 1 ∧ nS 50 = 0 := by decide +kernel
theorem m50 : (50 ≠ ensK ∧ 50 < mnames) ∧ nA 50 = 1 ∧ nL 50 = 3 := by decide +kernel
theorem r50 : nR 50 = (some .int) := by decide +kernel
theorem i50_0 : ins 50 0 = some (.iconst 0, 0, 0, 0, 0) := by decide +kernel
theorem i50_1 : ins 50 1 = some (.istore_n 1, 0, 0, 0, 0) := by decide +kernel
theorem i50_2 : ins 50 2 = some (.iconst 0, 0, 0, 0, 0) := by decide +kernel
theorem i50_3 : ins 50 3 = some (.istore_n 2, 0, 0, 0, 0) := by decide +kernel
theorem i50_4 : ins 50 4 = some (.iload_n 2, 0, 0, 0, 0) := by decide +kernel
theorem i50_5 : ins 50 5 = some (.aload_n 0, 0, 0, 0, 0) := by decide +kernel
theorem i50_6 : ins 50 6 = some (.getfield 36, 34, 6, 8, 0) := by decide +kernel
theorem i50_9 : ins 50 9 = some (.if_icmp .ge 18, 0, 0, 0, 0) := by decide +kernel
theorem g50_9 : tg 9 (18) = 27 := by decide
theorem i50_12 : ins 50 12 = some (.iload_n 1, 0, 0, 0, 0) := by decide +kernel
theorem i50_13 : ins 50 13 = some (.aload_n 0, 0, 0, 0, 0) := by decide +kernel
theorem i50_14 : ins 50 14 = some (.getfield 15, 36, 6, 1, 3) := by decide +kernel
theorem i50_17 : ins 50 17 = some (.iload_n 2, 0, 0, 0, 0) := by decide +kernel
theorem i50_18 : ins 50 18 = some (.iaload, 0, 0, 0, 0) := by decide +kernel
theorem i50_19 : ins 50 19 = some (.iadd, 0, 0, 0, 0) := by decide +kernel
theorem i50_20 : ins 50 20 = some (.istore_n 1, 0, 0, 0, 0) := by decide +kernel
theorem i50_21 : ins 50 21 = some (.iinc 2 1, 0, 0, 0, 0) := by decide +kernel
theorem i50_24 : ins 50 24 = some (.goto (-20), 0, 0, 0, 0) := by decide +kernel
theorem g50_24 : tg 24 (-20) = 4 := by decide
theorem i50_27 : ins 50 27 = some (.iload_n 1, 0, 0, 0, 0) := by decide +kernel
theorem i50_28 : ins 50 28 = some (.ireturn, 0, 0, 0, 0) := by decide +kernel
theorem c51 : 51 < mnames ∧ nA 51 = 1 ∧ nS 51 = 0 := by decide +kernel
theorem m51 : (51 ≠ ensK ∧ 51 < mnames) ∧ nA 51 = 1 ∧ nL 51 = 3 := by decide +kernel
theorem r51 : nR 51 = (some .int) := by decide +kernel
theorem i51_0 : ins 51 0 = some (.iconst 0, 0, 0, 0, 0) := by decide +kernel
theorem i51_1 : ins 51 1 = some (.istore_n 1, 0, 0, 0, 0) := by decide +kernel
theorem i51_2 : ins 51 2 = some (.iconst 0, 0, 0, 0, 0) := by decide +kernel
theorem i51_3 : ins 51 3 = some (.istore_n 2, 0, 0, 0, 0) := by decide +kernel
theorem i51_4 : ins 51 4 = some (.iload_n 2, 0, 0, 0, 0) := by decide +kernel
theorem i51_5 : ins 51 5 = some (.aload_n 0, 0, 0, 0, 0) := by decide +kernel
theorem i51_6 : ins 51 6 = some (.getfield 36, 34, 6, 8, 0) := by decide +kernel
theorem i51_9 : ins 51 9 = some (.if_icmp .ge 18, 0, 0, 0, 0) := by decide +kernel
theorem g51_9 : tg 9 (18) = 27 := by decide
theorem i51_12 : ins 51 12 = some (.iload_n 1, 0, 0, 0, 0) := by decide +kernel
theorem i51_13 : ins 51 13 = some (.aload_n 0, 0, 0, 0, 0) := by decide +kernel
theorem i51_14 : ins 51 14 = some (.getfield 24, 39, 6, 4, 3) := by decide +kernel
theorem i51_17 : ins 51 17 = some (.iload_n 2, 0, 0, 0, 0) := by decide +kernel
theorem i51_18 : ins 51 18 = some (.iaload, 0, 0, 0, 0) := by decide +kernel
theorem i51_19 : ins 51 19 = some (.iadd, 0, 0, 0, 0) := by decide +kernel
theorem i51_20 : ins 51 20 = some (.istore_n 1, 0, 0, 0, 0) := by decide +kernel
theorem i51_21 : ins 51 21 = some (.iinc 2 1, 0, 0, 0, 0) := by decide +kernel
theorem i51_24 : ins 51 24 = some (.goto (-20), 0, 0, 0, 0) := by decide +kernel
theorem g51_24 : tg 24 (-20) = 4 := by decide
theorem i51_27 : ins 51 27 = some (.iload_n 1, 0, 0, 0, 0) := by decide +kernel
theorem i51_28 : ins 51 28 = some (.ireturn, 0, 0, 0, 0) := by decide +kernel
theorem c52 : 52 < mnames ∧ nA 52 = 2 ∧ nS 52 = 0 := by decide +kernel
theorem m52 : (52 ≠ ensK ∧ 52 < mnames) ∧ nA 52 = 2 ∧ nL 52 = 4 := by decide +kernel
theorem r52 : nR 52 = (some .int) := by decide +kernel
theorem i52_0 : ins 52 0 = some (.iconst 0, 0, 0, 0, 0) := by decide +kernel
theorem i52_1 : ins 52 1 = some (.istore_n 2, 0, 0, 0, 0) := by decide +kernel
theorem i52_2 : ins 52 2 = some (.iconst 0, 0, 0, 0, 0) := by decide +kernel
theorem i52_3 : ins 52 3 = some (.istore_n 3, 0, 0, 0, 0) := by decide +kernel
theorem i52_4 : ins 52 4 = some (.iload_n 3, 0, 0, 0, 0) := by decide +kernel
theorem i52_5 : ins 52 5 = some (.aload_n 0, 0, 0, 0, 0) := by decide +kernel
theorem i52_6 : ins 52 6 = some (.getfield 36, 34, 6, 8, 0) := by decide +kernel
theorem i52_9 : ins 52 9 = some (.if_icmp .ge 26, 0, 0, 0, 0) := by decide +kernel
theorem g52_9 : tg 9 (26) = 35 := by decide
theorem i52_12 : ins 52 12 = some (.iload_n 2, 0, 0, 0, 0) := by decide +kernel
theorem i52_13 : ins 52 13 = some (.aload_n 0, 0, 0, 0, 0) := by decide +kernel
theorem i52_14 : ins 52 14 = some (.iload_n 3, 0, 0, 0, 0) := by decide +kernel
theorem i52_15 : ins 52 15 = some (.iload_n 1, 0, 0, 0, 0) := by decide +kernel
theorem i52_16 : ins 52 16 = some (.invokevirtual 68, 39, 53, 0, 0) := by decide +kernel
theorem i52_19 : ins 52 19 = some (.ifCond .eq 7, 0, 0, 0, 0) := by decide +kernel
theorem g52_19 : tg 19 (7) = 26 := by decide
theorem i52_22 : ins 52 22 = some (.iconst 1, 0, 0, 0, 0) := by decide +kernel
theorem i52_23 : ins 52 23 = some (.goto 4, 0, 0, 0, 0) := by decide +kernel
theorem g52_23 : tg 23 (4) = 27 := by decide
theorem i52_26 : ins 52 26 = some (.iconst 0, 0, 0, 0, 0) := by decide +kernel
theorem i52_27 : ins 52 27 = some (.iadd, 0, 0, 0, 0) := by decide +kernel
theorem i52_28 : ins 52 28 = some (.istore_n 2, 0, 0, 0, 0) := by decide +kernel
theorem i52_29 : ins 52 29 = some (.iinc 3 1, 0, 0, 0, 0) := by decide +kernel
theorem i52_32 : ins 52 32 = some (.goto (-28), 0, 0, 0, 0) := by decide +kernel
theorem g52_32 : tg 32 (-28) = 4 := by decide
theorem i52_35 : ins 52 35 = some (.iload_n 2, 0, 0, 0, 0) := by decide +kernel
theorem i52_36 : ins 52 36 = some (.ireturn, 0, 0, 0, 0) := by decide +kernel
theorem c53 : 53 < mnames ∧ nA 53 = 3 ∧ nS 53 = 0 := by decide +kernel
theorem m53 : (53 ≠ ensK ∧ 53 < mnames) ∧ nA 53 = 3 ∧ nL 53 = 5 := by decide +kernel
theorem r53 : nR 53 = (some .boolean) := by decide +kernel
theorem i53_0 : ins 53 0 = some (.aload_n 0, 0, 0, 0, 0) := by decide +kernel
theorem i53_1 : ins 53 1 = some (.getfield 15, 36, 6, 1, 3) := by decide +kernel
theorem i53_4 : ins 53 4 = some (.iload_n 1, 0, 0, 0, 0) := by decide +kernel
theorem i53_5 : ins 53 5 = some (.iaload, 0, 0, 0, 0) := by decide +kernel
theorem i53_6 : ins 53 6 = some (.aload_n 0, 0, 0, 0, 0) := by decide +kernel
theorem i53_7 : ins 53 7 = some (.getfield 18, 37, 6, 2, 3) := by decide +kernel
theorem i53_10 : ins 53 10 = some (.iload_n 1, 0, 0, 0, 0) := by decide +kernel
theorem i53_11 : ins 53 11 = some (.iaload, 0, 0, 0, 0) := by decide +kernel
theorem i53_12 : ins 53 12 = some (.imul, 0, 0, 0, 0) := by decide +kernel
theorem i53_13 : ins 53 13 = some (.istore_n 3, 0, 0, 0, 0) := by decide +kernel
theorem i53_14 : ins 53 14 = some (.aload_n 0, 0, 0, 0, 0) := by decide +kernel
theorem i53_15 : ins 53 15 = some (.getfield 15, 36, 6, 1, 3) := by decide +kernel
theorem i53_18 : ins 53 18 = some (.iload_n 2, 0, 0, 0, 0) := by decide +kernel
theorem i53_19 : ins 53 19 = some (.iaload, 0, 0, 0, 0) := by decide +kernel
theorem i53_20 : ins 53 20 = some (.aload_n 0, 0, 0, 0, 0) := by decide +kernel
theorem i53_21 : ins 53 21 = some (.getfield 18, 37, 6, 2, 3) := by decide +kernel
theorem i53_24 : ins 53 24 = some (.iload_n 2, 0, 0, 0, 0) := by decide +kernel
theorem i53_25 : ins 53 25 = some (.iaload, 0, 0, 0, 0) := by decide +kernel
theorem i53_26 : ins 53 26 = some (.imul, 0, 0, 0, 0) := by decide +kernel
theorem i53_27 : ins 53 27 = some (.istore 4, 0, 0, 0, 0) := by decide +kernel
theorem i53_29 : ins 53 29 = some (.iload_n 3, 0, 0, 0, 0) := by decide +kernel
theorem i53_30 : ins 53 30 = some (.iload 4, 0, 0, 0, 0) := by decide +kernel
theorem i53_32 : ins 53 32 = some (.if_icmp .eq 15, 0, 0, 0, 0) := by decide +kernel
theorem g53_32 : tg 32 (15) = 47 := by decide
theorem i53_35 : ins 53 35 = some (.iload_n 3, 0, 0, 0, 0) := by decide +kernel
theorem i53_36 : ins 53 36 = some (.iload 4, 0, 0, 0, 0) := by decide +kernel
theorem i53_38 : ins 53 38 = some (.if_icmp .le 7, 0, 0, 0, 0) := by decide +kernel
theorem g53_38 : tg 38 (7) = 45 := by decide
theorem i53_41 : ins 53 41 = some (.iconst 1, 0, 0, 0, 0) := by decide +kernel
theorem i53_42 : ins 53 42 = some (.goto 4, 0, 0, 0, 0) := by decide +kernel
theorem g53_42 : tg 42 (4) = 46 := by decide
theorem i53_45 : ins 53 45 = some (.iconst 0, 0, 0, 0, 0) := by decide +kernel
theorem i53_46 : ins 53 46 = some (.ireturn, 0, 0, 0, 0) := by decide +kernel
theorem i53_47 : ins 53 47 = some (.aload_n 0, 0, 0, 0, 0) := by decide +kernel
theorem i53_48 : ins 53 48 = some (.getfield 24, 39, 6, 4, 3) := by decide +kernel
theorem i53_51 : ins 53 51 = some (.iload_n 1, 0, 0, 0, 0) := by decide +kernel
theorem i53_52 : ins 53 52 = some (.iaload, 0, 0, 0, 0) := by decide +kernel
theorem i53_53 : ins 53 53 = some (.aload_n 0, 0, 0, 0, 0) := by decide +kernel
theorem i53_54 : ins 53 54 = some (.getfield 24, 39, 6, 4, 3) := by decide +kernel
theorem i53_57 : ins 53 57 = some (.iload_n 2, 0, 0, 0, 0) := by decide +kernel
theorem i53_58 : ins 53 58 = some (.iaload, 0, 0, 0, 0) := by decide +kernel
theorem i53_59 : ins 53 59 = some (.if_icmp .eq 24, 0, 0, 0, 0) := by decide +kernel
theorem g53_59 : tg 59 (24) = 83 := by decide
theorem i53_62 : ins 53 62 = some (.aload_n 0, 0, 0, 0, 0) := by decide +kernel
theorem i53_63 : ins 53 63 = some (.getfield 24, 39, 6, 4, 3) := by decide +kernel
theorem i53_66 : ins 53 66 = some (.iload_n 1, 0, 0, 0, 0) := by decide +kernel
theorem i53_67 : ins 53 67 = some (.iaload, 0, 0, 0, 0) := by decide +kernel
theorem i53_68 : ins 53 68 = some (.aload_n 0, 0, 0, 0, 0) := by decide +kernel
theorem i53_69 : ins 53 69 = some (.getfield 24, 39, 6, 4, 3) := by decide +kernel
theorem i53_72 : ins 53 72 = some (.iload_n 2, 0, 0, 0, 0) := by decide +kernel
theorem i53_73 : ins 53 73 = some (.iaload, 0, 0, 0, 0) := by decide +kernel
theorem i53_74 : ins 53 74 = some (.if_icmp .ge 7, 0, 0, 0, 0) := by decide +kernel
theorem g53_74 : tg 74 (7) = 81 := by decide
theorem i53_77 : ins 53 77 = some (.iconst 1, 0, 0, 0, 0) := by decide +kernel
theorem i53_78 : ins 53 78 = some (.goto 4, 0, 0, 0, 0) := by decide +kernel
theorem g53_78 : tg 78 (4) = 82 := by decide
theorem i53_81 : ins 53 81 = some (.iconst 0, 0, 0, 0, 0) := by decide +kernel
theorem i53_82 : ins 53 82 = some (.ireturn, 0, 0, 0, 0) := by decide +kernel
theorem i53_83 : ins 53 83 = some (.iload_n 1, 0, 0, 0, 0) := by decide +kernel
theorem i53_84 : ins 53 84 = some (.iload_n 2, 0, 0, 0, 0) := by decide +kernel
theorem i53_85 : ins 53 85 = some (.if_icmp .ge 7, 0, 0, 0, 0) := by decide +kernel
theorem g53_85 : tg 85 (7) = 92 := by decide
theorem i53_88 : ins 53 88 = some (.iconst 1, 0, 0, 0, 0) := by decide +kernel
theorem i53_89 : ins 53 89 = some (.goto 4, 0, 0, 0, 0) := by decide +kernel
theorem g53_89 : tg 89 (4) = 93 := by decide
theorem i53_92 : ins 53 92 = some (.iconst 0, 0, 0, 0, 0) := by decide +kernel
theorem i53_93 : ins 53 93 = some (.ireturn, 0, 0, 0, 0) := by decide +kernel
theorem c54 : 54 < mnames ∧ nA 54 = 4 ∧ nS 54 = 0 := by decide +kernel
theorem m54 : (54 ≠ ensK ∧ 54 < mnames) ∧ nA 54 = 4 ∧ nL 54 = 4 := by decide +kernel
theorem r54 : nR 54 = (some .int) := by decide +kernel
theorem i54_0 : ins 54 0 = some (.aload_n 0, 0, 0, 0, 0) := by decide +kernel
theorem i54_1 : ins 54 1 = some (.getfield 26, 43, 7, 3, 3) := by decide +kernel
theorem i54_4 : ins 54 4 = some (.aload_n 0, 0, 0, 0, 0) := by decide +kernel
theorem i54_5 : ins 54 5 = some (.getfield 10, 44, 7, 0, 3) := by decide +kernel
theorem i54_8 : ins 54 8 = some (.invokevirtual 61, 40, 0, 0, 0) := by decide +kernel
theorem i54_11 : ins 54 11 = some (.aload_n 0, 0, 0, 0, 0) := by decide +kernel
theorem i54_12 : ins 54 12 = some (.aload_n 0, 0, 0, 0, 0) := by decide +kernel
theorem i54_13 : ins 54 13 = some (.iload_n 1, 0, 0, 0, 0) := by decide +kernel
theorem i54_14 : ins 54 14 = some (.iload_n 2, 0, 0, 0, 0) := by decide +kernel
theorem i54_15 : ins 54 15 = some (.iload_n 3, 0, 0, 0, 0) := by decide +kernel
theorem i54_16 : ins 54 16 = some (.invokevirtual 65, 41, 86, 0, 0) := by decide +kernel
theorem i54_19 : ins 54 19 = some (.invokevirtual 69, 42, 85, 0, 0) := by decide +kernel
theorem i54_22 : ins 54 22 = some (.ireturn, 0, 0, 0, 0) := by decide +kernel
theorem c55 : 55 < mnames ∧ nA 55 = 3 ∧ nS 55 = 0 := by decide +kernel
theorem m55 : (55 ≠ ensK ∧ 55 < mnames) ∧ nA 55 = 3 ∧ nL 55 = 3 := by decide +kernel
theorem r55 : nR 55 = (some .int) := by decide +kernel
theorem i55_0 : ins 55 0 = some (.aload_n 0, 0, 0, 0, 0) := by decide +kernel
theorem i55_1 : ins 55 1 = some (.getfield 26, 43, 7, 3, 3) := by decide +kernel
theorem i55_4 : ins 55 4 = some (.aload_n 0, 0, 0, 0, 0) := by decide +kernel
theorem i55_5 : ins 55 5 = some (.getfield 10, 44, 7, 0, 3) := by decide +kernel
theorem i55_8 : ins 55 8 = some (.invokevirtual 61, 40, 0, 0, 0) := by decide +kernel
theorem i55_11 : ins 55 11 = some (.aload_n 0, 0, 0, 0, 0) := by decide +kernel
theorem i55_12 : ins 55 12 = some (.aload_n 0, 0, 0, 0, 0) := by decide +kernel
theorem i55_13 : ins 55 13 = some (.iload_n 1, 0, 0, 0, 0) := by decide +kernel
theorem i55_14 : ins 55 14 = some (.iload_n 2, 0, 0, 0, 0) := by decide +kernel
theorem i55_15 : ins 55 15 = some (.invokevirtual 73, 43, 89, 0, 0) := by decide +kernel
theorem i55_18 : ins 55 18 = some (.invokevirtual 69, 42, 85, 0, 0) := by decide +kernel
theorem i55_21 : ins 55 21 = some (.ireturn, 0, 0, 0, 0) := by decide +kernel
theorem c56 : 56 < mnames ∧ nA 56 = 4 ∧ nS 56 = 0 := by decide +kernel
theorem m56 : (56 ≠ ensK ∧ 56 < mnames) ∧ nA 56 = 4 ∧ nL 56 = 4 := by decide +kernel
theorem r56 : nR 56 = (some .int) := by decide +kernel
theorem i56_0 : ins 56 0 = some (.aload_n 0, 0, 0, 0, 0) := by decide +kernel
theorem i56_1 : ins 56 1 = some (.getfield 26, 43, 7, 3, 3) := by decide +kernel
theorem i56_4 : ins 56 4 = some (.aload_n 0, 0, 0, 0, 0) := by decide +kernel
theorem i56_5 : ins 56 5 = some (.getfield 10, 44, 7, 0, 3) := by decide +kernel
theorem i56_8 : ins 56 8 = some (.invokevirtual 61, 40, 0, 0, 0) := by decide +kernel
theorem i56_11 : ins 56 11 = some (.aload_n 0, 0, 0, 0, 0) := by decide +kernel
theorem i56_12 : ins 56 12 = some (.aload_n 0, 0, 0, 0, 0) := by decide +kernel
theorem i56_13 : ins 56 13 = some (.iload_n 1, 0, 0, 0, 0) := by decide +kernel
theorem i56_14 : ins 56 14 = some (.iload_n 2, 0, 0, 0, 0) := by decide +kernel
theorem i56_15 : ins 56 15 = some (.iload_n 3, 0, 0, 0, 0) := by decide +kernel
theorem i56_16 : ins 56 16 = some (.invokevirtual 77, 44, 90, 0, 0) := by decide +kernel
theorem i56_19 : ins 56 19 = some (.invokevirtual 69, 42, 85, 0, 0) := by decide +kernel
theorem i56_22 : ins 56 22 = some (.ireturn, 0, 0, 0, 0) := by decide +kernel
theorem c57 : 57 < mnames ∧ nA 57 = 4 ∧ nS 57 = 0 := by decide +kernel
theorem m57 : (57 ≠ ensK ∧ 57 < mnames) ∧ nA 57 = 4 ∧ nL 57 = 4 := by decide +kernel
theorem r57 : nR 57 = (some .int) := by decide +kernel
theorem i57_0 : ins 57 0 = some (.aload_n 0, 0, 0, 0, 0) := by decide +kernel
theorem i57_1 : ins 57 1 = some (.getfield 26, 43, 7, 3, 3) := by decide +kernel
theorem i57_4 : ins 57 4 = some (.aload_n 0, 0, 0, 0, 0) := by decide +kernel
theorem i57_5 : ins 57 5 = some (.getfield 10, 44, 7, 0, 3) := by decide +kernel
theorem i57_8 : ins 57 8 = some (.invokevirtual 61, 40, 0, 0, 0) := by decide +kernel
theorem i57_11 : ins 57 11 = some (.aload_n 0, 0, 0, 0, 0) := by decide +kernel
theorem i57_12 : ins 57 12 = some (.aload_n 0, 0, 0, 0, 0) := by decide +kernel
theorem i57_13 : ins 57 13 = some (.iload_n 1, 0, 0, 0, 0) := by decide +kernel
theorem i57_14 : ins 57 14 = some (.iload_n 2, 0, 0, 0, 0) := by decide +kernel
theorem i57_15 : ins 57 15 = some (.iload_n 3, 0, 0, 0, 0) := by decide +kernel
theorem i57_16 : ins 57 16 = some (.invokevirtual 80, 45, 91, 0, 0) := by decide +kernel
theorem i57_19 : ins 57 19 = some (.invokevirtual 69, 42, 85, 0, 0) := by decide +kernel
theorem i57_22 : ins 57 22 = some (.ireturn, 0, 0, 0, 0) := by decide +kernel
theorem c58 : 58 < mnames ∧ nA 58 = 3 ∧ nS 58 = 0 := by decide +kernel
theorem m58 : (58 ≠ ensK ∧ 58 < mnames) ∧ nA 58 = 3 ∧ nL 58 = 4 := by decide +kernel
theorem r58 : nR 58 = (some .int) := by decide +kernel
theorem i58_0 : ins 58 0 = some (.aload_n 0, 0, 0, 0, 0) := by decide +kernel
theorem i58_1 : ins 58 1 = some (.iload_n 1, 0, 0, 0, 0) := by decide +kernel
theorem i58_2 : ins 58 2 = some (.invokevirtual 83, 46, 100, 0, 0) := by decide +kernel
theorem i58_5 : ins 58 5 = some (.ifCond .ne 7, 0, 0, 0, 0) := by decide +kernel
theorem g58_5 : tg 5 (7) = 12 := by decide
theorem i58_8 : ins 58 8 = some (.sipush (-1011), 0, 0, 0, 0) := by decide +kernel
theorem i58_11 : ins 58 11 = some (.ireturn, 0, 0, 0, 0) := by decide +kernel
theorem i58_12 : ins 58 12 = some (.aload_n 0, 0, 0, 0, 0) := by decide +kernel
theorem i58_13 : ins 58 13 = some (.getfield 10, 44, 7, 0, 3) := by decide +kernel
theorem i58_16 : ins 58 16 = some (.getfield 87, 45, 5, 0, 3) := by decide +kernel
theorem i58_19 : ins 58 19 = some (.astore_n 3, 0, 0, 0, 0) := by decide +kernel
theorem i58_20 : ins 58 20 = some (.iload_n 2, 0, 0, 0, 0) := by decide +kernel
theorem i58_21 : ins 58 21 = some (.tableswitch 109 0 7 #[47, 54, 61, 68, 78, 85, 92, 102], 0, 0, 0, 0) := by decide +kernel
theorem i58_68 : ins 58 68 = some (.aload_n 3, 0, 0, 0, 0) := by decide +kernel
theorem i58_69 : ins 58 69 = some (.getfield 91, 46, 6, 0, 3) := by decide +kernel
theorem i58_72 : ins 58 72 = some (.iload_n 1, 0, 0, 0, 0) := by decide +kernel
theorem i58_73 : ins 58 73 = some (.iaload, 0, 0, 0, 0) := by decide +kernel
theorem i58_74 : ins 58 74 = some (.ireturn, 0, 0, 0, 0) := by decide +kernel
theorem i58_75 : ins 58 75 = some (.aload_n 3, 0, 0, 0, 0) := by decide +kernel
theorem i58_76 : ins 58 76 = some (.getfield 97, 47, 6, 1, 3) := by decide +kernel
theorem i58_79 : ins 58 79 = some (.iload_n 1, 0, 0, 0, 0) := by decide +kernel
theorem i58_80 : ins 58 80 = some (.iaload, 0, 0, 0, 0) := by decide +kernel
theorem i58_81 : ins 58 81 = some (.ireturn, 0, 0, 0, 0) := by decide +kernel
theorem i58_82 : ins 58 82 = some (.aload_n 3, 0, 0, 0, 0) := by decide +kernel
theorem i58_83 : ins 58 83 = some (.getfield 100, 48, 6, 2, 3) := by decide +kernel
theorem i58_86 : ins 58 86 = some (.iload_n 1, 0, 0, 0, 0) := by decide +kernel
theorem i58_87 : ins 58 87 = some (.iaload, 0, 0, 0, 0) := by decide +kernel
theorem i58_88 : ins 58 88 = some (.ireturn, 0, 0, 0, 0) := by decide +kernel
theorem i58_89 : ins 58 89 = some (.aload_n 3, 0, 0, 0, 0) := by decide +kernel
theorem i58_90 : ins 58 90 = some (.getfield 103, 49, 6, 3, 3) := by decide +kernel
theorem i58_93 : ins 58 93 = some (.iload_n 1, 0, 0, 0, 0) := by decide +kernel
theorem i58_94 : ins 58 94 = some (.iaload, 0, 0, 0, 0) := by decide +kernel
theorem i58_95 : ins 58 95 = some (.invokestatic 106, 47, 101, 1, 0) := by decide +kernel
theorem i58_98 : ins 58 98 = some (.ireturn, 0, 0, 0, 0) := by decide +kernel
theorem i58_99 : ins 58 99 = some (.aload_n 3, 0, 0, 0, 0) := by decide +kernel
theorem i58_100 : ins 58 100 = some (.getfield 109, 50, 6, 4, 3) := by decide +kernel
theorem i58_103 : ins 58 103 = some (.iload_n 1, 0, 0, 0, 0) := by decide +kernel
theorem i58_104 : ins 58 104 = some (.iaload, 0, 0, 0, 0) := by decide +kernel
theorem i58_105 : ins 58 105 = some (.ireturn, 0, 0, 0, 0) := by decide +kernel
theorem i58_106 : ins 58 106 = some (.aload_n 3, 0, 0, 0, 0) := by decide +kernel
theorem i58_107 : ins 58 107 = some (.getfield 112, 51, 6, 6, 3) := by decide +kernel
theorem i58_110 : ins 58 110 = some (.iload_n 1, 0, 0, 0, 0) := by decide +kernel
theorem i58_111 : ins 58 111 = some (.iaload, 0, 0, 0, 0) := by decide +kernel
theorem i58_112 : ins 58 112 = some (.ireturn, 0, 0, 0, 0) := by decide +kernel
theorem i58_113 : ins 58 113 = some (.aload_n 3, 0, 0, 0, 0) := by decide +kernel
theorem i58_114 : ins 58 114 = some (.getfield 115, 52, 6, 5, 3) := by decide +kernel
theorem i58_117 : ins 58 117 = some (.iload_n 1, 0, 0, 0, 0) := by decide +kernel
theorem i58_118 : ins 58 118 = some (.iaload, 0, 0, 0, 0) := by decide +kernel
theorem i58_119 : ins 58 119 = some (.invokestatic 106, 47, 101, 1, 0) := by decide +kernel
theorem i58_122 : ins 58 122 = some (.ireturn, 0, 0, 0, 0) := by decide +kernel
theorem i58_123 : ins 58 123 = some (.aload_n 3, 0, 0, 0, 0) := by decide +kernel
theorem i58_124 : ins 58 124 = some (.getfield 118, 53, 6, 7, 3) := by decide +kernel
theorem i58_127 : ins 58 127 = some (.iload_n 1, 0, 0, 0, 0) := by decide +kernel
theorem i58_128 : ins 58 128 = some (.iaload, 0, 0, 0, 0) := by decide +kernel
theorem i58_129 : ins 58 129 = some (.ireturn, 0, 0, 0, 0) := by decide +kernel
theorem i58_130 : ins 58 130 = some (.sipush (-1012), 0, 0, 0, 0) := by decide +kernel
theorem i58_133 : ins 58 133 = some (.ireturn, 0, 0, 0, 0) := by decide +kernel
theorem c59 : 59 < mnames ∧ nA 59 = 3 ∧ nS 59 = 0 := by decide +kernel
theorem m59 : (59 ≠ ensK ∧ 59 < mnames) ∧ nA 59 = 3 ∧ nL 59 = 3 := by decide +kernel
theorem r59 : nR 59 = (some .int) := by decide +kernel
theorem i59_0 : ins 59 0 = some (.aload_n 0, 0, 0, 0, 0) := by decide +kernel
theorem i59_1 : ins 59 1 = some (.getfield 26, 43, 7, 3, 3) := by decide +kernel
theorem i59_4 : ins 59 4 = some (.aload_n 0, 0, 0, 0, 0) := by decide +kernel
theorem i59_5 : ins 59 5 = some (.getfield 10, 44, 7, 0, 3) := by decide +kernel
theorem i59_8 : ins 59 8 = some (.invokevirtual 61, 40, 0, 0, 0) := by decide +kernel
theorem i59_11 : ins 59 11 = some (.aload_n 0, 0, 0, 0, 0) := by decide +kernel
theorem i59_12 : ins 59 12 = some (.aload_n 0, 0, 0, 0, 0) := by decide +kernel
theorem i59_13 : ins 59 13 = some (.iload_n 1, 0, 0, 0, 0) := by decide +kernel
theorem i59_14 : ins 59 14 = some (.iload_n 2, 0, 0, 0, 0) := by decide +kernel
theorem i59_15 : ins 59 15 = some (.invokevirtual 121, 48, 92, 0, 0) := by decide +kernel
theorem i59_18 : ins 59 18 = some (.invokevirtual 69, 42, 85, 0, 0) := by decide +kernel
theorem i59_21 : ins 59 21 = some (.ireturn, 0, 0, 0, 0) := by decide +kernel
theorem c60 : 60 < mnames ∧ nA 60 = 1 ∧ nS 60 = 0 := by decide +kernel
theorem m60 : (60 ≠ ensK ∧ 60 < mnames) ∧ nA 60 = 1 ∧ nL 60 = 1 := by decide +kernel
theorem r60 : nR 60 = (some .int) := by decide +kernel
theorem i60_0 : ins 60 0 = some (.aload_n 0, 0, 0, 0, 0) := by decide +kernel
theorem i60_1 : ins 60 1 = some (.getfield 26, 43, 7, 3, 3) := by decide +kernel
theorem i60_4 : ins 60 4 = some (.aload_n 0, 0, 0, 0, 0) := by decide +kernel
theorem i60_5 : ins 60 5 = some (.getfield 10, 44, 7, 0, 3) := by decide +kernel
theorem i60_8 : ins 60 8 = some (.invokevirtual 61, 40, 0, 0, 0) := by decide +kernel
theorem i60_11 : ins 60 11 = some (.aload_n 0, 0, 0, 0, 0) := by decide +kernel
theorem i60_12 : ins 60 12 = some (.aload_n 0, 0, 0, 0, 0) := by decide +kernel
theorem i60_13 : ins 60 13 = some (.invokevirtual 124, 49, 93, 0, 0) := by decide +kernel
theorem i60_16 : ins 60 16 = some (.invokevirtual 69, 42, 85, 0, 0) := by decide +kernel
theorem i60_19 : ins 60 19 = some (.ireturn, 0, 0, 0, 0) := by decide +kernel
theorem c61 : 61 < mnames ∧ nA 61 = 2 ∧ nS 61 = 0 := by decide +kernel
theorem m61 : (61 ≠ ensK ∧ 61 < mnames) ∧ nA 61 = 2 ∧ nL 61 = 2 := by decide +kernel
theorem r61 : nR 61 = (some .int) := by decide +kernel
theorem i61_0 : ins 61 0 = some (.iload_n 1, 0, 0, 0, 0) := by decide +kernel
theorem i61_1 : ins 61 1 = some (.invokestatic 128, 50, 99, 1, 0) := by decide +kernel
theorem i61_4 : ins 61 4 = some (.ifCond .ne 7, 0, 0, 0, 0) := by decide +kernel
theorem g61_4 : tg 4 (7) = 11 := by decide
theorem i61_7 : ins 61 7 = some (.sipush (-1011), 0, 0, 0, 0) := by decide +kernel
theorem i61_10 : ins 61 10 = some (.ireturn, 0, 0, 0, 0) := by decide +kernel
theorem i61_11 : ins 61 11 = some (.aload_n 0, 0, 0, 0, 0) := by decide +kernel
theorem i61_12 : ins 61 12 = some (.getfield 47, 54, 7, 6, 3) := by decide +kernel
theorem i61_15 : ins 61 15 = some (.aload_n 0, 0, 0, 0, 0) := by decide +kernel
theorem i61_16 : ins 61 16 = some (.getfield 10, 44, 7, 0, 3) := by decide +kernel
theorem i61_19 : ins 61 19 = some (.invokevirtual 131, 51, 15, 0, 0) := by decide +kernel
theorem i61_22 : ins 61 22 = some (.aload_n 0, 0, 0, 0, 0) := by decide +kernel
theorem i61_23 : ins 61 23 = some (.getfield 47, 54, 7, 6, 3) := by decide +kernel
theorem i61_26 : ins 61 26 = some (.getfield 134, 55, 4, 0, 3) := by decide +kernel
theorem i61_29 : ins 61 29 = some (.iload_n 1, 0, 0, 0, 0) := by decide +kernel
theorem i61_30 : ins 61 30 = some (.iaload, 0, 0, 0, 0) := by decide +kernel
theorem i61_31 : ins 61 31 = some (.ireturn, 0, 0, 0, 0) := by decide +kernel
theorem c62 : 62 < mnames ∧ nA 62 = 2 ∧ nS 62 = 0 := by decide +kernel
theorem m62 : (62 ≠ ensK ∧ 62 < mnames) ∧ nA 62 = 2 ∧ nL 62 = 2 := by decide +kernel
theorem r62 : nR 62 = (some .int) := by decide +kernel
theorem i62_0 : ins 62 0 = some (.iload_n 1, 0, 0, 0, 0) := by decide +kernel
theorem i62_1 : ins 62 1 = some (.invokestatic 128, 50, 99, 1, 0) := by decide +kernel
theorem i62_4 : ins 62 4 = some (.ifCond .ne 7, 0, 0, 0, 0) := by decide +kernel
theorem g62_4 : tg 4 (7) = 11 := by decide
theorem i62_7 : ins 62 7 = some (.sipush (-1011), 0, 0, 0, 0) := by decide +kernel
theorem i62_10 : ins 62 10 = some (.ireturn, 0, 0, 0, 0) := by decide +kernel
theorem i62_11 : ins 62 11 = some (.aload_n 0, 0, 0, 0, 0) := by decide +kernel
theorem i62_12 : ins 62 12 = some (.getfield 47, 54, 7, 6, 3) := by decide +kernel
theorem i62_15 : ins 62 15 = some (.aload_n 0, 0, 0, 0, 0) := by decide +kernel
theorem i62_16 : ins 62 16 = some (.getfield 10, 44, 7, 0, 3) := by decide +kernel
theorem i62_19 : ins 62 19 = some (.invokevirtual 137, 52, 17, 0, 0) := by decide +kernel
theorem i62_22 : ins 62 22 = some (.aload_n 0, 0, 0, 0, 0) := by decide +kernel
theorem i62_23 : ins 62 23 = some (.getfield 47, 54, 7, 6, 3) := by decide +kernel
theorem i62_26 : ins 62 26 = some (.getfield 140, 56, 4, 1, 3) := by decide +kernel
theorem i62_29 : ins 62 29 = some (.iload_n 1, 0, 0, 0, 0) := by decide +kernel
theorem i62_30 : ins 62 30 = some (.iaload, 0, 0, 0, 0) := by decide +kernel
theorem i62_31 : ins 62 31 = some (.ireturn, 0, 0, 0, 0) := by decide +kernel
theorem c63 : 63 < mnames ∧ nA 63 = 4 ∧ nS 63 = 0 := by decide +kernel
theorem m63 : (63 ≠ ensK ∧ 63 < mnames) ∧ nA 63 = 4 ∧ nL 63 = 4 := by decide +kernel
theorem r63 : nR 63 = (some .int) := by decide +kernel
theorem i63_0 : ins 63 0 = some (.aload_n 0, 0, 0, 0, 0) := by decide +kernel
theorem i63_1 : ins 63 1 = some (.getfield 26, 43, 7, 3, 3) := by decide +kernel
theorem i63_4 : ins 63 4 = some (.aload_n 0, 0, 0, 0, 0) := by decide +kernel
theorem i63_5 : ins 63 5 = some (.getfield 10, 44, 7, 0, 3) := by decide +kernel
theorem i63_8 : ins 63 8 = some (.invokevirtual 61, 40, 0, 0, 0) := by decide +kernel
theorem i63_11 : ins 63 11 = some (.aload_n 0, 0, 0, 0, 0) := by decide +kernel
theorem i63_12 : ins 63 12 = some (.aload_n 0, 0, 0, 0, 0) := by decide +kernel
theorem i63_13 : ins 63 13 = some (.iload_n 1, 0, 0, 0, 0) := by decide +kernel
theorem i63_14 : ins 63 14 = some (.iload_n 2, 0, 0, 0, 0) := by decide +kernel
theorem i63_15 : ins 63 15 = some (.iload_n 3, 0, 0, 0, 0) := by decide +kernel
theorem i63_16 : ins 63 16 = some (.invokevirtual 143, 53, 87, 0, 0) := by decide +kernel
theorem i63_19 : ins 63 19 = some (.invokevirtual 69, 42, 85, 0, 0) := by decide +kernel
theorem i63_22 : ins 63 22 = some (.ireturn, 0, 0, 0, 0) := by decide +kernel
theorem c64 : 64 < mnames ∧ nA 64 = 3 ∧ nS 64 = 0 := by decide +kernel
theorem m64 : (64 ≠ ensK ∧ 64 < mnames) ∧ nA 64 = 3 ∧ nL 64 = 3 := by decide +kernel
theorem r64 : nR 64 = (some .int) := by decide +kernel
theorem i64_0 : ins 64 0 = some (.aload_n 0, 0, 0, 0, 0) := by decide +kernel
theorem i64_1 : ins 64 1 = some (.getfield 26, 43, 7, 3, 3) := by decide +kernel
theorem i64_4 : ins 64 4 = some (.aload_n 0, 0, 0, 0, 0) := by decide +kernel
theorem i64_5 : ins 64 5 = some (.getfield 10, 44, 7, 0, 3) := by decide +kernel
theorem i64_8 : ins 64 8 = some (.invokevirtual 61, 40, 0, 0, 0) := by decide +kernel
theorem i64_11 : ins 64 11 = some (.aload_n 0, 0, 0, 0, 0) := by decide +kernel
theorem i64_12 : ins 64 12 = some (.aload_n 0, 0, 0, 0, 0) := by decide +kernel
theorem i64_13 : ins 64 13 = some (.iload_n 1, 0, 0, 0, 0) := by decide +kernel
theorem i64_14 : ins 64 14 = some (.iload_n 2, 0, 0, 0, 0) := by decide +kernel
theorem i64_15 : ins 64 15 = some (.invokevirtual 146, 54, 94, 0, 0) := by decide +kernel
theorem i64_18 : ins 64 18 = some (.invokevirtual 69, 42, 85, 0, 0) := by decide +kernel
theorem i64_21 : ins 64 21 = some (.ireturn, 0, 0, 0, 0) := by decide +kernel
theorem c65 : 65 < mnames ∧ nA 65 = 2 ∧ nS 65 = 0 := by decide +kernel
theorem m65 : (65 ≠ ensK ∧ 65 < mnames) ∧ nA 65 = 2 ∧ nL 65 = 2 := by decide +kernel
theorem r65 : nR 65 = (some .int) := by decide +kernel
theorem i65_0 : ins 65 0 = some (.aload_n 0, 0, 0, 0, 0) := by decide +kernel
theorem i65_1 : ins 65 1 = some (.getfield 26, 43, 7, 3, 3) := by decide +kernel
theorem i65_4 : ins 65 4 = some (.aload_n 0, 0, 0, 0, 0) := by decide +kernel
theorem i65_5 : ins 65 5 = some (.getfield 10, 44, 7, 0, 3) := by decide +kernel
theorem i65_8 : ins 65 8 = some (.invokevirtual 61, 40, 0, 0, 0) := by decide +kernel
theorem i65_11 : ins 65 11 = some (.aload_n 0, 0, 0, 0, 0) := by decide +kernel
theorem i65_12 : ins 65 12 = some (.aload_n 0, 0, 0, 0, 0) := by decide +kernel
theorem i65_13 : ins 65 13 = some (.iload_n 1, 0, 0, 0, 0) := by decide +kernel
theorem i65_14 : ins 65 14 = some (.invokevirtual 149, 55, 95, 0, 0) := by decide +kernel
theorem i65_17 : ins 65 17 = some (.invokevirtual 69, 42, 85, 0, 0) := by decide +kernel
theorem i65_20 : ins 65 20 = some (.ireturn, 0, 0, 0, 0) := by decide +kernel
theorem c66 : 66 < mnames ∧ nA 66 = 2 ∧ nS 66 = 0 := by decide +kernel
theorem m66 : (66 ≠ ensK ∧ 66 < mnames) ∧ nA 66 = 2 ∧ nL 66 = 2 := by decide +kernel
theorem r66 : nR 66 = (some .int) := by decide +kernel
theorem i66_0 : ins 66 0 = some (.aload_n 0, 0, 0, 0, 0) := by decide +kernel
theorem i66_1 : ins 66 1 = some (.getfield 26, 43, 7, 3, 3) := by decide +kernel
theorem i66_4 : ins 66 4 = some (.aload_n 0, 0, 0, 0, 0) := by decide +kernel
theorem i66_5 : ins 66 5 = some (.getfield 10, 44, 7, 0, 3) := by decide +kernel
theorem i66_8 : ins 66 8 = some (.invokevirtual 61, 40, 0, 0, 0) := by decide +kernel
theorem i66_11 : ins 66 11 = some (.aload_n 0, 0, 0, 0, 0) := by decide +kernel
theorem i66_12 : ins 66 12 = some (.aload_n 0, 0, 0, 0, 0) := by decide +kernel
theorem i66_13 : ins 66 13 = some (.iload_n 1, 0, 0, 0, 0) := by decide +kernel
theorem i66_14 : ins 66 14 = some (.invokevirtual 152, 56, 96, 0, 0) := by decide +kernel
theorem i66_17 : ins 66 17 = some (.invokevirtual 69, 42, 85, 0, 0) := by decide +kernel
theorem i66_20 : ins 66 20 = some (.ireturn, 0, 0, 0, 0) := by decide +kernel
theorem c67 : 67 < mnames ∧ nA 67 = 3 ∧ nS 67 = 0 := by decide +kernel
theorem m67 : (67 ≠ ensK ∧ 67 < mnames) ∧ nA 67 = 3 ∧ nL 67 = 3 := by decide +kernel
theorem r67 : nR 67 = (some .int) := by decide +kernel
theorem i67_0 : ins 67 0 = some (.iload_n 1, 0, 0, 0, 0) := by decide +kernel
theorem i67_1 : ins 67 1 = some (.invokestatic 128, 50, 99, 1, 0) := by decide +kernel
theorem i67_4 : ins 67 4 = some (.ifCond .ne 7, 0, 0, 0, 0) := by decide +kernel
theorem g67_4 : tg 4 (7) = 11 := by decide
theorem i67_7 : ins 67 7 = some (.sipush (-1011), 0, 0, 0, 0) := by decide +kernel
theorem i67_10 : ins 67 10 = some (.ireturn, 0, 0, 0, 0) := by decide +kernel
theorem i67_11 : ins 67 11 = some (.iload_n 2, 0, 0, 0, 0) := by decide +kernel
theorem i67_12 : ins 67 12 = some (.tableswitch 141 0 7 #[48, 66, 76, 86, 96, 105, 117, 129], 0, 0, 0, 0) := by decide +kernel
theorem i67_60 : ins 67 60 = some (.aload_n 0, 0, 0, 0, 0) := by decide +kernel
theorem i67_61 : ins 67 61 = some (.getfield 10, 44, 7, 0, 3) := by decide +kernel
theorem i67_64 : ins 67 64 = some (.getfield 155, 57, 5, 1, 3) := by decide +kernel
theorem i67_67 : ins 67 67 = some (.iload_n 1, 0, 0, 0, 0) := by decide +kernel
theorem i67_68 : ins 67 68 = some (.baload, 0, 0, 0, 0) := by decide +kernel
theorem i67_69 : ins 67 69 = some (.ifCond .eq 7, 0, 0, 0, 0) := by decide +kernel
theorem g67_69 : tg 69 (7) = 76 := by decide
theorem i67_72 : ins 67 72 = some (.iconst 1, 0, 0, 0, 0) := by decide +kernel
theorem i67_73 : ins 67 73 = some (.goto 4, 0, 0, 0, 0) := by decide +kernel
theorem g67_73 : tg 73 (4) = 77 := by decide
theorem i67_76 : ins 67 76 = some (.iconst 0, 0, 0, 0, 0) := by decide +kernel
theorem i67_77 : ins 67 77 = some (.ireturn, 0, 0, 0, 0) := by decide +kernel
theorem i67_78 : ins 67 78 = some (.aload_n 0, 0, 0, 0, 0) := by decide +kernel
theorem i67_79 : ins 67 79 = some (.getfield 10, 44, 7, 0, 3) := by decide +kernel
theorem i67_82 : ins 67 82 = some (.getfield 159, 58, 5, 2, 3) := by decide +kernel
theorem i67_85 : ins 67 85 = some (.iload_n 1, 0, 0, 0, 0) := by decide +kernel
theorem i67_86 : ins 67 86 = some (.iaload, 0, 0, 0, 0) := by decide +kernel
theorem i67_87 : ins 67 87 = some (.ireturn, 0, 0, 0, 0) := by decide +kernel
theorem i67_88 : ins 67 88 = some (.aload_n 0, 0, 0, 0, 0) := by decide +kernel
theorem i67_89 : ins 67 89 = some (.getfield 10, 44, 7, 0, 3) := by decide +kernel
theorem i67_92 : ins 67 92 = some (.getfield 162, 59, 5, 3, 3) := by decide +kernel
theorem i67_95 : ins 67 95 = some (.iload_n 1, 0, 0, 0, 0) := by decide +kernel
theorem i67_96 : ins 67 96 = some (.iaload, 0, 0, 0, 0) := by decide +kernel
theorem i67_97 : ins 67 97 = some (.ireturn, 0, 0, 0, 0) := by decide +kernel
theorem i67_98 : ins 67 98 = some (.aload_n 0, 0, 0, 0, 0) := by decide +kernel
theorem i67_99 : ins 67 99 = some (.getfield 10, 44, 7, 0, 3) := by decide +kernel
theorem i67_102 : ins 67 102 = some (.getfield 165, 60, 5, 4, 3) := by decide +kernel
theorem i67_105 : ins 67 105 = some (.iload_n 1, 0, 0, 0, 0) := by decide +kernel
theorem i67_106 : ins 67 106 = some (.iaload, 0, 0, 0, 0) := by decide +kernel
theorem i67_107 : ins 67 107 = some (.ireturn, 0, 0, 0, 0) := by decide +kernel
theorem i67_108 : ins 67 108 = some (.aload_n 0, 0, 0, 0, 0) := by decide +kernel
theorem i67_109 : ins 67 109 = some (.getfield 10, 44, 7, 0, 3) := by decide +kernel
theorem i67_112 : ins 67 112 = some (.iload_n 1, 0, 0, 0, 0) := by decide +kernel
theorem i67_113 : ins 67 113 = some (.invokevirtual 168, 57, 21, 0, 0) := by decide +kernel
theorem i67_116 : ins 67 116 = some (.ireturn, 0, 0, 0, 0) := by decide +kernel
theorem i67_117 : ins 67 117 = some (.aload_n 0, 0, 0, 0, 0) := by decide +kernel
theorem i67_118 : ins 67 118 = some (.getfield 10, 44, 7, 0, 3) := by decide +kernel
theorem i67_121 : ins 67 121 = some (.getfield 87, 45, 5, 0, 3) := by decide +kernel
theorem i67_124 : ins 67 124 = some (.iload_n 1, 0, 0, 0, 0) := by decide +kernel
theorem i67_125 : ins 67 125 = some (.invokevirtual 171, 58, 42, 0, 0) := by decide +kernel
theorem i67_128 : ins 67 128 = some (.ireturn, 0, 0, 0, 0) := by decide +kernel
theorem i67_129 : ins 67 129 = some (.aload_n 0, 0, 0, 0, 0) := by decide +kernel
theorem i67_130 : ins 67 130 = some (.getfield 10, 44, 7, 0, 3) := by decide +kernel
theorem i67_133 : ins 67 133 = some (.getfield 87, 45, 5, 0, 3) := by decide +kernel
theorem i67_136 : ins 67 136 = some (.iload_n 1, 0, 0, 0, 0) := by decide +kernel
theorem i67_137 : ins 67 137 = some (.invokevirtual 174, 59, 46, 0, 0) := by decide +kernel
theorem i67_140 : ins 67 140 = some (.ireturn, 0, 0, 0, 0) := by decide +kernel
theorem i67_141 : ins 67 141 = some (.aload_n 0, 0, 0, 0, 0) := by decide +kernel
theorem i67_142 : ins 67 142 = some (.getfield 10, 44, 7, 0, 3) := by decide +kernel
theorem i67_145 : ins 67 145 = some (.getfield 87, 45, 5, 0, 3) := by decide +kernel
theorem i67_148 : ins 67 148 = some (.iload_n 1, 0, 0, 0, 0) := by decide +kernel
theorem i67_149 : ins 67 149 = some (.invokevirtual 177, 60, 48, 0, 0) := by decide +kernel
theorem i67_152 : ins 67 152 = some (.ireturn, 0, 0, 0, 0) := by decide +kernel
theorem i67_153 : ins 67 153 = some (.sipush (-1012), 0, 0, 0, 0) := by decide +kernel
theorem i67_156 : ins 67 156 = some (.ireturn, 0, 0, 0, 0) := by decide +kernel
theorem c68 : 68 < mnames ∧ nA 68 = 2 ∧ nS 68 = 0 := by decide +kernel
theorem m68 : (68 ≠ ensK ∧ 68 < mnames) ∧ nA 68 = 2 ∧ nL 68 = 2 := by decide +kernel
theorem r68 : nR 68 = (some .int) := by decide +kernel
theorem i68_0 : ins 68 0 = some (.iload_n 1, 0, 0, 0, 0) := by decide +kernel
theorem i68_1 : ins 68 1 = some (.invokestatic 128, 50, 99, 1, 0) := by decide +kernel
theorem i68_4 : ins 68 4 = some (.ifCond .ne 7, 0, 0, 0, 0) := by decide +kernel
theorem g68_4 : tg 4 (7) = 11 := by decide
theorem i68_7 : ins 68 7 = some (.sipush (-1011), 0, 0, 0, 0) := by decide +kernel
theorem i68_10 : ins 68 10 = some (.ireturn, 0, 0, 0, 0) := by decide +kernel
theorem i68_11 : ins 68 11 = some (.aload_n 0, 0, 0, 0, 0) := by decide +kernel
theorem i68_12 : ins 68 12 = some (.getfield 10, 44, 7, 0, 3) := by decide +kernel
theorem i68_15 : ins 68 15 = some (.iload_n 1, 0, 0, 0, 0) := by decide +kernel
theorem i68_16 : ins 68 16 = some (.invokevirtual 180, 61, 26, 0, 0) := by decide +kernel
theorem i68_19 : ins 68 19 = some (.invokestatic 106, 47, 101, 1, 0) := by decide +kernel
theorem i68_22 : ins 68 22 = some (.ireturn, 0, 0, 0, 0) := by decide +kernel
theorem c69 : 69 < mnames ∧ nA 69 = 2 ∧ nS 69 = 0 := by decide +kernel
theorem m69 : (69 ≠ ensK ∧ 69 < mnames) ∧ nA 69 = 2 ∧ nL 69 = 3 := by decide +kernel
theorem r69 : nR 69 = (some .int) := by decide +kernel
theorem i69_0 : ins 69 0 = some (.iload_n 1, 0, 0, 0, 0) := by decide +kernel
theorem i69_1 : ins 69 1 = some (.invokestatic 128, 50, 99, 1, 0) := by decide +kernel
theorem i69_4 : ins 69 4 = some (.ifCond .ne 7, 0, 0, 0, 0) := by decide +kernel
theorem g69_4 : tg 4 (7) = 11 := by decide
theorem i69_7 : ins 69 7 = some (.sipush (-1011), 0, 0, 0, 0) := by decide +kernel
theorem i69_10 : ins 69 10 = some (.ireturn, 0, 0, 0, 0) := by decide +kernel
theorem i69_11 : ins 69 11 = some (.aload_n 0, 0, 0, 0, 0) := by decide +kernel
theorem i69_12 : ins 69 12 = some (.getfield 10, 44, 7, 0, 3) := by decide +kernel
theorem i69_15 : ins 69 15 = some (.iload_n 1, 0, 0, 0, 0) := by decide +kernel
theorem i69_16 : ins 69 16 = some (.invokevirtual 180, 61, 26, 0, 0) := by decide +kernel
theorem i69_19 : ins 69 19 = some (.istore_n 2, 0, 0, 0, 0) := by decide +kernel
theorem i69_20 : ins 69 20 = some (.iload_n 2, 0, 0, 0, 0) := by decide +kernel
theorem i69_21 : ins 69 21 = some (.iconst (-1), 0, 0, 0, 0) := by decide +kernel
theorem i69_22 : ins 69 22 = some (.if_icmp .ne 9, 0, 0, 0, 0) := by decide +kernel
theorem g69_22 : tg 22 (9) = 31 := by decide
theorem i69_25 : ins 69 25 = some (.sipush (-1015), 0, 0, 0, 0) := by decide +kernel
theorem i69_28 : ins 69 28 = some (.goto 15, 0, 0, 0, 0) := by decide +kernel
theorem g69_28 : tg 28 (15) = 43 := by decide
theorem i69_31 : ins 69 31 = some (.aload_n 0, 0, 0, 0, 0) := by decide +kernel
theorem i69_32 : ins 69 32 = some (.getfield 10, 44, 7, 0, 3) := by decide +kernel
theorem i69_35 : ins 69 35 = some (.getfield 87, 45, 5, 0, 3) := by decide +kernel
theorem i69_38 : ins 69 38 = some (.iload_n 1, 0, 0, 0, 0) := by decide +kernel
theorem i69_39 : ins 69 39 = some (.iload_n 2, 0, 0, 0, 0) := by decide +kernel
theorem i69_40 : ins 69 40 = some (.invokevirtual 183, 62, 45, 0, 0) := by decide +kernel
theorem i69_43 : ins 69 43 = some (.ireturn, 0, 0, 0, 0) := by decide +kernel
theorem c70 : 70 < mnames ∧ nA 70 = 2 ∧ nS 70 = 0 := by decide +kernel
theorem m70 : (70 ≠ ensK ∧ 70 < mnames) ∧ nA 70 = 2 ∧ nL 70 = 2 := by decide +kernel
theorem r70 : nR 70 = (some .int) := by decide +kernel
theorem i70_0 : ins 70 0 = some (.iload_n 1, 0, 0, 0, 0) := by decide +kernel
theorem i70_1 : ins 70 1 = some (.invokestatic 128, 50, 99, 1, 0) := by decide +kernel
theorem i70_4 : ins 70 4 = some (.ifCond .eq 17, 0, 0, 0, 0) := by decide +kernel
theorem g70_4 : tg 4 (17) = 21 := by decide
theorem i70_7 : ins 70 7 = some (.aload_n 0, 0, 0, 0, 0) := by decide +kernel
theorem i70_8 : ins 70 8 = some (.getfield 10, 44, 7, 0, 3) := by decide +kernel
theorem i70_11 : ins 70 11 = some (.getfield 87, 45, 5, 0, 3) := by decide +kernel
theorem i70_14 : ins 70 14 = some (.iload_n 1, 0, 0, 0, 0) := by decide +kernel
theorem i70_15 : ins 70 15 = some (.invokevirtual 186, 63, 43, 0, 0) := by decide +kernel
theorem i70_18 : ins 70 18 = some (.goto 6, 0, 0, 0, 0) := by decide +kernel
theorem g70_18 : tg 18 (6) = 24 := by decide
theorem i70_21 : ins 70 21 = some (.sipush (-1011), 0, 0, 0, 0) := by decide +kernel
theorem i70_24 : ins 70 24 = some (.ireturn, 0, 0, 0, 0) := by decide +kernel
theorem c71 : 71 < mnames ∧ nA 71 = 2 ∧ nS 71 = 0 := by decide +kernel
theorem m71 : (71 ≠ ensK ∧ 71 < mnames) ∧ nA 71 = 2 ∧ nL 71 = 2 := by decide +kernel
theorem r71 : nR 71 = (some .int) := by decide +kernel
theorem i71_0 : ins 71 0 = some (.iload_n 1, 0, 0, 0, 0) := by decide +kernel
theorem i71_1 : ins 71 1 = some (.invokestatic 128, 50, 99, 1, 0) := by decide +kernel
theorem i71_4 : ins 71 4 = some (.ifCond .eq 17, 0, 0, 0, 0) := by decide +kernel
theorem g71_4 : tg 4 (17) = 21 := by decide
theorem i71_7 : ins 71 7 = some (.aload_n 0, 0, 0, 0, 0) := by decide +kernel
theorem i71_8 : ins 71 8 = some (.getfield 10, 44, 7, 0, 3) := by decide +kernel
theorem i71_11 : ins 71 11 = some (.getfield 87, 45, 5, 0, 3) := by decide +kernel
theorem i71_14 : ins 71 14 = some (.iload_n 1, 0, 0, 0, 0) := by decide +kernel
theorem i71_15 : ins 71 15 = some (.invokevirtual 189, 64, 44, 0, 0) := by decide +kernel
theorem i71_18 : ins 71 18 = some (.goto 6, 0, 0, 0, 0) := by decide +kernel
theorem g71_18 : tg 18 (6) = 24 := by decide
theorem i71_21 : ins 71 21 = some (.sipush (-1011), 0, 0, 0, 0) := by decide +kernel
theorem i71_24 : ins 71 24 = some (.ireturn, 0, 0, 0, 0) := by decide +kernel
theorem c72 : 72 < mnames ∧ nA 72 = 2 ∧ nS 72 = 0 := by decide +kernel
theorem m72 : (72 ≠ ensK ∧ 72 < mnames) ∧ nA 72 = 2 ∧ nL 72 = 3 := by decide +kernel
theorem r72 : nR 72 = (some .int) := by decide +kernel
theorem i72_0 : ins 72 0 = some (.iconst 0, 0, 0, 0, 0) := by decide +kernel
theorem i72_1 : ins 72 1 = some (.istore_n 2, 0, 0, 0, 0) := by decide +kernel
theorem i72_2 : ins 72 2 = some (.iload_n 2, 0, 0, 0, 0) := by decide +kernel
theorem i72_3 : ins 72 3 = some (.bipush 6, 0, 0, 0, 0) := by decide +kernel
theorem i72_5 : ins 72 5 = some (.if_icmp .ge 23, 0, 0, 0, 0) := by decide +kernel
theorem g72_5 : tg 5 (23) = 28 := by decide
theorem i72_8 : ins 72 8 = some (.aload_n 0, 0, 0, 0, 0) := by decide +kernel
theorem i72_9 : ins 72 9 = some (.getfield 10, 44, 7, 0, 3) := by decide +kernel
theorem i72_12 : ins 72 12 = some (.iload_n 2, 0, 0, 0, 0) := by decide +kernel
theorem i72_13 : ins 72 13 = some (.invokevirtual 192, 65, 31, 0, 0) := by decide +kernel
theorem i72_16 : ins 72 16 = some (.iload_n 1, 0, 0, 0, 0) := by decide +kernel
theorem i72_17 : ins 72 17 = some (.if_icmp .ne 5, 0, 0, 0, 0) := by decide +kernel
theorem g72_17 : tg 17 (5) = 22 := by decide
theorem i72_20 : ins 72 20 = some (.iload_n 2, 0, 0, 0, 0) := by decide +kernel
theorem i72_21 : ins 72 21 = some (.ireturn, 0, 0, 0, 0) := by decide +kernel
theorem i72_22 : ins 72 22 = some (.iinc 2 1, 0, 0, 0, 0) := by decide +kernel
theorem i72_25 : ins 72 25 = some (.goto (-23), 0, 0, 0, 0) := by decide +kernel
theorem g72_25 : tg 25 (-23) = 2 := by decide
theorem i72_28 : ins 72 28 = some (.sipush (-1011), 0, 0, 0, 0) := by decide +kernel
theorem i72_31 : ins 72 31 = some (.ireturn, 0, 0, 0, 0) := by decide +kernel
theorem c73 : 73 < mnames ∧ nA 73 = 2 ∧ nS 73 = 0 := by decide +kernel
theorem m73 : (73 ≠ ensK ∧ 73 < mnames) ∧ nA 73 = 2 ∧ nL 73 = 3 := by decide +kernel
theorem r73 : nR 73 = (some .int) := by decide +kernel
theorem i73_0 : ins 73 0 = some (.iconst 0, 0, 0, 0, 0) := by decide +kernel
theorem i73_1 : ins 73 1 = some (.istore_n 2, 0, 0, 0, 0) := by decide +kernel
theorem i73_2 : ins 73 2 = some (.iload_n 2, 0, 0, 0, 0) := by decide +kernel
theorem i73_3 : ins 73 3 = some (.aload_n 0, 0, 0, 0, 0) := by decide +kernel
theorem i73_4 : ins 73 4 = some (.getfield 10, 44, 7, 0, 3) := by decide +kernel
theorem i73_7 : ins 73 7 = some (.getfield 87, 45, 5, 0, 3) := by decide +kernel
theorem i73_10 : ins 73 10 = some (.getfield 195, 61, 6, 8, 0) := by decide +kernel
theorem i73_13 : ins 73 13 = some (.if_icmp .ge 26, 0, 0, 0, 0) := by decide +kernel
theorem g73_13 : tg 13 (26) = 39 := by decide
theorem i73_16 : ins 73 16 = some (.aload_n 0, 0, 0, 0, 0) := by decide +kernel
theorem i73_17 : ins 73 17 = some (.getfield 10, 44, 7, 0, 3) := by decide +kernel
theorem i73_20 : ins 73 20 = some (.getfield 87, 45, 5, 0, 3) := by decide +kernel
theorem i73_23 : ins 73 23 = some (.iload_n 2, 0, 0, 0, 0) := by decide +kernel
theorem i73_24 : ins 73 24 = some (.invokevirtual 199, 66, 52, 0, 0) := by decide +kernel
theorem i73_27 : ins 73 27 = some (.iload_n 1, 0, 0, 0, 0) := by decide +kernel
theorem i73_28 : ins 73 28 = some (.if_icmp .ne 5, 0, 0, 0, 0) := by decide +kernel
theorem g73_28 : tg 28 (5) = 33 := by decide
theorem i73_31 : ins 73 31 = some (.iload_n 2, 0, 0, 0, 0) := by decide +kernel
theorem i73_32 : ins 73 32 = some (.ireturn, 0, 0, 0, 0) := by decide +kernel
theorem i73_33 : ins 73 33 = some (.iinc 2 1, 0, 0, 0, 0) := by decide +kernel
theorem i73_36 : ins 73 36 = some (.goto (-34), 0, 0, 0, 0) := by decide +kernel
theorem g73_36 : tg 36 (-34) = 2 := by decide
theorem i73_39 : ins 73 39 = some (.sipush (-1011), 0, 0, 0, 0) := by decide +kernel
theorem i73_42 : ins 73 42 = some (.ireturn, 0, 0, 0, 0) := by decide +kernel
theorem c75 : 75 < mnames ∧ nA 75 = 1 ∧ nS 75 = 0 := by decide +kernel
theorem m75 : (75 ≠ ensK ∧ 75 < mnames) ∧ nA 75 = 1 ∧ nL 75 = 4 := by decide +kernel
theorem r75 : nR 75 = (some .int) := by decide +kernel
theorem i75_0 : ins 75 0 = some (.aload_n 0, 0, 0, 0, 0) := by decide +kernel
theorem i75_1 : ins 75 1 = some (.getfield 40, 62, 7, 5, 3) := by decide +kernel
theorem i75_4 : ins 75 4 = some (.aload_n 0, 0, 0, 0, 0) := by decide +kernel
theorem i75_5 : ins 75 5 = some (.getfield 54, 63, 7, 7, 3) := by decide +kernel
theorem i75_8 : ins 75 8 = some (.invokevirtual 213, 67, 5, 0, 0) := by decide +kernel
theorem i75_11 : ins 75 11 = some (.istore_n 1, 0, 0, 0, 0) := by decide +kernel
theorem i75_12 : ins 75 12 = some (.aload_n 0, 0, 0, 0, 0) := by decide +kernel
theorem i75_13 : ins 75 13 = some (.getfield 54, 63, 7, 7, 3) := by decide +kernel
theorem i75_16 : ins 75 16 = some (.iconst 0, 0, 0, 0, 0) := by decide +kernel
theorem i75_17 : ins 75 17 = some (.invokevirtual 217, 68, 192, 0, 0) := by decide +kernel
theorem i75_20 : ins 75 20 = some (.iload_n 1, 0, 0, 0, 0) := by decide +kernel
theorem i75_21 : ins 75 21 = some (.iconst (-1), 0, 0, 0, 0) := by decide +kernel
theorem i75_22 : ins 75 22 = some (.if_icmp .eq 9, 0, 0, 0, 0) := by decide +kernel
theorem g75_22 : tg 22 (9) = 31 := by decide
theorem i75_25 : ins 75 25 = some (.sipush (-2000), 0, 0, 0, 0) := by decide +kernel
theorem i75_28 : ins 75 28 = some (.iload_n 1, 0, 0, 0, 0) := by decide +kernel
theorem i75_29 : ins 75 29 = some (.isub, 0, 0, 0, 0) := by decide +kernel
theorem i75_30 : ins 75 30 = some (.ireturn, 0, 0, 0, 0) := by decide +kernel
theorem i75_31 : ins 75 31 = some (.aload_n 0, 0, 0, 0, 0) := by decide +kernel
theorem i75_32 : ins 75 32 = some (.getfield 26, 43, 7, 3, 3) := by decide +kernel
theorem i75_35 : ins 75 35 = some (.aload_n 0, 0, 0, 0, 0) := by decide +kernel
theorem i75_36 : ins 75 36 = some (.getfield 10, 44, 7, 0, 3) := by decide +kernel
theorem i75_39 : ins 75 39 = some (.invokevirtual 61, 40, 0, 0, 0) := by decide +kernel
theorem i75_42 : ins 75 42 = some (.iconst 0, 0, 0, 0, 0) := by decide +kernel
theorem i75_43 : ins 75 43 = some (.istore_n 2, 0, 0, 0, 0) := by decide +kernel
theorem i75_44 : ins 75 44 = some (.iload_n 2, 0, 0, 0, 0) := by decide +kernel
theorem i75_45 : ins 75 45 = some (.aload_n 0, 0, 0, 0, 0) := by decide +kernel
theorem i75_46 : ins 75 46 = some (.getfield 40, 62, 7, 5, 3) := by decide +kernel
theorem i75_49 : ins 75 49 = some (.getfield 221, 64, 2, 4, 0) := by decide +kernel
theorem i75_52 : ins 75 52 = some (.if_icmp .ge 37, 0, 0, 0, 0) := by decide +kernel
theorem g75_52 : tg 52 (37) = 89 := by decide
theorem i75_55 : ins 75 55 = some (.aload_n 0, 0, 0, 0, 0) := by decide +kernel
theorem i75_56 : ins 75 56 = some (.iload_n 2, 0, 0, 0, 0) := by decide +kernel
theorem i75_57 : ins 75 57 = some (.invokevirtual 222, 69, 97, 0, 0) := by decide +kernel
theorem i75_60 : ins 75 60 = some (.istore_n 3, 0, 0, 0, 0) := by decide +kernel
theorem i75_61 : ins 75 61 = some (.iload_n 3, 0, 0, 0, 0) := by decide +kernel
theorem i75_62 : ins 75 62 = some (.ifCond .ge 21, 0, 0, 0, 0) := by decide +kernel
theorem g75_62 : tg 62 (21) = 83 := by decide
theorem i75_65 : ins 75 65 = some (.aload_n 0, 0, 0, 0, 0) := by decide +kernel
theorem i75_66 : ins 75 66 = some (.getfield 26, 43, 7, 3, 3) := by decide +kernel
theorem i75_69 : ins 75 69 = some (.aload_n 0, 0, 0, 0, 0) := by decide +kernel
theorem i75_70 : ins 75 70 = some (.getfield 10, 44, 7, 0, 3) := by decide +kernel
theorem i75_73 : ins 75 73 = some (.invokevirtual 225, 70, 1, 0, 0) := by decide +kernel
theorem i75_76 : ins 75 76 = some (.aload_n 0, 0, 0, 0, 0) := by decide +kernel
theorem i75_77 : ins 75 77 = some (.iload_n 2, 0, 0, 0, 0) := by decide +kernel
theorem i75_78 : ins 75 78 = some (.iload_n 3, 0, 0, 0, 0) := by decide +kernel
theorem i75_79 : ins 75 79 = some (.invokevirtual 228, 71, 103, 0, 0) := by decide +kernel
theorem i75_82 : ins 75 82 = some (.ireturn, 0, 0, 0, 0) := by decide +kernel
theorem i75_83 : ins 75 83 = some (.iinc 2 1, 0, 0, 0, 0) := by decide +kernel
theorem i75_86 : ins 75 86 = some (.goto (-42), 0, 0, 0, 0) := by decide +kernel
theorem g75_86 : tg 86 (-42) = 44 := by decide
theorem i75_89 : ins 75 89 = some (.aload_n 0, 0, 0, 0, 0) := by decide +kernel
theorem i75_90 : ins 75 90 = some (.aload_n 0, 0, 0, 0, 0) := by decide +kernel
theorem i75_91 : ins 75 91 = some (.getfield 40, 62, 7, 5, 3) := by decide +kernel
theorem i75_94 : ins 75 94 = some (.getfield 221, 64, 2, 4, 0) := by decide +kernel
theorem i75_97 : ins 75 97 = some (.invokevirtual 69, 42, 85, 0, 0) := by decide +kernel
theorem i75_100 : ins 75 100 = some (.ireturn, 0, 0, 0, 0) := by decide +kernel
theorem c76 : 76 < mnames ∧ nA 76 = 2 ∧ nS 76 = 0 := by decide +kernel
theorem m76 : (76 ≠ ensK ∧ 76 < mnames) ∧ nA 76 = 2 ∧ nL 76 = 3 := by decide +kernel
theorem r76 : nR 76 = (some .int) := by decide +kernel
theorem i76_0 : ins 76 0 = some (.aload_n 0, 0, 0, 0, 0) := by decide +kernel
theorem i76_1 : ins 76 1 = some (.iload_n 1, 0, 0, 0, 0) := by decide +kernel
theorem i76_2 : ins 76 2 = some (.invokevirtual 83, 46, 100, 0, 0) := by decide +kernel
theorem i76_5 : ins 76 5 = some (.ifCond .ne 7, 0, 0, 0, 0) := by decide +kernel
theorem g76_5 : tg 5 (7) = 12 := by decide
theorem i76_8 : ins 76 8 = some (.sipush (-1011), 0, 0, 0, 0) := by decide +kernel
theorem i76_11 : ins 76 11 = some (.ireturn, 0, 0, 0, 0) := by decide +kernel
theorem i76_12 : ins 76 12 = some (.aload_n 0, 0, 0, 0, 0) := by decide +kernel
theorem i76_13 : ins 76 13 = some (.getfield 10, 44, 7, 0, 3) := by decide +kernel
theorem i76_16 : ins 76 16 = some (.getfield 87, 45, 5, 0, 3) := by decide +kernel
theorem i76_19 : ins 76 19 = some (.astore_n 2, 0, 0, 0, 0) := by decide +kernel
theorem i76_20 : ins 76 20 = some (.aload_n 0, 0, 0, 0, 0) := by decide +kernel
theorem i76_21 : ins 76 21 = some (.getfield 58, 65, 7, 8, 3) := by decide +kernel
theorem i76_24 : ins 76 24 = some (.iconst 0, 0, 0, 0, 0) := by decide +kernel
theorem i76_25 : ins 76 25 = some (.invokevirtual 217, 68, 192, 0, 0) := by decide +kernel
theorem i76_28 : ins 76 28 = some (.aload_n 0, 0, 0, 0, 0) := by decide +kernel
theorem i76_29 : ins 76 29 = some (.getfield 58, 65, 7, 8, 3) := by decide +kernel
theorem i76_32 : ins 76 32 = some (.iload_n 1, 0, 0, 0, 0) := by decide +kernel
theorem i76_33 : ins 76 33 = some (.invokevirtual 231, 72, 190, 0, 0) := by decide +kernel
theorem i76_36 : ins 76 36 = some (.bipush 64, 0, 0, 0, 0) := by decide +kernel
theorem i76_38 : ins 76 38 = some (.invokevirtual 209, 73, 189, 0, 0) := by decide +kernel
theorem i76_41 : ins 76 41 = some (.aload_n 2, 0, 0, 0, 0) := by decide +kernel
theorem i76_42 : ins 76 42 = some (.getfield 91, 46, 6, 0, 3) := by decide +kernel
theorem i76_45 : ins 76 45 = some (.iload_n 1, 0, 0, 0, 0) := by decide +kernel
theorem i76_46 : ins 76 46 = some (.iaload, 0, 0, 0, 0) := by decide +kernel
theorem i76_47 : ins 76 47 = some (.invokevirtual 231, 72, 190, 0, 0) := by decide +kernel
theorem i76_50 : ins 76 50 = some (.pop, 0, 0, 0, 0) := by decide +kernel
theorem i76_51 : ins 76 51 = some (.aload_n 0, 0, 0, 0, 0) := by decide +kernel
theorem i76_52 : ins 76 52 = some (.getfield 58, 65, 7, 8, 3) := by decide +kernel
theorem i76_55 : ins 76 55 = some (.bipush 58, 0, 0, 0, 0) := by decide +kernel
theorem i76_57 : ins 76 57 = some (.invokevirtual 209, 73, 189, 0, 0) := by decide +kernel
theorem i76_60 : ins 76 60 = some (.aload_n 2, 0, 0, 0, 0) := by decide +kernel
theorem i76_61 : ins 76 61 = some (.getfield 97, 47, 6, 1, 3) := by decide +kernel
theorem i76_64 : ins 76 64 = some (.iload_n 1, 0, 0, 0, 0) := by decide +kernel
theorem i76_65 : ins 76 65 = some (.iaload, 0, 0, 0, 0) := by decide +kernel
theorem i76_66 : ins 76 66 = some (.invokevirtual 231, 72, 190, 0, 0) := by decide +kernel
theorem i76_69 : ins 76 69 = some (.pop, 0, 0, 0, 0) := by decide +kernel
theorem i76_70 : ins 76 70 = some (.aload_n 0, 0, 0, 0, 0) := by decide +kernel
theorem i76_71 : ins 76 71 = some (.getfield 58, 65, 7, 8, 3) := by decide +kernel
theorem i76_74 : ins 76 74 = some (.bipush 47, 0, 0, 0, 0) := by decide +kernel
theorem i76_76 : ins 76 76 = some (.invokevirtual 209, 73, 189, 0, 0) := by decide +kernel
theorem i76_79 : ins 76 79 = some (.aload_n 2, 0, 0, 0, 0) := by decide +kernel
theorem i76_80 : ins 76 80 = some (.getfield 100, 48, 6, 2, 3) := by decide +kernel
theorem i76_83 : ins 76 83 = some (.iload_n 1, 0, 0, 0, 0) := by decide +kernel
theorem i76_84 : ins 76 84 = some (.iaload, 0, 0, 0, 0) := by decide +kernel
theorem i76_85 : ins 76 85 = some (.invokevirtual 231, 72, 190, 0, 0) := by decide +kernel
theorem i76_88 : ins 76 88 = some (.pop, 0, 0, 0, 0) := by decide +kernel
theorem i76_89 : ins 76 89 = some (.aload_n 2, 0, 0, 0, 0) := by decide +kernel
theorem i76_90 : ins 76 90 = some (.getfield 103, 49, 6, 3, 3) := by decide +kernel
theorem i76_93 : ins 76 93 = some (.iload_n 1, 0, 0, 0, 0) := by decide +kernel
theorem i76_94 : ins 76 94 = some (.iaload, 0, 0, 0, 0) := by decide +kernel
theorem i76_95 : ins 76 95 = some (.iconst (-1), 0, 0, 0, 0) := by decide +kernel
theorem i76_96 : ins 76 96 = some (.if_icmp .eq 41, 0, 0, 0, 0) := by decide +kernel
theorem g76_96 : tg 96 (41) = 137 := by decide
theorem i76_99 : ins 76 99 = some (.aload_n 0, 0, 0, 0, 0) := by decide +kernel
theorem i76_100 : ins 76 100 = some (.getfield 58, 65, 7, 8, 3) := by decide +kernel
theorem i76_103 : ins 76 103 = some (.bipush 62, 0, 0, 0, 0) := by decide +kernel
theorem i76_105 : ins 76 105 = some (.invokevirtual 209, 73, 189, 0, 0) := by decide +kernel
theorem i76_108 : ins 76 108 = some (.aload_n 2, 0, 0, 0, 0) := by decide +kernel
theorem i76_109 : ins 76 109 = some (.getfield 103, 49, 6, 3, 3) := by decide +kernel
theorem i76_112 : ins 76 112 = some (.iload_n 1, 0, 0, 0, 0) := by decide +kernel
theorem i76_113 : ins 76 113 = some (.iaload, 0, 0, 0, 0) := by decide +kernel
theorem i76_114 : ins 76 114 = some (.invokevirtual 231, 72, 190, 0, 0) := by decide +kernel
theorem i76_117 : ins 76 117 = some (.pop, 0, 0, 0, 0) := by decide +kernel
theorem i76_118 : ins 76 118 = some (.aload_n 0, 0, 0, 0, 0) := by decide +kernel
theorem i76_119 : ins 76 119 = some (.getfield 58, 65, 7, 8, 3) := by decide +kernel
theorem i76_122 : ins 76 122 = some (.bipush 61, 0, 0, 0, 0) := by decide +kernel
theorem i76_124 : ins 76 124 = some (.invokevirtual 209, 73, 189, 0, 0) := by decide +kernel
theorem i76_127 : ins 76 127 = some (.aload_n 2, 0, 0, 0, 0) := by decide +kernel
theorem i76_128 : ins 76 128 = some (.getfield 109, 50, 6, 4, 3) := by decide +kernel
theorem i76_131 : ins 76 131 = some (.iload_n 1, 0, 0, 0, 0) := by decide +kernel
theorem i76_132 : ins 76 132 = some (.iaload, 0, 0, 0, 0) := by decide +kernel
theorem i76_133 : ins 76 133 = some (.invokevirtual 231, 72, 190, 0, 0) := by decide +kernel
theorem i76_136 : ins 76 136 = some (.pop, 0, 0, 0, 0) := by decide +kernel
theorem i76_137 : ins 76 137 = some (.aload_n 2, 0, 0, 0, 0) := by decide +kernel
theorem i76_138 : ins 76 138 = some (.getfield 115, 52, 6, 5, 3) := by decide +kernel
theorem i76_141 : ins 76 141 = some (.iload_n 1, 0, 0, 0, 0) := by decide +kernel
theorem i76_142 : ins 76 142 = some (.iaload, 0, 0, 0, 0) := by decide +kernel
theorem i76_143 : ins 76 143 = some (.iconst (-1), 0, 0, 0, 0) := by decide +kernel
theorem i76_144 : ins 76 144 = some (.if_icmp .eq 22, 0, 0, 0, 0) := by decide +kernel
theorem g76_144 : tg 144 (22) = 166 := by decide
theorem i76_147 : ins 76 147 = some (.aload_n 0, 0, 0, 0, 0) := by decide +kernel
theorem i76_148 : ins 76 148 = some (.getfield 58, 65, 7, 8, 3) := by decide +kernel
theorem i76_151 : ins 76 151 = some (.bipush 33, 0, 0, 0, 0) := by decide +kernel
theorem i76_153 : ins 76 153 = some (.invokevirtual 209, 73, 189, 0, 0) := by decide +kernel
theorem i76_156 : ins 76 156 = some (.aload_n 2, 0, 0, 0, 0) := by decide +kernel
theorem i76_157 : ins 76 157 = some (.getfield 112, 51, 6, 6, 3) := by decide +kernel
theorem i76_160 : ins 76 160 = some (.iload_n 1, 0, 0, 0, 0) := by decide +kernel
theorem i76_161 : ins 76 161 = some (.iaload, 0, 0, 0, 0) := by decide +kernel
theorem i76_162 : ins 76 162 = some (.invokevirtual 231, 72, 190, 0, 0) := by decide +kernel
theorem i76_165 : ins 76 165 = some (.pop, 0, 0, 0, 0) := by decide +kernel
theorem i76_166 : ins 76 166 = some (.aload_n 0, 0, 0, 0, 0) := by decide +kernel
theorem i76_167 : ins 76 167 = some (.getfield 58, 65, 7, 8, 3) := by decide +kernel
theorem i76_170 : ins 76 170 = some (.invokevirtual 206, 74, 193, 0, 0) := by decide +kernel
theorem i76_173 : ins 76 173 = some (.ireturn, 0, 0, 0, 0) := by decide +kernel
theorem c77 : 77 < mnames ∧ nA 77 = 1 ∧ nS 77 = 0 := by decide +kernel
theorem m77 : (77 ≠ ensK ∧ 77 < mnames) ∧ nA 77 = 1 ∧ nL 77 = 2 := by decide +kernel
theorem r77 : nR 77 = (some .int) := by decide +kernel
theorem i77_0 : ins 77 0 = some (.aload_n 0, 0, 0, 0, 0) := by decide +kernel
theorem i77_1 : ins 77 1 = some (.getfield 58, 65, 7, 8, 3) := by decide +kernel
theorem i77_4 : ins 77 4 = some (.iconst 0, 0, 0, 0, 0) := by decide +kernel
theorem i77_5 : ins 77 5 = some (.invokevirtual 217, 68, 192, 0, 0) := by decide +kernel
theorem i77_8 : ins 77 8 = some (.iconst 0, 0, 0, 0, 0) := by decide +kernel
theorem i77_9 : ins 77 9 = some (.istore_n 1, 0, 0, 0, 0) := by decide +kernel
theorem i77_10 : ins 77 10 = some (.iload_n 1, 0, 0, 0, 0) := by decide +kernel
theorem i77_11 : ins 77 11 = some (.bipush 6, 0, 0, 0, 0) := by decide +kernel
theorem i77_13 : ins 77 13 = some (.if_icmp .ge 28, 0, 0, 0, 0) := by decide +kernel
theorem g77_13 : tg 13 (28) = 41 := by decide
theorem i77_16 : ins 77 16 = some (.iload_n 1, 0, 0, 0, 0) := by decide +kernel
theorem i77_17 : ins 77 17 = some (.ifCond .le 13, 0, 0, 0, 0) := by decide +kernel
theorem g77_17 : tg 17 (13) = 30 := by decide
theorem i77_20 : ins 77 20 = some (.aload_n 0, 0, 0, 0, 0) := by decide +kernel
theorem i77_21 : ins 77 21 = some (.getfield 58, 65, 7, 8, 3) := by decide +kernel
theorem i77_24 : ins 77 24 = some (.bipush 32, 0, 0, 0, 0) := by decide +kernel
theorem i77_26 : ins 77 26 = some (.invokevirtual 209, 73, 189, 0, 0) := by decide +kernel
theorem i77_29 : ins 77 29 = some (.pop, 0, 0, 0, 0) := by decide +kernel
theorem i77_30 : ins 77 30 = some (.aload_n 0, 0, 0, 0, 0) := by decide +kernel
theorem i77_31 : ins 77 31 = some (.iload_n 1, 0, 0, 0, 0) := by decide +kernel
theorem i77_32 : ins 77 32 = some (.invokevirtual 234, 75, 104, 0, 0) := by decide +kernel
theorem i77_35 : ins 77 35 = some (.iinc 1 1, 0, 0, 0, 0) := by decide +kernel
theorem i77_38 : ins 77 38 = some (.goto (-28), 0, 0, 0, 0) := by decide +kernel
theorem g77_38 : tg 38 (-28) = 10 := by decide
theorem i77_41 : ins 77 41 = some (.aload_n 0, 0, 0, 0, 0) := by decide +kernel
theorem i77_42 : ins 77 42 = some (.getfield 58, 65, 7, 8, 3) := by decide +kernel
theorem i77_45 : ins 77 45 = some (.invokevirtual 206, 74, 193, 0, 0) := by decide +kernel
theorem i77_48 : ins 77 48 = some (.ireturn, 0, 0, 0, 0) := by decide +kernel
theorem c78 : 78 < mnames ∧ nA 78 = 2 ∧ nS 78 = 0 := by decide +kernel
theorem m78 : (78 ≠ ensK ∧ 78 < mnames) ∧ nA 78 = 2 ∧ nL 78 = 2 := by decide +kernel
theorem r78 : nR 78 = (some .int) := by decide +kernel
theorem i78_0 : ins 78 0 = some (.iload_n 1, 0, 0, 0, 0) := by decide +kernel
theorem i78_1 : ins 78 1 = some (.iconst 0, 0, 0, 0, 0) := by decide +kernel
theorem i78_2 : ins 78 2 = some (.aload_n 0, 0, 0, 0, 0) := by decide +kernel
theorem i78_3 : ins 78 3 = some (.getfield 58, 65, 7, 8, 3) := by decide +kernel
theorem i78_6 : ins 78 6 = some (.invokevirtual 206, 74, 193, 0, 0) := by decide +kernel
theorem i78_9 : ins 78 9 = some (.iconst 1, 0, 0, 0, 0) := by decide +kernel
theorem i78_10 : ins 78 10 = some (.isub, 0, 0, 0, 0) := by decide +kernel
theorem i78_11 : ins 78 11 = some (.invokestatic 202, 76, 98, 1, 0) := by decide +kernel
theorem i78_14 : ins 78 14 = some (.ifCond .eq 14, 0, 0, 0, 0) := by decide +kernel
theorem g78_14 : tg 14 (14) = 28 := by decide
theorem i78_17 : ins 78 17 = some (.aload_n 0, 0, 0, 0, 0) := by decide +kernel
theorem i78_18 : ins 78 18 = some (.getfield 58, 65, 7, 8, 3) := by decide +kernel
theorem i78_21 : ins 78 21 = some (.iload_n 1, 0, 0, 0, 0) := by decide +kernel
theorem i78_22 : ins 78 22 = some (.invokevirtual 237, 77, 191, 0, 0) := by decide +kernel
theorem i78_25 : ins 78 25 = some (.goto 6, 0, 0, 0, 0) := by decide +kernel
theorem g78_25 : tg 25 (6) = 31 := by decide
theorem i78_28 : ins 78 28 = some (.sipush (-1011), 0, 0, 0, 0) := by decide +kernel
theorem i78_31 : ins 78 31 = some (.ireturn, 0, 0, 0, 0) := by decide +kernel
theorem c79 : 79 < mnames ∧ nA 79 = 3 ∧ nS 79 = 0 := by decide +kernel
theorem m79 : (79 ≠ ensK ∧ 79 < mnames) ∧ nA 79 = 3 ∧ nL 79 = 3 := by decide +kernel
theorem r79 : nR 79 = (some .int) := by decide +kernel
theorem i79_0 : ins 79 0 = some (.iload_n 1, 0, 0, 0, 0) := by decide +kernel
theorem i79_1 : ins 79 1 = some (.iconst 0, 0, 0, 0, 0) := by decide +kernel
theorem i79_2 : ins 79 2 = some (.iconst 2, 0, 0, 0, 0) := by decide +kernel
theorem i79_3 : ins 79 3 = some (.invokestatic 202, 76, 98, 1, 0) := by decide +kernel
theorem i79_6 : ins 79 6 = some (.ifCond .ne 7, 0, 0, 0, 0) := by decide +kernel
theorem g79_6 : tg 6 (7) = 13 := by decide
theorem i79_9 : ins 79 9 = some (.sipush (-1012), 0, 0, 0, 0) := by decide +kernel
theorem i79_12 : ins 79 12 = some (.ireturn, 0, 0, 0, 0) := by decide +kernel
theorem i79_13 : ins 79 13 = some (.iload_n 1, 0, 0, 0, 0) := by decide +kernel
theorem i79_14 : ins 79 14 = some (.aload_n 0, 0, 0, 0, 0) := by decide +kernel
theorem i79_15 : ins 79 15 = some (.getfield 33, 66, 7, 4, 3) := by decide +kernel
theorem i79_18 : ins 79 18 = some (.getfield 241, 67, 3, 2, 0) := by decide +kernel
theorem i79_21 : ins 79 21 = some (.if_icmp .lt 7, 0, 0, 0, 0) := by decide +kernel
theorem g79_21 : tg 21 (7) = 28 := by decide
theorem i79_24 : ins 79 24 = some (.sipush (-1015), 0, 0, 0, 0) := by decide +kernel
theorem i79_27 : ins 79 27 = some (.ireturn, 0, 0, 0, 0) := by decide +kernel
theorem i79_28 : ins 79 28 = some (.iload_n 2, 0, 0, 0, 0) := by decide +kernel
theorem i79_29 : ins 79 29 = some (.ifCond .eq 15, 0, 0, 0, 0) := by decide +kernel
theorem g79_29 : tg 29 (15) = 44 := by decide
theorem i79_32 : ins 79 32 = some (.aload_n 0, 0, 0, 0, 0) := by decide +kernel
theorem i79_33 : ins 79 33 = some (.getfield 33, 66, 7, 4, 3) := by decide +kernel
theorem i79_36 : ins 79 36 = some (.getfield 242, 68, 3, 1, 3) := by decide +kernel
theorem i79_39 : ins 79 39 = some (.iload_n 1, 0, 0, 0, 0) := by decide +kernel
theorem i79_40 : ins 79 40 = some (.iaload, 0, 0, 0, 0) := by decide +kernel
theorem i79_41 : ins 79 41 = some (.goto 12, 0, 0, 0, 0) := by decide +kernel
theorem g79_41 : tg 41 (12) = 53 := by decide
theorem i79_44 : ins 79 44 = some (.aload_n 0, 0, 0, 0, 0) := by decide +kernel
theorem i79_45 : ins 79 45 = some (.getfield 33, 66, 7, 4, 3) := by decide +kernel
theorem i79_48 : ins 79 48 = some (.getfield 245, 69, 3, 0, 3) := by decide +kernel
theorem i79_51 : ins 79 51 = some (.iload_n 1, 0, 0, 0, 0) := by decide +kernel
theorem i79_52 : ins 79 52 = some (.iaload, 0, 0, 0, 0) := by decide +kernel
theorem i79_53 : ins 79 53 = some (.ireturn, 0, 0, 0, 0) := by decide +kernel
theorem c80 : 80 < mnames ∧ nA 80 = 2 ∧ nS 80 = 0 := by decide +kernel
theorem m80 : (80 ≠ ensK ∧ 80 < mnames) ∧ nA 80 = 2 ∧ nL 80 = 2 := by decide +kernel
theorem r80 : nR 80 = (some .int) := by decide +kernel
theorem i80_0 : ins 80 0 = some (.iload_n 1, 0, 0, 0, 0) := by decide +kernel
theorem i80_1 : ins 80 1 = some (.tableswitch 195 0 13 #[71, 82, 90, 101, 112, 120, 128, 136, 144, 152, 160, 171, 179, 187], 0, 0, 0, 0) := by decide +kernel
theorem i80_72 : ins 80 72 = some (.aload_n 0, 0, 0, 0, 0) := by decide +kernel
theorem i80_73 : ins 80 73 = some (.getfield 10, 44, 7, 0, 3) := by decide +kernel
theorem i80_76 : ins 80 76 = some (.getfield 87, 45, 5, 0, 3) := by decide +kernel
theorem i80_79 : ins 80 79 = some (.getfield 195, 61, 6, 8, 0) := by decide +kernel
theorem i80_82 : ins 80 82 = some (.ireturn, 0, 0, 0, 0) := by decide +kernel
theorem i80_83 : ins 80 83 = some (.aload_n 0, 0, 0, 0, 0) := by decide +kernel
theorem i80_84 : ins 80 84 = some (.getfield 10, 44, 7, 0, 3) := by decide +kernel
theorem i80_87 : ins 80 87 = some (.invokevirtual 248, 78, 25, 0, 0) := by decide +kernel
theorem i80_90 : ins 80 90 = some (.ireturn, 0, 0, 0, 0) := by decide +kernel
theorem i80_91 : ins 80 91 = some (.aload_n 0, 0, 0, 0, 0) := by decide +kernel
theorem i80_92 : ins 80 92 = some (.getfield 10, 44, 7, 0, 3) := by decide +kernel
theorem i80_95 : ins 80 95 = some (.getfield 87, 45, 5, 0, 3) := by decide +kernel
theorem i80_98 : ins 80 98 = some (.invokevirtual 251, 79, 49, 0, 0) := by decide +kernel
theorem i80_101 : ins 80 101 = some (.ireturn, 0, 0, 0, 0) := by decide +kernel
theorem i80_102 : ins 80 102 = some (.aload_n 0, 0, 0, 0, 0) := by decide +kernel
theorem i80_103 : ins 80 103 = some (.getfield 10, 44, 7, 0, 3) := by decide +kernel
theorem i80_106 : ins 80 106 = some (.getfield 87, 45, 5, 0, 3) := by decide +kernel
theorem i80_109 : ins 80 109 = some (.invokevirtual 254, 80, 50, 0, 0) := by decide +kernel
theorem i80_112 : ins 80 112 = some (.ireturn, 0, 0, 0, 0) := by decide +kernel
theorem i80_113 : ins 80 113 = some (.aload_n 0, 0, 0, 0, 0) := by decide +kernel
theorem i80_114 : ins 80 114 = some (.getfield 10, 44, 7, 0, 3) := by decide +kernel
theorem i80_117 : ins 80 117 = some (.invokevirtual 257, 81, 23, 0, 0) := by decide +kernel
theorem i80_120 : ins 80 120 = some (.ireturn, 0, 0, 0, 0) := by decide +kernel
theorem i80_121 : ins 80 121 = some (.aload_n 0, 0, 0, 0, 0) := by decide +kernel
theorem i80_122 : ins 80 122 = some (.getfield 10, 44, 7, 0, 3) := by decide +kernel
theorem i80_125 : ins 80 125 = some (.getfield 260, 70, 5, 5, 0) := by decide +kernel
theorem i80_128 : ins 80 128 = some (.ireturn, 0, 0, 0, 0) := by decide +kernel
theorem i80_129 : ins 80 129 = some (.aload_n 0, 0, 0, 0, 0) := by decide +kernel
theorem i80_130 : ins 80 130 = some (.getfield 10, 44, 7, 0, 3) := by decide +kernel
theorem i80_133 : ins 80 133 = some (.getfield 263, 71, 5, 6, 0) := by decide +kernel
theorem i80_136 : ins 80 136 = some (.ireturn, 0, 0, 0, 0) := by decide +kernel
theorem i80_137 : ins 80 137 = some (.aload_n 0, 0, 0, 0, 0) := by decide +kernel
theorem i80_138 : ins 80 138 = some (.getfield 10, 44, 7, 0, 3) := by decide +kernel
theorem i80_141 : ins 80 141 = some (.getfield 266, 72, 5, 7, 0) := by decide +kernel
theorem i80_144 : ins 80 144 = some (.ireturn, 0, 0, 0, 0) := by decide +kernel
theorem i80_145 : ins 80 145 = some (.aload_n 0, 0, 0, 0, 0) := by decide +kernel
theorem i80_146 : ins 80 146 = some (.getfield 10, 44, 7, 0, 3) := by decide +kernel
theorem i80_149 : ins 80 149 = some (.getfield 269, 73, 5, 8, 0) := by decide +kernel
theorem i80_152 : ins 80 152 = some (.ireturn, 0, 0, 0, 0) := by decide +kernel
theorem i80_153 : ins 80 153 = some (.aload_n 0, 0, 0, 0, 0) := by decide +kernel
theorem i80_154 : ins 80 154 = some (.getfield 10, 44, 7, 0, 3) := by decide +kernel
theorem i80_157 : ins 80 157 = some (.getfield 272, 74, 5, 9, 0) := by decide +kernel
theorem i80_160 : ins 80 160 = some (.ireturn, 0, 0, 0, 0) := by decide +kernel
theorem i80_161 : ins 80 161 = some (.aload_n 0, 0, 0, 0, 0) := by decide +kernel
theorem i80_162 : ins 80 162 = some (.getfield 10, 44, 7, 0, 3) := by decide +kernel
theorem i80_165 : ins 80 165 = some (.getfield 87, 45, 5, 0, 3) := by decide +kernel
theorem i80_168 : ins 80 168 = some (.invokevirtual 275, 82, 51, 0, 0) := by decide +kernel
theorem i80_171 : ins 80 171 = some (.ireturn, 0, 0, 0, 0) := by decide +kernel
theorem i80_172 : ins 80 172 = some (.aload_n 0, 0, 0, 0, 0) := by decide +kernel
theorem i80_173 : ins 80 173 = some (.getfield 10, 44, 7, 0, 3) := by decide +kernel
theorem i80_176 : ins 80 176 = some (.getfield 278, 75, 5, 10, 0) := by decide +kernel
theorem i80_179 : ins 80 179 = some (.ireturn, 0, 0, 0, 0) := by decide +kernel
theorem i80_180 : ins 80 180 = some (.aload_n 0, 0, 0, 0, 0) := by decide +kernel
theorem i80_181 : ins 80 181 = some (.getfield 54, 63, 7, 7, 3) := by decide +kernel
theorem i80_184 : ins 80 184 = some (.invokevirtual 206, 74, 193, 0, 0) := by decide +kernel
theorem i80_187 : ins 80 187 = some (.ireturn, 0, 0, 0, 0) := by decide +kernel
theorem i80_188 : ins 80 188 = some (.aload_n 0, 0, 0, 0, 0) := by decide +kernel
theorem i80_189 : ins 80 189 = some (.getfield 26, 43, 7, 3, 3) := by decide +kernel
theorem i80_192 : ins 80 192 = some (.getfield 281, 76, 1, 2, 0) := by decide +kernel
theorem i80_195 : ins 80 195 = some (.ireturn, 0, 0, 0, 0) := by decide +kernel
theorem i80_196 : ins 80 196 = some (.sipush (-1012), 0, 0, 0, 0) := by decide +kernel
theorem i80_199 : ins 80 199 = some (.ireturn, 0, 0, 0, 0) := by decide +kernel
theorem c81 : 81 < mnames ∧ nA 81 = 1 ∧ nS 81 = 0 := by decide +kernel
theorem m81 : (81 ≠ ensK ∧ 81 < mnames) ∧ nA 81 = 1 ∧ nL 81 = 1 := by decide +kernel
theorem r81 : nR 81 = (some .int) := by decide +kernel
theorem i81_0 : ins 81 0 = some (.aload_n 0, 0, 0, 0, 0) := by decide +kernel
theorem i81_1 : ins 81 1 = some (.invokevirtual 282, 83, 105, 0, 0) := by decide +kernel
theorem i81_4 : ins 81 4 = some (.ifCond .eq 21, 0, 0, 0, 0) := by decide +kernel
theorem g81_4 : tg 4 (21) = 25 := by decide
theorem i81_7 : ins 81 7 = some (.aload_n 0, 0, 0, 0, 0) := by decide +kernel
theorem i81_8 : ins 81 8 = some (.invokevirtual 286, 84, 106, 0, 0) := by decide +kernel
theorem i81_11 : ins 81 11 = some (.ifCond .eq 14, 0, 0, 0, 0) := by decide +kernel
theorem g81_11 : tg 11 (14) = 25 := by decide
theorem i81_14 : ins 81 14 = some (.aload_n 0, 0, 0, 0, 0) := by decide +kernel
theorem i81_15 : ins 81 15 = some (.invokevirtual 289, 85, 107, 0, 0) := by decide +kernel
theorem i81_18 : ins 81 18 = some (.ifCond .eq 7, 0, 0, 0, 0) := by decide +kernel
theorem g81_18 : tg 18 (7) = 25 := by decide
theorem i81_21 : ins 81 21 = some (.iconst 1, 0, 0, 0, 0) := by decide +kernel
theorem i81_22 : ins 81 22 = some (.goto 4, 0, 0, 0, 0) := by decide +kernel
theorem g81_22 : tg 22 (4) = 26 := by decide
theorem i81_25 : ins 81 25 = some (.iconst 0, 0, 0, 0, 0) := by decide +kernel
theorem i81_26 : ins 81 26 = some (.ireturn, 0, 0, 0, 0) := by decide +kernel
theorem c82 : 82 < mnames ∧ nA 82 = 1 ∧ nS 82 = 0 := by decide +kernel
theorem m82 : (82 ≠ ensK ∧ 82 < mnames) ∧ nA 82 = 1 ∧ nL 82 = 1 := by decide +kernel
theorem r82 : nR 82 = (some .int) := by decide +kernel
theorem i82_0 : ins 82 0 = some (.aload_n 0, 0, 0, 0, 0) := by decide +kernel
theorem i82_1 : ins 82 1 = some (.getfield 26, 43, 7, 3, 3) := by decide +kernel
theorem i82_4 : ins 82 4 = some (.aload_n 0, 0, 0, 0, 0) := by decide +kernel
theorem i82_5 : ins 82 5 = some (.getfield 10, 44, 7, 0, 3) := by decide +kernel
theorem i82_8 : ins 82 8 = some (.invokevirtual 292, 86, 3, 0, 0) := by decide +kernel
theorem i82_11 : ins 82 11 = some (.ifCond .eq 13, 0, 0, 0, 0) := by decide +kernel
theorem g82_11 : tg 11 (13) = 24 := by decide
theorem i82_14 : ins 82 14 = some (.aload_n 0, 0, 0, 0, 0) := by decide +kernel
theorem i82_15 : ins 82 15 = some (.getfield 26, 43, 7, 3, 3) := by decide +kernel
theorem i82_18 : ins 82 18 = some (.getfield 281, 76, 1, 2, 0) := by decide +kernel
theorem i82_21 : ins 82 21 = some (.goto 6, 0, 0, 0, 0) := by decide +kernel
theorem g82_21 : tg 21 (6) = 27 := by decide
theorem i82_24 : ins 82 24 = some (.sipush (-1015), 0, 0, 0, 0) := by decide +kernel
theorem i82_27 : ins 82 27 = some (.ireturn, 0, 0, 0, 0) := by decide +kernel
theorem c83 : 83 < mnames ∧ nA 83 = 1 ∧ nS 83 = 0 := by decide +kernel
theorem m83 : (83 ≠ ensK ∧ 83 < mnames) ∧ nA 83 = 1 ∧ nL 83 = 1 := by decide +kernel
theorem r83 : nR 83 = (some .int) := by decide +kernel
theorem i83_0 : ins 83 0 = some (.aload_n 0, 0, 0, 0, 0) := by decide +kernel
theorem i83_1 : ins 83 1 = some (.getfield 16, 77, 7, 1, 3) := by decide +kernel
theorem i83_4 : ins 83 4 = some (.aload_n 0, 0, 0, 0, 0) := by decide +kernel
theorem i83_5 : ins 83 5 = some (.getfield 10, 44, 7, 0, 3) := by decide +kernel
theorem i83_8 : ins 83 8 = some (.invokevirtual 296, 87, 19, 0, 0) := by decide +kernel
theorem i83_11 : ins 83 11 = some (.aload_n 0, 0, 0, 0, 0) := by decide +kernel
theorem i83_12 : ins 83 12 = some (.iconst 1, 0, 0, 0, 0) := by decide +kernel
theorem i83_13 : ins 83 13 = some (.putfield 19, 78, 7, 2, 1) := by decide +kernel
theorem i83_16 : ins 83 16 = some (.aload_n 0, 0, 0, 0, 0) := by decide +kernel
theorem i83_17 : ins 83 17 = some (.getfield 10, 44, 7, 0, 3) := by decide +kernel
theorem i83_20 : ins 83 20 = some (.getfield 87, 45, 5, 0, 3) := by decide +kernel
theorem i83_23 : ins 83 23 = some (.getfield 195, 61, 6, 8, 0) := by decide +kernel
theorem i83_26 : ins 83 26 = some (.ireturn, 0, 0, 0, 0) := by decide +kernel
theorem c84 : 84 < mnames ∧ nA 84 = 1 ∧ nS 84 = 0 := by decide +kernel
theorem m84 : (84 ≠ ensK ∧ 84 < mnames) ∧ nA 84 = 1 ∧ nL 84 = 1 := by decide +kernel
theorem r84 : nR 84 = (some .int) := by decide +kernel
theorem i84_0 : ins 84 0 = some (.aload_n 0, 0, 0, 0, 0) := by decide +kernel
theorem i84_1 : ins 84 1 = some (.getfield 19, 78, 7, 2, 1) := by decide +kernel
theorem i84_4 : ins 84 4 = some (.ifCond .ne 7, 0, 0, 0, 0) := by decide +kernel
theorem g84_4 : tg 4 (7) = 11 := by decide
theorem i84_7 : ins 84 7 = some (.sipush (-1015), 0, 0, 0, 0) := by decide +kernel
theorem i84_10 : ins 84 10 = some (.ireturn, 0, 0, 0, 0) := by decide +kernel
theorem i84_11 : ins 84 11 = some (.aload_n 0, 0, 0, 0, 0) := by decide +kernel
theorem i84_12 : ins 84 12 = some (.getfield 10, 44, 7, 0, 3) := by decide +kernel
theorem i84_15 : ins 84 15 = some (.aload_n 0, 0, 0, 0, 0) := by decide +kernel
theorem i84_16 : ins 84 16 = some (.getfield 16, 77, 7, 1, 3) := by decide +kernel
theorem i84_19 : ins 84 19 = some (.invokevirtual 296, 87, 19, 0, 0) := by decide +kernel
theorem i84_22 : ins 84 22 = some (.aload_n 0, 0, 0, 0, 0) := by decide +kernel
theorem i84_23 : ins 84 23 = some (.getfield 26, 43, 7, 3, 3) := by decide +kernel
theorem i84_26 : ins 84 26 = some (.invokevirtual 299, 88, 4, 0, 0) := by decide +kernel
theorem i84_29 : ins 84 29 = some (.aload_n 0, 0, 0, 0, 0) := by decide +kernel
theorem i84_30 : ins 84 30 = some (.getfield 10, 44, 7, 0, 3) := by decide +kernel
theorem i84_33 : ins 84 33 = some (.getfield 87, 45, 5, 0, 3) := by decide +kernel
theorem i84_36 : ins 84 36 = some (.getfield 195, 61, 6, 8, 0) := by decide +kernel
theorem i84_39 : ins 84 39 = some (.ireturn, 0, 0, 0, 0) := by decide +kernel
theorem c85 : 85 < mnames ∧ nA 85 = 2 ∧ nS 85 = 0 := by decide +kernel
theorem m85 : (85 ≠ ensK ∧ 85 < mnames) ∧ nA 85 = 2 ∧ nL 85 = 2 := by decide +kernel
theorem r85 : nR 85 = (some .int) := by decide +kernel
theorem i85_0 : ins 85 0 = some (.iload_n 1, 0, 0, 0, 0) := by decide +kernel
theorem i85_1 : ins 85 1 = some (.ifCond .lt 10, 0, 0, 0, 0) := by decide +kernel
theorem g85_1 : tg 1 (10) = 11 := by decide
theorem i85_4 : ins 85 4 = some (.aload_n 0, 0, 0, 0, 0) := by decide +kernel
theorem i85_5 : ins 85 5 = some (.getfield 26, 43, 7, 3, 3) := by decide +kernel
theorem i85_8 : ins 85 8 = some (.invokevirtual 302, 89, 2, 0, 0) := by decide +kernel
theorem i85_11 : ins 85 11 = some (.iload_n 1, 0, 0, 0, 0) := by decide +kernel
theorem i85_12 : ins 85 12 = some (.ireturn, 0, 0, 0, 0) := by decide +kernel
theorem c86 : 86 < mnames ∧ nA 86 = 4 ∧ nS 86 = 0 := by decide +kernel
theorem m86 : (86 ≠ ensK ∧ 86 < mnames) ∧ nA 86 = 4 ∧ nL 86 = 4 := by decide +kernel
theorem r86 : nR 86 = (some .int) := by decide +kernel
theorem i86_0 : ins 86 0 = some (.iload_n 1, 0, 0, 0, 0) := by decide +kernel
theorem i86_1 : ins 86 1 = some (.invokestatic 128, 50, 99, 1, 0) := by decide +kernel
theorem i86_4 : ins 86 4 = some (.ifCond .ne 7, 0, 0, 0, 0) := by decide +kernel
theorem g86_4 : tg 4 (7) = 11 := by decide
theorem i86_7 : ins 86 7 = some (.sipush (-1011), 0, 0, 0, 0) := by decide +kernel
theorem i86_10 : ins 86 10 = some (.ireturn, 0, 0, 0, 0) := by decide +kernel
theorem i86_11 : ins 86 11 = some (.iload_n 2, 0, 0, 0, 0) := by decide +kernel
theorem i86_12 : ins 86 12 = some (.iconst 1, 0, 0, 0, 0) := by decide +kernel
theorem i86_13 : ins 86 13 = some (.bipush 30, 0, 0, 0, 0) := by decide +kernel
theorem i86_15 : ins 86 15 = some (.invokestatic 202, 76, 98, 1, 0) := by decide +kernel
theorem i86_18 : ins 86 18 = some (.ifCond .eq 13, 0, 0, 0, 0) := by decide +kernel
theorem g86_18 : tg 18 (13) = 31 := by decide
theorem i86_21 : ins 86 21 = some (.iload_n 3, 0, 0, 0, 0) := by decide +kernel
theorem i86_22 : ins 86 22 = some (.iconst 1, 0, 0, 0, 0) := by decide +kernel
theorem i86_23 : ins 86 23 = some (.bipush 9, 0, 0, 0, 0) := by decide +kernel
theorem i86_25 : ins 86 25 = some (.invokestatic 202, 76, 98, 1, 0) := by decide +kernel
theorem i86_28 : ins 86 28 = some (.ifCond .ne 7, 0, 0, 0, 0) := by decide +kernel
theorem g86_28 : tg 28 (7) = 35 := by decide
theorem i86_31 : ins 86 31 = some (.sipush (-1012), 0, 0, 0, 0) := by decide +kernel
theorem i86_34 : ins 86 34 = some (.ireturn, 0, 0, 0, 0) := by decide +kernel
theorem i86_35 : ins 86 35 = some (.aload_n 0, 0, 0, 0, 0) := by decide +kernel
theorem i86_36 : ins 86 36 = some (.getfield 10, 44, 7, 0, 3) := by decide +kernel
theorem i86_39 : ins 86 39 = some (.getfield 155, 57, 5, 1, 3) := by decide +kernel
theorem i86_42 : ins 86 42 = some (.iload_n 1, 0, 0, 0, 0) := by decide +kernel
theorem i86_43 : ins 86 43 = some (.baload, 0, 0, 0, 0) := by decide +kernel
theorem i86_44 : ins 86 44 = some (.ifCond .ne 10, 0, 0, 0, 0) := by decide +kernel
theorem g86_44 : tg 44 (10) = 54 := by decide
theorem i86_47 : ins 86 47 = some (.aload_n 0, 0, 0, 0, 0) := by decide +kernel
theorem i86_48 : ins 86 48 = some (.iconst 2, 0, 0, 0, 0) := by decide +kernel
theorem i86_49 : ins 86 49 = some (.iload_n 1, 0, 0, 0, 0) := by decide +kernel
theorem i86_50 : ins 86 50 = some (.invokevirtual 305, 90, 102, 0, 0) := by decide +kernel
theorem i86_53 : ins 86 53 = some (.ireturn, 0, 0, 0, 0) := by decide +kernel
theorem i86_54 : ins 86 54 = some (.aload_n 0, 0, 0, 0, 0) := by decide +kernel
theorem i86_55 : ins 86 55 = some (.iload_n 1, 0, 0, 0, 0) := by decide +kernel
theorem i86_56 : ins 86 56 = some (.iload_n 2, 0, 0, 0, 0) := by decide +kernel
theorem i86_57 : ins 86 57 = some (.invokevirtual 308, 91, 88, 0, 0) := by decide +kernel
theorem i86_60 : ins 86 60 = some (.ifCond .ne 7, 0, 0, 0, 0) := by decide +kernel
theorem g86_60 : tg 60 (7) = 67 := by decide
theorem i86_63 : ins 86 63 = some (.sipush (-1014), 0, 0, 0, 0) := by decide +kernel
theorem i86_66 : ins 86 66 = some (.ireturn, 0, 0, 0, 0) := by decide +kernel
theorem i86_67 : ins 86 67 = some (.aload_n 0, 0, 0, 0, 0) := by decide +kernel
theorem i86_68 : ins 86 68 = some (.getfield 10, 44, 7, 0, 3) := by decide +kernel
theorem i86_71 : ins 86 71 = some (.dup, 0, 0, 0, 0) := by decide +kernel
theorem i86_72 : ins 86 72 = some (.getfield 263, 71, 5, 6, 0) := by decide +kernel
theorem i86_75 : ins 86 75 = some (.iload_n 2, 0, 0, 0, 0) := by decide +kernel
theorem i86_76 : ins 86 76 = some (.iadd, 0, 0, 0, 0) := by decide +kernel
theorem i86_77 : ins 86 77 = some (.putfield 263, 71, 5, 6, 0) := by decide +kernel
theorem i86_80 : ins 86 80 = some (.aload_n 0, 0, 0, 0, 0) := by decide +kernel
theorem i86_81 : ins 86 81 = some (.getfield 10, 44, 7, 0, 3) := by decide +kernel
theorem i86_84 : ins 86 84 = some (.getfield 87, 45, 5, 0, 3) := by decide +kernel
theorem i86_87 : ins 86 87 = some (.iload_n 1, 0, 0, 0, 0) := by decide +kernel
theorem i86_88 : ins 86 88 = some (.iload_n 2, 0, 0, 0, 0) := by decide +kernel
theorem i86_89 : ins 86 89 = some (.iload_n 3, 0, 0, 0, 0) := by decide +kernel
theorem i86_90 : ins 86 90 = some (.invokevirtual 312, 92, 35, 0, 0) := by decide +kernel
theorem i86_93 : ins 86 93 = some (.ireturn, 0, 0, 0, 0) := by decide +kernel
theorem c87 : 87 < mnames ∧ nA 87 = 4 ∧ nS 87 = 0 := by decide +kernel
theorem m87 : (87 ≠ ensK ∧ 87 < mnames) ∧ nA 87 = 4 ∧ nL 87 = 4 := by decide +kernel
theorem r87 : nR 87 = (some .int) := by decide +kernel
theorem i87_0 : ins 87 0 = some (.iload_n 1, 0, 0, 0, 0) := by decide +kernel
theorem i87_1 : ins 87 1 = some (.invokestatic 128, 50, 99, 1, 0) := by decide +kernel
theorem i87_4 : ins 87 4 = some (.ifCond .ne 7, 0, 0, 0, 0) := by decide +kernel
theorem g87_4 : tg 4 (7) = 11 := by decide
theorem i87_7 : ins 87 7 = some (.sipush (-1011), 0, 0, 0, 0) := by decide +kernel
theorem i87_10 : ins 87 10 = some (.ireturn, 0, 0, 0, 0) := by decide +kernel
theorem i87_11 : ins 87 11 = some (.iload_n 2, 0, 0, 0, 0) := by decide +kernel
theorem i87_12 : ins 87 12 = some (.iconst 1, 0, 0, 0, 0) := by decide +kernel
theorem i87_13 : ins 87 13 = some (.bipush 30, 0, 0, 0, 0) := by decide +kernel
theorem i87_15 : ins 87 15 = some (.invokestatic 202, 76, 98, 1, 0) := by decide +kernel
theorem i87_18 : ins 87 18 = some (.ifCond .eq 13, 0, 0, 0, 0) := by decide +kernel
theorem g87_18 : tg 18 (13) = 31 := by decide
theorem i87_21 : ins 87 21 = some (.iload_n 3, 0, 0, 0, 0) := by decide +kernel
theorem i87_22 : ins 87 22 = some (.iconst 1, 0, 0, 0, 0) := by decide +kernel
theorem i87_23 : ins 87 23 = some (.bipush 9, 0, 0, 0, 0) := by decide +kernel
theorem i87_25 : ins 87 25 = some (.invokestatic 202, 76, 98, 1, 0) := by decide +kernel
theorem i87_28 : ins 87 28 = some (.ifCond .ne 7, 0, 0, 0, 0) := by decide +kernel
theorem g87_28 : tg 28 (7) = 35 := by decide
theorem i87_31 : ins 87 31 = some (.sipush (-1012), 0, 0, 0, 0) := by decide +kernel
theorem i87_34 : ins 87 34 = some (.ireturn, 0, 0, 0, 0) := by decide +kernel
theorem i87_35 : ins 87 35 = some (.aload_n 0, 0, 0, 0, 0) := by decide +kernel
theorem i87_36 : ins 87 36 = some (.getfield 10, 44, 7, 0, 3) := by decide +kernel
theorem i87_39 : ins 87 39 = some (.getfield 155, 57, 5, 1, 3) := by decide +kernel
theorem i87_42 : ins 87 42 = some (.iload_n 1, 0, 0, 0, 0) := by decide +kernel
theorem i87_43 : ins 87 43 = some (.baload, 0, 0, 0, 0) := by decide +kernel
theorem i87_44 : ins 87 44 = some (.ifCond .ne 10, 0, 0, 0, 0) := by decide +kernel
theorem g87_44 : tg 44 (10) = 54 := by decide
theorem i87_47 : ins 87 47 = some (.aload_n 0, 0, 0, 0, 0) := by decide +kernel
theorem i87_48 : ins 87 48 = some (.iconst 2, 0, 0, 0, 0) := by decide +kernel
theorem i87_49 : ins 87 49 = some (.iload_n 1, 0, 0, 0, 0) := by decide +kernel
theorem i87_50 : ins 87 50 = some (.invokevirtual 305, 90, 102, 0, 0) := by decide +kernel
theorem i87_53 : ins 87 53 = some (.ireturn, 0, 0, 0, 0) := by decide +kernel
theorem i87_54 : ins 87 54 = some (.aload_n 0, 0, 0, 0, 0) := by decide +kernel
theorem i87_55 : ins 87 55 = some (.getfield 10, 44, 7, 0, 3) := by decide +kernel
theorem i87_58 : ins 87 58 = some (.getfield 162, 59, 5, 3, 3) := by decide +kernel
theorem i87_61 : ins 87 61 = some (.iload_n 1, 0, 0, 0, 0) := by decide +kernel
theorem i87_62 : ins 87 62 = some (.iaload, 0, 0, 0, 0) := by decide +kernel
theorem i87_63 : ins 87 63 = some (.iload_n 2, 0, 0, 0, 0) := by decide +kernel
theorem i87_64 : ins 87 64 = some (.if_icmp .ge 19, 0, 0, 0, 0) := by decide +kernel
theorem g87_64 : tg 64 (19) = 83 := by decide
theorem i87_67 : ins 87 67 = some (.aload_n 0, 0, 0, 0, 0) := by decide +kernel
theorem i87_68 : ins 87 68 = some (.bipush 13, 0, 0, 0, 0) := by decide +kernel
theorem i87_70 : ins 87 70 = some (.aload_n 0, 0, 0, 0, 0) := by decide +kernel
theorem i87_71 : ins 87 71 = some (.getfield 10, 44, 7, 0, 3) := by decide +kernel
theorem i87_74 : ins 87 74 = some (.getfield 162, 59, 5, 3, 3) := by decide +kernel
theorem i87_77 : ins 87 77 = some (.iload_n 1, 0, 0, 0, 0) := by decide +kernel
theorem i87_78 : ins 87 78 = some (.iaload, 0, 0, 0, 0) := by decide +kernel
theorem i87_79 : ins 87 79 = some (.invokevirtual 305, 90, 102, 0, 0) := by decide +kernel
theorem i87_82 : ins 87 82 = some (.ireturn, 0, 0, 0, 0) := by decide +kernel
theorem i87_83 : ins 87 83 = some (.aload_n 0, 0, 0, 0, 0) := by decide +kernel
theorem i87_84 : ins 87 84 = some (.iload_n 1, 0, 0, 0, 0) := by decide +kernel
theorem i87_85 : ins 87 85 = some (.iload_n 2, 0, 0, 0, 0) := by decide +kernel
theorem i87_86 : ins 87 86 = some (.invokevirtual 308, 91, 88, 0, 0) := by decide +kernel
theorem i87_89 : ins 87 89 = some (.ifCond .ne 7, 0, 0, 0, 0) := by decide +kernel
theorem g87_89 : tg 89 (7) = 96 := by decide
theorem i87_92 : ins 87 92 = some (.sipush (-1014), 0, 0, 0, 0) := by decide +kernel
theorem i87_95 : ins 87 95 = some (.ireturn, 0, 0, 0, 0) := by decide +kernel
theorem i87_96 : ins 87 96 = some (.aload_n 0, 0, 0, 0, 0) := by decide +kernel
theorem i87_97 : ins 87 97 = some (.getfield 10, 44, 7, 0, 3) := by decide +kernel
theorem i87_100 : ins 87 100 = some (.getfield 162, 59, 5, 3, 3) := by decide +kernel
theorem i87_103 : ins 87 103 = some (.iload_n 1, 0, 0, 0, 0) := by decide +kernel
theorem i87_104 : ins 87 104 = some (.dup2, 0, 0, 0, 0) := by decide +kernel
theorem i87_105 : ins 87 105 = some (.iaload, 0, 0, 0, 0) := by decide +kernel
theorem i87_106 : ins 87 106 = some (.iload_n 2, 0, 0, 0, 0) := by decide +kernel
theorem i87_107 : ins 87 107 = some (.isub, 0, 0, 0, 0) := by decide +kernel
theorem i87_108 : ins 87 108 = some (.iastore, 0, 0, 0, 0) := by decide +kernel
theorem i87_109 : ins 87 109 = some (.aload_n 0, 0, 0, 0, 0) := by decide +kernel
theorem i87_110 : ins 87 110 = some (.getfield 10, 44, 7, 0, 3) := by decide +kernel
theorem i87_113 : ins 87 113 = some (.getfield 87, 45, 5, 0, 3) := by decide +kernel
theorem i87_116 : ins 87 116 = some (.iload_n 1, 0, 0, 0, 0) := by decide +kernel
theorem i87_117 : ins 87 117 = some (.iload_n 2, 0, 0, 0, 0) := by decide +kernel
theorem i87_118 : ins 87 118 = some (.iload_n 3, 0, 0, 0, 0) := by decide +kernel
theorem i87_119 : ins 87 119 = some (.invokevirtual 312, 92, 35, 0, 0) := by decide +kernel
theorem i87_122 : ins 87 122 = some (.ireturn, 0, 0, 0, 0) := by decide +kernel
theorem c88 : 88 < mnames ∧ nA 88 = 3 ∧ nS 88 = 0 := by decide +kernel
theorem m88 : (88 ≠ ensK ∧ 88 < mnames) ∧ nA 88 = 3 ∧ nL 88 = 4 := by decide +kernel
theorem r88 : nR 88 = (some .boolean) := by decide +kernel
theorem i88_0 : ins 88 0 = some (.aload_n 0, 0, 0, 0, 0) := by decide +kernel
theorem i88_1 : ins 88 1 = some (.getfield 10, 44, 7, 0, 3) := by decide +kernel
theorem i88_4 : ins 88 4 = some (.getfield 87, 45, 5, 0, 3) := by decide +kernel
theorem i88_7 : ins 88 7 = some (.iload_n 1, 0, 0, 0, 0) := by decide +kernel
theorem i88_8 : ins 88 8 = some (.invokevirtual 186, 63, 43, 0, 0) := by decide +kernel
theorem i88_11 : ins 88 11 = some (.iload_n 2, 0, 0, 0, 0) := by decide +kernel
theorem i88_12 : ins 88 12 = some (.iadd, 0, 0, 0, 0) := by decide +kernel
theorem i88_13 : ins 88 13 = some (.iconst 1, 0, 0, 0, 0) := by decide +kernel
theorem i88_14 : ins 88 14 = some (.iadd, 0, 0, 0, 0) := by decide +kernel
theorem i88_15 : ins 88 15 = some (.istore_n 3, 0, 0, 0, 0) := by decide +kernel
theorem i88_16 : ins 88 16 = some (.iload_n 3, 0, 0, 0, 0) := by decide +kernel
theorem i88_17 : ins 88 17 = some (.bipush 60, 0, 0, 0, 0) := by decide +kernel
theorem i88_19 : ins 88 19 = some (.if_icmp .le 12, 0, 0, 0, 0) := by decide +kernel
theorem g88_19 : tg 19 (12) = 31 := by decide
theorem i88_22 : ins 88 22 = some (.aload_n 0, 0, 0, 0, 0) := by decide +kernel
theorem i88_23 : ins 88 23 = some (.iconst 3, 0, 0, 0, 0) := by decide +kernel
theorem i88_24 : ins 88 24 = some (.iload_n 3, 0, 0, 0, 0) := by decide +kernel
theorem i88_25 : ins 88 25 = some (.invokevirtual 305, 90, 102, 0, 0) := by decide +kernel
theorem i88_28 : ins 88 28 = some (.pop, 0, 0, 0, 0) := by decide +kernel
theorem i88_29 : ins 88 29 = some (.iconst 0, 0, 0, 0, 0) := by decide +kernel
theorem i88_30 : ins 88 30 = some (.ireturn, 0, 0, 0, 0) := by decide +kernel
theorem i88_31 : ins 88 31 = some (.aload_n 0, 0, 0, 0, 0) := by decide +kernel
theorem i88_32 : ins 88 32 = some (.getfield 10, 44, 7, 0, 3) := by decide +kernel
theorem i88_35 : ins 88 35 = some (.getfield 87, 45, 5, 0, 3) := by decide +kernel
theorem i88_38 : ins 88 38 = some (.getfield 195, 61, 6, 8, 0) := by decide +kernel
theorem i88_41 : ins 88 41 = some (.bipush 12, 0, 0, 0, 0) := by decide +kernel
theorem i88_43 : ins 88 43 = some (.if_icmp .lt 21, 0, 0, 0, 0) := by decide +kernel
theorem g88_43 : tg 43 (21) = 64 := by decide
theorem i88_46 : ins 88 46 = some (.aload_n 0, 0, 0, 0, 0) := by decide +kernel
theorem i88_47 : ins 88 47 = some (.iconst 1, 0, 0, 0, 0) := by decide +kernel
theorem i88_48 : ins 88 48 = some (.aload_n 0, 0, 0, 0, 0) := by decide +kernel
theorem i88_49 : ins 88 49 = some (.getfield 10, 44, 7, 0, 3) := by decide +kernel
theorem i88_52 : ins 88 52 = some (.getfield 87, 45, 5, 0, 3) := by decide +kernel
theorem i88_55 : ins 88 55 = some (.getfield 195, 61, 6, 8, 0) := by decide +kernel
theorem i88_58 : ins 88 58 = some (.invokevirtual 305, 90, 102, 0, 0) := by decide +kernel
theorem i88_61 : ins 88 61 = some (.pop, 0, 0, 0, 0) := by decide +kernel
theorem i88_62 : ins 88 62 = some (.iconst 0, 0, 0, 0, 0) := by decide +kernel
theorem i88_63 : ins 88 63 = some (.ireturn, 0, 0, 0, 0) := by decide +kernel
theorem i88_64 : ins 88 64 = some (.iconst 1, 0, 0, 0, 0) := by decide +kernel
theorem i88_65 : ins 88 65 = some (.ireturn, 0, 0, 0, 0) := by decide +kernel
theorem c89 : 89 < mnames ∧ nA 89 = 3 ∧ nS 89 = 0 := by decide +kernel
theorem m89 : (89 ≠ ensK ∧ 89 < mnames) ∧ nA 89 = 3 ∧ nL 89 = 4 := by decide +kernel
theorem r89 : nR 89 = (some .int) := by decide +kernel
theorem i89_0 : ins 89 0 = some (.aload_n 0, 0, 0, 0, 0) := by decide +kernel
theorem i89_1 : ins 89 1 = some (.iload_n 1, 0, 0, 0, 0) := by decide +kernel
theorem i89_2 : ins 89 2 = some (.invokevirtual 83, 46, 100, 0, 0) := by decide +kernel
theorem i89_5 : ins 89 5 = some (.ifCond .ne 7, 0, 0, 0, 0) := by decide +kernel
theorem g89_5 : tg 5 (7) = 12 := by decide
theorem i89_8 : ins 89 8 = some (.sipush (-1011), 0, 0, 0, 0) := by decide +kernel
theorem i89_11 : ins 89 11 = some (.ireturn, 0, 0, 0, 0) := by decide +kernel
theorem i89_12 : ins 89 12 = some (.iload_n 2, 0, 0, 0, 0) := by decide +kernel
theorem i89_13 : ins 89 13 = some (.iconst 1, 0, 0, 0, 0) := by decide +kernel
theorem i89_14 : ins 89 14 = some (.bipush 30, 0, 0, 0, 0) := by decide +kernel
theorem i89_16 : ins 89 16 = some (.invokestatic 202, 76, 98, 1, 0) := by decide +kernel
theorem i89_19 : ins 89 19 = some (.ifCond .ne 7, 0, 0, 0, 0) := by decide +kernel
theorem g89_19 : tg 19 (7) = 26 := by decide
theorem i89_22 : ins 89 22 = some (.sipush (-1012), 0, 0, 0, 0) := by decide +kernel
theorem i89_25 : ins 89 25 = some (.ireturn, 0, 0, 0, 0) := by decide +kernel
theorem i89_26 : ins 89 26 = some (.aload_n 0, 0, 0, 0, 0) := by decide +kernel
theorem i89_27 : ins 89 27 = some (.getfield 10, 44, 7, 0, 3) := by decide +kernel
theorem i89_30 : ins 89 30 = some (.getfield 87, 45, 5, 0, 3) := by decide +kernel
theorem i89_33 : ins 89 33 = some (.astore_n 3, 0, 0, 0, 0) := by decide +kernel
theorem i89_34 : ins 89 34 = some (.aload_n 3, 0, 0, 0, 0) := by decide +kernel
theorem i89_35 : ins 89 35 = some (.getfield 115, 52, 6, 5, 3) := by decide +kernel
theorem i89_38 : ins 89 38 = some (.iload_n 1, 0, 0, 0, 0) := by decide +kernel
theorem i89_39 : ins 89 39 = some (.iaload, 0, 0, 0, 0) := by decide +kernel
theorem i89_40 : ins 89 40 = some (.iconst (-1), 0, 0, 0, 0) := by decide +kernel
theorem i89_41 : ins 89 41 = some (.if_icmp .eq 28, 0, 0, 0, 0) := by decide +kernel
theorem g89_41 : tg 41 (28) = 69 := by decide
theorem i89_44 : ins 89 44 = some (.aload_n 0, 0, 0, 0, 0) := by decide +kernel
theorem i89_45 : ins 89 45 = some (.iconst 4, 0, 0, 0, 0) := by decide +kernel
theorem i89_46 : ins 89 46 = some (.iload_n 1, 0, 0, 0, 0) := by decide +kernel
theorem i89_47 : ins 89 47 = some (.invokevirtual 305, 90, 102, 0, 0) := by decide +kernel
theorem i89_50 : ins 89 50 = some (.pop, 0, 0, 0, 0) := by decide +kernel
theorem i89_51 : ins 89 51 = some (.aload_n 0, 0, 0, 0, 0) := by decide +kernel
theorem i89_52 : ins 89 52 = some (.getfield 33, 66, 7, 4, 3) := by decide +kernel
theorem i89_55 : ins 89 55 = some (.iconst 5, 0, 0, 0, 0) := by decide +kernel
theorem i89_56 : ins 89 56 = some (.aload_n 3, 0, 0, 0, 0) := by decide +kernel
theorem i89_57 : ins 89 57 = some (.getfield 112, 51, 6, 6, 3) := by decide +kernel
theorem i89_60 : ins 89 60 = some (.iload_n 1, 0, 0, 0, 0) := by decide +kernel
theorem i89_61 : ins 89 61 = some (.iaload, 0, 0, 0, 0) := by decide +kernel
theorem i89_62 : ins 89 62 = some (.invokevirtual 315, 93, 13, 0, 0) := by decide +kernel
theorem i89_65 : ins 89 65 = some (.sipush (-1014), 0, 0, 0, 0) := by decide +kernel
theorem i89_68 : ins 89 68 = some (.ireturn, 0, 0, 0, 0) := by decide +kernel
theorem i89_69 : ins 89 69 = some (.aload_n 3, 0, 0, 0, 0) := by decide +kernel
theorem i89_70 : ins 89 70 = some (.getfield 97, 47, 6, 1, 3) := by decide +kernel
theorem i89_73 : ins 89 73 = some (.iload_n 1, 0, 0, 0, 0) := by decide +kernel
theorem i89_74 : ins 89 74 = some (.iaload, 0, 0, 0, 0) := by decide +kernel
theorem i89_75 : ins 89 75 = some (.iload_n 2, 0, 0, 0, 0) := by decide +kernel
theorem i89_76 : ins 89 76 = some (.if_icmp .ge 29, 0, 0, 0, 0) := by decide +kernel
theorem g89_76 : tg 76 (29) = 105 := by decide
theorem i89_79 : ins 89 79 = some (.aload_n 0, 0, 0, 0, 0) := by decide +kernel
theorem i89_80 : ins 89 80 = some (.iconst 4, 0, 0, 0, 0) := by decide +kernel
theorem i89_81 : ins 89 81 = some (.iload_n 1, 0, 0, 0, 0) := by decide +kernel
theorem i89_82 : ins 89 82 = some (.invokevirtual 305, 90, 102, 0, 0) := by decide +kernel
theorem i89_85 : ins 89 85 = some (.pop, 0, 0, 0, 0) := by decide +kernel
theorem i89_86 : ins 89 86 = some (.aload_n 0, 0, 0, 0, 0) := by decide +kernel
theorem i89_87 : ins 89 87 = some (.getfield 33, 66, 7, 4, 3) := by decide +kernel
theorem i89_90 : ins 89 90 = some (.bipush 6, 0, 0, 0, 0) := by decide +kernel
theorem i89_92 : ins 89 92 = some (.aload_n 3, 0, 0, 0, 0) := by decide +kernel
theorem i89_93 : ins 89 93 = some (.getfield 97, 47, 6, 1, 3) := by decide +kernel
theorem i89_96 : ins 89 96 = some (.iload_n 1, 0, 0, 0, 0) := by decide +kernel
theorem i89_97 : ins 89 97 = some (.iaload, 0, 0, 0, 0) := by decide +kernel
theorem i89_98 : ins 89 98 = some (.invokevirtual 315, 93, 13, 0, 0) := by decide +kernel
theorem i89_101 : ins 89 101 = some (.sipush (-1014), 0, 0, 0, 0) := by decide +kernel
theorem i89_104 : ins 89 104 = some (.ireturn, 0, 0, 0, 0) := by decide +kernel
theorem i89_105 : ins 89 105 = some (.aload_n 0, 0, 0, 0, 0) := by decide +kernel
theorem i89_106 : ins 89 106 = some (.getfield 10, 44, 7, 0, 3) := by decide +kernel
theorem i89_109 : ins 89 109 = some (.iload_n 1, 0, 0, 0, 0) := by decide +kernel
theorem i89_110 : ins 89 110 = some (.iload_n 2, 0, 0, 0, 0) := by decide +kernel
theorem i89_111 : ins 89 111 = some (.invokevirtual 319, 94, 20, 0, 0) := by decide +kernel
theorem i89_114 : ins 89 114 = some (.ireturn, 0, 0, 0, 0) := by decide +kernel
theorem c90 : 90 < mnames ∧ nA 90 = 4 ∧ nS 90 = 0 := by decide +kernel
theorem m90 : (90 ≠ ensK ∧ 90 < mnames) ∧ nA 90 = 4 ∧ nL 90 = 5 := by decide +kernel
theorem r90 : nR 90 = (some .int) := by decide +kernel
theorem i90_0 : ins 90 0 = some (.aload_n 0, 0, 0, 0, 0) := by decide +kernel
theorem i90_1 : ins 90 1 = some (.iload_n 1, 0, 0, 0, 0) := by decide +kernel
theorem i90_2 : ins 90 2 = some (.invokevirtual 83, 46, 100, 0, 0) := by decide +kernel
theorem i90_5 : ins 90 5 = some (.ifCond .eq 10, 0, 0, 0, 0) := by decide +kernel
theorem g90_5 : tg 5 (10) = 15 := by decide
theorem i90_8 : ins 90 8 = some (.iload_n 2, 0, 0, 0, 0) := by decide +kernel
theorem i90_9 : ins 90 9 = some (.invokestatic 128, 50, 99, 1, 0) := by decide +kernel
theorem i90_12 : ins 90 12 = some (.ifCond .ne 7, 0, 0, 0, 0) := by decide +kernel
theorem g90_12 : tg 12 (7) = 19 := by decide
theorem i90_15 : ins 90 15 = some (.sipush (-1011), 0, 0, 0, 0) := by decide +kernel
theorem i90_18 : ins 90 18 = some (.ireturn, 0, 0, 0, 0) := by decide +kernel
theorem i90_19 : ins 90 19 = some (.iload_n 3, 0, 0, 0, 0) := by decide +kernel
theorem i90_20 : ins 90 20 = some (.iconst 1, 0, 0, 0, 0) := by decide +kernel
theorem i90_21 : ins 90 21 = some (.bipush 90, 0, 0, 0, 0) := by decide +kernel
theorem i90_23 : ins 90 23 = some (.invokestatic 202, 76, 98, 1, 0) := by decide +kernel
theorem i90_26 : ins 90 26 = some (.ifCond .ne 7, 0, 0, 0, 0) := by decide +kernel
theorem g90_26 : tg 26 (7) = 33 := by decide
theorem i90_29 : ins 90 29 = some (.sipush (-1012), 0, 0, 0, 0) := by decide +kernel
theorem i90_32 : ins 90 32 = some (.ireturn, 0, 0, 0, 0) := by decide +kernel
theorem i90_33 : ins 90 33 = some (.aload_n 0, 0, 0, 0, 0) := by decide +kernel
theorem i90_34 : ins 90 34 = some (.getfield 10, 44, 7, 0, 3) := by decide +kernel
theorem i90_37 : ins 90 37 = some (.getfield 87, 45, 5, 0, 3) := by decide +kernel
theorem i90_40 : ins 90 40 = some (.astore 4, 0, 0, 0, 0) := by decide +kernel
theorem i90_42 : ins 90 42 = some (.aload_n 0, 0, 0, 0, 0) := by decide +kernel
theorem i90_43 : ins 90 43 = some (.getfield 10, 44, 7, 0, 3) := by decide +kernel
theorem i90_46 : ins 90 46 = some (.getfield 155, 57, 5, 1, 3) := by decide +kernel
theorem i90_49 : ins 90 49 = some (.iload_n 2, 0, 0, 0, 0) := by decide +kernel
theorem i90_50 : ins 90 50 = some (.baload, 0, 0, 0, 0) := by decide +kernel
theorem i90_51 : ins 90 51 = some (.ifCond .ne 10, 0, 0, 0, 0) := by decide +kernel
theorem g90_51 : tg 51 (10) = 61 := by decide
theorem i90_54 : ins 90 54 = some (.aload_n 0, 0, 0, 0, 0) := by decide +kernel
theorem i90_55 : ins 90 55 = some (.iconst 2, 0, 0, 0, 0) := by decide +kernel
theorem i90_56 : ins 90 56 = some (.iload_n 2, 0, 0, 0, 0) := by decide +kernel
theorem i90_57 : ins 90 57 = some (.invokevirtual 305, 90, 102, 0, 0) := by decide +kernel
theorem i90_60 : ins 90 60 = some (.ireturn, 0, 0, 0, 0) := by decide +kernel
theorem i90_61 : ins 90 61 = some (.aload 4, 0, 0, 0, 0) := by decide +kernel
theorem i90_63 : ins 90 63 = some (.getfield 91, 46, 6, 0, 3) := by decide +kernel
theorem i90_66 : ins 90 66 = some (.iload_n 1, 0, 0, 0, 0) := by decide +kernel
theorem i90_67 : ins 90 67 = some (.iaload, 0, 0, 0, 0) := by decide +kernel
theorem i90_68 : ins 90 68 = some (.iload_n 2, 0, 0, 0, 0) := by decide +kernel
theorem i90_69 : ins 90 69 = some (.if_icmp .ne 11, 0, 0, 0, 0) := by decide +kernel
theorem g90_69 : tg 69 (11) = 80 := by decide
theorem i90_72 : ins 90 72 = some (.aload_n 0, 0, 0, 0, 0) := by decide +kernel
theorem i90_73 : ins 90 73 = some (.bipush 8, 0, 0, 0, 0) := by decide +kernel
theorem i90_75 : ins 90 75 = some (.iload_n 2, 0, 0, 0, 0) := by decide +kernel
theorem i90_76 : ins 90 76 = some (.invokevirtual 305, 90, 102, 0, 0) := by decide +kernel
theorem i90_79 : ins 90 79 = some (.ireturn, 0, 0, 0, 0) := by decide +kernel
theorem i90_80 : ins 90 80 = some (.aload 4, 0, 0, 0, 0) := by decide +kernel
theorem i90_82 : ins 90 82 = some (.getfield 103, 49, 6, 3, 3) := by decide +kernel
theorem i90_85 : ins 90 85 = some (.iload_n 1, 0, 0, 0, 0) := by decide +kernel
theorem i90_86 : ins 90 86 = some (.iaload, 0, 0, 0, 0) := by decide +kernel
theorem i90_87 : ins 90 87 = some (.iconst (-1), 0, 0, 0, 0) := by decide +kernel
theorem i90_88 : ins 90 88 = some (.if_icmp .eq 17, 0, 0, 0, 0) := by decide +kernel
theorem g90_88 : tg 88 (17) = 105 := by decide
theorem i90_91 : ins 90 91 = some (.aload_n 0, 0, 0, 0, 0) := by decide +kernel
theorem i90_92 : ins 90 92 = some (.bipush 7, 0, 0, 0, 0) := by decide +kernel
theorem i90_94 : ins 90 94 = some (.aload 4, 0, 0, 0, 0) := by decide +kernel
theorem i90_96 : ins 90 96 = some (.getfield 103, 49, 6, 3, 3) := by decide +kernel
theorem i90_99 : ins 90 99 = some (.iload_n 1, 0, 0, 0, 0) := by decide +kernel
theorem i90_100 : ins 90 100 = some (.iaload, 0, 0, 0, 0) := by decide +kernel
theorem i90_101 : ins 90 101 = some (.invokevirtual 305, 90, 102, 0, 0) := by decide +kernel
theorem i90_104 : ins 90 104 = some (.ireturn, 0, 0, 0, 0) := by decide +kernel
theorem i90_105 : ins 90 105 = some (.aload 4, 0, 0, 0, 0) := by decide +kernel
theorem i90_107 : ins 90 107 = some (.getfield 103, 49, 6, 3, 3) := by decide +kernel
theorem i90_110 : ins 90 110 = some (.iload_n 1, 0, 0, 0, 0) := by decide +kernel
theorem i90_111 : ins 90 111 = some (.iload_n 2, 0, 0, 0, 0) := by decide +kernel
theorem i90_112 : ins 90 112 = some (.iastore, 0, 0, 0, 0) := by decide +kernel
theorem i90_113 : ins 90 113 = some (.aload 4, 0, 0, 0, 0) := by decide +kernel
theorem i90_115 : ins 90 115 = some (.getfield 109, 50, 6, 4, 3) := by decide +kernel
theorem i90_118 : ins 90 118 = some (.iload_n 1, 0, 0, 0, 0) := by decide +kernel
theorem i90_119 : ins 90 119 = some (.iload_n 3, 0, 0, 0, 0) := by decide +kernel
theorem i90_120 : ins 90 120 = some (.iastore, 0, 0, 0, 0) := by decide +kernel
theorem i90_121 : ins 90 121 = some (.aload 4, 0, 0, 0, 0) := by decide +kernel
theorem i90_123 : ins 90 123 = some (.iload_n 2, 0, 0, 0, 0) := by decide +kernel
theorem i90_124 : ins 90 124 = some (.invokevirtual 322, 95, 47, 0, 0) := by decide +kernel
theorem i90_127 : ins 90 127 = some (.ireturn, 0, 0, 0, 0) := by decide +kernel
theorem c91 : 91 < mnames ∧ nA 91 = 4 ∧ nS 91 = 0 := by decide +kernel
theorem m91 : (91 ≠ ensK ∧ 91 < mnames) ∧ nA 91 = 4 ∧ nL 91 = 5 := by decide +kernel
theorem r91 : nR 91 = (some .int) := by decide +kernel
theorem i91_0 : ins 91 0 = some (.iload_n 1, 0, 0, 0, 0) := by decide +kernel
theorem i91_1 : ins 91 1 = some (.invokestatic 128, 50, 99, 1, 0) := by decide +kernel
theorem i91_4 : ins 91 4 = some (.ifCond .eq 11, 0, 0, 0, 0) := by decide +kernel
theorem g91_4 : tg 4 (11) = 15 := by decide
theorem i91_7 : ins 91 7 = some (.aload_n 0, 0, 0, 0, 0) := by decide +kernel
theorem i91_8 : ins 91 8 = some (.iload_n 2, 0, 0, 0, 0) := by decide +kernel
theorem i91_9 : ins 91 9 = some (.invokevirtual 83, 46, 100, 0, 0) := by decide +kernel
theorem i91_12 : ins 91 12 = some (.ifCond .ne 7, 0, 0, 0, 0) := by decide +kernel
theorem g91_12 : tg 12 (7) = 19 := by decide
theorem i91_15 : ins 91 15 = some (.sipush (-1011), 0, 0, 0, 0) := by decide +kernel
theorem i91_18 : ins 91 18 = some (.ireturn, 0, 0, 0, 0) := by decide +kernel
theorem i91_19 : ins 91 19 = some (.iload_n 3, 0, 0, 0, 0) := by decide +kernel
theorem i91_20 : ins 91 20 = some (.iconst 1, 0, 0, 0, 0) := by decide +kernel
theorem i91_21 : ins 91 21 = some (.bipush 24, 0, 0, 0, 0) := by decide +kernel
theorem i91_23 : ins 91 23 = some (.invokestatic 202, 76, 98, 1, 0) := by decide +kernel
theorem i91_26 : ins 91 26 = some (.ifCond .ne 7, 0, 0, 0, 0) := by decide +kernel
theorem g91_26 : tg 26 (7) = 33 := by decide
theorem i91_29 : ins 91 29 = some (.sipush (-1012), 0, 0, 0, 0) := by decide +kernel
theorem i91_32 : ins 91 32 = some (.ireturn, 0, 0, 0, 0) := by decide +kernel
theorem i91_33 : ins 91 33 = some (.aload_n 0, 0, 0, 0, 0) := by decide +kernel
theorem i91_34 : ins 91 34 = some (.getfield 10, 44, 7, 0, 3) := by decide +kernel
theorem i91_37 : ins 91 37 = some (.getfield 87, 45, 5, 0, 3) := by decide +kernel
theorem i91_40 : ins 91 40 = some (.astore 4, 0, 0, 0, 0) := by decide +kernel
theorem i91_42 : ins 91 42 = some (.aload_n 0, 0, 0, 0, 0) := by decide +kernel
theorem i91_43 : ins 91 43 = some (.getfield 10, 44, 7, 0, 3) := by decide +kernel
theorem i91_46 : ins 91 46 = some (.getfield 155, 57, 5, 1, 3) := by decide +kernel
theorem i91_49 : ins 91 49 = some (.iload_n 1, 0, 0, 0, 0) := by decide +kernel
theorem i91_50 : ins 91 50 = some (.baload, 0, 0, 0, 0) := by decide +kernel
theorem i91_51 : ins 91 51 = some (.ifCond .ne 10, 0, 0, 0, 0) := by decide +kernel
theorem g91_51 : tg 51 (10) = 61 := by decide
theorem i91_54 : ins 91 54 = some (.aload_n 0, 0, 0, 0, 0) := by decide +kernel
theorem i91_55 : ins 91 55 = some (.iconst 2, 0, 0, 0, 0) := by decide +kernel
theorem i91_56 : ins 91 56 = some (.iload_n 1, 0, 0, 0, 0) := by decide +kernel
theorem i91_57 : ins 91 57 = some (.invokevirtual 305, 90, 102, 0, 0) := by decide +kernel
theorem i91_60 : ins 91 60 = some (.ireturn, 0, 0, 0, 0) := by decide +kernel
theorem i91_61 : ins 91 61 = some (.aload 4, 0, 0, 0, 0) := by decide +kernel
theorem i91_63 : ins 91 63 = some (.getfield 91, 46, 6, 0, 3) := by decide +kernel
theorem i91_66 : ins 91 66 = some (.iload_n 2, 0, 0, 0, 0) := by decide +kernel
theorem i91_67 : ins 91 67 = some (.iaload, 0, 0, 0, 0) := by decide +kernel
theorem i91_68 : ins 91 68 = some (.iload_n 1, 0, 0, 0, 0) := by decide +kernel
theorem i91_69 : ins 91 69 = some (.if_icmp .ne 11, 0, 0, 0, 0) := by decide +kernel
theorem g91_69 : tg 69 (11) = 80 := by decide
theorem i91_72 : ins 91 72 = some (.aload_n 0, 0, 0, 0, 0) := by decide +kernel
theorem i91_73 : ins 91 73 = some (.bipush 8, 0, 0, 0, 0) := by decide +kernel
theorem i91_75 : ins 91 75 = some (.iload_n 1, 0, 0, 0, 0) := by decide +kernel
theorem i91_76 : ins 91 76 = some (.invokevirtual 305, 90, 102, 0, 0) := by decide +kernel
theorem i91_79 : ins 91 79 = some (.ireturn, 0, 0, 0, 0) := by decide +kernel
theorem i91_80 : ins 91 80 = some (.aload 4, 0, 0, 0, 0) := by decide +kernel
theorem i91_82 : ins 91 82 = some (.getfield 115, 52, 6, 5, 3) := by decide +kernel
theorem i91_85 : ins 91 85 = some (.iload_n 2, 0, 0, 0, 0) := by decide +kernel
theorem i91_86 : ins 91 86 = some (.iaload, 0, 0, 0, 0) := by decide +kernel
theorem i91_87 : ins 91 87 = some (.iconst (-1), 0, 0, 0, 0) := by decide +kernel
theorem i91_88 : ins 91 88 = some (.if_icmp .eq 17, 0, 0, 0, 0) := by decide +kernel
theorem g91_88 : tg 88 (17) = 105 := by decide
theorem i91_91 : ins 91 91 = some (.aload_n 0, 0, 0, 0, 0) := by decide +kernel
theorem i91_92 : ins 91 92 = some (.bipush 9, 0, 0, 0, 0) := by decide +kernel
theorem i91_94 : ins 91 94 = some (.aload 4, 0, 0, 0, 0) := by decide +kernel
theorem i91_96 : ins 91 96 = some (.getfield 112, 51, 6, 6, 3) := by decide +kernel
theorem i91_99 : ins 91 99 = some (.iload_n 2, 0, 0, 0, 0) := by decide +kernel
theorem i91_100 : ins 91 100 = some (.iaload, 0, 0, 0, 0) := by decide +kernel
theorem i91_101 : ins 91 101 = some (.invokevirtual 305, 90, 102, 0, 0) := by decide +kernel
theorem i91_104 : ins 91 104 = some (.ireturn, 0, 0, 0, 0) := by decide +kernel
theorem i91_105 : ins 91 105 = some (.aload 4, 0, 0, 0, 0) := by decide +kernel
theorem i91_107 : ins 91 107 = some (.iload_n 1, 0, 0, 0, 0) := by decide +kernel
theorem i91_108 : ins 91 108 = some (.invokevirtual 174, 59, 46, 0, 0) := by decide +kernel
theorem i91_111 : ins 91 111 = some (.iconst 2, 0, 0, 0, 0) := by decide +kernel
theorem i91_112 : ins 91 112 = some (.if_icmp .lt 15, 0, 0, 0, 0) := by decide +kernel
theorem g91_112 : tg 112 (15) = 127 := by decide
theorem i91_115 : ins 91 115 = some (.aload_n 0, 0, 0, 0, 0) := by decide +kernel
theorem i91_116 : ins 91 116 = some (.iconst 1, 0, 0, 0, 0) := by decide +kernel
theorem i91_117 : ins 91 117 = some (.aload 4, 0, 0, 0, 0) := by decide +kernel
theorem i91_119 : ins 91 119 = some (.iload_n 1, 0, 0, 0, 0) := by decide +kernel
theorem i91_120 : ins 91 120 = some (.invokevirtual 174, 59, 46, 0, 0) := by decide +kernel
theorem i91_123 : ins 91 123 = some (.invokevirtual 305, 90, 102, 0, 0) := by decide +kernel
theorem i91_126 : ins 91 126 = some (.ireturn, 0, 0, 0, 0) := by decide +kernel
theorem i91_127 : ins 91 127 = some (.aload 4, 0, 0, 0, 0) := by decide +kernel
theorem i91_129 : ins 91 129 = some (.getfield 115, 52, 6, 5, 3) := by decide +kernel
theorem i91_132 : ins 91 132 = some (.iload_n 2, 0, 0, 0, 0) := by decide +kernel
theorem i91_133 : ins 91 133 = some (.iload_n 1, 0, 0, 0, 0) := by decide +kernel
theorem i91_134 : ins 91 134 = some (.iastore, 0, 0, 0, 0) := by decide +kernel
theorem i91_135 : ins 91 135 = some (.aload 4, 0, 0, 0, 0) := by decide +kernel
theorem i91_137 : ins 91 137 = some (.getfield 112, 51, 6, 6, 3) := by decide +kernel
theorem i91_140 : ins 91 140 = some (.iload_n 2, 0, 0, 0, 0) := by decide +kernel
theorem i91_141 : ins 91 141 = some (.iload_n 3, 0, 0, 0, 0) := by decide +kernel
theorem i91_142 : ins 91 142 = some (.iastore, 0, 0, 0, 0) := by decide +kernel
theorem i91_143 : ins 91 143 = some (.aload 4, 0, 0, 0, 0) := by decide +kernel
theorem i91_145 : ins 91 145 = some (.invokevirtual 251, 79, 49, 0, 0) := by decide +kernel
theorem i91_148 : ins 91 148 = some (.ireturn, 0, 0, 0, 0) := by decide +kernel
theorem c92 : 92 < mnames ∧ nA 92 = 3 ∧ nS 92 = 0 := by decide +kernel
theorem m92 : (92 ≠ ensK ∧ 92 < mnames) ∧ nA 92 = 3 ∧ nL 92 = 3 := by decide +kernel
theorem r92 : nR 92 = (some .int) := by decide +kernel
theorem i92_0 : ins 92 0 = some (.aload_n 0, 0, 0, 0, 0) := by decide +kernel
theorem i92_1 : ins 92 1 = some (.iload_n 1, 0, 0, 0, 0) := by decide +kernel
theorem i92_2 : ins 92 2 = some (.invokevirtual 83, 46, 100, 0, 0) := by decide +kernel
theorem i92_5 : ins 92 5 = some (.ifCond .ne 7, 0, 0, 0, 0) := by decide +kernel
theorem g92_5 : tg 5 (7) = 12 := by decide
theorem i92_8 : ins 92 8 = some (.sipush (-1011), 0, 0, 0, 0) := by decide +kernel
theorem i92_11 : ins 92 11 = some (.ireturn, 0, 0, 0, 0) := by decide +kernel
theorem i92_12 : ins 92 12 = some (.iload_n 2, 0, 0, 0, 0) := by decide +kernel
theorem i92_13 : ins 92 13 = some (.iconst 1, 0, 0, 0, 0) := by decide +kernel
theorem i92_14 : ins 92 14 = some (.bipush 30, 0, 0, 0, 0) := by decide +kernel
theorem i92_16 : ins 92 16 = some (.invokestatic 202, 76, 98, 1, 0) := by decide +kernel
theorem i92_19 : ins 92 19 = some (.ifCond .ne 7, 0, 0, 0, 0) := by decide +kernel
theorem g92_19 : tg 19 (7) = 26 := by decide
theorem i92_22 : ins 92 22 = some (.sipush (-1012), 0, 0, 0, 0) := by decide +kernel
theorem i92_25 : ins 92 25 = some (.ireturn, 0, 0, 0, 0) := by decide +kernel
theorem i92_26 : ins 92 26 = some (.aload_n 0, 0, 0, 0, 0) := by decide +kernel
theorem i92_27 : ins 92 27 = some (.getfield 10, 44, 7, 0, 3) := by decide +kernel
theorem i92_30 : ins 92 30 = some (.getfield 87, 45, 5, 0, 3) := by decide +kernel
theorem i92_33 : ins 92 33 = some (.getfield 97, 47, 6, 1, 3) := by decide +kernel
theorem i92_36 : ins 92 36 = some (.iload_n 1, 0, 0, 0, 0) := by decide +kernel
theorem i92_37 : ins 92 37 = some (.iaload, 0, 0, 0, 0) := by decide +kernel
theorem i92_38 : ins 92 38 = some (.iload_n 2, 0, 0, 0, 0) := by decide +kernel
theorem i92_39 : ins 92 39 = some (.if_icmp .ge 22, 0, 0, 0, 0) := by decide +kernel
theorem g92_39 : tg 39 (22) = 61 := by decide
theorem i92_42 : ins 92 42 = some (.aload_n 0, 0, 0, 0, 0) := by decide +kernel
theorem i92_43 : ins 92 43 = some (.bipush 10, 0, 0, 0, 0) := by decide +kernel
theorem i92_45 : ins 92 45 = some (.aload_n 0, 0, 0, 0, 0) := by decide +kernel
theorem i92_46 : ins 92 46 = some (.getfield 10, 44, 7, 0, 3) := by decide +kernel
theorem i92_49 : ins 92 49 = some (.getfield 87, 45, 5, 0, 3) := by decide +kernel
theorem i92_52 : ins 92 52 = some (.getfield 97, 47, 6, 1, 3) := by decide +kernel
theorem i92_55 : ins 92 55 = some (.iload_n 1, 0, 0, 0, 0) := by decide +kernel
theorem i92_56 : ins 92 56 = some (.iaload, 0, 0, 0, 0) := by decide +kernel
theorem i92_57 : ins 92 57 = some (.invokevirtual 305, 90, 102, 0, 0) := by decide +kernel
theorem i92_60 : ins 92 60 = some (.ireturn, 0, 0, 0, 0) := by decide +kernel
theorem i92_61 : ins 92 61 = some (.aload_n 0, 0, 0, 0, 0) := by decide +kernel
theorem i92_62 : ins 92 62 = some (.getfield 10, 44, 7, 0, 3) := by decide +kernel
theorem i92_65 : ins 92 65 = some (.getfield 165, 60, 5, 4, 3) := by decide +kernel
theorem i92_68 : ins 92 68 = some (.aload_n 0, 0, 0, 0, 0) := by decide +kernel
theorem i92_69 : ins 92 69 = some (.getfield 10, 44, 7, 0, 3) := by decide +kernel
theorem i92_72 : ins 92 72 = some (.getfield 87, 45, 5, 0, 3) := by decide +kernel
theorem i92_75 : ins 92 75 = some (.getfield 91, 46, 6, 0, 3) := by decide +kernel
theorem i92_78 : ins 92 78 = some (.iload_n 1, 0, 0, 0, 0) := by decide +kernel
theorem i92_79 : ins 92 79 = some (.iaload, 0, 0, 0, 0) := by decide +kernel
theorem i92_80 : ins 92 80 = some (.dup2, 0, 0, 0, 0) := by decide +kernel
theorem i92_81 : ins 92 81 = some (.iaload, 0, 0, 0, 0) := by decide +kernel
theorem i92_82 : ins 92 82 = some (.iload_n 2, 0, 0, 0, 0) := by decide +kernel
theorem i92_83 : ins 92 83 = some (.iadd, 0, 0, 0, 0) := by decide +kernel
theorem i92_84 : ins 92 84 = some (.iastore, 0, 0, 0, 0) := by decide +kernel
theorem i92_85 : ins 92 85 = some (.aload_n 0, 0, 0, 0, 0) := by decide +kernel
theorem i92_86 : ins 92 86 = some (.getfield 10, 44, 7, 0, 3) := by decide +kernel
theorem i92_89 : ins 92 89 = some (.dup, 0, 0, 0, 0) := by decide +kernel
theorem i92_90 : ins 92 90 = some (.getfield 260, 70, 5, 5, 0) := by decide +kernel
theorem i92_93 : ins 92 93 = some (.iload_n 2, 0, 0, 0, 0) := by decide +kernel
theorem i92_94 : ins 92 94 = some (.iadd, 0, 0, 0, 0) := by decide +kernel
theorem i92_95 : ins 92 95 = some (.putfield 260, 70, 5, 5, 0) := by decide +kernel
theorem i92_98 : ins 92 98 = some (.aload_n 0, 0, 0, 0, 0) := by decide +kernel
theorem i92_99 : ins 92 99 = some (.getfield 10, 44, 7, 0, 3) := by decide +kernel
theorem i92_102 : ins 92 102 = some (.getfield 87, 45, 5, 0, 3) := by decide +kernel
theorem i92_105 : ins 92 105 = some (.iload_n 1, 0, 0, 0, 0) := by decide +kernel
theorem i92_106 : ins 92 106 = some (.iload_n 2, 0, 0, 0, 0) := by decide +kernel
theorem i92_107 : ins 92 107 = some (.invokevirtual 325, 96, 37, 0, 0) := by decide +kernel
theorem i92_110 : ins 92 110 = some (.aload_n 0, 0, 0, 0, 0) := by decide +kernel
theorem i92_111 : ins 92 111 = some (.getfield 10, 44, 7, 0, 3) := by decide +kernel
theorem i92_114 : ins 92 114 = some (.getfield 260, 70, 5, 5, 0) := by decide +kernel
theorem i92_117 : ins 92 117 = some (.ireturn, 0, 0, 0, 0) := by decide +kernel
theorem c93 : 93 < mnames ∧ nA 93 = 1 ∧ nS 93 = 0 := by decide +kernel
theorem m93 : (93 ≠ ensK ∧ 93 < mnames) ∧ nA 93 = 1 ∧ nL 93 = 3 := by decide +kernel
theorem r93 : nR 93 = (some .int) := by decide +kernel
theorem i93_0 : ins 93 0 = some (.aload_n 0, 0, 0, 0, 0) := by decide +kernel
theorem i93_1 : ins 93 1 = some (.getfield 10, 44, 7, 0, 3) := by decide +kernel
theorem i93_4 : ins 93 4 = some (.getfield 260, 70, 5, 5, 0) := by decide +kernel
theorem i93_7 : ins 93 7 = some (.ifCond .ne 20, 0, 0, 0, 0) := by decide +kernel
theorem g93_7 : tg 7 (20) = 27 := by decide
theorem i93_10 : ins 93 10 = some (.aload_n 0, 0, 0, 0, 0) := by decide +kernel
theorem i93_11 : ins 93 11 = some (.bipush 11, 0, 0, 0, 0) := by decide +kernel
theorem i93_13 : ins 93 13 = some (.aload_n 0, 0, 0, 0, 0) := by decide +kernel
theorem i93_14 : ins 93 14 = some (.getfield 10, 44, 7, 0, 3) := by decide +kernel
theorem i93_17 : ins 93 17 = some (.getfield 87, 45, 5, 0, 3) := by decide +kernel
theorem i93_20 : ins 93 20 = some (.getfield 195, 61, 6, 8, 0) := by decide +kernel
theorem i93_23 : ins 93 23 = some (.invokevirtual 305, 90, 102, 0, 0) := by decide +kernel
theorem i93_26 : ins 93 26 = some (.ireturn, 0, 0, 0, 0) := by decide +kernel
theorem i93_27 : ins 93 27 = some (.aload_n 0, 0, 0, 0, 0) := by decide +kernel
theorem i93_28 : ins 93 28 = some (.getfield 10, 44, 7, 0, 3) := by decide +kernel
theorem i93_31 : ins 93 31 = some (.invokevirtual 328, 97, 22, 0, 0) := by decide +kernel
theorem i93_34 : ins 93 34 = some (.ifCond .ne 17, 0, 0, 0, 0) := by decide +kernel
theorem g93_34 : tg 34 (17) = 51 := by decide
theorem i93_37 : ins 93 37 = some (.aload_n 0, 0, 0, 0, 0) := by decide +kernel
theorem i93_38 : ins 93 38 = some (.bipush 12, 0, 0, 0, 0) := by decide +kernel
theorem i93_40 : ins 93 40 = some (.aload_n 0, 0, 0, 0, 0) := by decide +kernel
theorem i93_41 : ins 93 41 = some (.getfield 10, 44, 7, 0, 3) := by decide +kernel
theorem i93_44 : ins 93 44 = some (.getfield 260, 70, 5, 5, 0) := by decide +kernel
theorem i93_47 : ins 93 47 = some (.invokevirtual 305, 90, 102, 0, 0) := by decide +kernel
theorem i93_50 : ins 93 50 = some (.ireturn, 0, 0, 0, 0) := by decide +kernel
theorem i93_51 : ins 93 51 = some (.aload_n 0, 0, 0, 0, 0) := by decide +kernel
theorem i93_52 : ins 93 52 = some (.getfield 47, 54, 7, 6, 3) := by decide +kernel
theorem i93_55 : ins 93 55 = some (.aload_n 0, 0, 0, 0, 0) := by decide +kernel
theorem i93_56 : ins 93 56 = some (.getfield 10, 44, 7, 0, 3) := by decide +kernel
theorem i93_59 : ins 93 59 = some (.invokevirtual 131, 51, 15, 0, 0) := by decide +kernel
theorem i93_62 : ins 93 62 = some (.iconst 0, 0, 0, 0, 0) := by decide +kernel
theorem i93_63 : ins 93 63 = some (.istore_n 1, 0, 0, 0, 0) := by decide +kernel
theorem i93_64 : ins 93 64 = some (.iconst 0, 0, 0, 0, 0) := by decide +kernel
theorem i93_65 : ins 93 65 = some (.istore_n 2, 0, 0, 0, 0) := by decide +kernel
theorem i93_66 : ins 93 66 = some (.iload_n 2, 0, 0, 0, 0) := by decide +kernel
theorem i93_67 : ins 93 67 = some (.bipush 6, 0, 0, 0, 0) := by decide +kernel
theorem i93_69 : ins 93 69 = some (.if_icmp .ge 60, 0, 0, 0, 0) := by decide +kernel
theorem g93_69 : tg 69 (60) = 129 := by decide
theorem i93_72 : ins 93 72 = some (.aload_n 0, 0, 0, 0, 0) := by decide +kernel
theorem i93_73 : ins 93 73 = some (.getfield 10, 44, 7, 0, 3) := by decide +kernel
theorem i93_76 : ins 93 76 = some (.getfield 162, 59, 5, 3, 3) := by decide +kernel
theorem i93_79 : ins 93 79 = some (.iload_n 2, 0, 0, 0, 0) := by decide +kernel
theorem i93_80 : ins 93 80 = some (.dup2, 0, 0, 0, 0) := by decide +kernel
theorem i93_81 : ins 93 81 = some (.iaload, 0, 0, 0, 0) := by decide +kernel
theorem i93_82 : ins 93 82 = some (.aload_n 0, 0, 0, 0, 0) := by decide +kernel
theorem i93_83 : ins 93 83 = some (.getfield 47, 54, 7, 6, 3) := by decide +kernel
theorem i93_86 : ins 93 86 = some (.getfield 134, 55, 4, 0, 3) := by decide +kernel
theorem i93_89 : ins 93 89 = some (.iload_n 2, 0, 0, 0, 0) := by decide +kernel
theorem i93_90 : ins 93 90 = some (.iaload, 0, 0, 0, 0) := by decide +kernel
theorem i93_91 : ins 93 91 = some (.iadd, 0, 0, 0, 0) := by decide +kernel
theorem i93_92 : ins 93 92 = some (.iastore, 0, 0, 0, 0) := by decide +kernel
theorem i93_93 : ins 93 93 = some (.aload_n 0, 0, 0, 0, 0) := by decide +kernel
theorem i93_94 : ins 93 94 = some (.getfield 10, 44, 7, 0, 3) := by decide +kernel
theorem i93_97 : ins 93 97 = some (.getfield 165, 60, 5, 4, 3) := by decide +kernel
theorem i93_100 : ins 93 100 = some (.iload_n 2, 0, 0, 0, 0) := by decide +kernel
theorem i93_101 : ins 93 101 = some (.iconst 0, 0, 0, 0, 0) := by decide +kernel
theorem i93_102 : ins 93 102 = some (.iastore, 0, 0, 0, 0) := by decide +kernel
theorem i93_103 : ins 93 103 = some (.iload_n 1, 0, 0, 0, 0) := by decide +kernel
theorem i93_104 : ins 93 104 = some (.aload_n 0, 0, 0, 0, 0) := by decide +kernel
theorem i93_105 : ins 93 105 = some (.getfield 47, 54, 7, 6, 3) := by decide +kernel
theorem i93_108 : ins 93 108 = some (.getfield 134, 55, 4, 0, 3) := by decide +kernel
theorem i93_111 : ins 93 111 = some (.iload_n 2, 0, 0, 0, 0) := by decide +kernel
theorem i93_112 : ins 93 112 = some (.iaload, 0, 0, 0, 0) := by decide +kernel
theorem i93_113 : ins 93 113 = some (.ifCond .le 7, 0, 0, 0, 0) := by decide +kernel
theorem g93_113 : tg 113 (7) = 120 := by decide
theorem i93_116 : ins 93 116 = some (.iconst 1, 0, 0, 0, 0) := by decide +kernel
theorem i93_117 : ins 93 117 = some (.goto 4, 0, 0, 0, 0) := by decide +kernel
theorem g93_117 : tg 117 (4) = 121 := by decide
theorem i93_120 : ins 93 120 = some (.iconst 0, 0, 0, 0, 0) := by decide +kernel
theorem i93_121 : ins 93 121 = some (.iadd, 0, 0, 0, 0) := by decide +kernel
theorem i93_122 : ins 93 122 = some (.istore_n 1, 0, 0, 0, 0) := by decide +kernel
theorem i93_123 : ins 93 123 = some (.iinc 2 1, 0, 0, 0, 0) := by decide +kernel
theorem i93_126 : ins 93 126 = some (.goto (-60), 0, 0, 0, 0) := by decide +kernel
theorem g93_126 : tg 126 (-60) = 66 := by decide
theorem i93_129 : ins 93 129 = some (.aload_n 0, 0, 0, 0, 0) := by decide +kernel
theorem i93_130 : ins 93 130 = some (.getfield 10, 44, 7, 0, 3) := by decide +kernel
theorem i93_133 : ins 93 133 = some (.iconst 0, 0, 0, 0, 0) := by decide +kernel
theorem i93_134 : ins 93 134 = some (.putfield 260, 70, 5, 5, 0) := by decide +kernel
theorem i93_137 : ins 93 137 = some (.iload_n 1, 0, 0, 0, 0) := by decide +kernel
theorem i93_138 : ins 93 138 = some (.ireturn, 0, 0, 0, 0) := by decide +kernel
theorem c94 : 94 < mnames ∧ nA 94 = 3 ∧ nS 94 = 0 := by decide +kernel
theorem m94 : (94 ≠ ensK ∧ 94 < mnames) ∧ nA 94 = 3 ∧ nL 94 = 4 := by decide +kernel
theorem r94 : nR 94 = (some .int) := by decide +kernel
theorem i94_0 : ins 94 0 = some (.iload_n 1, 0, 0, 0, 0) := by decide +kernel
theorem i94_1 : ins 94 1 = some (.invokestatic 128, 50, 99, 1, 0) := by decide +kernel
theorem i94_4 : ins 94 4 = some (.ifCond .eq 10, 0, 0, 0, 0) := by decide +kernel
theorem g94_4 : tg 4 (10) = 14 := by decide
theorem i94_7 : ins 94 7 = some (.iload_n 2, 0, 0, 0, 0) := by decide +kernel
theorem i94_8 : ins 94 8 = some (.invokestatic 128, 50, 99, 1, 0) := by decide +kernel
theorem i94_11 : ins 94 11 = some (.ifCond .ne 7, 0, 0, 0, 0) := by decide +kernel
theorem g94_11 : tg 11 (7) = 18 := by decide
theorem i94_14 : ins 94 14 = some (.sipush (-1011), 0, 0, 0, 0) := by decide +kernel
theorem i94_17 : ins 94 17 = some (.ireturn, 0, 0, 0, 0) := by decide +kernel
theorem i94_18 : ins 94 18 = some (.aload_n 0, 0, 0, 0, 0) := by decide +kernel
theorem i94_19 : ins 94 19 = some (.getfield 10, 44, 7, 0, 3) := by decide +kernel
theorem i94_22 : ins 94 22 = some (.getfield 159, 58, 5, 2, 3) := by decide +kernel
theorem i94_25 : ins 94 25 = some (.iload_n 1, 0, 0, 0, 0) := by decide +kernel
theorem i94_26 : ins 94 26 = some (.iaload, 0, 0, 0, 0) := by decide +kernel
theorem i94_27 : ins 94 27 = some (.istore_n 3, 0, 0, 0, 0) := by decide +kernel
theorem i94_28 : ins 94 28 = some (.iload_n 3, 0, 0, 0, 0) := by decide +kernel
theorem i94_29 : ins 94 29 = some (.iload_n 2, 0, 0, 0, 0) := by decide +kernel
theorem i94_30 : ins 94 30 = some (.if_icmp .ne 11, 0, 0, 0, 0) := by decide +kernel
theorem g94_30 : tg 30 (11) = 41 := by decide
theorem i94_33 : ins 94 33 = some (.aload_n 0, 0, 0, 0, 0) := by decide +kernel
theorem i94_34 : ins 94 34 = some (.bipush 14, 0, 0, 0, 0) := by decide +kernel
theorem i94_36 : ins 94 36 = some (.iload_n 2, 0, 0, 0, 0) := by decide +kernel
theorem i94_37 : ins 94 37 = some (.invokevirtual 305, 90, 102, 0, 0) := by decide +kernel
theorem i94_40 : ins 94 40 = some (.ireturn, 0, 0, 0, 0) := by decide +kernel
theorem i94_41 : ins 94 41 = some (.aload_n 0, 0, 0, 0, 0) := by decide +kernel
theorem i94_42 : ins 94 42 = some (.getfield 10, 44, 7, 0, 3) := by decide +kernel
theorem i94_45 : ins 94 45 = some (.getfield 159, 58, 5, 2, 3) := by decide +kernel
theorem i94_48 : ins 94 48 = some (.iload_n 1, 0, 0, 0, 0) := by decide +kernel
theorem i94_49 : ins 94 49 = some (.iload_n 2, 0, 0, 0, 0) := by decide +kernel
theorem i94_50 : ins 94 50 = some (.iastore, 0, 0, 0, 0) := by decide +kernel
theorem i94_51 : ins 94 51 = some (.iload_n 3, 0, 0, 0, 0) := by decide +kernel
theorem i94_52 : ins 94 52 = some (.ireturn, 0, 0, 0, 0) := by decide +kernel
theorem c95 : 95 < mnames ∧ nA 95 = 2 ∧ nS 95 = 0 := by decide +kernel
theorem m95 : (95 ≠ ensK ∧ 95 < mnames) ∧ nA 95 = 2 ∧ nL 95 = 3 := by decide +kernel
theorem r95 : nR 95 = (some .int) := by decide +kernel
theorem i95_0 : ins 95 0 = some (.iload_n 1, 0, 0, 0, 0) := by decide +kernel
theorem i95_1 : ins 95 1 = some (.invokestatic 128, 50, 99, 1, 0) := by decide +kernel
theorem i95_4 : ins 95 4 = some (.ifCond .ne 7, 0, 0, 0, 0) := by decide +kernel
theorem g95_4 : tg 4 (7) = 11 := by decide
theorem i95_7 : ins 95 7 = some (.sipush (-1011), 0, 0, 0, 0) := by decide +kernel
theorem i95_10 : ins 95 10 = some (.ireturn, 0, 0, 0, 0) := by decide +kernel
theorem i95_11 : ins 95 11 = some (.aload_n 0, 0, 0, 0, 0) := by decide +kernel
theorem i95_12 : ins 95 12 = some (.getfield 10, 44, 7, 0, 3) := by decide +kernel
theorem i95_15 : ins 95 15 = some (.getfield 155, 57, 5, 1, 3) := by decide +kernel
theorem i95_18 : ins 95 18 = some (.iload_n 1, 0, 0, 0, 0) := by decide +kernel
theorem i95_19 : ins 95 19 = some (.baload, 0, 0, 0, 0) := by decide +kernel
theorem i95_20 : ins 95 20 = some (.ifCond .ne 10, 0, 0, 0, 0) := by decide +kernel
theorem g95_20 : tg 20 (10) = 30 := by decide
theorem i95_23 : ins 95 23 = some (.aload_n 0, 0, 0, 0, 0) := by decide +kernel
theorem i95_24 : ins 95 24 = some (.iconst 2, 0, 0, 0, 0) := by decide +kernel
theorem i95_25 : ins 95 25 = some (.iload_n 1, 0, 0, 0, 0) := by decide +kernel
theorem i95_26 : ins 95 26 = some (.invokevirtual 305, 90, 102, 0, 0) := by decide +kernel
theorem i95_29 : ins 95 29 = some (.ireturn, 0, 0, 0, 0) := by decide +kernel
theorem i95_30 : ins 95 30 = some (.aload_n 0, 0, 0, 0, 0) := by decide +kernel
theorem i95_31 : ins 95 31 = some (.getfield 10, 44, 7, 0, 3) := by decide +kernel
theorem i95_34 : ins 95 34 = some (.iload_n 1, 0, 0, 0, 0) := by decide +kernel
theorem i95_35 : ins 95 35 = some (.invokevirtual 180, 61, 26, 0, 0) := by decide +kernel
theorem i95_38 : ins 95 38 = some (.istore_n 2, 0, 0, 0, 0) := by decide +kernel
theorem i95_39 : ins 95 39 = some (.iload_n 2, 0, 0, 0, 0) := by decide +kernel
theorem i95_40 : ins 95 40 = some (.iconst (-1), 0, 0, 0, 0) := by decide +kernel
theorem i95_41 : ins 95 41 = some (.if_icmp .ne 11, 0, 0, 0, 0) := by decide +kernel
theorem g95_41 : tg 41 (11) = 52 := by decide
theorem i95_44 : ins 95 44 = some (.aload_n 0, 0, 0, 0, 0) := by decide +kernel
theorem i95_45 : ins 95 45 = some (.bipush 15, 0, 0, 0, 0) := by decide +kernel
theorem i95_47 : ins 95 47 = some (.iload_n 1, 0, 0, 0, 0) := by decide +kernel
theorem i95_48 : ins 95 48 = some (.invokevirtual 305, 90, 102, 0, 0) := by decide +kernel
theorem i95_51 : ins 95 51 = some (.ireturn, 0, 0, 0, 0) := by decide +kernel
theorem i95_52 : ins 95 52 = some (.aload_n 0, 0, 0, 0, 0) := by decide +kernel
theorem i95_53 : ins 95 53 = some (.getfield 10, 44, 7, 0, 3) := by decide +kernel
theorem i95_56 : ins 95 56 = some (.iload_n 1, 0, 0, 0, 0) := by decide +kernel
theorem i95_57 : ins 95 57 = some (.iload_n 2, 0, 0, 0, 0) := by decide +kernel
theorem i95_58 : ins 95 58 = some (.invokevirtual 331, 98, 27, 0, 0) := by decide +kernel
theorem i95_61 : ins 95 61 = some (.iload_n 2, 0, 0, 0, 0) := by decide +kernel
theorem i95_62 : ins 95 62 = some (.ireturn, 0, 0, 0, 0) := by decide +kernel
theorem c96 : 96 < mnames ∧ nA 96 = 2 ∧ nS 96 = 0 := by decide +kernel
theorem m96 : (96 ≠ ensK ∧ 96 < mnames) ∧ nA 96 = 2 ∧ nL 96 = 2 := by decide +kernel
theorem r96 : nR 96 = (some .int) := by decide +kernel
theorem i96_0 : ins 96 0 = some (.iload_n 1, 0, 0, 0, 0) := by decide +kernel
theorem i96_1 : ins 96 1 = some (.iconst 1, 0, 0, 0, 0) := by decide +kernel
theorem i96_2 : ins 96 2 = some (.bipush 24, 0, 0, 0, 0) := by decide +kernel
theorem i96_4 : ins 96 4 = some (.invokestatic 202, 76, 98, 1, 0) := by decide +kernel
theorem i96_7 : ins 96 7 = some (.ifCond .ne 7, 0, 0, 0, 0) := by decide +kernel
theorem g96_7 : tg 7 (7) = 14 := by decide
theorem i96_10 : ins 96 10 = some (.sipush (-1012), 0, 0, 0, 0) := by decide +kernel
theorem i96_13 : ins 96 13 = some (.ireturn, 0, 0, 0, 0) := by decide +kernel
theorem i96_14 : ins 96 14 = some (.aload_n 0, 0, 0, 0, 0) := by decide +kernel
theorem i96_15 : ins 96 15 = some (.getfield 10, 44, 7, 0, 3) := by decide +kernel
theorem i96_18 : ins 96 18 = some (.dup, 0, 0, 0, 0) := by decide +kernel
theorem i96_19 : ins 96 19 = some (.getfield 278, 75, 5, 10, 0) := by decide +kernel
theorem i96_22 : ins 96 22 = some (.iload_n 1, 0, 0, 0, 0) := by decide +kernel
theorem i96_23 : ins 96 23 = some (.iadd, 0, 0, 0, 0) := by decide +kernel
theorem i96_24 : ins 96 24 = some (.putfield 278, 75, 5, 10, 0) := by decide +kernel
theorem i96_27 : ins 96 27 = some (.aload_n 0, 0, 0, 0, 0) := by decide +kernel
theorem i96_28 : ins 96 28 = some (.getfield 10, 44, 7, 0, 3) := by decide +kernel
theorem i96_31 : ins 96 31 = some (.getfield 87, 45, 5, 0, 3) := by decide +kernel
theorem i96_34 : ins 96 34 = some (.iload_n 1, 0, 0, 0, 0) := by decide +kernel
theorem i96_35 : ins 96 35 = some (.invokevirtual 334, 99, 41, 0, 0) := by decide +kernel
theorem i96_38 : ins 96 38 = some (.ireturn, 0, 0, 0, 0) := by decide +kernel
theorem c97 : 97 < mnames ∧ nA 97 = 2 ∧ nS 97 = 0 := by decide +kernel
theorem m97 : (97 ≠ ensK ∧ 97 < mnames) ∧ nA 97 = 2 ∧ nL 97 = 5 := by decide +kernel
theorem r97 : nR 97 = (some .int) := by decide +kernel
theorem i97_0 : ins 97 0 = some (.aload_n 0, 0, 0, 0, 0) := by decide +kernel
theorem i97_1 : ins 97 1 = some (.getfield 40, 62, 7, 5, 3) := by decide +kernel
theorem i97_4 : ins 97 4 = some (.getfield 337, 79, 2, 1, 3) := by decide +kernel
theorem i97_7 : ins 97 7 = some (.iload_n 1, 0, 0, 0, 0) := by decide +kernel
theorem i97_8 : ins 97 8 = some (.iaload, 0, 0, 0, 0) := by decide +kernel
theorem i97_9 : ins 97 9 = some (.istore_n 2, 0, 0, 0, 0) := by decide +kernel
theorem i97_10 : ins 97 10 = some (.aload_n 0, 0, 0, 0, 0) := by decide +kernel
theorem i97_11 : ins 97 11 = some (.getfield 40, 62, 7, 5, 3) := by decide +kernel
theorem i97_14 : ins 97 14 = some (.getfield 340, 80, 2, 2, 3) := by decide +kernel
theorem i97_17 : ins 97 17 = some (.iload_n 1, 0, 0, 0, 0) := by decide +kernel
theorem i97_18 : ins 97 18 = some (.iaload, 0, 0, 0, 0) := by decide +kernel
theorem i97_19 : ins 97 19 = some (.istore_n 3, 0, 0, 0, 0) := by decide +kernel
theorem i97_20 : ins 97 20 = some (.aload_n 0, 0, 0, 0, 0) := by decide +kernel
theorem i97_21 : ins 97 21 = some (.getfield 40, 62, 7, 5, 3) := by decide +kernel
theorem i97_24 : ins 97 24 = some (.getfield 343, 81, 2, 3, 3) := by decide +kernel
theorem i97_27 : ins 97 27 = some (.iload_n 1, 0, 0, 0, 0) := by decide +kernel
theorem i97_28 : ins 97 28 = some (.iaload, 0, 0, 0, 0) := by decide +kernel
theorem i97_29 : ins 97 29 = some (.istore 4, 0, 0, 0, 0) := by decide +kernel
theorem i97_31 : ins 97 31 = some (.aload_n 0, 0, 0, 0, 0) := by decide +kernel
theorem i97_32 : ins 97 32 = some (.getfield 40, 62, 7, 5, 3) := by decide +kernel
theorem i97_35 : ins 97 35 = some (.getfield 346, 82, 2, 0, 3) := by decide +kernel
theorem i97_38 : ins 97 38 = some (.iload_n 1, 0, 0, 0, 0) := by decide +kernel
theorem i97_39 : ins 97 39 = some (.iaload, 0, 0, 0, 0) := by decide +kernel
theorem i97_40 : ins 97 40 = some (.tableswitch 178 98 119 #[113, 178, 145, 166, 178, 178, 159, 178, 178, 178, 178, 150, 178, 120, 138, 178, 178, 104, 172, 178, 178, 129], 0, 0, 0, 0) := by decide +kernel
theorem i97_144 : ins 97 144 = some (.aload_n 0, 0, 0, 0, 0) := by decide +kernel
theorem i97_145 : ins 97 145 = some (.iload_n 2, 0, 0, 0, 0) := by decide +kernel
theorem i97_146 : ins 97 146 = some (.iload_n 3, 0, 0, 0, 0) := by decide +kernel
theorem i97_147 : ins 97 147 = some (.iload 4, 0, 0, 0, 0) := by decide +kernel
theorem i97_149 : ins 97 149 = some (.invokevirtual 65, 41, 86, 0, 0) := by decide +kernel
theorem i97_152 : ins 97 152 = some (.ireturn, 0, 0, 0, 0) := by decide +kernel
theorem i97_153 : ins 97 153 = some (.aload_n 0, 0, 0, 0, 0) := by decide +kernel
theorem i97_154 : ins 97 154 = some (.iload_n 2, 0, 0, 0, 0) := by decide +kernel
theorem i97_155 : ins 97 155 = some (.iload_n 3, 0, 0, 0, 0) := by decide +kernel
theorem i97_156 : ins 97 156 = some (.invokevirtual 73, 43, 89, 0, 0) := by decide +kernel
theorem i97_159 : ins 97 159 = some (.ireturn, 0, 0, 0, 0) := by decide +kernel
theorem i97_160 : ins 97 160 = some (.aload_n 0, 0, 0, 0, 0) := by decide +kernel
theorem i97_161 : ins 97 161 = some (.iload_n 2, 0, 0, 0, 0) := by decide +kernel
theorem i97_162 : ins 97 162 = some (.iload_n 3, 0, 0, 0, 0) := by decide +kernel
theorem i97_163 : ins 97 163 = some (.iload 4, 0, 0, 0, 0) := by decide +kernel
theorem i97_165 : ins 97 165 = some (.invokevirtual 77, 44, 90, 0, 0) := by decide +kernel
theorem i97_168 : ins 97 168 = some (.ireturn, 0, 0, 0, 0) := by decide +kernel
theorem i97_169 : ins 97 169 = some (.aload_n 0, 0, 0, 0, 0) := by decide +kernel
theorem i97_170 : ins 97 170 = some (.iload_n 2, 0, 0, 0, 0) := by decide +kernel
theorem i97_171 : ins 97 171 = some (.iload_n 3, 0, 0, 0, 0) := by decide +kernel
theorem i97_172 : ins 97 172 = some (.iload 4, 0, 0, 0, 0) := by decide +kernel
theorem i97_174 : ins 97 174 = some (.invokevirtual 80, 45, 91, 0, 0) := by decide +kernel
theorem i97_177 : ins 97 177 = some (.ireturn, 0, 0, 0, 0) := by decide +kernel
theorem i97_178 : ins 97 178 = some (.aload_n 0, 0, 0, 0, 0) := by decide +kernel
theorem i97_179 : ins 97 179 = some (.iload_n 2, 0, 0, 0, 0) := by decide +kernel
theorem i97_180 : ins 97 180 = some (.iload_n 3, 0, 0, 0, 0) := by decide +kernel
theorem i97_181 : ins 97 181 = some (.invokevirtual 121, 48, 92, 0, 0) := by decide +kernel
theorem i97_184 : ins 97 184 = some (.ireturn, 0, 0, 0, 0) := by decide +kernel
theorem i97_185 : ins 97 185 = some (.aload_n 0, 0, 0, 0, 0) := by decide +kernel
theorem i97_186 : ins 97 186 = some (.invokevirtual 124, 49, 93, 0, 0) := by decide +kernel
theorem i97_189 : ins 97 189 = some (.ireturn, 0, 0, 0, 0) := by decide +kernel
theorem i97_190 : ins 97 190 = some (.aload_n 0, 0, 0, 0, 0) := by decide +kernel
theorem i97_191 : ins 97 191 = some (.iload_n 2, 0, 0, 0, 0) := by decide +kernel
theorem i97_192 : ins 97 192 = some (.iload_n 3, 0, 0, 0, 0) := by decide +kernel
theorem i97_193 : ins 97 193 = some (.iload 4, 0, 0, 0, 0) := by decide +kernel
theorem i97_195 : ins 97 195 = some (.invokevirtual 143, 53, 87, 0, 0) := by decide +kernel
theorem i97_198 : ins 97 198 = some (.ireturn, 0, 0, 0, 0) := by decide +kernel
theorem i97_199 : ins 97 199 = some (.aload_n 0, 0, 0, 0, 0) := by decide +kernel
theorem i97_200 : ins 97 200 = some (.iload_n 2, 0, 0, 0, 0) := by decide +kernel
theorem i97_201 : ins 97 201 = some (.iload_n 3, 0, 0, 0, 0) := by decide +kernel
theorem i97_202 : ins 97 202 = some (.invokevirtual 146, 54, 94, 0, 0) := by decide +kernel
theorem i97_205 : ins 97 205 = some (.ireturn, 0, 0, 0, 0) := by decide +kernel
theorem i97_206 : ins 97 206 = some (.aload_n 0, 0, 0, 0, 0) := by decide +kernel
theorem i97_207 : ins 97 207 = some (.iload_n 2, 0, 0, 0, 0) := by decide +kernel
theorem i97_208 : ins 97 208 = some (.invokevirtual 149, 55, 95, 0, 0) := by decide +kernel
theorem i97_211 : ins 97 211 = some (.ireturn, 0, 0, 0, 0) := by decide +kernel
theorem i97_212 : ins 97 212 = some (.aload_n 0, 0, 0, 0, 0) := by decide +kernel
theorem i97_213 : ins 97 213 = some (.iload_n 2, 0, 0, 0, 0) := by decide +kernel
theorem i97_214 : ins 97 214 = some (.invokevirtual 152, 56, 96, 0, 0) := by decide +kernel
theorem i97_217 : ins 97 217 = some (.ireturn, 0, 0, 0, 0) := by decide +kernel
theorem i97_218 : ins 97 218 = some (.sipush (-1012), 0, 0, 0, 0) := by decide +kernel
theorem i97_221 : ins 97 221 = some (.ireturn, 0, 0, 0, 0) := by decide +kernel
theorem c98 : 98 < mnames ∧ nA 98 = 3 ∧ nS 98 = 1 := by decide +kernel
theorem m98 : (98 ≠ ensK ∧ 98 < mnames) ∧ nA 98 = 3 ∧ nL 98 = 3 := by decide +kernel
theorem r98 : nR 98 = (some .boolean) := by decide +kernel
theorem i98_0 : ins 98 0 = some (.iload_n 0, 0, 0, 0, 0) := by decide +kernel
theorem i98_1 : ins 98 1 = some (.iload_n 1, 0, 0, 0, 0) := by decide +kernel
theorem i98_2 : ins 98 2 = some (.if_icmp .lt 12, 0, 0, 0, 0) := by decide +kernel
theorem g98_2 : tg 2 (12) = 14 := by decide
theorem i98_5 : ins 98 5 = some (.iload_n 0, 0, 0, 0, 0) := by decide +kernel
theorem i98_6 : ins 98 6 = some (.iload_n 2, 0, 0, 0, 0) := by decide +kernel
theorem i98_7 : ins 98 7 = some (.if_icmp .gt 7, 0, 0, 0, 0) := by decide +kernel
theorem g98_7 : tg 7 (7) = 14 := by decide
theorem i98_10 : ins 98 10 = some (.iconst 1, 0, 0, 0, 0) := by decide +kernel
theorem i98_11 : ins 98 11 = some (.goto 4, 0, 0, 0, 0) := by decide +kernel
theorem g98_11 : tg 11 (4) = 15 := by decide
theorem i98_14 : ins 98 14 = some (.iconst 0, 0, 0, 0, 0) := by decide +kernel
theorem i98_15 : ins 98 15 = some (.ireturn, 0, 0, 0, 0) := by decide +kernel
theorem c99 : 99 < mnames ∧ nA 99 = 1 ∧ nS 99 = 1 := by decide +kernel
theorem m99 : (99 ≠ ensK ∧ 99 < mnames) ∧ nA 99 = 1 ∧ nL 99 = 1 := by decide +kernel
theorem r99 : nR 99 = (some .boolean) := by decide +kernel
theorem i99_0 : ins 99 0 = some (.iload_n 0, 0, 0, 0, 0) := by decide +kernel
theorem i99_1 : ins 99 1 = some (.iconst 0, 0, 0, 0, 0) := by decide +kernel
theorem i99_2 : ins 99 2 = some (.iconst 5, 0, 0, 0, 0) := by decide +kernel
theorem i99_3 : ins 99 3 = some (.invokestatic 202, 76, 98, 1, 0) := by decide +kernel
theorem i99_6 : ins 99 6 = some (.ireturn, 0, 0, 0, 0) := by decide +kernel
theorem c100 : 100 < mnames ∧ nA 100 = 2 ∧ nS 100 = 0 := by decide +kernel
theorem m100 : (100 ≠ ensK ∧ 100 < mnames) ∧ nA 100 = 2 ∧ nL 100 = 2 := by decide +kernel
theorem r100 : nR 100 = (some .boolean) := by decide +kernel
theorem i100_0 : ins 100 0 = some (.iload_n 1, 0, 0, 0, 0) := by decide +kernel
theorem i100_1 : ins 100 1 = some (.iconst 0, 0, 0, 0, 0) := by decide +kernel
theorem i100_2 : ins 100 2 = some (.aload_n 0, 0, 0, 0, 0) := by decide +kernel
theorem i100_3 : ins 100 3 = some (.getfield 10, 44, 7, 0, 3) := by decide +kernel
theorem i100_6 : ins 100 6 = some (.getfield 87, 45, 5, 0, 3) := by decide +kernel
theorem i100_9 : ins 100 9 = some (.getfield 195, 61, 6, 8, 0) := by decide +kernel
theorem i100_12 : ins 100 12 = some (.iconst 1, 0, 0, 0, 0) := by decide +kernel
theorem i100_13 : ins 100 13 = some (.isub, 0, 0, 0, 0) := by decide +kernel
theorem i100_14 : ins 100 14 = some (.invokestatic 202, 76, 98, 1, 0) := by decide +kernel
theorem i100_17 : ins 100 17 = some (.ireturn, 0, 0, 0, 0) := by decide +kernel
theorem c101 : 101 < mnames ∧ nA 101 = 1 ∧ nS 101 = 1 := by decide +kernel
theorem m101 : (101 ≠ ensK ∧ 101 < mnames) ∧ nA 101 = 1 ∧ nL 101 = 1 := by decide +kernel
theorem r101 : nR 101 = (some .int) := by decide +kernel
theorem i101_0 : ins 101 0 = some (.iload_n 0, 0, 0, 0, 0) := by decide +kernel
theorem i101_1 : ins 101 1 = some (.iconst (-1), 0, 0, 0, 0) := by decide +kernel
theorem i101_2 : ins 101 2 = some (.if_icmp .ne 9, 0, 0, 0, 0) := by decide +kernel
theorem g101_2 : tg 2 (9) = 11 := by decide
theorem i101_5 : ins 101 5 = some (.sipush (-1015), 0, 0, 0, 0) := by decide +kernel
theorem i101_8 : ins 101 8 = some (.goto 4, 0, 0, 0, 0) := by decide +kernel
theorem g101_8 : tg 8 (4) = 12 := by decide
theorem i101_11 : ins 101 11 = some (.iload_n 0, 0, 0, 0, 0) := by decide +kernel
theorem i101_12 : ins 101 12 = some (.ireturn, 0, 0, 0, 0) := by decide +kernel
theorem c102 : 102 < mnames ∧ nA 102 = 3 ∧ nS 102 = 0 := by decide +kernel
theorem m102 : (102 ≠ ensK ∧ 102 < mnames) ∧ nA 102 = 3 ∧ nL 102 = 3 := by decide +kernel
theorem r102 : nR 102 = (some .int) := by decide +kernel
theorem i102_0 : ins 102 0 = some (.aload_n 0, 0, 0, 0, 0) := by decide +kernel
theorem i102_1 : ins 102 1 = some (.getfield 33, 66, 7, 4, 3) := by decide +kernel
theorem i102_4 : ins 102 4 = some (.invokevirtual 349, 100, 12, 0, 0) := by decide +kernel
theorem i102_7 : ins 102 7 = some (.aload_n 0, 0, 0, 0, 0) := by decide +kernel
theorem i102_8 : ins 102 8 = some (.getfield 33, 66, 7, 4, 3) := by decide +kernel
theorem i102_11 : ins 102 11 = some (.iload_n 1, 0, 0, 0, 0) := by decide +kernel
theorem i102_12 : ins 102 12 = some (.iload_n 2, 0, 0, 0, 0) := by decide +kernel
theorem i102_13 : ins 102 13 = some (.invokevirtual 315, 93, 13, 0, 0) := by decide +kernel
theorem i102_16 : ins 102 16 = some (.sipush (-1014), 0, 0, 0, 0) := by decide +kernel
theorem i102_19 : ins 102 19 = some (.ireturn, 0, 0, 0, 0) := by decide +kernel
theorem c103 : 103 < mnames ∧ nA 103 = 3 ∧ nS 103 = 0 := by decide +kernel
theorem m103 : (103 ≠ ensK ∧ 103 < mnames) ∧ nA 103 = 3 ∧ nL 103 = 3 := by decide +kernel
theorem r103 : nR 103 = (some .int) := by decide +kernel
theorem i103_0 : ins 103 0 = some (.iload_n 2, 0, 0, 0, 0) := by decide +kernel
theorem i103_1 : ins 103 1 = some (.sipush (-1014), 0, 0, 0, 0) := by decide +kernel
theorem i103_4 : ins 103 4 = some (.if_icmp .eq 10, 0, 0, 0, 0) := by decide +kernel
theorem g103_4 : tg 4 (10) = 14 := by decide
theorem i103_7 : ins 103 7 = some (.aload_n 0, 0, 0, 0, 0) := by decide +kernel
theorem i103_8 : ins 103 8 = some (.getfield 33, 66, 7, 4, 3) := by decide +kernel
theorem i103_11 : ins 103 11 = some (.invokevirtual 349, 100, 12, 0, 0) := by decide +kernel
theorem i103_14 : ins 103 14 = some (.aload_n 0, 0, 0, 0, 0) := by decide +kernel
theorem i103_15 : ins 103 15 = some (.getfield 33, 66, 7, 4, 3) := by decide +kernel
theorem i103_18 : ins 103 18 = some (.bipush 16, 0, 0, 0, 0) := by decide +kernel
theorem i103_20 : ins 103 20 = some (.iload_n 1, 0, 0, 0, 0) := by decide +kernel
theorem i103_21 : ins 103 21 = some (.invokevirtual 352, 101, 14, 0, 0) := by decide +kernel
theorem i103_24 : ins 103 24 = some (.sipush (-1014), 0, 0, 0, 0) := by decide +kernel
theorem i103_27 : ins 103 27 = some (.ireturn, 0, 0, 0, 0) := by decide +kernel
theorem c104 : 104 < mnames ∧ nA 104 = 2 ∧ nS 104 = 0 := by decide +kernel
theorem m104 : (104 ≠ ensK ∧ 104 < mnames) ∧ nA 104 = 2 ∧ nL 104 = 2 := by decide +kernel
theorem r104 : nR 104 = none := by decide +kernel
theorem i104_0 : ins 104 0 = some (.aload_n 0, 0, 0, 0, 0) := by decide +kernel
theorem i104_1 : ins 104 1 = some (.getfield 10, 44, 7, 0, 3) := by decide +kernel
theorem i104_4 : ins 104 4 = some (.getfield 155, 57, 5, 1, 3) := by decide +kernel
theorem i104_7 : ins 104 7 = some (.iload_n 1, 0, 0, 0, 0) := by decide +kernel
theorem i104_8 : ins 104 8 = some (.baload, 0, 0, 0, 0) := by decide +kernel
theorem i104_9 : ins 104 9 = some (.ifCond .ne 14, 0, 0, 0, 0) := by decide +kernel
theorem g104_9 : tg 9 (14) = 23 := by decide
theorem i104_12 : ins 104 12 = some (.aload_n 0, 0, 0, 0, 0) := by decide +kernel
theorem i104_13 : ins 104 13 = some (.getfield 58, 65, 7, 8, 3) := by decide +kernel
theorem i104_16 : ins 104 16 = some (.bipush 120, 0, 0, 0, 0) := by decide +kernel
theorem i104_18 : ins 104 18 = some (.invokevirtual 209, 73, 189, 0, 0) := by decide +kernel
theorem i104_21 : ins 104 21 = some (.pop, 0, 0, 0, 0) := by decide +kernel
theorem i104_22 : ins 104 22 = some (.return_, 0, 0, 0, 0) := by decide +kernel
theorem i104_23 : ins 104 23 = some (.aload_n 0, 0, 0, 0, 0) := by decide +kernel
theorem i104_24 : ins 104 24 = some (.getfield 58, 65, 7, 8, 3) := by decide +kernel
theorem i104_27 : ins 104 27 = some (.aload_n 0, 0, 0, 0, 0) := by decide +kernel
theorem i104_28 : ins 104 28 = some (.getfield 10, 44, 7, 0, 3) := by decide +kernel
theorem i104_31 : ins 104 31 = some (.getfield 162, 59, 5, 3, 3) := by decide +kernel
theorem i104_34 : ins 104 34 = some (.iload_n 1, 0, 0, 0, 0) := by decide +kernel
theorem i104_35 : ins 104 35 = some (.iaload, 0, 0, 0, 0) := by decide +kernel
theorem i104_36 : ins 104 36 = some (.invokevirtual 231, 72, 190, 0, 0) := by decide +kernel
theorem i104_39 : ins 104 39 = some (.pop, 0, 0, 0, 0) := by decide +kernel
theorem i104_40 : ins 104 40 = some (.aload_n 0, 0, 0, 0, 0) := by decide +kernel
theorem i104_41 : ins 104 41 = some (.getfield 10, 44, 7, 0, 3) := by decide +kernel
theorem i104_44 : ins 104 44 = some (.getfield 165, 60, 5, 4, 3) := by decide +kernel
theorem i104_47 : ins 104 47 = some (.iload_n 1, 0, 0, 0, 0) := by decide +kernel
theorem i104_48 : ins 104 48 = some (.iaload, 0, 0, 0, 0) := by decide +kernel
theorem i104_49 : ins 104 49 = some (.ifCond .le 25, 0, 0, 0, 0) := by decide +kernel
theorem g104_49 : tg 49 (25) = 74 := by decide
theorem i104_52 : ins 104 52 = some (.aload_n 0, 0, 0, 0, 0) := by decide +kernel
theorem i104_53 : ins 104 53 = some (.getfield 58, 65, 7, 8, 3) := by decide +kernel
theorem i104_56 : ins 104 56 = some (.bipush 43, 0, 0, 0, 0) := by decide +kernel
theorem i104_58 : ins 104 58 = some (.invokevirtual 209, 73, 189, 0, 0) := by decide +kernel
theorem i104_61 : ins 104 61 = some (.aload_n 0, 0, 0, 0, 0) := by decide +kernel
theorem i104_62 : ins 104 62 = some (.getfield 10, 44, 7, 0, 3) := by decide +kernel
theorem i104_65 : ins 104 65 = some (.getfield 165, 60, 5, 4, 3) := by decide +kernel
theorem i104_68 : ins 104 68 = some (.iload_n 1, 0, 0, 0, 0) := by decide +kernel
theorem i104_69 : ins 104 69 = some (.iaload, 0, 0, 0, 0) := by decide +kernel
theorem i104_70 : ins 104 70 = some (.invokevirtual 231, 72, 190, 0, 0) := by decide +kernel
theorem i104_73 : ins 104 73 = some (.pop, 0, 0, 0, 0) := by decide +kernel
theorem i104_74 : ins 104 74 = some (.return_, 0, 0, 0, 0) := by decide +kernel
theorem c105 : 105 < mnames ∧ nA 105 = 1 ∧ nS 105 = 0 := by decide +kernel
theorem m105 : (105 ≠ ensK ∧ 105 < mnames) ∧ nA 105 = 1 ∧ nL 105 = 2 := by decide +kernel
theorem r105 : nR 105 = (some .boolean) := by decide +kernel
theorem i105_0 : ins 105 0 = some (.aload_n 0, 0, 0, 0, 0) := by decide +kernel
theorem i105_1 : ins 105 1 = some (.getfield 10, 44, 7, 0, 3) := by decide +kernel
theorem i105_4 : ins 105 4 = some (.getfield 87, 45, 5, 0, 3) := by decide +kernel
theorem i105_7 : ins 105 7 = some (.invokevirtual 254, 80, 50, 0, 0) := by decide +kernel
theorem i105_10 : ins 105 10 = some (.aload_n 0, 0, 0, 0, 0) := by decide +kernel
theorem i105_11 : ins 105 11 = some (.getfield 10, 44, 7, 0, 3) := by decide +kernel
theorem i105_14 : ins 105 14 = some (.invokevirtual 257, 81, 23, 0, 0) := by decide +kernel
theorem i105_17 : ins 105 17 = some (.iadd, 0, 0, 0, 0) := by decide +kernel
theorem i105_18 : ins 105 18 = some (.aload_n 0, 0, 0, 0, 0) := by decide +kernel
theorem i105_19 : ins 105 19 = some (.getfield 10, 44, 7, 0, 3) := by decide +kernel
theorem i105_22 : ins 105 22 = some (.getfield 260, 70, 5, 5, 0) := by decide +kernel
theorem i105_25 : ins 105 25 = some (.iadd, 0, 0, 0, 0) := by decide +kernel
theorem i105_26 : ins 105 26 = some (.istore_n 1, 0, 0, 0, 0) := by decide +kernel
theorem i105_27 : ins 105 27 = some (.aload_n 0, 0, 0, 0, 0) := by decide +kernel
theorem i105_28 : ins 105 28 = some (.getfield 10, 44, 7, 0, 3) := by decide +kernel
theorem i105_31 : ins 105 31 = some (.getfield 263, 71, 5, 6, 0) := by decide +kernel
theorem i105_34 : ins 105 34 = some (.iload_n 1, 0, 0, 0, 0) := by decide +kernel
theorem i105_35 : ins 105 35 = some (.aload_n 0, 0, 0, 0, 0) := by decide +kernel
theorem i105_36 : ins 105 36 = some (.getfield 10, 44, 7, 0, 3) := by decide +kernel
theorem i105_39 : ins 105 39 = some (.getfield 266, 72, 5, 7, 0) := by decide +kernel
theorem i105_42 : ins 105 42 = some (.iadd, 0, 0, 0, 0) := by decide +kernel
theorem i105_43 : ins 105 43 = some (.if_icmp .ne 24, 0, 0, 0, 0) := by decide +kernel
theorem g105_43 : tg 43 (24) = 67 := by decide
theorem i105_46 : ins 105 46 = some (.aload_n 0, 0, 0, 0, 0) := by decide +kernel
theorem i105_47 : ins 105 47 = some (.getfield 10, 44, 7, 0, 3) := by decide +kernel
theorem i105_50 : ins 105 50 = some (.getfield 260, 70, 5, 5, 0) := by decide +kernel
theorem i105_53 : ins 105 53 = some (.aload_n 0, 0, 0, 0, 0) := by decide +kernel
theorem i105_54 : ins 105 54 = some (.getfield 10, 44, 7, 0, 3) := by decide +kernel
theorem i105_57 : ins 105 57 = some (.invokevirtual 355, 102, 24, 0, 0) := by decide +kernel
theorem i105_60 : ins 105 60 = some (.if_icmp .ne 7, 0, 0, 0, 0) := by decide +kernel
theorem g105_60 : tg 60 (7) = 67 := by decide
theorem i105_63 : ins 105 63 = some (.iconst 1, 0, 0, 0, 0) := by decide +kernel
theorem i105_64 : ins 105 64 = some (.goto 4, 0, 0, 0, 0) := by decide +kernel
theorem g105_64 : tg 64 (4) = 68 := by decide
theorem i105_67 : ins 105 67 = some (.iconst 0, 0, 0, 0, 0) := by decide +kernel
theorem i105_68 : ins 105 68 = some (.ireturn, 0, 0, 0, 0) := by decide +kernel
theorem c106 : 106 < mnames ∧ nA 106 = 1 ∧ nS 106 = 0 := by decide +kernel
theorem m106 : (106 ≠ ensK ∧ 106 < mnames) ∧ nA 106 = 1 ∧ nL 106 = 3 := by decide +kernel
theorem r106 : nR 106 = (some .boolean) := by decide +kernel
theorem i106_0 : ins 106 0 = some (.aload_n 0, 0, 0, 0, 0) := by decide +kernel
theorem i106_1 : ins 106 1 = some (.getfield 47, 54, 7, 6, 3) := by decide +kernel
theorem i106_4 : ins 106 4 = some (.aload_n 0, 0, 0, 0, 0) := by decide +kernel
theorem i106_5 : ins 106 5 = some (.getfield 10, 44, 7, 0, 3) := by decide +kernel
theorem i106_8 : ins 106 8 = some (.invokevirtual 131, 51, 15, 0, 0) := by decide +kernel
theorem i106_11 : ins 106 11 = some (.aload_n 0, 0, 0, 0, 0) := by decide +kernel
theorem i106_12 : ins 106 12 = some (.getfield 47, 54, 7, 6, 3) := by decide +kernel
theorem i106_15 : ins 106 15 = some (.aload_n 0, 0, 0, 0, 0) := by decide +kernel
theorem i106_16 : ins 106 16 = some (.getfield 10, 44, 7, 0, 3) := by decide +kernel
theorem i106_19 : ins 106 19 = some (.invokevirtual 137, 52, 17, 0, 0) := by decide +kernel
theorem i106_22 : ins 106 22 = some (.iconst 0, 0, 0, 0, 0) := by decide +kernel
theorem i106_23 : ins 106 23 = some (.istore_n 1, 0, 0, 0, 0) := by decide +kernel
theorem i106_24 : ins 106 24 = some (.iconst 0, 0, 0, 0, 0) := by decide +kernel
theorem i106_25 : ins 106 25 = some (.istore_n 2, 0, 0, 0, 0) := by decide +kernel
theorem i106_26 : ins 106 26 = some (.iload_n 2, 0, 0, 0, 0) := by decide +kernel
theorem i106_27 : ins 106 27 = some (.bipush 6, 0, 0, 0, 0) := by decide +kernel
theorem i106_29 : ins 106 29 = some (.if_icmp .ge 44, 0, 0, 0, 0) := by decide +kernel
theorem g106_29 : tg 29 (44) = 73 := by decide
theorem i106_32 : ins 106 32 = some (.aload_n 0, 0, 0, 0, 0) := by decide +kernel
theorem i106_33 : ins 106 33 = some (.getfield 47, 54, 7, 6, 3) := by decide +kernel
theorem i106_36 : ins 106 36 = some (.getfield 134, 55, 4, 0, 3) := by decide +kernel
theorem i106_39 : ins 106 39 = some (.iload_n 2, 0, 0, 0, 0) := by decide +kernel
theorem i106_40 : ins 106 40 = some (.iaload, 0, 0, 0, 0) := by decide +kernel
theorem i106_41 : ins 106 41 = some (.aload_n 0, 0, 0, 0, 0) := by decide +kernel
theorem i106_42 : ins 106 42 = some (.getfield 47, 54, 7, 6, 3) := by decide +kernel
theorem i106_45 : ins 106 45 = some (.getfield 140, 56, 4, 1, 3) := by decide +kernel
theorem i106_48 : ins 106 48 = some (.iload_n 2, 0, 0, 0, 0) := by decide +kernel
theorem i106_49 : ins 106 49 = some (.iaload, 0, 0, 0, 0) := by decide +kernel
theorem i106_50 : ins 106 50 = some (.if_icmp .eq 5, 0, 0, 0, 0) := by decide +kernel
theorem g106_50 : tg 50 (5) = 55 := by decide
theorem i106_53 : ins 106 53 = some (.iconst 0, 0, 0, 0, 0) := by decide +kernel
theorem i106_54 : ins 106 54 = some (.ireturn, 0, 0, 0, 0) := by decide +kernel
theorem i106_55 : ins 106 55 = some (.iload_n 1, 0, 0, 0, 0) := by decide +kernel
theorem i106_56 : ins 106 56 = some (.aload_n 0, 0, 0, 0, 0) := by decide +kernel
theorem i106_57 : ins 106 57 = some (.getfield 47, 54, 7, 6, 3) := by decide +kernel
theorem i106_60 : ins 106 60 = some (.getfield 134, 55, 4, 0, 3) := by decide +kernel
theorem i106_63 : ins 106 63 = some (.iload_n 2, 0, 0, 0, 0) := by decide +kernel
theorem i106_64 : ins 106 64 = some (.iaload, 0, 0, 0, 0) := by decide +kernel
theorem i106_65 : ins 106 65 = some (.iadd, 0, 0, 0, 0) := by decide +kernel
theorem i106_66 : ins 106 66 = some (.istore_n 1, 0, 0, 0, 0) := by decide +kernel
theorem i106_67 : ins 106 67 = some (.iinc 2 1, 0, 0, 0, 0) := by decide +kernel
theorem i106_70 : ins 106 70 = some (.goto (-44), 0, 0, 0, 0) := by decide +kernel
theorem g106_70 : tg 70 (-44) = 26 := by decide
theorem i106_73 : ins 106 73 = some (.aload_n 0, 0, 0, 0, 0) := by decide +kernel
theorem i106_74 : ins 106 74 = some (.getfield 10, 44, 7, 0, 3) := by decide +kernel
theorem i106_77 : ins 106 77 = some (.invokevirtual 328, 97, 22, 0, 0) := by decide +kernel
theorem i106_80 : ins 106 80 = some (.ifCond .eq 14, 0, 0, 0, 0) := by decide +kernel
theorem g106_80 : tg 80 (14) = 94 := by decide
theorem i106_83 : ins 106 83 = some (.iload_n 1, 0, 0, 0, 0) := by decide +kernel
theorem i106_84 : ins 106 84 = some (.aload_n 0, 0, 0, 0, 0) := by decide +kernel
theorem i106_85 : ins 106 85 = some (.getfield 10, 44, 7, 0, 3) := by decide +kernel
theorem i106_88 : ins 106 88 = some (.getfield 260, 70, 5, 5, 0) := by decide +kernel
theorem i106_91 : ins 106 91 = some (.if_icmp .ne 7, 0, 0, 0, 0) := by decide +kernel
theorem g106_91 : tg 91 (7) = 98 := by decide
theorem i106_94 : ins 106 94 = some (.iconst 1, 0, 0, 0, 0) := by decide +kernel
theorem i106_95 : ins 106 95 = some (.goto 4, 0, 0, 0, 0) := by decide +kernel
theorem g106_95 : tg 95 (4) = 99 := by decide
theorem i106_98 : ins 106 98 = some (.iconst 0, 0, 0, 0, 0) := by decide +kernel
theorem i106_99 : ins 106 99 = some (.ireturn, 0, 0, 0, 0) := by decide +kernel
theorem c107 : 107 < mnames ∧ nA 107 = 1 ∧ nS 107 = 0 := by decide +kernel
theorem m107 : (107 ≠ ensK ∧ 107 < mnames) ∧ nA 107 = 1 ∧ nL 107 = 2 := by decide +kernel
theorem r107 : nR 107 = (some .boolean) := by decide +kernel
theorem i107_0 : ins 107 0 = some (.iconst 0, 0, 0, 0, 0) := by decide +kernel
theorem i107_1 : ins 107 1 = some (.istore_n 1, 0, 0, 0, 0) := by decide +kernel
theorem i107_2 : ins 107 2 = some (.iload_n 1, 0, 0, 0, 0) := by decide +kernel
theorem i107_3 : ins 107 3 = some (.bipush 6, 0, 0, 0, 0) := by decide +kernel
theorem i107_5 : ins 107 5 = some (.if_icmp .ge 36, 0, 0, 0, 0) := by decide +kernel
theorem g107_5 : tg 5 (36) = 41 := by decide
theorem i107_8 : ins 107 8 = some (.aload_n 0, 0, 0, 0, 0) := by decide +kernel
theorem i107_9 : ins 107 9 = some (.getfield 10, 44, 7, 0, 3) := by decide +kernel
theorem i107_12 : ins 107 12 = some (.getfield 87, 45, 5, 0, 3) := by decide +kernel
theorem i107_15 : ins 107 15 = some (.iload_n 1, 0, 0, 0, 0) := by decide +kernel
theorem i107_16 : ins 107 16 = some (.invokevirtual 186, 63, 43, 0, 0) := by decide +kernel
theorem i107_19 : ins 107 19 = some (.aload_n 0, 0, 0, 0, 0) := by decide +kernel
theorem i107_20 : ins 107 20 = some (.getfield 10, 44, 7, 0, 3) := by decide +kernel
theorem i107_23 : ins 107 23 = some (.getfield 87, 45, 5, 0, 3) := by decide +kernel
theorem i107_26 : ins 107 26 = some (.iload_n 1, 0, 0, 0, 0) := by decide +kernel
theorem i107_27 : ins 107 27 = some (.invokevirtual 189, 64, 44, 0, 0) := by decide +kernel
theorem i107_30 : ins 107 30 = some (.if_icmp .eq 5, 0, 0, 0, 0) := by decide +kernel
theorem g107_30 : tg 30 (5) = 35 := by decide
theorem i107_33 : ins 107 33 = some (.iconst 0, 0, 0, 0, 0) := by decide +kernel
theorem i107_34 : ins 107 34 = some (.ireturn, 0, 0, 0, 0) := by decide +kernel
theorem i107_35 : ins 107 35 = some (.iinc 1 1, 0, 0, 0, 0) := by decide +kernel
theorem i107_38 : ins 107 38 = some (.goto (-36), 0, 0, 0, 0) := by decide +kernel
theorem g107_38 : tg 38 (-36) = 2 := by decide
theorem i107_41 : ins 107 41 = some (.iconst 1, 0, 0, 0, 0) := by decide +kernel
theorem i107_42 : ins 107 42 = some (.ireturn, 0, 0, 0, 0) := by decide +kernel
theorem c189 : 189 < mnames ∧ nA 189 = 2 ∧ nS 189 = 0 := by decide +kernel
theorem m189 : (189 ≠ ensK ∧ 189 < mnames) ∧ nA 189 = 2 ∧ nL 189 = 2 := by decide +kernel
theorem r189 : nR 189 = (some (.object "java/lang/StringBuilder")) := by decide +kernel
theorem i189_0 : ins 189 0 = some (.aload_n 0, 0, 0, 0, 0) := by decide +kernel
theorem i189_1 : ins 189 1 = some (.iload_n 1, 0, 0, 0, 0) := by decide +kernel
theorem i189_2 : ins 189 2 = some (.invokespecial 50, 171, 197, 3, 0) := by decide +kernel
theorem i189_5 : ins 189 5 = some (.pop, 0, 0, 0, 0) := by decide +kernel
theorem i189_6 : ins 189 6 = some (.aload_n 0, 0, 0, 0, 0) := by decide +kernel
theorem i189_7 : ins 189 7 = some (.areturn, 0, 0, 0, 0) := by decide +kernel
theorem c190 : 190 < mnames ∧ nA 190 = 2 ∧ nS 190 = 0 := by decide +kernel
theorem m190 : (190 ≠ ensK ∧ 190 < mnames) ∧ nA 190 = 2 ∧ nL 190 = 2 := by decide +kernel
theorem r190 : nR 190 = (some (.object "java/lang/StringBuilder")) := by decide +kernel
theorem i190_0 : ins 190 0 = some (.aload_n 0, 0, 0, 0, 0) := by decide +kernel
theorem i190_1 : ins 190 1 = some (.iload_n 1, 0, 0, 0, 0) := by decide +kernel
theorem i190_2 : ins 190 2 = some (.invokespecial 53, 172, 198, 3, 0) := by decide +kernel
theorem i190_5 : ins 190 5 = some (.pop, 0, 0, 0, 0) := by decide +kernel
theorem i190_6 : ins 190 6 = some (.aload_n 0, 0, 0, 0, 0) := by decide +kernel
theorem i190_7 : ins 190 7 = some (.areturn, 0, 0, 0, 0) := by decide +kernel
theorem c191 : 191 < mnames ∧ nA 191 = 2 ∧ nS 191 = 0 := by decide +kernel
theorem m191 : (191 ≠ ensK ∧ 191 < mnames) ∧ nA 191 = 2 ∧ nL 191 = 2 := by decide +kernel
theorem r191 : nR 191 = (some .char) := by decide +kernel
theorem i191_0 : ins 191 0 = some (.aload_n 0, 0, 0, 0, 0) := by decide +kernel
theorem i191_1 : ins 191 1 = some (.iload_n 1, 0, 0, 0, 0) := by decide +kernel
theorem i191_2 : ins 191 2 = some (.invokespecial 329, 173, 195, 3, 0) := by decide +kernel
theorem i191_5 : ins 191 5 = some (.ireturn, 0, 0, 0, 0) := by decide +kernel
theorem c192 : 192 < mnames ∧ nA 192 = 2 ∧ nS 192 = 0 := by decide +kernel
theorem m192 : (192 ≠ ensK ∧ 192 < mnames) ∧ nA 192 = 2 ∧ nL 192 = 2 := by decide +kernel
theorem r192 : nR 192 = none := by decide +kernel
theorem i192_0 : ins 192 0 = some (.aload_n 0, 0, 0, 0, 0) := by decide +kernel
theorem i192_1 : ins 192 1 = some (.iload_n 1, 0, 0, 0, 0) := by decide +kernel
theorem i192_2 : ins 192 2 = some (.invokespecial 333, 174, 196, 3, 0) := by decide +kernel
theorem i192_5 : ins 192 5 = some (.return_, 0, 0, 0, 0) := by decide +kernel
theorem c193 : 193 < mnames ∧ nA 193 = 1 ∧ nS 193 = 0 := by decide +kernel
theorem m193 : (193 ≠ ensK ∧ 193 < mnames) ∧ nA 193 = 1 ∧ nL 193 = 1 := by decide +kernel
theorem r193 : nR 193 = (some .int) := by decide +kernel
theorem i193_0 : ins 193 0 = some (.aload_n 0, 0, 0, 0, 0) := by decide +kernel
theorem i193_1 : ins 193 1 = some (.invokespecial 343, 175, 194, 3, 0) := by decide +kernel
theorem i193_4 : ins 193 4 = some (.ireturn, 0, 0, 0, 0) := by decide +kernel
theorem c194 : 194 < mnames ∧ nA 194 = 1 ∧ nS 194 = 0 := by decide +kernel
theorem m194 : (194 ≠ ensK ∧ 194 < mnames) ∧ nA 194 = 1 ∧ nL 194 = 1 := by decide +kernel
theorem r194 : nR 194 = (some .int) := by decide +kernel
theorem i194_0 : ins 194 0 = some (.aload_n 0, 0, 0, 0, 0) := by decide +kernel
theorem i194_1 : ins 194 1 = some (.getfield 79, 86, 0, 3, 0) := by decide +kernel
theorem i194_4 : ins 194 4 = some (.ireturn, 0, 0, 0, 0) := by decide +kernel
theorem c195 : 195 < mnames ∧ nA 195 = 2 ∧ nS 195 = 0 := by decide +kernel
theorem m195 : (195 ≠ ensK ∧ 195 < mnames) ∧ nA 195 = 2 ∧ nL 195 = 5 := by decide +kernel
theorem r195 : nR 195 = (some .char) := by decide +kernel
theorem i195_0 : ins 195 0 = some (.aload_n 0, 0, 0, 0, 0) := by decide +kernel
theorem i195_1 : ins 195 1 = some (.getfield 22, 85, 0, 1, 2) := by decide +kernel
theorem i195_4 : ins 195 4 = some (.istore_n 2, 0, 0, 0, 0) := by decide +kernel
theorem i195_5 : ins 195 5 = some (.aload_n 0, 0, 0, 0, 0) := by decide +kernel
theorem i195_6 : ins 195 6 = some (.getfield 15, 84, 0, 0, 3) := by decide +kernel
theorem i195_9 : ins 195 9 = some (.astore_n 3, 0, 0, 0, 0) := by decide +kernel
theorem i195_10 : ins 195 10 = some (.aload_n 0, 0, 0, 0, 0) := by decide +kernel
theorem i195_11 : ins 195 11 = some (.getfield 79, 86, 0, 3, 0) := by decide +kernel
theorem i195_14 : ins 195 14 = some (.aload_n 3, 0, 0, 0, 0) := by decide +kernel
theorem i195_15 : ins 195 15 = some (.arraylength, 0, 0, 0, 0) := by decide +kernel
theorem i195_16 : ins 195 16 = some (.iload_n 2, 0, 0, 0, 0) := by decide +kernel
theorem i195_17 : ins 195 17 = some (.ishr, 0, 0, 0, 0) := by decide +kernel
theorem i195_18 : ins 195 18 = some (.invokestatic 138, 176, 202, 1, 0) := by decide +kernel
theorem i195_21 : ins 195 21 = some (.istore 4, 0, 0, 0, 0) := by decide +kernel
theorem i195_23 : ins 195 23 = some (.iload_n 1, 0, 0, 0, 0) := by decide +kernel
theorem i195_24 : ins 195 24 = some (.iload 4, 0, 0, 0, 0) := by decide +kernel
theorem i195_26 : ins 195 26 = some (.invokestatic 144, 177, 210, 1, 0) := by decide +kernel
theorem i195_29 : ins 195 29 = some (.iload_n 2, 0, 0, 0, 0) := by decide +kernel
theorem i195_30 : ins 195 30 = some (.ifCond .ne 12, 0, 0, 0, 0) := by decide +kernel
theorem g195_30 : tg 30 (12) = 42 := by decide
theorem i195_33 : ins 195 33 = some (.aload_n 3, 0, 0, 0, 0) := by decide +kernel
theorem i195_34 : ins 195 34 = some (.iload_n 1, 0, 0, 0, 0) := by decide +kernel
theorem i195_35 : ins 195 35 = some (.baload, 0, 0, 0, 0) := by decide +kernel
theorem i195_36 : ins 195 36 = some (.sipush 255, 0, 0, 0, 0) := by decide +kernel
theorem i195_39 : ins 195 39 = some (.iand, 0, 0, 0, 0) := by decide +kernel
theorem i195_40 : ins 195 40 = some (.i2c, 0, 0, 0, 0) := by decide +kernel
theorem i195_41 : ins 195 41 = some (.ireturn, 0, 0, 0, 0) := by decide +kernel
theorem i195_42 : ins 195 42 = some (.aload_n 3, 0, 0, 0, 0) := by decide +kernel
theorem i195_43 : ins 195 43 = some (.iload_n 1, 0, 0, 0, 0) := by decide +kernel
theorem i195_44 : ins 195 44 = some (.invokestatic 148, 0, 999, 0, 0) := by decide +kernel
theorem i195_47 : ins 195 47 = some (.ireturn, 0, 0, 0, 0) := by decide +kernel
theorem c196 : 196 < mnames ∧ nA 196 = 2 ∧ nS 196 = 0 := by decide +kernel
theorem m196 : (196 ≠ ensK ∧ 196 < mnames) ∧ nA 196 = 2 ∧ nL 196 = 2 := by decide +kernel
theorem r196 : nR 196 = none := by decide +kernel
theorem i196_0 : ins 196 0 = some (.iload_n 1, 0, 0, 0, 0) := by decide +kernel
theorem i196_1 : ins 196 1 = some (.ifCond .ge 12, 0, 0, 0, 0) := by decide +kernel
theorem g196_1 : tg 1 (12) = 13 := by decide
theorem i196_4 : ins 196 4 = some (.new 129, 0, 999, 0, 0) := by decide +kernel
theorem i196_7 : ins 196 7 = some (.dup, 0, 0, 0, 0) := by decide +kernel
theorem i196_8 : ins 196 8 = some (.iload_n 1, 0, 0, 0, 0) := by decide +kernel
theorem i196_9 : ins 196 9 = some (.invokespecial 131, 0, 999, 0, 0) := by decide +kernel
theorem i196_12 : ins 196 12 = some (.athrow, 0, 0, 0, 0) := by decide +kernel
theorem i196_13 : ins 196 13 = some (.aload_n 0, 0, 0, 0, 0) := by decide +kernel
theorem i196_14 : ins 196 14 = some (.iload_n 1, 0, 0, 0, 0) := by decide +kernel
theorem i196_15 : ins 196 15 = some (.invokevirtual 100, 154, 217, 2, 0) := by decide +kernel
theorem i196_18 : ins 196 18 = some (.aload_n 0, 0, 0, 0, 0) := by decide +kernel
theorem i196_19 : ins 196 19 = some (.getfield 79, 86, 0, 3, 0) := by decide +kernel
theorem i196_22 : ins 196 22 = some (.iload_n 1, 0, 0, 0, 0) := by decide +kernel
theorem i196_23 : ins 196 23 = some (.if_icmp .ge 40, 0, 0, 0, 0) := by decide +kernel
theorem g196_23 : tg 23 (40) = 63 := by decide
theorem i196_26 : ins 196 26 = some (.aload_n 0, 0, 0, 0, 0) := by decide +kernel
theorem i196_27 : ins 196 27 = some (.invokevirtual 83, 178, 199, 2, 0) := by decide +kernel
theorem i196_30 : ins 196 30 = some (.ifCond .eq 18, 0, 0, 0, 0) := by decide +kernel
theorem g196_30 : tg 30 (18) = 48 := by decide
theorem i196_33 : ins 196 33 = some (.aload_n 0, 0, 0, 0, 0) := by decide +kernel
theorem i196_34 : ins 196 34 = some (.getfield 15, 84, 0, 0, 3) := by decide +kernel
theorem i196_37 : ins 196 37 = some (.aload_n 0, 0, 0, 0, 0) := by decide +kernel
theorem i196_38 : ins 196 38 = some (.getfield 79, 86, 0, 3, 0) := by decide +kernel
theorem i196_41 : ins 196 41 = some (.iload_n 1, 0, 0, 0, 0) := by decide +kernel
theorem i196_42 : ins 196 42 = some (.invokestatic 133, 0, 999, 0, 0) := by decide +kernel
theorem i196_45 : ins 196 45 = some (.goto 31, 0, 0, 0, 0) := by decide +kernel
theorem g196_45 : tg 45 (31) = 76 := by decide
theorem i196_48 : ins 196 48 = some (.aload_n 0, 0, 0, 0, 0) := by decide +kernel
theorem i196_49 : ins 196 49 = some (.getfield 15, 84, 0, 0, 3) := by decide +kernel
theorem i196_52 : ins 196 52 = some (.aload_n 0, 0, 0, 0, 0) := by decide +kernel
theorem i196_53 : ins 196 53 = some (.getfield 79, 86, 0, 3, 0) := by decide +kernel
theorem i196_56 : ins 196 56 = some (.iload_n 1, 0, 0, 0, 0) := by decide +kernel
theorem i196_57 : ins 196 57 = some (.invokestatic 137, 0, 999, 0, 0) := by decide +kernel
theorem i196_60 : ins 196 60 = some (.goto 16, 0, 0, 0, 0) := by decide +kernel
theorem g196_60 : tg 60 (16) = 76 := by decide
theorem i196_63 : ins 196 63 = some (.aload_n 0, 0, 0, 0, 0) := by decide +kernel
theorem i196_64 : ins 196 64 = some (.getfield 79, 86, 0, 3, 0) := by decide +kernel
theorem i196_67 : ins 196 67 = some (.iload_n 1, 0, 0, 0, 0) := by decide +kernel
theorem i196_68 : ins 196 68 = some (.if_icmp .le 8, 0, 0, 0, 0) := by decide +kernel
theorem g196_68 : tg 68 (8) = 76 := by decide
theorem i196_71 : ins 196 71 = some (.aload_n 0, 0, 0, 0, 0) := by decide +kernel
theorem i196_72 : ins 196 72 = some (.iconst 1, 0, 0, 0, 0) := by decide +kernel
theorem i196_73 : ins 196 73 = some (.putfield 73, 88, 0, 2, 1) := by decide +kernel
theorem i196_76 : ins 196 76 = some (.aload_n 0, 0, 0, 0, 0) := by decide +kernel
theorem i196_77 : ins 196 77 = some (.iload_n 1, 0, 0, 0, 0) := by decide +kernel
theorem i196_78 : ins 196 78 = some (.putfield 79, 86, 0, 3, 0) := by decide +kernel
theorem i196_81 : ins 196 81 = some (.return_, 0, 0, 0, 0) := by decide +kernel
theorem c197 : 197 < mnames ∧ nA 197 = 2 ∧ nS 197 = 0 := by decide +kernel
theorem m197 : (197 ≠ ensK ∧ 197 < mnames) ∧ nA 197 = 2 ∧ nL 197 = 2 := by decide +kernel
theorem r197 : nR 197 = (some (.object "java/lang/AbstractStringBuilder")) := by decide +kernel
theorem i197_0 : ins 197 0 = some (.aload_n 0, 0, 0, 0, 0) := by decide +kernel
theorem i197_1 : ins 197 1 = some (.aload_n 0, 0, 0, 0, 0) := by decide +kernel
theorem i197_2 : ins 197 2 = some (.getfield 79, 86, 0, 3, 0) := by decide +kernel
theorem i197_5 : ins 197 5 = some (.iconst 1, 0, 0, 0, 0) := by decide +kernel
theorem i197_6 : ins 197 6 = some (.iadd, 0, 0, 0, 0) := by decide +kernel
theorem i197_7 : ins 197 7 = some (.invokevirtual 100, 154, 217, 2, 0) := by decide +kernel
theorem i197_10 : ins 197 10 = some (.aload_n 0, 0, 0, 0, 0) := by decide +kernel
theorem i197_11 : ins 197 11 = some (.invokevirtual 83, 178, 199, 2, 0) := by decide +kernel
theorem i197_14 : ins 197 14 = some (.ifCond .eq 31, 0, 0, 0, 0) := by decide +kernel
theorem g197_14 : tg 14 (31) = 45 := by decide
theorem i197_17 : ins 197 17 = some (.iload_n 1, 0, 0, 0, 0) := by decide +kernel
theorem i197_18 : ins 197 18 = some (.invokestatic 191, 179, 213, 1, 0) := by decide +kernel
theorem i197_21 : ins 197 21 = some (.ifCond .eq 24, 0, 0, 0, 0) := by decide +kernel
theorem g197_21 : tg 21 (24) = 45 := by decide
theorem i197_24 : ins 197 24 = some (.aload_n 0, 0, 0, 0, 0) := by decide +kernel
theorem i197_25 : ins 197 25 = some (.getfield 15, 84, 0, 0, 3) := by decide +kernel
theorem i197_28 : ins 197 28 = some (.aload_n 0, 0, 0, 0, 0) := by decide +kernel
theorem i197_29 : ins 197 29 = some (.dup, 0, 0, 0, 0) := by decide +kernel
theorem i197_30 : ins 197 30 = some (.getfield 79, 86, 0, 3, 0) := by decide +kernel
theorem i197_33 : ins 197 33 = some (.dup_x1, 0, 0, 0, 0) := by decide +kernel
theorem i197_34 : ins 197 34 = some (.iconst 1, 0, 0, 0, 0) := by decide +kernel
theorem i197_35 : ins 197 35 = some (.iadd, 0, 0, 0, 0) := by decide +kernel
theorem i197_36 : ins 197 36 = some (.putfield 79, 86, 0, 3, 0) := by decide +kernel
theorem i197_39 : ins 197 39 = some (.iload_n 1, 0, 0, 0, 0) := by decide +kernel
theorem i197_40 : ins 197 40 = some (.i2b, 0, 0, 0, 0) := by decide +kernel
theorem i197_41 : ins 197 41 = some (.bastore, 0, 0, 0, 0) := by decide +kernel
theorem i197_42 : ins 197 42 = some (.goto 33, 0, 0, 0, 0) := by decide +kernel
theorem g197_42 : tg 42 (33) = 75 := by decide
theorem i197_45 : ins 197 45 = some (.aload_n 0, 0, 0, 0, 0) := by decide +kernel
theorem i197_46 : ins 197 46 = some (.invokevirtual 83, 178, 199, 2, 0) := by decide +kernel
theorem i197_49 : ins 197 49 = some (.ifCond .eq 7, 0, 0, 0, 0) := by decide +kernel
theorem g197_49 : tg 49 (7) = 56 := by decide
theorem i197_52 : ins 197 52 = some (.aload_n 0, 0, 0, 0, 0) := by decide +kernel
theorem i197_53 : ins 197 53 = some (.invokevirtual 195, 0, 999, 0, 0) := by decide +kernel
theorem i197_56 : ins 197 56 = some (.aload_n 0, 0, 0, 0, 0) := by decide +kernel
theorem i197_57 : ins 197 57 = some (.getfield 15, 84, 0, 0, 3) := by decide +kernel
theorem i197_60 : ins 197 60 = some (.aload_n 0, 0, 0, 0, 0) := by decide +kernel
theorem i197_61 : ins 197 61 = some (.dup, 0, 0, 0, 0) := by decide +kernel
theorem i197_62 : ins 197 62 = some (.getfield 79, 86, 0, 3, 0) := by decide +kernel
theorem i197_65 : ins 197 65 = some (.dup_x1, 0, 0, 0, 0) := by decide +kernel
theorem i197_66 : ins 197 66 = some (.iconst 1, 0, 0, 0, 0) := by decide +kernel
theorem i197_67 : ins 197 67 = some (.iadd, 0, 0, 0, 0) := by decide +kernel
theorem i197_68 : ins 197 68 = some (.putfield 79, 86, 0, 3, 0) := by decide +kernel
theorem i197_71 : ins 197 71 = some (.iload_n 1, 0, 0, 0, 0) := by decide +kernel
theorem i197_72 : ins 197 72 = some (.invokestatic 197, 0, 999, 0, 0) := by decide +kernel
theorem i197_75 : ins 197 75 = some (.aload_n 0, 0, 0, 0, 0) := by decide +kernel
theorem i197_76 : ins 197 76 = some (.areturn, 0, 0, 0, 0) := by decide +kernel
theorem c198 : 198 < mnames ∧ nA 198 = 2 ∧ nS 198 = 0 := by decide +kernel
theorem m198 : (198 ≠ ensK ∧ 198 < mnames) ∧ nA 198 = 2 ∧ nL 198 = 4 := by decide +kernel
theorem r198 : nR 198 = (some (.object "java/lang/AbstractStringBuilder")) := by decide +kernel
theorem i198_0 : ins 198 0 = some (.aload_n 0, 0, 0, 0, 0) := by decide +kernel
theorem i198_1 : ins 198 1 = some (.getfield 79, 86, 0, 3, 0) := by decide +kernel
theorem i198_4 : ins 198 4 = some (.istore_n 2, 0, 0, 0, 0) := by decide +kernel
theorem i198_5 : ins 198 5 = some (.iload_n 2, 0, 0, 0, 0) := by decide +kernel
theorem i198_6 : ins 198 6 = some (.iload_n 1, 0, 0, 0, 0) := by decide +kernel
theorem i198_7 : ins 198 7 = some (.invokestatic 245, 180, 201, 1, 0) := by decide +kernel
theorem i198_10 : ins 198 10 = some (.iadd, 0, 0, 0, 0) := by decide +kernel
theorem i198_11 : ins 198 11 = some (.istore_n 3, 0, 0, 0, 0) := by decide +kernel
theorem i198_12 : ins 198 12 = some (.aload_n 0, 0, 0, 0, 0) := by decide +kernel
theorem i198_13 : ins 198 13 = some (.iload_n 3, 0, 0, 0, 0) := by decide +kernel
theorem i198_14 : ins 198 14 = some (.invokevirtual 100, 154, 217, 2, 0) := by decide +kernel
theorem i198_17 : ins 198 17 = some (.aload_n 0, 0, 0, 0, 0) := by decide +kernel
theorem i198_18 : ins 198 18 = some (.invokevirtual 83, 178, 199, 2, 0) := by decide +kernel
theorem i198_21 : ins 198 21 = some (.ifCond .eq 16, 0, 0, 0, 0) := by decide +kernel
theorem g198_21 : tg 21 (16) = 37 := by decide
theorem i198_24 : ins 198 24 = some (.iload_n 1, 0, 0, 0, 0) := by decide +kernel
theorem i198_25 : ins 198 25 = some (.iload_n 3, 0, 0, 0, 0) := by decide +kernel
theorem i198_26 : ins 198 26 = some (.aload_n 0, 0, 0, 0, 0) := by decide +kernel
theorem i198_27 : ins 198 27 = some (.getfield 15, 84, 0, 0, 3) := by decide +kernel
theorem i198_30 : ins 198 30 = some (.invokestatic 248, 181, 200, 1, 0) := by decide +kernel
theorem i198_33 : ins 198 33 = some (.pop, 0, 0, 0, 0) := by decide +kernel
theorem i198_34 : ins 198 34 = some (.goto 14, 0, 0, 0, 0) := by decide +kernel
theorem g198_34 : tg 34 (14) = 48 := by decide
theorem i198_37 : ins 198 37 = some (.iload_n 1, 0, 0, 0, 0) := by decide +kernel
theorem i198_38 : ins 198 38 = some (.iload_n 2, 0, 0, 0, 0) := by decide +kernel
theorem i198_39 : ins 198 39 = some (.iload_n 3, 0, 0, 0, 0) := by decide +kernel
theorem i198_40 : ins 198 40 = some (.aload_n 0, 0, 0, 0, 0) := by decide +kernel
theorem i198_41 : ins 198 41 = some (.getfield 15, 84, 0, 0, 3) := by decide +kernel
theorem i198_44 : ins 198 44 = some (.invokestatic 251, 0, 999, 0, 0) := by decide +kernel
theorem i198_47 : ins 198 47 = some (.pop, 0, 0, 0, 0) := by decide +kernel
theorem i198_48 : ins 198 48 = some (.aload_n 0, 0, 0, 0, 0) := by decide +kernel
theorem i198_49 : ins 198 49 = some (.iload_n 3, 0, 0, 0, 0) := by decide +kernel
theorem i198_50 : ins 198 50 = some (.putfield 79, 86, 0, 3, 0) := by decide +kernel
theorem i198_53 : ins 198 53 = some (.aload_n 0, 0, 0, 0, 0) := by decide +kernel
theorem i198_54 : ins 198 54 = some (.areturn, 0, 0, 0, 0) := by decide +kernel
theorem c199 : 199 < mnames ∧ nA 199 = 1 ∧ nS 199 = 0 := by decide +kernel
theorem m199 : (199 ≠ ensK ∧ 199 < mnames) ∧ nA 199 = 1 ∧ nL 199 = 1 := by decide +kernel
theorem r199 : nR 199 = (some .boolean) := by decide +kernel
theorem i199_0 : ins 199 0 = some (.getstatic 18, 0, 0, 0, 0) := by decide +kernel
theorem i199_3 : ins 199 3 = some (.ifCond .eq 14, 0, 0, 0, 0) := by decide +kernel
theorem g199_3 : tg 3 (14) = 17 := by decide
theorem i199_6 : ins 199 6 = some (.aload_n 0, 0, 0, 0, 0) := by decide +kernel
theorem i199_7 : ins 199 7 = some (.getfield 22, 85, 0, 1, 2) := by decide +kernel
theorem i199_10 : ins 199 10 = some (.ifCond .ne 7, 0, 0, 0, 0) := by decide +kernel
theorem g199_10 : tg 10 (7) = 17 := by decide
theorem i199_13 : ins 199 13 = some (.iconst 1, 0, 0, 0, 0) := by decide +kernel
theorem i199_14 : ins 199 14 = some (.goto 4, 0, 0, 0, 0) := by decide +kernel
theorem g199_14 : tg 14 (4) = 18 := by decide
theorem i199_17 : ins 199 17 = some (.iconst 0, 0, 0, 0, 0) := by decide +kernel
theorem i199_18 : ins 199 18 = some (.ireturn, 0, 0, 0, 0) := by decide +kernel
theorem c200 : 200 < mnames ∧ nA 200 = 3 ∧ nS 200 = 1 := by decide +kernel
theorem m200 : (200 ≠ ensK ∧ 200 < mnames) ∧ nA 200 = 3 ∧ nL 200 = 7 := by decide +kernel
theorem r200 : nR 200 = (some .int) := by decide +kernel
theorem i200_0 : ins 200 0 = some (.iload_n 1, 0, 0, 0, 0) := by decide +kernel
theorem i200_1 : ins 200 1 = some (.istore 5, 0, 0, 0, 0) := by decide +kernel
theorem i200_3 : ins 200 3 = some (.iload_n 0, 0, 0, 0, 0) := by decide +kernel
theorem i200_4 : ins 200 4 = some (.ifCond .ge 7, 0, 0, 0, 0) := by decide +kernel
theorem g200_4 : tg 4 (7) = 11 := by decide
theorem i200_7 : ins 200 7 = some (.iconst 1, 0, 0, 0, 0) := by decide +kernel
theorem i200_8 : ins 200 8 = some (.goto 4, 0, 0, 0, 0) := by decide +kernel
theorem g200_8 : tg 8 (4) = 12 := by decide
theorem i200_11 : ins 200 11 = some (.iconst 0, 0, 0, 0, 0) := by decide +kernel
theorem i200_12 : ins 200 12 = some (.istore 6, 0, 0, 0, 0) := by decide +kernel
theorem i200_14 : ins 200 14 = some (.iload 6, 0, 0, 0, 0) := by decide +kernel
theorem i200_16 : ins 200 16 = some (.ifCond .ne 6, 0, 0, 0, 0) := by decide +kernel
theorem g200_16 : tg 16 (6) = 22 := by decide
theorem i200_19 : ins 200 19 = some (.iload_n 0, 0, 0, 0, 0) := by decide +kernel
theorem i200_20 : ins 200 20 = some (.ineg, 0, 0, 0, 0) := by decide +kernel
theorem i200_21 : ins 200 21 = some (.istore_n 0, 0, 0, 0, 0) := by decide +kernel
theorem i200_22 : ins 200 22 = some (.iload_n 0, 0, 0, 0, 0) := by decide +kernel
theorem i200_23 : ins 200 23 = some (.bipush (-100), 0, 0, 0, 0) := by decide +kernel
theorem i200_25 : ins 200 25 = some (.if_icmp .gt 47, 0, 0, 0, 0) := by decide +kernel
theorem g200_25 : tg 25 (47) = 72 := by decide
theorem i200_28 : ins 200 28 = some (.iload_n 0, 0, 0, 0, 0) := by decide +kernel
theorem i200_29 : ins 200 29 = some (.bipush 100, 0, 0, 0, 0) := by decide +kernel
theorem i200_31 : ins 200 31 = some (.idiv, 0, 0, 0, 0) := by decide +kernel
theorem i200_32 : ins 200 32 = some (.istore_n 3, 0, 0, 0, 0) := by decide +kernel
theorem i200_33 : ins 200 33 = some (.iload_n 3, 0, 0, 0, 0) := by decide +kernel
theorem i200_34 : ins 200 34 = some (.bipush 100, 0, 0, 0, 0) := by decide +kernel
theorem i200_36 : ins 200 36 = some (.imul, 0, 0, 0, 0) := by decide +kernel
theorem i200_37 : ins 200 37 = some (.iload_n 0, 0, 0, 0, 0) := by decide +kernel
theorem i200_38 : ins 200 38 = some (.isub, 0, 0, 0, 0) := by decide +kernel
theorem i200_39 : ins 200 39 = some (.istore 4, 0, 0, 0, 0) := by decide +kernel
theorem i200_41 : ins 200 41 = some (.iload_n 3, 0, 0, 0, 0) := by decide +kernel
theorem i200_42 : ins 200 42 = some (.istore_n 0, 0, 0, 0, 0) := by decide +kernel
theorem i200_43 : ins 200 43 = some (.aload_n 2, 0, 0, 0, 0) := by decide +kernel
theorem i200_44 : ins 200 44 = some (.iinc 5 (-1), 0, 0, 0, 0) := by decide +kernel
theorem i200_47 : ins 200 47 = some (.iload 5, 0, 0, 0, 0) := by decide +kernel
theorem i200_49 : ins 200 49 = some (.getstatic 83, 2, 2, 0, 0) := by decide +kernel
theorem i200_52 : ins 200 52 = some (.iload 4, 0, 0, 0, 0) := by decide +kernel
theorem i200_54 : ins 200 54 = some (.baload, 0, 0, 0, 0) := by decide +kernel
theorem i200_55 : ins 200 55 = some (.bastore, 0, 0, 0, 0) := by decide +kernel
theorem i200_56 : ins 200 56 = some (.aload_n 2, 0, 0, 0, 0) := by decide +kernel
theorem i200_57 : ins 200 57 = some (.iinc 5 (-1), 0, 0, 0, 0) := by decide +kernel
theorem i200_60 : ins 200 60 = some (.iload 5, 0, 0, 0, 0) := by decide +kernel
theorem i200_62 : ins 200 62 = some (.getstatic 87, 3, 3, 0, 0) := by decide +kernel
theorem i200_65 : ins 200 65 = some (.iload 4, 0, 0, 0, 0) := by decide +kernel
theorem i200_67 : ins 200 67 = some (.baload, 0, 0, 0, 0) := by decide +kernel
theorem i200_68 : ins 200 68 = some (.bastore, 0, 0, 0, 0) := by decide +kernel
theorem i200_69 : ins 200 69 = some (.goto (-47), 0, 0, 0, 0) := by decide +kernel
theorem g200_69 : tg 69 (-47) = 22 := by decide
theorem i200_72 : ins 200 72 = some (.aload_n 2, 0, 0, 0, 0) := by decide +kernel
theorem i200_73 : ins 200 73 = some (.iinc 5 (-1), 0, 0, 0, 0) := by decide +kernel
theorem i200_76 : ins 200 76 = some (.iload 5, 0, 0, 0, 0) := by decide +kernel
theorem i200_78 : ins 200 78 = some (.getstatic 83, 2, 2, 0, 0) := by decide +kernel
theorem i200_81 : ins 200 81 = some (.iload_n 0, 0, 0, 0, 0) := by decide +kernel
theorem i200_82 : ins 200 82 = some (.ineg, 0, 0, 0, 0) := by decide +kernel
theorem i200_83 : ins 200 83 = some (.baload, 0, 0, 0, 0) := by decide +kernel
theorem i200_84 : ins 200 84 = some (.bastore, 0, 0, 0, 0) := by decide +kernel
theorem i200_85 : ins 200 85 = some (.iload_n 0, 0, 0, 0, 0) := by decide +kernel
theorem i200_86 : ins 200 86 = some (.bipush (-9), 0, 0, 0, 0) := by decide +kernel
theorem i200_88 : ins 200 88 = some (.if_icmp .ge 16, 0, 0, 0, 0) := by decide +kernel
theorem g200_88 : tg 88 (16) = 104 := by decide
theorem i200_91 : ins 200 91 = some (.aload_n 2, 0, 0, 0, 0) := by decide +kernel
theorem i200_92 : ins 200 92 = some (.iinc 5 (-1), 0, 0, 0, 0) := by decide +kernel
theorem i200_95 : ins 200 95 = some (.iload 5, 0, 0, 0, 0) := by decide +kernel
theorem i200_97 : ins 200 97 = some (.getstatic 87, 3, 3, 0, 0) := by decide +kernel
theorem i200_100 : ins 200 100 = some (.iload_n 0, 0, 0, 0, 0) := by decide +kernel
theorem i200_101 : ins 200 101 = some (.ineg, 0, 0, 0, 0) := by decide +kernel
theorem i200_102 : ins 200 102 = some (.baload, 0, 0, 0, 0) := by decide +kernel
theorem i200_103 : ins 200 103 = some (.bastore, 0, 0, 0, 0) := by decide +kernel
theorem i200_104 : ins 200 104 = some (.iload 6, 0, 0, 0, 0) := by decide +kernel
theorem i200_106 : ins 200 106 = some (.ifCond .eq 12, 0, 0, 0, 0) := by decide +kernel
theorem g200_106 : tg 106 (12) = 118 := by decide
theorem i200_109 : ins 200 109 = some (.aload_n 2, 0, 0, 0, 0) := by decide +kernel
theorem i200_110 : ins 200 110 = some (.iinc 5 (-1), 0, 0, 0, 0) := by decide +kernel
theorem i200_113 : ins 200 113 = some (.iload 5, 0, 0, 0, 0) := by decide +kernel
theorem i200_115 : ins 200 115 = some (.bipush 45, 0, 0, 0, 0) := by decide +kernel
theorem i200_117 : ins 200 117 = some (.bastore, 0, 0, 0, 0) := by decide +kernel
theorem i200_118 : ins 200 118 = some (.iload 5, 0, 0, 0, 0) := by decide +kernel
theorem i200_120 : ins 200 120 = some (.ireturn, 0, 0, 0, 0) := by decide +kernel
theorem c201 : 201 < mnames ∧ nA 201 = 1 ∧ nS 201 = 1 := by decide +kernel
theorem m201 : (201 ≠ ensK ∧ 201 < mnames) ∧ nA 201 = 1 ∧ nL 201 = 4 := by decide +kernel
theorem r201 : nR 201 = (some .int) := by decide +kernel
theorem i201_0 : ins 201 0 = some (.iconst 1, 0, 0, 0, 0) := by decide +kernel
theorem i201_1 : ins 201 1 = some (.istore_n 1, 0, 0, 0, 0) := by decide +kernel
theorem i201_2 : ins 201 2 = some (.iload_n 0, 0, 0, 0, 0) := by decide +kernel
theorem i201_3 : ins 201 3 = some (.ifCond .lt 8, 0, 0, 0, 0) := by decide +kernel
theorem g201_3 : tg 3 (8) = 11 := by decide
theorem i201_6 : ins 201 6 = some (.iconst 0, 0, 0, 0, 0) := by decide +kernel
theorem i201_7 : ins 201 7 = some (.istore_n 1, 0, 0, 0, 0) := by decide +kernel
theorem i201_8 : ins 201 8 = some (.iload_n 0, 0, 0, 0, 0) := by decide +kernel
theorem i201_9 : ins 201 9 = some (.ineg, 0, 0, 0, 0) := by decide +kernel
theorem i201_10 : ins 201 10 = some (.istore_n 0, 0, 0, 0, 0) := by decide +kernel
theorem i201_11 : ins 201 11 = some (.bipush (-10), 0, 0, 0, 0) := by decide +kernel
theorem i201_13 : ins 201 13 = some (.istore_n 2, 0, 0, 0, 0) := by decide +kernel
theorem i201_14 : ins 201 14 = some (.iconst 1, 0, 0, 0, 0) := by decide +kernel
theorem i201_15 : ins 201 15 = some (.istore_n 3, 0, 0, 0, 0) := by decide +kernel
theorem i201_16 : ins 201 16 = some (.iload_n 3, 0, 0, 0, 0) := by decide +kernel
theorem i201_17 : ins 201 17 = some (.bipush 10, 0, 0, 0, 0) := by decide +kernel
theorem i201_19 : ins 201 19 = some (.if_icmp .ge 23, 0, 0, 0, 0) := by decide +kernel
theorem g201_19 : tg 19 (23) = 42 := by decide
theorem i201_22 : ins 201 22 = some (.iload_n 0, 0, 0, 0, 0) := by decide +kernel
theorem i201_23 : ins 201 23 = some (.iload_n 2, 0, 0, 0, 0) := by decide +kernel
theorem i201_24 : ins 201 24 = some (.if_icmp .le 7, 0, 0, 0, 0) := by decide +kernel
theorem g201_24 : tg 24 (7) = 31 := by decide
theorem i201_27 : ins 201 27 = some (.iload_n 3, 0, 0, 0, 0) := by decide +kernel
theorem i201_28 : ins 201 28 = some (.iload_n 1, 0, 0, 0, 0) := by decide +kernel
theorem i201_29 : ins 201 29 = some (.iadd, 0, 0, 0, 0) := by decide +kernel
theorem i201_30 : ins 201 30 = some (.ireturn, 0, 0, 0, 0) := by decide +kernel
theorem i201_31 : ins 201 31 = some (.bipush 10, 0, 0, 0, 0) := by decide +kernel
theorem i201_33 : ins 201 33 = some (.iload_n 2, 0, 0, 0, 0) := by decide +kernel
theorem i201_34 : ins 201 34 = some (.imul, 0, 0, 0, 0) := by decide +kernel
theorem i201_35 : ins 201 35 = some (.istore_n 2, 0, 0, 0, 0) := by decide +kernel
theorem i201_36 : ins 201 36 = some (.iinc 3 1, 0, 0, 0, 0) := by decide +kernel
theorem i201_39 : ins 201 39 = some (.goto (-23), 0, 0, 0, 0) := by decide +kernel
theorem g201_39 : tg 39 (-23) = 16 := by decide
theorem i201_42 : ins 201 42 = some (.bipush 10, 0, 0, 0, 0) := by decide +kernel
theorem i201_44 : ins 201 44 = some (.iload_n 1, 0, 0, 0, 0) := by decide +kernel
theorem i201_45 : ins 201 45 = some (.iadd, 0, 0, 0, 0) := by decide +kernel
theorem i201_46 : ins 201 46 = some (.ireturn, 0, 0, 0, 0) := by decide +kernel
theorem c202 : 202 < mnames ∧ nA 202 = 2 ∧ nS 202 = 1 := by decide +kernel
theorem m202 : (202 ≠ ensK ∧ 202 < mnames) ∧ nA 202 = 2 ∧ nL 202 = 2 := by decide +kernel
theorem r202 : nR 202 = (some .int) := by decide +kernel
theorem i202_0 : ins 202 0 = some (.iload_n 0, 0, 0, 0, 0) := by decide +kernel
theorem i202_1 : ins 202 1 = some (.iload_n 1, 0, 0, 0, 0) := by decide +kernel
theorem i202_2 : ins 202 2 = some (.if_icmp .gt 7, 0, 0, 0, 0) := by decide +kernel
theorem g202_2 : tg 2 (7) = 9 := by decide
theorem i202_5 : ins 202 5 = some (.iload_n 0, 0, 0, 0, 0) := by decide +kernel
theorem i202_6 : ins 202 6 = some (.goto 4, 0, 0, 0, 0) := by decide +kernel
theorem g202_6 : tg 6 (4) = 10 := by decide
theorem i202_9 : ins 202 9 = some (.iload_n 1, 0, 0, 0, 0) := by decide +kernel
theorem i202_10 : ins 202 10 = some (.ireturn, 0, 0, 0, 0) := by decide +kernel
theorem c203 : 203 < mnames ∧ nA 203 = 2 ∧ nS 203 = 1 := by decide +kernel
theorem m203 : (203 ≠ ensK ∧ 203 < mnames) ∧ nA 203 = 2 ∧ nL 203 = 2 := by decide +kernel
theorem r203 : nR 203 = (some .int) := by decide +kernel
theorem i203_0 : ins 203 0 = some (.iload_n 0, 0, 0, 0, 0) := by decide +kernel
theorem i203_1 : ins 203 1 = some (.iload_n 1, 0, 0, 0, 0) := by decide +kernel
theorem i203_2 : ins 203 2 = some (.if_icmp .lt 7, 0, 0, 0, 0) := by decide +kernel
theorem g203_2 : tg 2 (7) = 9 := by decide
theorem i203_5 : ins 203 5 = some (.iload_n 0, 0, 0, 0, 0) := by decide +kernel
theorem i203_6 : ins 203 6 = some (.goto 4, 0, 0, 0, 0) := by decide +kernel
theorem g203_6 : tg 6 (4) = 10 := by decide
theorem i203_9 : ins 203 9 = some (.iload_n 1, 0, 0, 0, 0) := by decide +kernel
theorem i203_10 : ins 203 10 = some (.ireturn, 0, 0, 0, 0) := by decide +kernel
theorem c204 : 204 < mnames ∧ nA 204 = 1 ∧ nS 204 = 0 := by decide +kernel
theorem m204 : (204 ≠ ensK ∧ 204 < mnames) ∧ nA 204 = 1 ∧ nL 204 = 1 := by decide +kernel
theorem r204 : nR 204 = (some .int) := by decide +kernel
theorem i204_0 : ins 204 0 = some (.aload_n 0, 0, 0, 0, 0) := by decide +kernel
theorem i204_1 : ins 204 1 = some (.getfield 9, 0, 25, 0, 3) := by decide +kernel
theorem i204_4 : ins 204 4 = some (.arraylength, 0, 0, 0, 0) := by decide +kernel
theorem i204_5 : ins 204 5 = some (.aload_n 0, 0, 0, 0, 0) := by decide +kernel
theorem i204_6 : ins 204 6 = some (.invokevirtual 335, 161, 209, 0, 0) := by decide +kernel
theorem i204_9 : ins 204 9 = some (.ishr, 0, 0, 0, 0) := by decide +kernel
theorem i204_10 : ins 204 10 = some (.ireturn, 0, 0, 0, 0) := by decide +kernel
theorem c205 : 205 < mnames ∧ nA 205 = 2 ∧ nS 205 = 0 := by decide +kernel
theorem m205 : (205 ≠ ensK ∧ 205 < mnames) ∧ nA 205 = 2 ∧ nL 205 = 2 := by decide +kernel
theorem r205 : nR 205 = (some .char) := by decide +kernel
theorem i205_0 : ins 205 0 = some (.aload_n 0, 0, 0, 0, 0) := by decide +kernel
theorem i205_1 : ins 205 1 = some (.invokevirtual 492, 182, 208, 0, 0) := by decide +kernel
theorem i205_4 : ins 205 4 = some (.ifCond .eq 12, 0, 0, 0, 0) := by decide +kernel
theorem g205_4 : tg 4 (12) = 16 := by decide
theorem i205_7 : ins 205 7 = some (.aload_n 0, 0, 0, 0, 0) := by decide +kernel
theorem i205_8 : ins 205 8 = some (.getfield 9, 0, 25, 0, 3) := by decide +kernel
theorem i205_11 : ins 205 11 = some (.iload_n 1, 0, 0, 0, 0) := by decide +kernel
theorem i205_12 : ins 205 12 = some (.invokestatic 495, 183, 212, 1, 0) := by decide +kernel
theorem i205_15 : ins 205 15 = some (.ireturn, 0, 0, 0, 0) := by decide +kernel
theorem i205_16 : ins 205 16 = some (.aload_n 0, 0, 0, 0, 0) := by decide +kernel
theorem i205_17 : ins 205 17 = some (.getfield 9, 0, 25, 0, 3) := by decide +kernel
theorem i205_20 : ins 205 20 = some (.iload_n 1, 0, 0, 0, 0) := by decide +kernel
theorem i205_21 : ins 205 21 = some (.invokestatic 498, 0, 999, 0, 0) := by decide +kernel
theorem i205_24 : ins 205 24 = some (.ireturn, 0, 0, 0, 0) := by decide +kernel
theorem c206 : 206 < mnames ∧ nA 206 = 2 ∧ nS 206 = 0 := by decide +kernel
theorem m206 : (206 ≠ ensK ∧ 206 < mnames) ∧ nA 206 = 2 ∧ nL 206 = 2 := by decide +kernel
theorem r206 : nR 206 = (some .int) := by decide +kernel
theorem i206_0 : ins 206 0 = some (.aload_n 0, 0, 0, 0, 0) := by decide +kernel
theorem i206_1 : ins 206 1 = some (.iload_n 1, 0, 0, 0, 0) := by decide +kernel
theorem i206_2 : ins 206 2 = some (.iconst 0, 0, 0, 0, 0) := by decide +kernel
theorem i206_3 : ins 206 3 = some (.invokevirtual 633, 184, 207, 0, 0) := by decide +kernel
theorem i206_6 : ins 206 6 = some (.ireturn, 0, 0, 0, 0) := by decide +kernel
theorem c207 : 207 < mnames ∧ nA 207 = 3 ∧ nS 207 = 0 := by decide +kernel
theorem m207 : (207 ≠ ensK ∧ 207 < mnames) ∧ nA 207 = 3 ∧ nL 207 = 3 := by decide +kernel
theorem r207 : nR 207 = (some .int) := by decide +kernel
theorem i207_0 : ins 207 0 = some (.aload_n 0, 0, 0, 0, 0) := by decide +kernel
theorem i207_1 : ins 207 1 = some (.invokevirtual 492, 182, 208, 0, 0) := by decide +kernel
theorem i207_4 : ins 207 4 = some (.ifCond .eq 19, 0, 0, 0, 0) := by decide +kernel
theorem g207_4 : tg 4 (19) = 23 := by decide
theorem i207_7 : ins 207 7 = some (.aload_n 0, 0, 0, 0, 0) := by decide +kernel
theorem i207_8 : ins 207 8 = some (.getfield 9, 0, 25, 0, 3) := by decide +kernel
theorem i207_11 : ins 207 11 = some (.iload_n 1, 0, 0, 0, 0) := by decide +kernel
theorem i207_12 : ins 207 12 = some (.iload_n 2, 0, 0, 0, 0) := by decide +kernel
theorem i207_13 : ins 207 13 = some (.aload_n 0, 0, 0, 0, 0) := by decide +kernel
theorem i207_14 : ins 207 14 = some (.invokevirtual 505, 185, 204, 0, 0) := by decide +kernel
theorem i207_17 : ins 207 17 = some (.invokestatic 637, 186, 215, 1, 0) := by decide +kernel
theorem i207_20 : ins 207 20 = some (.goto 16, 0, 0, 0, 0) := by decide +kernel
theorem g207_20 : tg 20 (16) = 36 := by decide
theorem i207_23 : ins 207 23 = some (.aload_n 0, 0, 0, 0, 0) := by decide +kernel
theorem i207_24 : ins 207 24 = some (.getfield 9, 0, 25, 0, 3) := by decide +kernel
theorem i207_27 : ins 207 27 = some (.iload_n 1, 0, 0, 0, 0) := by decide +kernel
theorem i207_28 : ins 207 28 = some (.iload_n 2, 0, 0, 0, 0) := by decide +kernel
theorem i207_29 : ins 207 29 = some (.aload_n 0, 0, 0, 0, 0) := by decide +kernel
theorem i207_30 : ins 207 30 = some (.invokevirtual 505, 185, 204, 0, 0) := by decide +kernel
theorem i207_33 : ins 207 33 = some (.invokestatic 640, 0, 999, 0, 0) := by decide +kernel
theorem i207_36 : ins 207 36 = some (.ireturn, 0, 0, 0, 0) := by decide +kernel
theorem c208 : 208 < mnames ∧ nA 208 = 1 ∧ nS 208 = 0 := by decide +kernel
theorem m208 : (208 ≠ ensK ∧ 208 < mnames) ∧ nA 208 = 1 ∧ nL 208 = 1 := by decide +kernel
theorem r208 : nR 208 = (some .boolean) := by decide +kernel
theorem i208_0 : ins 208 0 = some (.getstatic 38, 1, 0, 0, 0) := by decide +kernel
theorem i208_3 : ins 208 3 = some (.ifCond .eq 14, 0, 0, 0, 0) := by decide +kernel
theorem g208_3 : tg 3 (14) = 17 := by decide
theorem i208_6 : ins 208 6 = some (.aload_n 0, 0, 0, 0, 0) := by decide +kernel
theorem i208_7 : ins 208 7 = some (.getfield 15, 1, 25, 1, 2) := by decide +kernel
theorem i208_10 : ins 208 10 = some (.ifCond .ne 7, 0, 0, 0, 0) := by decide +kernel
theorem g208_10 : tg 10 (7) = 17 := by decide
theorem i208_13 : ins 208 13 = some (.iconst 1, 0, 0, 0, 0) := by decide +kernel
theorem i208_14 : ins 208 14 = some (.goto 4, 0, 0, 0, 0) := by decide +kernel
theorem g208_14 : tg 14 (4) = 18 := by decide
theorem i208_17 : ins 208 17 = some (.iconst 0, 0, 0, 0, 0) := by decide +kernel
theorem i208_18 : ins 208 18 = some (.ireturn, 0, 0, 0, 0) := by decide +kernel
theorem c209 : 209 < mnames ∧ nA 209 = 1 ∧ nS 209 = 0 := by decide +kernel
theorem m209 : (209 ≠ ensK ∧ 209 < mnames) ∧ nA 209 = 1 ∧ nL 209 = 1 := by decide +kernel
theorem r209 : nR 209 = (some .byte) := by decide +kernel
theorem i209_0 : ins 209 0 = some (.getstatic 38, 1, 0, 0, 0) := by decide +kernel
theorem i209_3 : ins 209 3 = some (.ifCond .eq 10, 0, 0, 0, 0) := by decide +kernel
theorem g209_3 : tg 3 (10) = 13 := by decide
theorem i209_6 : ins 209 6 = some (.aload_n 0, 0, 0, 0, 0) := by decide +kernel
theorem i209_7 : ins 209 7 = some (.getfield 15, 1, 25, 1, 2) := by decide +kernel
theorem i209_10 : ins 209 10 = some (.goto 4, 0, 0, 0, 0) := by decide +kernel
theorem g209_10 : tg 10 (4) = 14 := by decide
theorem i209_13 : ins 209 13 = some (.iconst 1, 0, 0, 0, 0) := by decide +kernel
theorem i209_14 : ins 209 14 = some (.ireturn, 0, 0, 0, 0) := by decide +kernel
theorem c210 : 210 < mnames ∧ nA 210 = 2 ∧ nS 210 = 1 := by decide +kernel
theorem m210 : (210 ≠ ensK ∧ 210 < mnames) ∧ nA 210 = 2 ∧ nL 210 = 2 := by decide +kernel
theorem r210 : nR 210 = none := by decide +kernel
theorem i210_0 : ins 210 0 = some (.iload_n 0, 0, 0, 0, 0) := by decide +kernel
theorem i210_1 : ins 210 1 = some (.iload_n 1, 0, 0, 0, 0) := by decide +kernel
theorem i210_2 : ins 210 2 = some (.getstatic 1053, 4, 1, 0, 0) := by decide +kernel
theorem i210_5 : ins 210 5 = some (.invokestatic 1059, 187, 211, 1, 0) := by decide +kernel
theorem i210_8 : ins 210 8 = some (.pop, 0, 0, 0, 0) := by decide +kernel
theorem i210_9 : ins 210 9 = some (.return_, 0, 0, 0, 0) := by decide +kernel
theorem c211 : 211 < mnames ∧ nA 211 = 3 ∧ nS 211 = 1 := by decide +kernel
theorem m211 : (211 ≠ ensK ∧ 211 < mnames) ∧ nA 211 = 3 ∧ nL 211 = 3 := by decide +kernel
theorem r211 : nR 211 = (some .int) := by decide +kernel
theorem i211_0 : ins 211 0 = some (.iload_n 0, 0, 0, 0, 0) := by decide +kernel
theorem i211_1 : ins 211 1 = some (.ifCond .lt 8, 0, 0, 0, 0) := by decide +kernel
theorem g211_1 : tg 1 (8) = 9 := by decide
theorem i211_4 : ins 211 4 = some (.iload_n 0, 0, 0, 0, 0) := by decide +kernel
theorem i211_5 : ins 211 5 = some (.iload_n 1, 0, 0, 0, 0) := by decide +kernel
theorem i211_6 : ins 211 6 = some (.if_icmp .lt 10, 0, 0, 0, 0) := by decide +kernel
theorem g211_6 : tg 6 (10) = 16 := by decide
theorem i211_9 : ins 211 9 = some (.aload_n 2, 0, 0, 0, 0) := by decide +kernel
theorem i211_10 : ins 211 10 = some (.iload_n 0, 0, 0, 0, 0) := by decide +kernel
theorem i211_11 : ins 211 11 = some (.iload_n 1, 0, 0, 0, 0) := by decide +kernel
theorem i211_12 : ins 211 12 = some (.invokestatic 95, 0, 999, 0, 0) := by decide +kernel
theorem i211_15 : ins 211 15 = some (.athrow, 0, 0, 0, 0) := by decide +kernel
theorem i211_16 : ins 211 16 = some (.iload_n 0, 0, 0, 0, 0) := by decide +kernel
theorem i211_17 : ins 211 17 = some (.ireturn, 0, 0, 0, 0) := by decide +kernel
theorem c212 : 212 < mnames ∧ nA 212 = 2 ∧ nS 212 = 1 := by decide +kernel
theorem m212 : (212 ≠ ensK ∧ 212 < mnames) ∧ nA 212 = 2 ∧ nL 212 = 2 := by decide +kernel
theorem r212 : nR 212 = (some .char) := by decide +kernel
theorem i212_0 : ins 212 0 = some (.iload_n 1, 0, 0, 0, 0) := by decide +kernel
theorem i212_1 : ins 212 1 = some (.aload_n 0, 0, 0, 0, 0) := by decide +kernel
theorem i212_2 : ins 212 2 = some (.arraylength, 0, 0, 0, 0) := by decide +kernel
theorem i212_3 : ins 212 3 = some (.invokestatic 9, 188, 210, 1, 0) := by decide +kernel
theorem i212_6 : ins 212 6 = some (.aload_n 0, 0, 0, 0, 0) := by decide +kernel
theorem i212_7 : ins 212 7 = some (.iload_n 1, 0, 0, 0, 0) := by decide +kernel
theorem i212_8 : ins 212 8 = some (.baload, 0, 0, 0, 0) := by decide +kernel
theorem i212_9 : ins 212 9 = some (.sipush 255, 0, 0, 0, 0) := by decide +kernel
theorem i212_12 : ins 212 12 = some (.iand, 0, 0, 0, 0) := by decide +kernel
theorem i212_13 : ins 212 13 = some (.i2c, 0, 0, 0, 0) := by decide +kernel
theorem i212_14 : ins 212 14 = some (.ireturn, 0, 0, 0, 0) := by decide +kernel
theorem c213 : 213 < mnames ∧ nA 213 = 1 ∧ nS 213 = 1 := by decide +kernel
theorem m213 : (213 ≠ ensK ∧ 213 < mnames) ∧ nA 213 = 1 ∧ nL 213 = 1 := by decide +kernel
theorem r213 : nR 213 = (some .boolean) := by decide +kernel
theorem i213_0 : ins 213 0 = some (.iload_n 0, 0, 0, 0, 0) := by decide +kernel
theorem i213_1 : ins 213 1 = some (.sipush 255, 0, 0, 0, 0) := by decide +kernel
theorem i213_4 : ins 213 4 = some (.if_icmp .gt 7, 0, 0, 0, 0) := by decide +kernel
theorem g213_4 : tg 4 (7) = 11 := by decide
theorem i213_7 : ins 213 7 = some (.iconst 1, 0, 0, 0, 0) := by decide +kernel
theorem i213_8 : ins 213 8 = some (.goto 4, 0, 0, 0, 0) := by decide +kernel
theorem g213_8 : tg 8 (4) = 12 := by decide
theorem i213_11 : ins 213 11 = some (.iconst 0, 0, 0, 0, 0) := by decide +kernel
theorem i213_12 : ins 213 12 = some (.ireturn, 0, 0, 0, 0) := by decide +kernel
theorem c214 : 214 < mnames ∧ nA 214 = 1 ∧ nS 214 = 1 := by decide +kernel
theorem m214 : (214 ≠ ensK ∧ 214 < mnames) ∧ nA 214 = 1 ∧ nL 214 = 1 := by decide +kernel
theorem r214 : nR 214 = (some .boolean) := by decide +kernel
theorem i214_0 : ins 214 0 = some (.iload_n 0, 0, 0, 0, 0) := by decide +kernel
theorem i214_1 : ins 214 1 = some (.ifCond .lt 14, 0, 0, 0, 0) := by decide +kernel
theorem g214_1 : tg 1 (14) = 15 := by decide
theorem i214_4 : ins 214 4 = some (.iload_n 0, 0, 0, 0, 0) := by decide +kernel
theorem i214_5 : ins 214 5 = some (.sipush 255, 0, 0, 0, 0) := by decide +kernel
theorem i214_8 : ins 214 8 = some (.if_icmp .gt 7, 0, 0, 0, 0) := by decide +kernel
theorem g214_8 : tg 8 (7) = 15 := by decide
theorem i214_11 : ins 214 11 = some (.iconst 1, 0, 0, 0, 0) := by decide +kernel
theorem i214_12 : ins 214 12 = some (.goto 4, 0, 0, 0, 0) := by decide +kernel
theorem g214_12 : tg 12 (4) = 16 := by decide
theorem i214_15 : ins 214 15 = some (.iconst 0, 0, 0, 0, 0) := by decide +kernel
theorem i214_16 : ins 214 16 = some (.ireturn, 0, 0, 0, 0) := by decide +kernel
theorem c215 : 215 < mnames ∧ nA 215 = 4 ∧ nS 215 = 1 := by decide +kernel
theorem m215 : (215 ≠ ensK ∧ 215 < mnames) ∧ nA 215 = 4 ∧ nL 215 = 4 := by decide +kernel
theorem r215 : nR 215 = (some .int) := by decide +kernel
theorem i215_0 : ins 215 0 = some (.iload_n 1, 0, 0, 0, 0) := by decide +kernel
theorem i215_1 : ins 215 1 = some (.invokestatic 88, 189, 214, 1, 0) := by decide +kernel
theorem i215_4 : ins 215 4 = some (.ifCond .ne 5, 0, 0, 0, 0) := by decide +kernel
theorem g215_4 : tg 4 (5) = 9 := by decide
theorem i215_7 : ins 215 7 = some (.iconst (-1), 0, 0, 0, 0) := by decide +kernel
theorem i215_8 : ins 215 8 = some (.ireturn, 0, 0, 0, 0) := by decide +kernel
theorem i215_9 : ins 215 9 = some (.iload_n 2, 0, 0, 0, 0) := by decide +kernel
theorem i215_10 : ins 215 10 = some (.iconst 0, 0, 0, 0, 0) := by decide +kernel
theorem i215_11 : ins 215 11 = some (.invokestatic 92, 190, 203, 1, 0) := by decide +kernel
theorem i215_14 : ins 215 14 = some (.istore_n 2, 0, 0, 0, 0) := by decide +kernel
theorem i215_15 : ins 215 15 = some (.iload_n 3, 0, 0, 0, 0) := by decide +kernel
theorem i215_16 : ins 215 16 = some (.aload_n 0, 0, 0, 0, 0) := by decide +kernel
theorem i215_17 : ins 215 17 = some (.arraylength, 0, 0, 0, 0) := by decide +kernel
theorem i215_18 : ins 215 18 = some (.invokestatic 38, 191, 202, 1, 0) := by decide +kernel
theorem i215_21 : ins 215 21 = some (.istore_n 3, 0, 0, 0, 0) := by decide +kernel
theorem i215_22 : ins 215 22 = some (.iload_n 2, 0, 0, 0, 0) := by decide +kernel
theorem i215_23 : ins 215 23 = some (.iload_n 3, 0, 0, 0, 0) := by decide +kernel
theorem i215_24 : ins 215 24 = some (.if_icmp .lt 5, 0, 0, 0, 0) := by decide +kernel
theorem g215_24 : tg 24 (5) = 29 := by decide
theorem i215_27 : ins 215 27 = some (.iconst (-1), 0, 0, 0, 0) := by decide +kernel
theorem i215_28 : ins 215 28 = some (.ireturn, 0, 0, 0, 0) := by decide +kernel
theorem i215_29 : ins 215 29 = some (.aload_n 0, 0, 0, 0, 0) := by decide +kernel
theorem i215_30 : ins 215 30 = some (.iload_n 1, 0, 0, 0, 0) := by decide +kernel
theorem i215_31 : ins 215 31 = some (.iload_n 2, 0, 0, 0, 0) := by decide +kernel
theorem i215_32 : ins 215 32 = some (.iload_n 3, 0, 0, 0, 0) := by decide +kernel
theorem i215_33 : ins 215 33 = some (.invokestatic 95, 192, 216, 1, 0) := by decide +kernel
theorem i215_36 : ins 215 36 = some (.ireturn, 0, 0, 0, 0) := by decide +kernel
theorem c216 : 216 < mnames ∧ nA 216 = 4 ∧ nS 216 = 1 := by decide +kernel
theorem m216 : (216 ≠ ensK ∧ 216 < mnames) ∧ nA 216 = 4 ∧ nL 216 = 6 := by decide +kernel
theorem r216 : nR 216 = (some .int) := by decide +kernel
theorem i216_0 : ins 216 0 = some (.iload_n 1, 0, 0, 0, 0) := by decide +kernel
theorem i216_1 : ins 216 1 = some (.i2b, 0, 0, 0, 0) := by decide +kernel
theorem i216_2 : ins 216 2 = some (.istore 4, 0, 0, 0, 0) := by decide +kernel
theorem i216_4 : ins 216 4 = some (.iload_n 2, 0, 0, 0, 0) := by decide +kernel
theorem i216_5 : ins 216 5 = some (.istore 5, 0, 0, 0, 0) := by decide +kernel
theorem i216_7 : ins 216 7 = some (.iload 5, 0, 0, 0, 0) := by decide +kernel
theorem i216_9 : ins 216 9 = some (.iload_n 3, 0, 0, 0, 0) := by decide +kernel
theorem i216_10 : ins 216 10 = some (.if_icmp .ge 21, 0, 0, 0, 0) := by decide +kernel
theorem g216_10 : tg 10 (21) = 31 := by decide
theorem i216_13 : ins 216 13 = some (.aload_n 0, 0, 0, 0, 0) := by decide +kernel
theorem i216_14 : ins 216 14 = some (.iload 5, 0, 0, 0, 0) := by decide +kernel
theorem i216_16 : ins 216 16 = some (.baload, 0, 0, 0, 0) := by decide +kernel
theorem i216_17 : ins 216 17 = some (.iload 4, 0, 0, 0, 0) := by decide +kernel
theorem i216_19 : ins 216 19 = some (.if_icmp .ne 6, 0, 0, 0, 0) := by decide +kernel
theorem g216_19 : tg 19 (6) = 25 := by decide
theorem i216_22 : ins 216 22 = some (.iload 5, 0, 0, 0, 0) := by decide +kernel
theorem i216_24 : ins 216 24 = some (.ireturn, 0, 0, 0, 0) := by decide +kernel
theorem i216_25 : ins 216 25 = some (.iinc 5 1, 0, 0, 0, 0) := by decide +kernel
theorem i216_28 : ins 216 28 = some (.goto (-21), 0, 0, 0, 0) := by decide +kernel
theorem g216_28 : tg 28 (-21) = 7 := by decide
theorem i216_31 : ins 216 31 = some (.iconst (-1), 0, 0, 0, 0) := by decide +kernel
theorem i216_32 : ins 216 32 = some (.ireturn, 0, 0, 0, 0) := by decide +kernel
theorem c217 : 217 < mnames ∧ nA 217 = 2 ∧ nS 217 = 0 := by decide +kernel
theorem kc_m1 : Int32.ofInt (-1) = (-1) := by decide
theorem kc_0 : Int32.ofInt (0) = nI 0 := by decide
theorem kc_1 : Int32.ofInt (1) = nI 1 := by decide
theorem kc_2 : Int32.ofInt (2) = nI 2 := by decide
theorem kc_3 : Int32.ofInt (3) = nI 3 := by decide
theorem kc_4 : Int32.ofInt (4) = nI 4 := by decide
theorem kc_5 : Int32.ofInt (5) = nI 5 := by decide
theorem kb_m100 : (Int8.ofInt (-100)).toInt32 = (-100) := by decide
theorem kb_m10 : (Int8.ofInt (-10)).toInt32 = (-10) := by decide
theorem kb_m9 : (Int8.ofInt (-9)).toInt32 = (-9) := by decide
theorem kb_6 : (Int8.ofInt (6)).toInt32 = nI 6 := by decide
theorem kb_7 : (Int8.ofInt (7)).toInt32 = nI 7 := by decide
theorem kb_8 : (Int8.ofInt (8)).toInt32 = nI 8 := by decide
theorem kb_9 : (Int8.ofInt (9)).toInt32 = nI 9 := by decide
theorem kb_10 : (Int8.ofInt (10)).toInt32 = nI 10 := by decide
theorem kb_11 : (Int8.ofInt (11)).toInt32 = nI 11 := by decide
theorem kb_12 : (Int8.ofInt (12)).toInt32 = nI 12 := by decide
theorem kb_13 : (Int8.ofInt (13)).toInt32 = nI 13 := by decide
theorem kb_14 : (Int8.ofInt (14)).toInt32 = nI 14 := by decide
theorem kb_15 : (Int8.ofInt (15)).toInt32 = nI 15 := by decide
theorem kb_16 : (Int8.ofInt (16)).toInt32 = nI 16 := by decide
theorem kb_17 : (Int8.ofInt (17)).toInt32 = nI 17 := by decide
theorem kb_20 : (Int8.ofInt (20)).toInt32 = nI 20 := by decide
theorem kb_24 : (Int8.ofInt (24)).toInt32 = nI 24 := by decide
theorem kb_25 : (Int8.ofInt (25)).toInt32 = nI 25 := by decide
theorem kb_30 : (Int8.ofInt (30)).toInt32 = nI 30 := by decide
theorem kb_31 : (Int8.ofInt (31)).toInt32 = nI 31 := by decide
theorem kb_32 : (Int8.ofInt (32)).toInt32 = nI 32 := by decide
theorem kb_33 : (Int8.ofInt (33)).toInt32 = nI 33 := by decide
theorem kb_34 : (Int8.ofInt (34)).toInt32 = nI 34 := by decide
theorem kb_40 : (Int8.ofInt (40)).toInt32 = nI 40 := by decide
theorem kb_43 : (Int8.ofInt (43)).toInt32 = nI 43 := by decide
theorem kb_44 : (Int8.ofInt (44)).toInt32 = nI 44 := by decide
theorem kb_45 : (Int8.ofInt (45)).toInt32 = nI 45 := by decide
theorem kb_47 : (Int8.ofInt (47)).toInt32 = nI 47 := by decide
theorem kb_48 : (Int8.ofInt (48)).toInt32 = nI 48 := by decide
theorem kb_49 : (Int8.ofInt (49)).toInt32 = nI 49 := by decide
theorem kb_50 : (Int8.ofInt (50)).toInt32 = nI 50 := by decide
theorem kb_57 : (Int8.ofInt (57)).toInt32 = nI 57 := by decide
theorem kb_58 : (Int8.ofInt (58)).toInt32 = nI 58 := by decide
theorem kb_59 : (Int8.ofInt (59)).toInt32 = nI 59 := by decide
theorem kb_60 : (Int8.ofInt (60)).toInt32 = nI 60 := by decide
theorem kb_61 : (Int8.ofInt (61)).toInt32 = nI 61 := by decide
theorem kb_62 : (Int8.ofInt (62)).toInt32 = nI 62 := by decide
theorem kb_64 : (Int8.ofInt (64)).toInt32 = nI 64 := by decide
theorem kb_71 : (Int8.ofInt (71)).toInt32 = nI 71 := by decide
theorem kb_90 : (Int8.ofInt (90)).toInt32 = nI 90 := by decide
theorem kb_91 : (Int8.ofInt (91)).toInt32 = nI 91 := by decide
theorem kb_100 : (Int8.ofInt (100)).toInt32 = nI 100 := by decide
theorem kb_120 : (Int8.ofInt (120)).toInt32 = nI 120 := by decide
theorem ks_m2000 : (Int16.ofInt (-2000)).toInt32 = (-2000) := by decide
theorem ks_m1015 : (Int16.ofInt (-1015)).toInt32 = (-1015) := by decide
theorem ks_m1014 : (Int16.ofInt (-1014)).toInt32 = (-1014) := by decide
theorem ks_m1012 : (Int16.ofInt (-1012)).toInt32 = (-1012) := by decide
theorem ks_m1011 : (Int16.ofInt (-1011)).toInt32 = (-1011) := by decide
theorem ks_255 : (Int16.ofInt (255)).toInt32 = nI 255 := by decide
theorem ks_12345 : (Int16.ofInt (12345)).toInt32 = nI 12345 := by decide
theorem s_0 : sh 0 = (7, 9, [some 1, some 15, none, some 155, some 157, some 160, some 165, some 169, some 170]) := by decide +kernel
theorem s_1 : sh 1 = (5, 11, [some 2, some 11, some 12, some 13, some 14, none, none, none, none, none, none]) := by decide +kernel
theorem s_2 : sh 2 = (6, 9, [some 3, some 4, some 5, some 6, some 7, some 8, some 9, some 10, none]) := by decide +kernel
theorem s_3 : sh 3 = (20, 12, []) := by decide +kernel
theorem s_4 : sh 4 = (20, 12, []) := by decide +kernel
theorem s_5 : sh 5 = (20, 12, []) := by decide +kernel
theorem s_6 : sh 6 = (20, 12, []) := by decide +kernel
theorem s_7 : sh 7 = (20, 12, []) := by decide +kernel
theorem s_8 : sh 8 = (20, 12, []) := by decide +kernel
theorem s_9 : sh 9 = (20, 12, []) := by decide +kernel
theorem s_10 : sh 10 = (20, 12, []) := by decide +kernel
theorem s_11 : sh 11 = (21, 6, []) := by decide +kernel
theorem s_12 : sh 12 = (20, 6, []) := by decide +kernel
theorem s_13 : sh 13 = (20, 6, []) := by decide +kernel
theorem s_14 : sh 14 = (20, 6, []) := by decide +kernel
theorem s_15 : sh 15 = (5, 11, [some 16, some 25, some 26, some 27, some 28, none, none, none, none, none, none]) := by decide +kernel
theorem s_16 : sh 16 = (6, 9, [some 17, some 18, some 19, some 20, some 21, some 22, some 23, some 24, none]) := by decide +kernel
theorem s_17 : sh 17 = (20, 12, []) := by decide +kernel
theorem s_18 : sh 18 = (20, 12, []) := by decide +kernel
theorem s_19 : sh 19 = (20, 12, []) := by decide +kernel
theorem s_20 : sh 20 = (20, 12, []) := by decide +kernel
theorem s_21 : sh 21 = (20, 12, []) := by decide +kernel
theorem s_22 : sh 22 = (20, 12, []) := by decide +kernel
theorem s_23 : sh 23 = (20, 12, []) := by decide +kernel
theorem s_24 : sh 24 = (20, 12, []) := by decide +kernel
theorem s_25 : sh 25 = (21, 6, []) := by decide +kernel
theorem s_26 : sh 26 = (20, 6, []) := by decide +kernel
theorem s_27 : sh 27 = (20, 6, []) := by decide +kernel
theorem s_28 : sh 28 = (20, 6, []) := by decide +kernel
theorem s_29 : sh 29 = (5, 11, [some 30, some 39, some 40, some 41, some 42, none, none, none, none, none, none]) := by decide +kernel
theorem s_30 : sh 30 = (6, 9, [some 31, some 32, some 33, some 34, some 35, some 36, some 37, some 38, none]) := by decide +kernel
theorem s_31 : sh 31 = (20, 12, []) := by decide +kernel
theorem s_32 : sh 32 = (20, 12, []) := by decide +kernel
theorem s_33 : sh 33 = (20, 12, []) := by decide +kernel
theorem s_34 : sh 34 = (20, 12, []) := by decide +kernel
theorem s_35 : sh 35 = (20, 12, []) := by decide +kernel
theorem s_36 : sh 36 = (20, 12, []) := by decide +kernel
theorem s_37 : sh 37 = (20, 12, []) := by decide +kernel
theorem s_38 : sh 38 = (20, 12, []) := by decide +kernel
theorem s_39 : sh 39 = (21, 6, []) := by decide +kernel
theorem s_40 : sh 40 = (20, 6, []) := by decide +kernel
theorem s_41 : sh 41 = (20, 6, []) := by decide +kernel
theorem s_42 : sh 42 = (20, 6, []) := by decide +kernel
theorem s_43 : sh 43 = (5, 11, [some 44, some 53, some 54, some 55, some 56, none, none, none, none, none, none]) := by decide +kernel
theorem s_44 : sh 44 = (6, 9, [some 45, some 46, some 47, some 48, some 49, some 50, some 51, some 52, none]) := by decide +kernel
theorem s_45 : sh 45 = (20, 12, []) := by decide +kernel
theorem s_46 : sh 46 = (20, 12, []) := by decide +kernel
theorem s_47 : sh 47 = (20, 12, []) := by decide +kernel
theorem s_48 : sh 48 = (20, 12, []) := by decide +kernel
theorem s_49 : sh 49 = (20, 12, []) := by decide +kernel
theorem s_50 : sh 50 = (20, 12, []) := by decide +kernel
theorem s_51 : sh 51 = (20, 12, []) := by decide +kernel
theorem s_52 : sh 52 = (20, 12, []) := by decide +kernel
theorem s_53 : sh 53 = (21, 6, []) := by decide +kernel
theorem s_54 : sh 54 = (20, 6, []) := by decide +kernel
theorem s_55 : sh 55 = (20, 6, []) := by decide +kernel
theorem s_56 : sh 56 = (20, 6, []) := by decide +kernel
theorem s_57 : sh 57 = (5, 11, [some 58, some 67, some 68, some 69, some 70, none, none, none, none, none, none]) := by decide +kernel
theorem s_58 : sh 58 = (6, 9, [some 59, some 60, some 61, some 62, some 63, some 64, some 65, some 66, none]) := by decide +kernel
theorem s_59 : sh 59 = (20, 12, []) := by decide +kernel
theorem s_60 : sh 60 = (20, 12, []) := by decide +kernel
theorem s_61 : sh 61 = (20, 12, []) := by decide +kernel
theorem s_62 : sh 62 = (20, 12, []) := by decide +kernel
theorem s_63 : sh 63 = (20, 12, []) := by decide +kernel
theorem s_64 : sh 64 = (20, 12, []) := by decide +kernel
theorem s_65 : sh 65 = (20, 12, []) := by decide +kernel
theorem s_66 : sh 66 = (20, 12, []) := by decide +kernel
theorem s_67 : sh 67 = (21, 6, []) := by decide +kernel
theorem s_68 : sh 68 = (20, 6, []) := by decide +kernel
theorem s_69 : sh 69 = (20, 6, []) := by decide +kernel
theorem s_70 : sh 70 = (20, 6, []) := by decide +kernel
theorem s_71 : sh 71 = (5, 11, [some 72, some 81, some 82, some 83, some 84, none, none, none, none, none, none]) := by decide +kernel
theorem s_72 : sh 72 = (6, 9, [some 73, some 74, some 75, some 76, some 77, some 78, some 79, some 80, none]) := by decide +kernel
theorem s_73 : sh 73 = (20, 12, []) := by decide +kernel
theorem s_74 : sh 74 = (20, 12, []) := by decide +kernel
theorem s_75 : sh 75 = (20, 12, []) := by decide +kernel
theorem s_76 : sh 76 = (20, 12, []) := by decide +kernel
theorem s_77 : sh 77 = (20, 12, []) := by decide +kernel
theorem s_78 : sh 78 = (20, 12, []) := by decide +kernel
theorem s_79 : sh 79 = (20, 12, []) := by decide +kernel
theorem s_80 : sh 80 = (20, 12, []) := by decide +kernel
theorem s_81 : sh 81 = (21, 6, []) := by decide +kernel
theorem s_82 : sh 82 = (20, 6, []) := by decide +kernel
theorem s_83 : sh 83 = (20, 6, []) := by decide +kernel
theorem s_84 : sh 84 = (20, 6, []) := by decide +kernel
theorem s_85 : sh 85 = (5, 11, [some 86, some 95, some 96, some 97, some 98, none, none, none, none, none, none]) := by decide +kernel
theorem s_86 : sh 86 = (6, 9, [some 87, some 88, some 89, some 90, some 91, some 92, some 93, some 94, none]) := by decide +kernel
theorem s_87 : sh 87 = (20, 12, []) := by decide +kernel
theorem s_88 : sh 88 = (20, 12, []) := by decide +kernel
theorem s_89 : sh 89 = (20, 12, []) := by decide +kernel
theorem s_90 : sh 90 = (20, 12, []) := by decide +kernel
theorem s_91 : sh 91 = (20, 12, []) := by decide +kernel
theorem s_92 : sh 92 = (20, 12, []) := by decide +kernel
theorem s_93 : sh 93 = (20, 12, []) := by decide +kernel
theorem s_94 : sh 94 = (20, 12, []) := by decide +kernel
theorem s_95 : sh 95 = (21, 6, []) := by decide +kernel
theorem s_96 : sh 96 = (20, 6, []) := by decide +kernel
theorem s_97 : sh 97 = (20, 6, []) := by decide +kernel
theorem s_98 : sh 98 = (20, 6, []) := by decide +kernel
theorem s_99 : sh 99 = (5, 11, [some 100, some 109, some 110, some 111, some 112, none, none, none, none, none, none]) := by decide +kernel
theorem s_100 : sh 100 = (6, 9, [some 101, some 102, some 103, some 104, some 105, some 106, some 107, some 108, none]) := by decide +kernel
theorem s_101 : sh 101 = (20, 12, []) := by decide +kernel
theorem s_102 : sh 102 = (20, 12, []) := by decide +kernel
theorem s_103 : sh 103 = (20, 12, []) := by decide +kernel
theorem s_104 : sh 104 = (20, 12, []) := by decide +kernel
theorem s_105 : sh 105 = (20, 12, []) := by decide +kernel
theorem s_106 : sh 106 = (20, 12, []) := by decide +kernel
theorem s_107 : sh 107 = (20, 12, []) := by decide +kernel
theorem s_108 : sh 108 = (20, 12, []) := by decide +kernel
theorem s_109 : sh 109 = (21, 6, []) := by decide +kernel
theorem s_110 : sh 110 = (20, 6, []) := by decide +kernel
theorem s_111 : sh 111 = (20, 6, []) := by decide +kernel
theorem s_112 : sh 112 = (20, 6, []) := by decide +kernel
theorem s_113 : sh 113 = (5, 11, [some 114, some 123, some 124, some 125, some 126, none, none, none, none, none, none]) := by decide +kernel
theorem s_114 : sh 114 = (6, 9, [some 115, some 116, some 117, some 118, some 119, some 120, some 121, some 122, none]) := by decide +kernel
theorem s_115 : sh 115 = (20, 12, []) := by decide +kernel
theorem s_116 : sh 116 = (20, 12, []) := by decide +kernel
theorem s_117 : sh 117 = (20, 12, []) := by decide +kernel
theorem s_118 : sh 118 = (20, 12, []) := by decide +kernel
theorem s_119 : sh 119 = (20, 12, []) := by decide +kernel
theorem s_120 : sh 120 = (20, 12, []) := by decide +kernel
theorem s_121 : sh 121 = (20, 12, []) := by decide +kernel
theorem s_122 : sh 122 = (20, 12, []) := by decide +kernel
theorem s_123 : sh 123 = (21, 6, []) := by decide +kernel
theorem s_124 : sh 124 = (20, 6, []) := by decide +kernel
theorem s_125 : sh 125 = (20, 6, []) := by decide +kernel
theorem s_126 : sh 126 = (20, 6, []) := by decide +kernel
theorem s_127 : sh 127 = (5, 11, [some 128, some 137, some 138, some 139, some 140, none, none, none, none, none, none]) := by decide +kernel
theorem s_128 : sh 128 = (6, 9, [some 129, some 130, some 131, some 132, some 133, some 134, some 135, some 136, none]) := by decide +kernel
theorem s_129 : sh 129 = (20, 12, []) := by decide +kernel
theorem s_130 : sh 130 = (20, 12, []) := by decide +kernel
theorem s_131 : sh 131 = (20, 12, []) := by decide +kernel
theorem s_132 : sh 132 = (20, 12, []) := by decide +kernel
theorem s_133 : sh 133 = (20, 12, []) := by decide +kernel
theorem s_134 : sh 134 = (20, 12, []) := by decide +kernel
theorem s_135 : sh 135 = (20, 12, []) := by decide +kernel
theorem s_136 : sh 136 = (20, 12, []) := by decide +kernel
theorem s_137 : sh 137 = (21, 6, []) := by decide +kernel
theorem s_138 : sh 138 = (20, 6, []) := by decide +kernel
theorem s_139 : sh 139 = (20, 6, []) := by decide +kernel
theorem s_140 : sh 140 = (20, 6, []) := by decide +kernel
theorem s_141 : sh 141 = (5, 11, [some 142, some 151, some 152, some 153, some 154, none, none, none, none, none, none]) := by decide +kernel
theorem s_142 : sh 142 = (6, 9, [some 143, some 144, some 145, some 146, some 147, some 148, some 149, some 150, none]) := by decide +kernel
theorem s_143 : sh 143 = (20, 12, []) := by decide +kernel
theorem s_144 : sh 144 = (20, 12, []) := by decide +kernel
theorem s_145 : sh 145 = (20, 12, []) := by decide +kernel
theorem s_146 : sh 146 = (20, 12, []) := by decide +kernel
theorem s_147 : sh 147 = (20, 12, []) := by decide +kernel
theorem s_148 : sh 148 = (20, 12, []) := by decide +kernel
theorem s_149 : sh 149 = (20, 12, []) := by decide +kernel
theorem s_150 : sh 150 = (20, 12, []) := by decide +kernel
theorem s_151 : sh 151 = (21, 6, []) := by decide +kernel
theorem s_152 : sh 152 = (20, 6, []) := by decide +kernel
theorem s_153 : sh 153 = (20, 6, []) := by decide +kernel
theorem s_154 : sh 154 = (20, 6, []) := by decide +kernel
theorem s_155 : sh 155 = (1, 3, [some 156, none, none]) := by decide +kernel
theorem s_156 : sh 156 = (23, 9, [some 29, some 43, some 57, some 71, some 85, some 99, some 113, some 127, some 141]) := by decide +kernel
theorem s_157 : sh 157 = (3, 3, [some 158, some 159, none]) := by decide +kernel
theorem s_158 : sh 158 = (20, 3, []) := by decide +kernel
theorem s_159 : sh 159 = (20, 3, []) := by decide +kernel
theorem s_160 : sh 160 = (2, 6, [some 161, some 162, some 163, some 164, none, none]) := by decide +kernel
theorem s_161 : sh 161 = (20, 60, []) := by decide +kernel
theorem s_162 : sh 162 = (20, 60, []) := by decide +kernel
theorem s_163 : sh 163 = (20, 60, []) := by decide +kernel
theorem s_164 : sh 164 = (20, 60, []) := by decide +kernel
theorem s_165 : sh 165 = (4, 3, [some 166, some 167, some 168]) := by decide +kernel
theorem s_166 : sh 166 = (20, 6, []) := by decide +kernel
theorem s_167 : sh 167 = (20, 6, []) := by decide +kernel
theorem s_168 : sh 168 = (20, 6, []) := by decide +kernel
theorem s_169 : sh 169 = (0, 4, [some 181, none, none, none]) := by decide +kernel
theorem s_170 : sh 170 = (0, 4, [some 182, none, none, none]) := by decide +kernel
theorem s_171 : sh 171 = (99, 0, []) := by decide +kernel
theorem s_172 : sh 172 = (99, 0, []) := by decide +kernel
theorem s_173 : sh 173 = (99, 0, []) := by decide +kernel
theorem s_174 : sh 174 = (99, 0, []) := by decide +kernel
theorem s_175 : sh 175 = (99, 0, []) := by decide +kernel
theorem s_176 : sh 176 = (99, 0, []) := by decide +kernel
theorem s_177 : sh 177 = (99, 0, []) := by decide +kernel
theorem s_178 : sh 178 = (99, 0, []) := by decide +kernel
theorem s_179 : sh 179 = (99, 0, []) := by decide +kernel
theorem s_180 : sh 180 = (99, 0, []) := by decide +kernel
theorem s_181 : sh 181 = (22, 0, []) := by decide +kernel
theorem s_182 : sh 182 = (22, 0, []) := by decide +kernel
theorem inc1 (n : Nat) : nI n + Int32.ofInt 1 = nI (n + 1) := (nI_succ n).symm
