theorem d_99_38 : decode (mB 99) 38 = .ok ((.invokevirtual 154), 3) := by decide +kernel
theorem d_99_41 : decode (mB 99) 41 = .ok ((.aload_n 0), 1) := by decide +kernel
theorem d_99_42 : decode (mB 99) 42 = .ok ((.getfield 40), 3) := by decide +kernel
theorem d_99_45 : decode (mB 99) 45 = .ok ((.invokevirtual 179), 3) := by decide +kernel
theorem d_99_48 : decode (mB 99) 48 = .ok (.ireturn, 1) := by decide +kernel
theorem d_100_0 : decode (mB 100) 0 = .ok ((.aload_n 0), 1) := by decide +kernel
theorem d_100_1 : decode (mB 100) 1 = .ok ((.getfield 26), 3) := by decide +kernel
theorem d_100_4 : decode (mB 100) 4 = .ok ((.iload_n 1), 1) := by decide +kernel
theorem d_100_5 : decode (mB 100) 5 = .ok ((.invokevirtual 112), 3) := by decide +kernel
theorem d_100_8 : decode (mB 100) 8 = .ok ((.ifCond .ne 5), 3) := by decide +kernel
theorem d_100_11 : decode (mB 100) 11 = .ok ((.iconst (-1)), 1) := by decide +kernel
theorem d_100_12 : decode (mB 100) 12 = .ok (.ireturn, 1) := by decide +kernel
theorem d_100_13 : decode (mB 100) 13 = .ok ((.iload_n 2), 1) := by decide +kernel
theorem d_100_14 : decode (mB 100) 14 = .ok ((.iconst 0), 1) := by decide +kernel
theorem d_100_15 : decode (mB 100) 15 = .ok ((.bipush 20), 2) := by decide +kernel
theorem d_100_17 : decode (mB 100) 17 = .ok ((.invokestatic 168), 3) := by decide +kernel
theorem d_100_20 : decode (mB 100) 20 = .ok ((.ifCond .eq 10), 3) := by decide +kernel
theorem d_100_23 : decode (mB 100) 23 = .ok ((.iload_n 3), 1) := by decide +kernel
theorem d_100_24 : decode (mB 100) 24 = .ok ((.invokestatic 157), 3) := by decide +kernel
theorem d_100_27 : decode (mB 100) 27 = .ok ((.ifCond .ne 6), 3) := by decide +kernel
theorem d_100_30 : decode (mB 100) 30 = .ok ((.bipush (-2)), 2) := by decide +kernel
theorem d_100_32 : decode (mB 100) 32 = .ok (.ireturn, 1) := by decide +kernel
theorem d_100_33 : decode (mB 100) 33 = .ok ((.aload_n 0), 1) := by decide +kernel
theorem d_100_34 : decode (mB 100) 34 = .ok ((.getfield 49), 3) := by decide +kernel
theorem d_100_37 : decode (mB 100) 37 = .ok ((.iload_n 2), 1) := by decide +kernel
theorem d_100_38 : decode (mB 100) 38 = .ok ((.iload_n 3), 1) := by decide +kernel
theorem d_100_39 : decode (mB 100) 39 = .ok ((.aload_n 0), 1) := by decide +kernel
theorem d_100_40 : decode (mB 100) 40 = .ok ((.getfield 33), 3) := by decide +kernel
theorem d_100_43 : decode (mB 100) 43 = .ok ((.invokevirtual 132), 3) := by decide +kernel
theorem d_100_46 : decode (mB 100) 46 = .ok ((.invokevirtual 183), 3) := by decide +kernel
theorem d_100_49 : decode (mB 100) 49 = .ok ((.iload_n 1), 1) := by decide +kernel
theorem d_100_50 : decode (mB 100) 50 = .ok ((.invokevirtual 122), 3) := by decide +kernel
theorem d_100_53 : decode (mB 100) 53 = .ok (.ireturn, 1) := by decide +kernel
theorem d_101_0 : decode (mB 101) 0 = .ok ((.iload_n 1), 1) := by decide +kernel
theorem d_101_1 : decode (mB 101) 1 = .ok ((.iconst 0), 1) := by decide +kernel
theorem d_101_2 : decode (mB 101) 2 = .ok ((.bipush 20), 2) := by decide +kernel
theorem d_101_4 : decode (mB 101) 4 = .ok ((.invokestatic 168), 3) := by decide +kernel
theorem d_101_7 : decode (mB 101) 7 = .ok ((.ifCond .eq 10), 3) := by decide +kernel
theorem d_101_10 : decode (mB 101) 10 = .ok ((.iload_n 2), 1) := by decide +kernel
theorem d_101_11 : decode (mB 101) 11 = .ok ((.invokestatic 157), 3) := by decide +kernel
theorem d_101_14 : decode (mB 101) 14 = .ok ((.ifCond .ne 6), 3) := by decide +kernel
theorem d_101_17 : decode (mB 101) 17 = .ok ((.bipush (-2)), 2) := by decide +kernel
theorem d_101_19 : decode (mB 101) 19 = .ok (.ireturn, 1) := by decide +kernel
theorem d_101_20 : decode (mB 101) 20 = .ok ((.aload_n 0), 1) := by decide +kernel
theorem d_101_21 : decode (mB 101) 21 = .ok ((.getfield 49), 3) := by decide +kernel
theorem d_101_24 : decode (mB 101) 24 = .ok ((.iload_n 1), 1) := by decide +kernel
theorem d_101_25 : decode (mB 101) 25 = .ok ((.iload_n 2), 1) := by decide +kernel
theorem d_101_26 : decode (mB 101) 26 = .ok ((.aload_n 0), 1) := by decide +kernel
theorem d_101_27 : decode (mB 101) 27 = .ok ((.getfield 33), 3) := by decide +kernel
theorem d_101_30 : decode (mB 101) 30 = .ok ((.invokevirtual 132), 3) := by decide +kernel
theorem d_101_33 : decode (mB 101) 33 = .ok ((.invokevirtual 183), 3) := by decide +kernel
theorem d_101_36 : decode (mB 101) 36 = .ok ((.astore 4), 2) := by decide +kernel
theorem d_101_38 : decode (mB 101) 38 = .ok ((.iload_n 3), 1) := by decide +kernel
theorem d_101_39 : decode (mB 101) 39 = .ok ((.ifCond .eq 11), 3) := by decide +kernel
theorem d_101_42 : decode (mB 101) 42 = .ok ((.aload 4), 2) := by decide +kernel
theorem d_101_44 : decode (mB 101) 44 = .ok ((.invokevirtual 187), 3) := by decide +kernel
theorem d_101_47 : decode (mB 101) 47 = .ok ((.goto 8), 3) := by decide +kernel
theorem d_101_50 : decode (mB 101) 50 = .ok ((.aload 4), 2) := by decide +kernel
theorem d_101_52 : decode (mB 101) 52 = .ok ((.invokevirtual 190), 3) := by decide +kernel
theorem d_101_55 : decode (mB 101) 55 = .ok (.ireturn, 1) := by decide +kernel
theorem d_102_0 : decode (mB 102) 0 = .ok ((.iload_n 1), 1) := by decide +kernel
theorem d_102_1 : decode (mB 102) 1 = .ok ((.iconst 1), 1) := by decide +kernel
theorem d_102_2 : decode (mB 102) 2 = .ok ((.bipush 6), 2) := by decide +kernel
theorem d_102_4 : decode (mB 102) 4 = .ok ((.invokestatic 168), 3) := by decide +kernel
theorem d_102_7 : decode (mB 102) 7 = .ok ((.ifCond .eq 10), 3) := by decide +kernel
theorem d_102_10 : decode (mB 102) 10 = .ok ((.iload_n 2), 1) := by decide +kernel
theorem d_102_11 : decode (mB 102) 11 = .ok ((.invokestatic 157), 3) := by decide +kernel
theorem d_102_14 : decode (mB 102) 14 = .ok ((.ifCond .ne 6), 3) := by decide +kernel
theorem d_102_17 : decode (mB 102) 17 = .ok ((.bipush (-2)), 2) := by decide +kernel
theorem d_102_19 : decode (mB 102) 19 = .ok (.ireturn, 1) := by decide +kernel
theorem d_102_20 : decode (mB 102) 20 = .ok ((.aload_n 0), 1) := by decide +kernel
theorem d_102_21 : decode (mB 102) 21 = .ok ((.getfield 49), 3) := by decide +kernel
theorem d_102_24 : decode (mB 102) 24 = .ok ((.iload_n 1), 1) := by decide +kernel
theorem d_102_25 : decode (mB 102) 25 = .ok ((.iload_n 2), 1) := by decide +kernel
theorem d_102_26 : decode (mB 102) 26 = .ok ((.invokevirtual 193), 3) := by decide +kernel
theorem d_102_29 : decode (mB 102) 29 = .ok (.ireturn, 1) := by decide +kernel
theorem d_103_0 : decode (mB 103) 0 = .ok ((.iload_n 1), 1) := by decide +kernel
theorem d_103_1 : decode (mB 103) 1 = .ok ((.iconst 1), 1) := by decide +kernel
theorem d_103_2 : decode (mB 103) 2 = .ok ((.bipush 6), 2) := by decide +kernel
theorem d_103_4 : decode (mB 103) 4 = .ok ((.invokestatic 168), 3) := by decide +kernel
theorem d_103_7 : decode (mB 103) 7 = .ok ((.ifCond .eq 10), 3) := by decide +kernel
theorem d_103_10 : decode (mB 103) 10 = .ok ((.iload_n 2), 1) := by decide +kernel
theorem d_103_11 : decode (mB 103) 11 = .ok ((.invokestatic 157), 3) := by decide +kernel
theorem d_103_14 : decode (mB 103) 14 = .ok ((.ifCond .ne 6), 3) := by decide +kernel
theorem d_103_17 : decode (mB 103) 17 = .ok ((.bipush (-2)), 2) := by decide +kernel
theorem d_103_19 : decode (mB 103) 19 = .ok (.ireturn, 1) := by decide +kernel
theorem d_103_20 : decode (mB 103) 20 = .ok ((.aload_n 0), 1) := by decide +kernel
theorem d_103_21 : decode (mB 103) 21 = .ok ((.getfield 49), 3) := by decide +kernel
theorem d_103_24 : decode (mB 103) 24 = .ok ((.iload_n 1), 1) := by decide +kernel
theorem d_103_25 : decode (mB 103) 25 = .ok ((.iload_n 2), 1) := by decide +kernel
theorem d_103_26 : decode (mB 103) 26 = .ok ((.aload_n 0), 1) := by decide +kernel
theorem d_103_27 : decode (mB 103) 27 = .ok ((.getfield 49), 3) := by decide +kernel
theorem d_103_30 : decode (mB 103) 30 = .ok ((.iload_n 1), 1) := by decide +kernel
theorem d_103_31 : decode (mB 103) 31 = .ok ((.iload_n 2), 1) := by decide +kernel
theorem d_103_32 : decode (mB 103) 32 = .ok ((.invokevirtual 193), 3) := by decide +kernel
theorem d_103_35 : decode (mB 103) 35 = .ok ((.invokevirtual 196), 3) := by decide +kernel
theorem d_103_38 : decode (mB 103) 38 = .ok (.ireturn, 1) := by decide +kernel
theorem d_104_0 : decode (mB 104) 0 = .ok ((.aload_n 0), 1) := by decide +kernel
theorem d_104_1 : decode (mB 104) 1 = .ok ((.iload_n 1), 1) := by decide +kernel
theorem d_104_2 : decode (mB 104) 2 = .ok ((.iload_n 2), 1) := by decide +kernel
theorem d_104_3 : decode (mB 104) 3 = .ok ((.invokevirtual 200), 3) := by decide +kernel
theorem d_104_6 : decode (mB 104) 6 = .ok ((.istore_n 3), 1) := by decide +kernel
theorem d_104_7 : decode (mB 104) 7 = .ok ((.iload_n 3), 1) := by decide +kernel
theorem d_104_8 : decode (mB 104) 8 = .ok ((.ifCond .eq 5), 3) := by decide +kernel
theorem d_104_11 : decode (mB 104) 11 = .ok ((.iload_n 3), 1) := by decide +kernel
theorem d_104_12 : decode (mB 104) 12 = .ok (.ireturn, 1) := by decide +kernel
theorem d_104_13 : decode (mB 104) 13 = .ok ((.aload_n 0), 1) := by decide +kernel
theorem d_104_14 : decode (mB 104) 14 = .ok ((.getfield 49), 3) := by decide +kernel
theorem d_104_17 : decode (mB 104) 17 = .ok ((.iload_n 1), 1) := by decide +kernel
theorem d_104_18 : decode (mB 104) 18 = .ok ((.iload_n 2), 1) := by decide +kernel
theorem d_104_19 : decode (mB 104) 19 = .ok ((.invokevirtual 203), 3) := by decide +kernel
theorem d_104_22 : decode (mB 104) 22 = .ok ((.aload_n 0), 1) := by decide +kernel
theorem d_104_23 : decode (mB 104) 23 = .ok ((.getfield 49), 3) := by decide +kernel
theorem d_104_26 : decode (mB 104) 26 = .ok ((.invokevirtual 207), 3) := by decide +kernel
theorem d_104_29 : decode (mB 104) 29 = .ok (.ireturn, 1) := by decide +kernel
theorem d_105_0 : decode (mB 105) 0 = .ok ((.iload_n 1), 1) := by decide +kernel
theorem d_105_1 : decode (mB 105) 1 = .ok ((.iconst 1), 1) := by decide +kernel
theorem d_105_2 : decode (mB 105) 2 = .ok ((.iconst 3), 1) := by decide +kernel
theorem d_105_3 : decode (mB 105) 3 = .ok ((.invokestatic 168), 3) := by decide +kernel
theorem d_105_6 : decode (mB 105) 6 = .ok ((.ifCond .eq 10), 3) := by decide +kernel
theorem d_105_9 : decode (mB 105) 9 = .ok ((.iload_n 2), 1) := by decide +kernel
theorem d_105_10 : decode (mB 105) 10 = .ok ((.invokestatic 157), 3) := by decide +kernel
theorem d_105_13 : decode (mB 105) 13 = .ok ((.ifCond .ne 6), 3) := by decide +kernel
theorem d_105_16 : decode (mB 105) 16 = .ok ((.bipush (-2)), 2) := by decide +kernel
theorem d_105_18 : decode (mB 105) 18 = .ok (.ireturn, 1) := by decide +kernel
theorem d_105_19 : decode (mB 105) 19 = .ok ((.aload_n 0), 1) := by decide +kernel
theorem d_105_20 : decode (mB 105) 20 = .ok ((.getfield 26), 3) := by decide +kernel
theorem d_105_23 : decode (mB 105) 23 = .ok ((.invokevirtual 109), 3) := by decide +kernel
theorem d_105_26 : decode (mB 105) 26 = .ok ((.iconst 4), 1) := by decide +kernel
theorem d_105_27 : decode (mB 105) 27 = .ok ((.if_icmp .le 8), 3) := by decide +kernel
theorem d_105_30 : decode (mB 105) 30 = .ok ((.bipush (-3)), 2) := by decide +kernel
theorem d_105_32 : decode (mB 105) 32 = .ok ((.goto 4), 3) := by decide +kernel
theorem d_105_35 : decode (mB 105) 35 = .ok ((.iconst 0), 1) := by decide +kernel
theorem d_105_36 : decode (mB 105) 36 = .ok (.ireturn, 1) := by decide +kernel
theorem d_106_0 : decode (mB 106) 0 = .ok ((.aload_n 0), 1) := by decide +kernel
theorem d_106_1 : decode (mB 106) 1 = .ok ((.iload_n 1), 1) := by decide +kernel
theorem d_106_2 : decode (mB 106) 2 = .ok ((.iload_n 2), 1) := by decide +kernel
theorem d_106_3 : decode (mB 106) 3 = .ok ((.invokevirtual 200), 3) := by decide +kernel
theorem d_106_6 : decode (mB 106) 6 = .ok ((.istore 4), 2) := by decide +kernel
theorem d_106_8 : decode (mB 106) 8 = .ok ((.iload 4), 2) := by decide +kernel
theorem d_106_10 : decode (mB 106) 10 = .ok ((.ifCond .eq 6), 3) := by decide +kernel
theorem d_106_13 : decode (mB 106) 13 = .ok ((.iload 4), 2) := by decide +kernel
theorem d_106_15 : decode (mB 106) 15 = .ok (.ireturn, 1) := by decide +kernel
theorem d_106_16 : decode (mB 106) 16 = .ok ((.iload_n 3), 1) := by decide +kernel
theorem d_106_17 : decode (mB 106) 17 = .ok ((.iconst 0), 1) := by decide +kernel
theorem d_106_18 : decode (mB 106) 18 = .ok ((.iload_n 1), 1) := by decide +kernel
theorem d_106_19 : decode (mB 106) 19 = .ok ((.iconst 1), 1) := by decide +kernel
theorem d_106_20 : decode (mB 106) 20 = .ok (.isub, 1) := by decide +kernel
theorem d_106_21 : decode (mB 106) 21 = .ok ((.invokestatic 168), 3) := by decide +kernel
theorem d_106_24 : decode (mB 106) 24 = .ok ((.ifCond .ne 6), 3) := by decide +kernel
theorem d_106_27 : decode (mB 106) 27 = .ok ((.bipush (-9)), 2) := by decide +kernel
theorem d_106_29 : decode (mB 106) 29 = .ok (.ireturn, 1) := by decide +kernel
theorem d_106_30 : decode (mB 106) 30 = .ok ((.aload_n 0), 1) := by decide +kernel
theorem d_106_31 : decode (mB 106) 31 = .ok ((.getfield 49), 3) := by decide +kernel
theorem d_106_34 : decode (mB 106) 34 = .ok ((.iload_n 1), 1) := by decide +kernel
theorem d_106_35 : decode (mB 106) 35 = .ok ((.iload_n 2), 1) := by decide +kernel
theorem d_106_36 : decode (mB 106) 36 = .ok ((.invokevirtual 203), 3) := by decide +kernel
theorem d_106_39 : decode (mB 106) 39 = .ok ((.aload_n 0), 1) := by decide +kernel
theorem d_106_40 : decode (mB 106) 40 = .ok ((.getfield 49), 3) := by decide +kernel
theorem d_106_43 : decode (mB 106) 43 = .ok ((.iload_n 1), 1) := by decide +kernel
theorem d_106_44 : decode (mB 106) 44 = .ok ((.iload_n 3), 1) := by decide +kernel
theorem d_106_45 : decode (mB 106) 45 = .ok ((.invokevirtual 210), 3) := by decide +kernel
theorem d_106_48 : decode (mB 106) 48 = .ok (.ireturn, 1) := by decide +kernel
theorem d_107_0 : decode (mB 107) 0 = .ok ((.iload_n 1), 1) := by decide +kernel
theorem d_107_1 : decode (mB 107) 1 = .ok ((.iconst 1), 1) := by decide +kernel
theorem d_107_2 : decode (mB 107) 2 = .ok ((.bipush 6), 2) := by decide +kernel
theorem d_107_4 : decode (mB 107) 4 = .ok ((.invokestatic 168), 3) := by decide +kernel
theorem d_107_7 : decode (mB 107) 7 = .ok ((.ifCond .eq 10), 3) := by decide +kernel
theorem d_107_10 : decode (mB 107) 10 = .ok ((.iload_n 2), 1) := by decide +kernel
theorem d_107_11 : decode (mB 107) 11 = .ok ((.invokestatic 157), 3) := by decide +kernel
theorem d_107_14 : decode (mB 107) 14 = .ok ((.ifCond .ne 6), 3) := by decide +kernel
theorem d_107_17 : decode (mB 107) 17 = .ok ((.bipush (-2)), 2) := by decide +kernel
theorem d_107_19 : decode (mB 107) 19 = .ok (.ireturn, 1) := by decide +kernel
theorem d_107_20 : decode (mB 107) 20 = .ok ((.aload_n 0), 1) := by decide +kernel
theorem d_107_21 : decode (mB 107) 21 = .ok ((.getfield 49), 3) := by decide +kernel
theorem d_107_24 : decode (mB 107) 24 = .ok ((.iload_n 1), 1) := by decide +kernel
theorem d_107_25 : decode (mB 107) 25 = .ok ((.iload_n 2), 1) := by decide +kernel
theorem d_107_26 : decode (mB 107) 26 = .ok ((.invokevirtual 213), 3) := by decide +kernel
theorem d_107_29 : decode (mB 107) 29 = .ok (.ireturn, 1) := by decide +kernel
theorem d_108_0 : decode (mB 108) 0 = .ok ((.iload_n 1), 1) := by decide +kernel
theorem d_108_1 : decode (mB 108) 1 = .ok ((.iconst 1), 1) := by decide +kernel
theorem d_108_2 : decode (mB 108) 2 = .ok ((.bipush 6), 2) := by decide +kernel
theorem d_108_4 : decode (mB 108) 4 = .ok ((.invokestatic 168), 3) := by decide +kernel
theorem d_108_7 : decode (mB 108) 7 = .ok ((.ifCond .eq 21), 3) := by decide +kernel
theorem d_108_10 : decode (mB 108) 10 = .ok ((.iload_n 2), 1) := by decide +kernel
theorem d_108_11 : decode (mB 108) 11 = .ok ((.invokestatic 157), 3) := by decide +kernel
theorem d_108_14 : decode (mB 108) 14 = .ok ((.ifCond .eq 14), 3) := by decide +kernel
theorem d_108_17 : decode (mB 108) 17 = .ok ((.iload_n 3), 1) := by decide +kernel
theorem d_108_18 : decode (mB 108) 18 = .ok ((.iconst 0), 1) := by decide +kernel
theorem d_108_19 : decode (mB 108) 19 = .ok ((.sipush 999), 3) := by decide +kernel
theorem d_108_22 : decode (mB 108) 22 = .ok ((.invokestatic 168), 3) := by decide +kernel
theorem d_108_25 : decode (mB 108) 25 = .ok ((.ifCond .ne 6), 3) := by decide +kernel
theorem d_108_28 : decode (mB 108) 28 = .ok ((.bipush (-2)), 2) := by decide +kernel
theorem d_108_30 : decode (mB 108) 30 = .ok (.ireturn, 1) := by decide +kernel
theorem d_108_31 : decode (mB 108) 31 = .ok ((.aload_n 0), 1) := by decide +kernel
theorem d_108_32 : decode (mB 108) 32 = .ok ((.getfield 56), 3) := by decide +kernel
theorem d_108_35 : decode (mB 108) 35 = .ok ((.invokevirtual 216), 3) := by decide +kernel
theorem d_108_38 : decode (mB 108) 38 = .ok ((.ifCond .ne 6), 3) := by decide +kernel
theorem d_108_41 : decode (mB 108) 41 = .ok ((.bipush (-4)), 2) := by decide +kernel
theorem d_108_43 : decode (mB 108) 43 = .ok (.ireturn, 1) := by decide +kernel
theorem d_108_44 : decode (mB 108) 44 = .ok ((.aload_n 0), 1) := by decide +kernel
theorem d_108_45 : decode (mB 108) 45 = .ok ((.getfield 56), 3) := by decide +kernel
theorem d_108_48 : decode (mB 108) 48 = .ok ((.iload_n 1), 1) := by decide +kernel
theorem d_108_49 : decode (mB 108) 49 = .ok ((.iload_n 2), 1) := by decide +kernel
theorem d_108_50 : decode (mB 108) 50 = .ok ((.iload_n 3), 1) := by decide +kernel
theorem d_108_51 : decode (mB 108) 51 = .ok ((.invokevirtual 220), 3) := by decide +kernel
theorem d_108_54 : decode (mB 108) 54 = .ok ((.aload_n 0), 1) := by decide +kernel
theorem d_108_55 : decode (mB 108) 55 = .ok ((.getfield 56), 3) := by decide +kernel
theorem d_108_58 : decode (mB 108) 58 = .ok ((.invokevirtual 224), 3) := by decide +kernel
theorem d_108_61 : decode (mB 108) 61 = .ok (.ireturn, 1) := by decide +kernel
theorem d_109_0 : decode (mB 109) 0 = .ok ((.aload_n 0), 1) := by decide +kernel
theorem d_109_1 : decode (mB 109) 1 = .ok ((.getfield 56), 3) := by decide +kernel
theorem d_109_4 : decode (mB 109) 4 = .ok ((.invokevirtual 224), 3) := by decide +kernel
theorem d_109_7 : decode (mB 109) 7 = .ok ((.istore_n 1), 1) := by decide +kernel
theorem d_109_8 : decode (mB 109) 8 = .ok ((.aload_n 0), 1) := by decide +kernel
theorem d_109_9 : decode (mB 109) 9 = .ok ((.getfield 56), 3) := by decide +kernel
theorem d_109_12 : decode (mB 109) 12 = .ok ((.invokevirtual 225), 3) := by decide +kernel
theorem d_109_15 : decode (mB 109) 15 = .ok ((.iload_n 1), 1) := by decide +kernel
theorem d_109_16 : decode (mB 109) 16 = .ok (.ireturn, 1) := by decide +kernel
theorem d_110_0 : decode (mB 110) 0 = .ok ((.aload_n 0), 1) := by decide +kernel
theorem d_110_1 : decode (mB 110) 1 = .ok ((.getfield 56), 3) := by decide +kernel
theorem d_110_4 : decode (mB 110) 4 = .ok ((.aload_n 0), 1) := by decide +kernel
theorem d_110_5 : decode (mB 110) 5 = .ok ((.getfield 49), 3) := by decide +kernel
theorem d_110_8 : decode (mB 110) 8 = .ok ((.invokevirtual 226), 3) := by decide +kernel
theorem d_110_11 : decode (mB 110) 11 = .ok ((.aload_n 0), 1) := by decide +kernel
theorem d_110_12 : decode (mB 110) 12 = .ok ((.getfield 56), 3) := by decide +kernel
theorem d_110_15 : decode (mB 110) 15 = .ok ((.invokevirtual 230), 3) := by decide +kernel
theorem d_110_18 : decode (mB 110) 18 = .ok (.ireturn, 1) := by decide +kernel
theorem d_111_0 : decode (mB 111) 0 = .ok ((.aload_n 0), 1) := by decide +kernel
theorem d_111_1 : decode (mB 111) 1 = .ok ((.getfield 56), 3) := by decide +kernel
theorem d_111_4 : decode (mB 111) 4 = .ok ((.aload_n 0), 1) := by decide +kernel
theorem d_111_5 : decode (mB 111) 5 = .ok ((.getfield 49), 3) := by decide +kernel
theorem d_111_8 : decode (mB 111) 8 = .ok ((.invokevirtual 226), 3) := by decide +kernel
theorem d_111_11 : decode (mB 111) 11 = .ok ((.aload_n 0), 1) := by decide +kernel
theorem d_111_12 : decode (mB 111) 12 = .ok ((.getfield 56), 3) := by decide +kernel
theorem d_111_15 : decode (mB 111) 15 = .ok ((.invokevirtual 230), 3) := by decide +kernel
theorem d_111_18 : decode (mB 111) 18 = .ok ((.ifCond .ne 6), 3) := by decide +kernel
theorem d_111_21 : decode (mB 111) 21 = .ok ((.bipush (-9)), 2) := by decide +kernel
theorem d_111_23 : decode (mB 111) 23 = .ok (.ireturn, 1) := by decide +kernel
theorem d_111_24 : decode (mB 111) 24 = .ok ((.iload_n 1), 1) := by decide +kernel
theorem d_111_25 : decode (mB 111) 25 = .ok ((.ifCond .eq 13), 3) := by decide +kernel
theorem d_111_28 : decode (mB 111) 28 = .ok ((.aload_n 0), 1) := by decide +kernel
theorem d_111_29 : decode (mB 111) 29 = .ok ((.getfield 56), 3) := by decide +kernel
theorem d_111_32 : decode (mB 111) 32 = .ok ((.invokevirtual 233), 3) := by decide +kernel
theorem d_111_35 : decode (mB 111) 35 = .ok ((.goto 10), 3) := by decide +kernel
theorem d_111_38 : decode (mB 111) 38 = .ok ((.aload_n 0), 1) := by decide +kernel
theorem d_111_39 : decode (mB 111) 39 = .ok ((.getfield 56), 3) := by decide +kernel
theorem d_111_42 : decode (mB 111) 42 = .ok ((.invokevirtual 236), 3) := by decide +kernel
theorem d_111_45 : decode (mB 111) 45 = .ok (.ireturn, 1) := by decide +kernel
theorem d_112_0 : decode (mB 112) 0 = .ok ((.aload_n 0), 1) := by decide +kernel
theorem d_112_1 : decode (mB 112) 1 = .ok ((.getfield 26), 3) := by decide +kernel
theorem d_112_4 : decode (mB 112) 4 = .ok ((.iload_n 1), 1) := by decide +kernel
theorem d_112_5 : decode (mB 112) 5 = .ok ((.invokevirtual 112), 3) := by decide +kernel
theorem d_112_8 : decode (mB 112) 8 = .ok ((.ifCond .ne 7), 3) := by decide +kernel
theorem d_112_11 : decode (mB 112) 11 = .ok ((.ldc2_w 239), 3) := by decide +kernel
theorem d_112_14 : decode (mB 112) 14 = .ok (.lreturn, 1) := by decide +kernel
theorem d_112_15 : decode (mB 112) 15 = .ok ((.iload_n 2), 1) := by decide +kernel
theorem d_112_16 : decode (mB 112) 16 = .ok ((.iconst 0), 1) := by decide +kernel
theorem d_112_17 : decode (mB 112) 17 = .ok ((.bipush 8), 2) := by decide +kernel
theorem d_112_19 : decode (mB 112) 19 = .ok ((.invokestatic 168), 3) := by decide +kernel
theorem d_112_22 : decode (mB 112) 22 = .ok ((.ifCond .eq 21), 3) := by decide +kernel
theorem d_112_25 : decode (mB 112) 25 = .ok ((.iload_n 3), 1) := by decide +kernel
theorem d_112_26 : decode (mB 112) 26 = .ok ((.invokestatic 157), 3) := by decide +kernel
theorem d_112_29 : decode (mB 112) 29 = .ok ((.ifCond .eq 14), 3) := by decide +kernel
theorem d_112_32 : decode (mB 112) 32 = .ok ((.iload 4), 2) := by decide +kernel
theorem d_112_34 : decode (mB 112) 34 = .ok ((.iconst 0), 1) := by decide +kernel
theorem d_112_35 : decode (mB 112) 35 = .ok ((.bipush 10), 2) := by decide +kernel
theorem d_112_37 : decode (mB 112) 37 = .ok ((.invokestatic 168), 3) := by decide +kernel
theorem d_112_40 : decode (mB 112) 40 = .ok ((.ifCond .ne 7), 3) := by decide +kernel
theorem d_112_43 : decode (mB 112) 43 = .ok ((.ldc2_w 241), 3) := by decide +kernel
theorem d_112_46 : decode (mB 112) 46 = .ok (.lreturn, 1) := by decide +kernel
theorem d_112_47 : decode (mB 112) 47 = .ok ((.aload_n 0), 1) := by decide +kernel
theorem d_112_48 : decode (mB 112) 48 = .ok ((.getfield 49), 3) := by decide +kernel
theorem d_112_51 : decode (mB 112) 51 = .ok ((.iload_n 1), 1) := by decide +kernel
theorem d_112_52 : decode (mB 112) 52 = .ok ((.iload_n 2), 1) := by decide +kernel
theorem d_112_53 : decode (mB 112) 53 = .ok ((.iload_n 3), 1) := by decide +kernel
theorem d_112_54 : decode (mB 112) 54 = .ok ((.iload 4), 2) := by decide +kernel
theorem d_112_56 : decode (mB 112) 56 = .ok ((.invokevirtual 243), 3) := by decide +kernel
theorem d_112_59 : decode (mB 112) 59 = .ok ((.lstore 6), 2) := by decide +kernel
theorem d_112_61 : decode (mB 112) 61 = .ok ((.ldc2_w 247), 3) := by decide +kernel
theorem d_112_64 : decode (mB 112) 64 = .ok ((.iload_n 2), 1) := by decide +kernel
theorem d_112_65 : decode (mB 112) 65 = .ok ((.invokestatic 249), 3) := by decide +kernel
theorem d_112_68 : decode (mB 112) 68 = .ok ((.lstore 8), 2) := by decide +kernel
theorem d_112_70 : decode (mB 112) 70 = .ok ((.lconst 1), 1) := by decide +kernel
theorem d_112_71 : decode (mB 112) 71 = .ok ((.lload 6), 2) := by decide +kernel
theorem d_112_73 : decode (mB 112) 73 = .ok ((.lload 8), 2) := by decide +kernel
theorem d_112_75 : decode (mB 112) 75 = .ok ((.invokestatic 253), 3) := by decide +kernel
theorem d_112_78 : decode (mB 112) 78 = .ok ((.invokestatic 257), 3) := by decide +kernel
theorem d_112_81 : decode (mB 112) 81 = .ok ((.lstore 10), 2) := by decide +kernel
theorem d_112_83 : decode (mB 112) 83 = .ok ((.iload 5), 2) := by decide +kernel
theorem d_112_85 : decode (mB 112) 85 = .ok ((.ifCond .eq 11), 3) := by decide +kernel
theorem d_112_88 : decode (mB 112) 88 = .ok ((.lload 6), 2) := by decide +kernel
theorem d_112_90 : decode (mB 112) 90 = .ok ((.lload 10), 2) := by decide +kernel
theorem d_112_92 : decode (mB 112) 92 = .ok (.ldiv, 1) := by decide +kernel
theorem d_112_93 : decode (mB 112) 93 = .ok ((.goto 8), 3) := by decide +kernel
theorem d_112_96 : decode (mB 112) 96 = .ok ((.lload 8), 2) := by decide +kernel
theorem d_112_98 : decode (mB 112) 98 = .ok ((.lload 10), 2) := by decide +kernel
theorem d_112_100 : decode (mB 112) 100 = .ok (.ldiv, 1) := by decide +kernel
theorem d_112_101 : decode (mB 112) 101 = .ok (.lreturn, 1) := by decide +kernel
theorem d_113_0 : decode (mB 113) 0 = .ok ((.lconst 1), 1) := by decide +kernel
theorem d_113_1 : decode (mB 113) 1 = .ok ((.lstore_n 3), 1) := by decide +kernel
theorem d_113_2 : decode (mB 113) 2 = .ok ((.iconst 0), 1) := by decide +kernel
theorem d_113_3 : decode (mB 113) 3 = .ok ((.istore 5), 2) := by decide +kernel
theorem d_113_5 : decode (mB 113) 5 = .ok ((.iload 5), 2) := by decide +kernel
theorem d_113_7 : decode (mB 113) 7 = .ok ((.iload_n 2), 1) := by decide +kernel
theorem d_113_8 : decode (mB 113) 8 = .ok ((.if_icmp .ge 13), 3) := by decide +kernel
theorem d_113_11 : decode (mB 113) 11 = .ok ((.lload_n 3), 1) := by decide +kernel
theorem d_113_12 : decode (mB 113) 12 = .ok ((.lload_n 0), 1) := by decide +kernel
theorem d_113_13 : decode (mB 113) 13 = .ok (.lmul, 1) := by decide +kernel
theorem d_113_14 : decode (mB 113) 14 = .ok ((.lstore_n 3), 1) := by decide +kernel
theorem d_113_15 : decode (mB 113) 15 = .ok ((.iinc 5 1), 3) := by decide +kernel
theorem d_113_18 : decode (mB 113) 18 = .ok ((.goto (-13)), 3) := by decide +kernel
theorem d_113_21 : decode (mB 113) 21 = .ok ((.lload_n 3), 1) := by decide +kernel
theorem d_113_22 : decode (mB 113) 22 = .ok (.lreturn, 1) := by decide +kernel
theorem d_114_0 : decode (mB 114) 0 = .ok ((.lload_n 0), 1) := by decide +kernel
theorem d_114_1 : decode (mB 114) 1 = .ok ((.lstore 4), 2) := by decide +kernel
theorem d_114_3 : decode (mB 114) 3 = .ok ((.lload_n 2), 1) := by decide +kernel
theorem d_114_4 : decode (mB 114) 4 = .ok ((.lstore 6), 2) := by decide +kernel
theorem d_114_6 : decode (mB 114) 6 = .ok ((.iconst 0), 1) := by decide +kernel
theorem d_114_7 : decode (mB 114) 7 = .ok ((.istore 8), 2) := by decide +kernel
theorem d_114_9 : decode (mB 114) 9 = .ok ((.iload 8), 2) := by decide +kernel
theorem d_114_11 : decode (mB 114) 11 = .ok ((.sipush 200), 3) := by decide +kernel
theorem d_114_14 : decode (mB 114) 14 = .ok ((.if_icmp .ge 31), 3) := by decide +kernel
theorem d_114_17 : decode (mB 114) 17 = .ok ((.lload 6), 2) := by decide +kernel
theorem d_114_19 : decode (mB 114) 19 = .ok ((.lconst 0), 1) := by decide +kernel
theorem d_114_20 : decode (mB 114) 20 = .ok (.lcmp, 1) := by decide +kernel
theorem d_114_21 : decode (mB 114) 21 = .ok ((.ifCond .eq 24), 3) := by decide +kernel
theorem d_114_24 : decode (mB 114) 24 = .ok ((.lload 4), 2) := by decide +kernel
theorem d_114_26 : decode (mB 114) 26 = .ok ((.lload 6), 2) := by decide +kernel
theorem d_114_28 : decode (mB 114) 28 = .ok (.lrem, 1) := by decide +kernel
theorem d_114_29 : decode (mB 114) 29 = .ok ((.lstore 9), 2) := by decide +kernel
theorem d_114_31 : decode (mB 114) 31 = .ok ((.lload 6), 2) := by decide +kernel
theorem d_114_33 : decode (mB 114) 33 = .ok ((.lstore 4), 2) := by decide +kernel
theorem d_114_35 : decode (mB 114) 35 = .ok ((.lload 9), 2) := by decide +kernel
theorem d_114_37 : decode (mB 114) 37 = .ok ((.lstore 6), 2) := by decide +kernel
theorem d_114_39 : decode (mB 114) 39 = .ok ((.iinc 8 1), 3) := by decide +kernel
theorem d_114_42 : decode (mB 114) 42 = .ok ((.goto (-33)), 3) := by decide +kernel
theorem d_114_45 : decode (mB 114) 45 = .ok ((.lload 4), 2) := by decide +kernel
theorem d_114_47 : decode (mB 114) 47 = .ok (.lreturn, 1) := by decide +kernel
theorem d_115_0 : decode (mB 115) 0 = .ok ((.aload_n 0), 1) := by decide +kernel
theorem d_115_1 : decode (mB 115) 1 = .ok ((.getfield 69), 3) := by decide +kernel
theorem d_115_4 : decode (mB 115) 4 = .ok ((.lstore_n 3), 1) := by decide +kernel
theorem d_115_5 : decode (mB 115) 5 = .ok ((.aload_n 0), 1) := by decide +kernel
theorem d_115_6 : decode (mB 115) 6 = .ok ((.lload_n 1), 1) := by decide +kernel
theorem d_115_7 : decode (mB 115) 7 = .ok ((.putfield 69), 3) := by decide +kernel
theorem d_115_10 : decode (mB 115) 10 = .ok ((.lload_n 3), 1) := by decide +kernel
theorem d_115_11 : decode (mB 115) 11 = .ok (.lreturn, 1) := by decide +kernel
theorem d_116_0 : decode (mB 116) 0 = .ok ((.aload_n 0), 1) := by decide +kernel
theorem d_116_1 : decode (mB 116) 1 = .ok ((.getfield 26), 3) := by decide +kernel
theorem d_116_4 : decode (mB 116) 4 = .ok ((.iload_n 1), 1) := by decide +kernel
theorem d_116_5 : decode (mB 116) 5 = .ok ((.invokevirtual 112), 3) := by decide +kernel
theorem d_116_8 : decode (mB 116) 8 = .ok ((.ifCond .ne 5), 3) := by decide +kernel
theorem d_116_11 : decode (mB 116) 11 = .ok ((.iconst (-1)), 1) := by decide +kernel
theorem d_116_12 : decode (mB 116) 12 = .ok (.ireturn, 1) := by decide +kernel
theorem d_116_13 : decode (mB 116) 13 = .ok ((.iload_n 2), 1) := by decide +kernel
theorem d_116_14 : decode (mB 116) 14 = .ok ((.iconst 1), 1) := by decide +kernel
theorem d_116_15 : decode (mB 116) 15 = .ok ((.bipush 40), 2) := by decide +kernel
theorem d_116_17 : decode (mB 116) 17 = .ok ((.invokestatic 168), 3) := by decide +kernel
theorem d_116_20 : decode (mB 116) 20 = .ok ((.ifCond .ne 6), 3) := by decide +kernel
theorem d_116_23 : decode (mB 116) 23 = .ok ((.bipush (-2)), 2) := by decide +kernel
theorem d_116_25 : decode (mB 116) 25 = .ok (.ireturn, 1) := by decide +kernel
theorem d_116_26 : decode (mB 116) 26 = .ok ((.aload_n 0), 1) := by decide +kernel
theorem d_116_27 : decode (mB 116) 27 = .ok ((.getfield 49), 3) := by decide +kernel
theorem d_116_30 : decode (mB 116) 30 = .ok ((.iconst 0), 1) := by decide +kernel
theorem d_116_31 : decode (mB 116) 31 = .ok ((.iconst 0), 1) := by decide +kernel
theorem d_116_32 : decode (mB 116) 32 = .ok ((.aload_n 0), 1) := by decide +kernel
theorem d_116_33 : decode (mB 116) 33 = .ok ((.getfield 33), 3) := by decide +kernel
theorem d_116_36 : decode (mB 116) 36 = .ok ((.invokevirtual 132), 3) := by decide +kernel
theorem d_116_39 : decode (mB 116) 39 = .ok ((.invokevirtual 183), 3) := by decide +kernel
theorem d_116_42 : decode (mB 116) 42 = .ok ((.astore_n 3), 1) := by decide +kernel
theorem d_116_43 : decode (mB 116) 43 = .ok ((.iconst 0), 1) := by decide +kernel
theorem d_116_44 : decode (mB 116) 44 = .ok ((.istore 4), 2) := by decide +kernel
theorem d_116_46 : decode (mB 116) 46 = .ok ((.iload 4), 2) := by decide +kernel
theorem d_116_48 : decode (mB 116) 48 = .ok ((.iload_n 2), 1) := by decide +kernel
theorem d_116_49 : decode (mB 116) 49 = .ok ((.if_icmp .ge 53), 3) := by decide +kernel
theorem d_116_52 : decode (mB 116) 52 = .ok ((.aload_n 0), 1) := by decide +kernel
theorem d_116_53 : decode (mB 116) 53 = .ok ((.aload_n 0), 1) := by decide +kernel
theorem d_116_54 : decode (mB 116) 54 = .ok ((.getfield 69), 3) := by decide +kernel
theorem d_116_57 : decode (mB 116) 57 = .ok ((.ldc2_w 262), 3) := by decide +kernel
theorem d_116_60 : decode (mB 116) 60 = .ok (.lmul, 1) := by decide +kernel
theorem d_116_61 : decode (mB 116) 61 = .ok ((.ldc2_w 264), 3) := by decide +kernel
theorem d_116_64 : decode (mB 116) 64 = .ok (.ladd, 1) := by decide +kernel
theorem d_116_65 : decode (mB 116) 65 = .ok ((.putfield 69), 3) := by decide +kernel
theorem d_116_68 : decode (mB 116) 68 = .ok ((.aload_n 3), 1) := by decide +kernel
theorem d_116_69 : decode (mB 116) 69 = .ok ((.aload_n 0), 1) := by decide +kernel
theorem d_116_70 : decode (mB 116) 70 = .ok ((.getfield 26), 3) := by decide +kernel
theorem d_116_73 : decode (mB 116) 73 = .ok ((.aload_n 0), 1) := by decide +kernel
theorem d_116_74 : decode (mB 116) 74 = .ok ((.getfield 33), 3) := by decide +kernel
theorem d_116_77 : decode (mB 116) 77 = .ok ((.invokevirtual 132), 3) := by decide +kernel
theorem d_116_80 : decode (mB 116) 80 = .ok ((.aload_n 0), 1) := by decide +kernel
theorem d_116_81 : decode (mB 116) 81 = .ok ((.getfield 69), 3) := by decide +kernel
theorem d_116_84 : decode (mB 116) 84 = .ok ((.bipush 33), 2) := by decide +kernel
theorem d_116_86 : decode (mB 116) 86 = .ok (.lushr, 1) := by decide +kernel
theorem d_116_87 : decode (mB 116) 87 = .ok ((.ldc2_w 247), 3) := by decide +kernel
theorem d_116_90 : decode (mB 116) 90 = .ok (.lrem, 1) := by decide +kernel
theorem d_116_91 : decode (mB 116) 91 = .ok (.l2i, 1) := by decide +kernel
theorem d_116_92 : decode (mB 116) 92 = .ok ((.invokevirtual 164), 3) := by decide +kernel
theorem d_116_95 : decode (mB 116) 95 = .ok (.pop, 1) := by decide +kernel
theorem d_116_96 : decode (mB 116) 96 = .ok ((.iinc 4 1), 3) := by decide +kernel
theorem d_116_99 : decode (mB 116) 99 = .ok ((.goto (-53)), 3) := by decide +kernel
theorem d_116_102 : decode (mB 116) 102 = .ok ((.aload_n 3), 1) := by decide +kernel
theorem d_116_103 : decode (mB 116) 103 = .ok ((.iload_n 1), 1) := by decide +kernel
theorem d_116_104 : decode (mB 116) 104 = .ok ((.invokevirtual 122), 3) := by decide +kernel
theorem d_116_107 : decode (mB 116) 107 = .ok ((.aload_n 0), 1) := by decide +kernel
theorem d_116_108 : decode (mB 116) 108 = .ok ((.getfield 33), 3) := by decide +kernel
theorem d_116_111 : decode (mB 116) 111 = .ok ((.iload_n 1), 1) := by decide +kernel
theorem d_116_112 : decode (mB 116) 112 = .ok ((.invokevirtual 122), 3) := by decide +kernel
theorem d_116_115 : decode (mB 116) 115 = .ok (.isub, 1) := by decide +kernel
theorem d_116_116 : decode (mB 116) 116 = .ok (.ireturn, 1) := by decide +kernel
theorem d_117_0 : decode (mB 117) 0 = .ok ((.iload_n 1), 1) := by decide +kernel
theorem d_117_1 : decode (mB 117) 1 = .ok ((.iconst 0), 1) := by decide +kernel
theorem d_117_2 : decode (mB 117) 2 = .ok ((.iconst 1), 1) := by decide +kernel
theorem d_117_3 : decode (mB 117) 3 = .ok ((.invokestatic 168), 3) := by decide +kernel
theorem d_117_6 : decode (mB 117) 6 = .ok ((.ifCond .ne 5), 3) := by decide +kernel
theorem d_117_9 : decode (mB 117) 9 = .ok ((.iconst (-1)), 1) := by decide +kernel
theorem d_117_10 : decode (mB 117) 10 = .ok (.ireturn, 1) := by decide +kernel
theorem d_117_11 : decode (mB 117) 11 = .ok ((.aload_n 0), 1) := by decide +kernel
theorem d_117_12 : decode (mB 117) 12 = .ok ((.getfield 65), 3) := by decide +kernel
theorem d_117_15 : decode (mB 117) 15 = .ok ((.iload_n 1), 1) := by decide +kernel
theorem d_117_16 : decode (mB 117) 16 = .ok ((.aload_n 0), 1) := by decide +kernel
theorem d_117_17 : decode (mB 117) 17 = .ok ((.getfield 33), 3) := by decide +kernel
theorem d_117_20 : decode (mB 117) 20 = .ok ((.invokevirtual 266), 3) := by decide +kernel
theorem d_117_23 : decode (mB 117) 23 = .ok ((.aload_n 0), 1) := by decide +kernel
theorem d_117_24 : decode (mB 117) 24 = .ok ((.getfield 33), 3) := by decide +kernel
theorem d_117_27 : decode (mB 117) 27 = .ok ((.invokevirtual 270), 3) := by decide +kernel
theorem d_117_30 : decode (mB 117) 30 = .ok (.ireturn, 1) := by decide +kernel
theorem d_118_0 : decode (mB 118) 0 = .ok ((.iload_n 1), 1) := by decide +kernel
theorem d_118_1 : decode (mB 118) 1 = .ok ((.iconst 0), 1) := by decide +kernel
theorem d_118_2 : decode (mB 118) 2 = .ok ((.iconst 1), 1) := by decide +kernel
theorem d_118_3 : decode (mB 118) 3 = .ok ((.invokestatic 168), 3) := by decide +kernel
theorem d_118_6 : decode (mB 118) 6 = .ok ((.ifCond .ne 5), 3) := by decide +kernel
theorem d_118_9 : decode (mB 118) 9 = .ok ((.iconst (-1)), 1) := by decide +kernel
theorem d_118_10 : decode (mB 118) 10 = .ok (.ireturn, 1) := by decide +kernel
theorem d_118_11 : decode (mB 118) 11 = .ok ((.aload_n 0), 1) := by decide +kernel
theorem d_118_12 : decode (mB 118) 12 = .ok ((.getfield 65), 3) := by decide +kernel
theorem d_118_15 : decode (mB 118) 15 = .ok ((.iload_n 1), 1) := by decide +kernel
theorem d_118_16 : decode (mB 118) 16 = .ok ((.invokevirtual 273), 3) := by decide +kernel
theorem d_118_19 : decode (mB 118) 19 = .ok ((.ifCond .ne 6), 3) := by decide +kernel
theorem d_118_22 : decode (mB 118) 22 = .ok ((.bipush (-3)), 2) := by decide +kernel
theorem d_118_24 : decode (mB 118) 24 = .ok (.ireturn, 1) := by decide +kernel
theorem d_118_25 : decode (mB 118) 25 = .ok ((.aload_n 0), 1) := by decide +kernel
theorem d_118_26 : decode (mB 118) 26 = .ok ((.getfield 33), 3) := by decide +kernel
theorem d_118_29 : decode (mB 118) 29 = .ok ((.aload_n 0), 1) := by decide +kernel
theorem d_118_30 : decode (mB 118) 30 = .ok ((.getfield 65), 3) := by decide +kernel
theorem d_118_33 : decode (mB 118) 33 = .ok ((.iload_n 1), 1) := by decide +kernel
theorem d_118_34 : decode (mB 118) 34 = .ok ((.invokevirtual 276), 3) := by decide +kernel
theorem d_118_37 : decode (mB 118) 37 = .ok ((.invokevirtual 280), 3) := by decide +kernel
theorem d_118_40 : decode (mB 118) 40 = .ok ((.aload_n 0), 1) := by decide +kernel
theorem d_118_41 : decode (mB 118) 41 = .ok ((.getfield 40), 3) := by decide +kernel
theorem d_118_44 : decode (mB 118) 44 = .ok ((.invokevirtual 103), 3) := by decide +kernel
theorem d_118_47 : decode (mB 118) 47 = .ok ((.aload_n 0), 1) := by decide +kernel
theorem d_118_48 : decode (mB 118) 48 = .ok ((.getfield 33), 3) := by decide +kernel
theorem d_118_51 : decode (mB 118) 51 = .ok ((.invokevirtual 270), 3) := by decide +kernel
theorem d_118_54 : decode (mB 118) 54 = .ok (.ireturn, 1) := by decide +kernel
theorem d_119_0 : decode (mB 119) 0 = .ok ((.iload_n 1), 1) := by decide +kernel
theorem d_119_1 : decode (mB 119) 1 = .ok ((.tableswitch 139 0 9 #[55, 63, 71, 79, 87, 95, 107, 115, 123, 131]), 55) := by decide +kernel
theorem d_119_56 : decode (mB 119) 56 = .ok ((.aload_n 0), 1) := by decide +kernel
theorem d_119_57 : decode (mB 119) 57 = .ok ((.getfield 10), 3) := by decide +kernel
theorem d_119_60 : decode (mB 119) 60 = .ok ((.invokevirtual 81), 3) := by decide +kernel
theorem d_119_63 : decode (mB 119) 63 = .ok (.ireturn, 1) := by decide +kernel
theorem d_119_64 : decode (mB 119) 64 = .ok ((.aload_n 0), 1) := by decide +kernel
theorem d_119_65 : decode (mB 119) 65 = .ok ((.getfield 26), 3) := by decide +kernel
theorem d_119_68 : decode (mB 119) 68 = .ok ((.invokevirtual 109), 3) := by decide +kernel
theorem d_119_71 : decode (mB 119) 71 = .ok (.ireturn, 1) := by decide +kernel
theorem d_119_72 : decode (mB 119) 72 = .ok ((.aload_n 0), 1) := by decide +kernel
theorem d_119_73 : decode (mB 119) 73 = .ok ((.getfield 33), 3) := by decide +kernel
theorem d_119_76 : decode (mB 119) 76 = .ok ((.invokevirtual 270), 3) := by decide +kernel
theorem d_119_79 : decode (mB 119) 79 = .ok (.ireturn, 1) := by decide +kernel
theorem d_119_80 : decode (mB 119) 80 = .ok ((.aload_n 0), 1) := by decide +kernel
theorem d_119_81 : decode (mB 119) 81 = .ok ((.getfield 33), 3) := by decide +kernel
theorem d_119_84 : decode (mB 119) 84 = .ok ((.invokevirtual 190), 3) := by decide +kernel
theorem d_119_87 : decode (mB 119) 87 = .ok (.ireturn, 1) := by decide +kernel
theorem d_119_88 : decode (mB 119) 88 = .ok ((.aload_n 0), 1) := by decide +kernel
theorem d_119_89 : decode (mB 119) 89 = .ok ((.getfield 33), 3) := by decide +kernel
theorem d_119_92 : decode (mB 119) 92 = .ok ((.invokevirtual 187), 3) := by decide +kernel
theorem d_119_95 : decode (mB 119) 95 = .ok (.ireturn, 1) := by decide +kernel
theorem d_119_96 : decode (mB 119) 96 = .ok ((.aload_n 0), 1) := by decide +kernel
theorem d_119_97 : decode (mB 119) 97 = .ok ((.getfield 33), 3) := by decide +kernel
theorem d_119_100 : decode (mB 119) 100 = .ok ((.aload_n 0), 1) := by decide +kernel
theorem d_119_101 : decode (mB 119) 101 = .ok ((.getfield 26), 3) := by decide +kernel
theorem d_119_104 : decode (mB 119) 104 = .ok ((.invokevirtual 282), 3) := by decide +kernel
theorem d_119_107 : decode (mB 119) 107 = .ok (.ireturn, 1) := by decide +kernel
theorem d_119_108 : decode (mB 119) 108 = .ok ((.aload_n 0), 1) := by decide +kernel
theorem d_119_109 : decode (mB 119) 109 = .ok ((.getfield 33), 3) := by decide +kernel
theorem d_119_112 : decode (mB 119) 112 = .ok ((.invokevirtual 132), 3) := by decide +kernel
theorem d_119_115 : decode (mB 119) 115 = .ok (.ireturn, 1) := by decide +kernel
theorem d_119_116 : decode (mB 119) 116 = .ok ((.aload_n 0), 1) := by decide +kernel
theorem d_119_117 : decode (mB 119) 117 = .ok ((.getfield 40), 3) := by decide +kernel
theorem d_119_120 : decode (mB 119) 120 = .ok ((.invokevirtual 179), 3) := by decide +kernel
theorem d_119_123 : decode (mB 119) 123 = .ok (.ireturn, 1) := by decide +kernel
theorem d_119_124 : decode (mB 119) 124 = .ok ((.aload_n 0), 1) := by decide +kernel
theorem d_119_125 : decode (mB 119) 125 = .ok ((.getfield 56), 3) := by decide +kernel
theorem d_119_128 : decode (mB 119) 128 = .ok ((.invokevirtual 224), 3) := by decide +kernel
theorem d_119_131 : decode (mB 119) 131 = .ok (.ireturn, 1) := by decide +kernel
theorem d_119_132 : decode (mB 119) 132 = .ok ((.aload_n 0), 1) := by decide +kernel
theorem d_119_133 : decode (mB 119) 133 = .ok ((.getfield 33), 3) := by decide +kernel
theorem d_119_136 : decode (mB 119) 136 = .ok ((.invokevirtual 286), 3) := by decide +kernel
theorem d_119_139 : decode (mB 119) 139 = .ok (.ireturn, 1) := by decide +kernel
theorem d_119_140 : decode (mB 119) 140 = .ok ((.bipush (-2)), 2) := by decide +kernel
theorem d_119_142 : decode (mB 119) 142 = .ok (.ireturn, 1) := by decide +kernel
theorem d_120_0 : decode (mB 120) 0 = .ok ((.aload_n 0), 1) := by decide +kernel
theorem d_120_1 : decode (mB 120) 1 = .ok ((.invokespecial 1), 3) := by decide +kernel
theorem d_120_4 : decode (mB 120) 4 = .ok ((.aload_n 0), 1) := by decide +kernel
theorem d_120_5 : decode (mB 120) 5 = .ok ((.bipush 24), 2) := by decide +kernel
theorem d_120_7 : decode (mB 120) 7 = .ok ((.newarray .int), 2) := by decide +kernel
theorem d_120_9 : decode (mB 120) 9 = .ok ((.putfield 7), 3) := by decide +kernel
theorem d_120_12 : decode (mB 120) 12 = .ok ((.aload_n 0), 1) := by decide +kernel
theorem d_120_13 : decode (mB 120) 13 = .ok ((.bipush 6), 2) := by decide +kernel
theorem d_120_15 : decode (mB 120) 15 = .ok ((.newarray .int), 2) := by decide +kernel
theorem d_120_17 : decode (mB 120) 17 = .ok ((.putfield 13), 3) := by decide +kernel
theorem d_120_20 : decode (mB 120) 20 = .ok ((.aload_n 0), 1) := by decide +kernel
theorem d_120_21 : decode (mB 120) 21 = .ok ((.bipush 24), 2) := by decide +kernel
theorem d_120_23 : decode (mB 120) 23 = .ok ((.newarray .int), 2) := by decide +kernel
theorem d_120_25 : decode (mB 120) 25 = .ok ((.putfield 16), 3) := by decide +kernel
theorem d_120_28 : decode (mB 120) 28 = .ok ((.aload_n 0), 1) := by decide +kernel
theorem d_120_29 : decode (mB 120) 29 = .ok ((.bipush 60), 2) := by decide +kernel
theorem d_120_31 : decode (mB 120) 31 = .ok ((.newarray .int), 2) := by decide +kernel
theorem d_120_33 : decode (mB 120) 33 = .ok ((.putfield 19), 3) := by decide +kernel
theorem d_120_36 : decode (mB 120) 36 = .ok ((.aload_n 0), 1) := by decide +kernel
theorem d_120_37 : decode (mB 120) 37 = .ok ((.bipush 40), 2) := by decide +kernel
theorem d_120_39 : decode (mB 120) 39 = .ok ((.newarray .int), 2) := by decide +kernel
theorem d_120_41 : decode (mB 120) 41 = .ok ((.putfield 22), 3) := by decide +kernel
theorem d_120_44 : decode (mB 120) 44 = .ok ((.aload_n 0), 1) := by decide +kernel
theorem d_120_45 : decode (mB 120) 45 = .ok ((.sipush 324), 3) := by decide +kernel
theorem d_120_48 : decode (mB 120) 48 = .ok ((.newarray .int), 2) := by decide +kernel
theorem d_120_50 : decode (mB 120) 50 = .ok ((.putfield 25), 3) := by decide +kernel
theorem d_120_53 : decode (mB 120) 53 = .ok ((.aload_n 0), 1) := by decide +kernel
theorem d_120_54 : decode (mB 120) 54 = .ok ((.bipush 7), 2) := by decide +kernel
theorem d_120_56 : decode (mB 120) 56 = .ok ((.newarray .int), 2) := by decide +kernel
theorem d_120_58 : decode (mB 120) 58 = .ok ((.putfield 28), 3) := by decide +kernel
theorem d_120_61 : decode (mB 120) 61 = .ok ((.aload_n 0), 1) := by decide +kernel
theorem d_120_62 : decode (mB 120) 62 = .ok ((.bipush 7), 2) := by decide +kernel
theorem d_120_64 : decode (mB 120) 64 = .ok ((.newarray .int), 2) := by decide +kernel
theorem d_120_66 : decode (mB 120) 66 = .ok ((.putfield 31), 3) := by decide +kernel
theorem d_120_69 : decode (mB 120) 69 = .ok ((.aload_n 0), 1) := by decide +kernel
theorem d_120_70 : decode (mB 120) 70 = .ok ((.bipush 64), 2) := by decide +kernel
theorem d_120_72 : decode (mB 120) 72 = .ok ((.newarray .int), 2) := by decide +kernel
theorem d_120_74 : decode (mB 120) 74 = .ok ((.putfield 34), 3) := by decide +kernel
theorem d_120_77 : decode (mB 120) 77 = .ok ((.aload_n 0), 1) := by decide +kernel
theorem d_120_78 : decode (mB 120) 78 = .ok ((.bipush 6), 2) := by decide +kernel
theorem d_120_80 : decode (mB 120) 80 = .ok ((.newarray .int), 2) := by decide +kernel
theorem d_120_82 : decode (mB 120) 82 = .ok ((.putfield 37), 3) := by decide +kernel
theorem d_120_85 : decode (mB 120) 85 = .ok ((.aload_n 0), 1) := by decide +kernel
theorem d_120_86 : decode (mB 120) 86 = .ok ((.bipush 6), 2) := by decide +kernel
theorem d_120_88 : decode (mB 120) 88 = .ok ((.newarray .int), 2) := by decide +kernel
theorem d_120_90 : decode (mB 120) 90 = .ok ((.putfield 40), 3) := by decide +kernel
theorem d_120_93 : decode (mB 120) 93 = .ok ((.aload_n 0), 1) := by decide +kernel
theorem d_120_94 : decode (mB 120) 94 = .ok ((.bipush 6), 2) := by decide +kernel
theorem d_120_96 : decode (mB 120) 96 = .ok ((.newarray .int), 2) := by decide +kernel
theorem d_120_98 : decode (mB 120) 98 = .ok ((.putfield 43), 3) := by decide +kernel
theorem d_120_101 : decode (mB 120) 101 = .ok ((.aload_n 0), 1) := by decide +kernel
theorem d_120_102 : decode (mB 120) 102 = .ok ((.iconst 2), 1) := by decide +kernel
theorem d_120_103 : decode (mB 120) 103 = .ok ((.newarray .boolean), 2) := by decide +kernel
theorem d_120_105 : decode (mB 120) 105 = .ok ((.putfield 46), 3) := by decide +kernel
theorem d_120_108 : decode (mB 120) 108 = .ok ((.aload_n 0), 1) := by decide +kernel
theorem d_120_109 : decode (mB 120) 109 = .ok ((.bipush 56), 2) := by decide +kernel
theorem d_120_111 : decode (mB 120) 111 = .ok ((.newarray .int), 2) := by decide +kernel
theorem d_120_113 : decode (mB 120) 113 = .ok ((.putfield 50), 3) := by decide +kernel
theorem d_120_116 : decode (mB 120) 116 = .ok ((.aload_n 0), 1) := by decide +kernel
theorem d_120_117 : decode (mB 120) 117 = .ok ((.iconst 0), 1) := by decide +kernel
theorem d_120_118 : decode (mB 120) 118 = .ok ((.putfield 53), 3) := by decide +kernel
theorem d_120_121 : decode (mB 120) 121 = .ok (.return_, 1) := by decide +kernel
theorem d_121_0 : decode (mB 121) 0 = .ok ((.iload_n 1), 1) := by decide +kernel
theorem d_121_1 : decode (mB 121) 1 = .ok (.i2l, 1) := by decide +kernel
theorem d_121_2 : decode (mB 121) 2 = .ok ((.lconst 1), 1) := by decide +kernel
theorem d_121_3 : decode (mB 121) 3 = .ok ((.ldc2_w 57), 3) := by decide +kernel
theorem d_121_6 : decode (mB 121) 6 = .ok ((.invokestatic 59), 3) := by decide +kernel
theorem d_121_9 : decode (mB 121) 9 = .ok ((.ifCond .ne 6), 3) := by decide +kernel
theorem d_121_12 : decode (mB 121) 12 = .ok ((.bipush (-2)), 2) := by decide +kernel
theorem d_121_14 : decode (mB 121) 14 = .ok (.ireturn, 1) := by decide +kernel
theorem d_121_15 : decode (mB 121) 15 = .ok ((.aload_n 0), 1) := by decide +kernel
theorem d_121_16 : decode (mB 121) 16 = .ok ((.getfield 63), 3) := by decide +kernel
theorem d_121_19 : decode (mB 121) 19 = .ok ((.iload_n 1), 1) := by decide +kernel
theorem d_121_20 : decode (mB 121) 20 = .ok (.iadd, 1) := by decide +kernel
theorem d_121_21 : decode (mB 121) 21 = .ok ((.bipush 40), 2) := by decide +kernel
theorem d_121_23 : decode (mB 121) 23 = .ok ((.if_icmp .le 6), 3) := by decide +kernel
theorem d_121_26 : decode (mB 121) 26 = .ok ((.bipush (-4)), 2) := by decide +kernel
theorem d_121_28 : decode (mB 121) 28 = .ok (.ireturn, 1) := by decide +kernel
theorem d_121_29 : decode (mB 121) 29 = .ok ((.iload_n 1), 1) := by decide +kernel
theorem d_121_30 : decode (mB 121) 30 = .ok ((.iconst 1), 1) := by decide +kernel
theorem d_121_31 : decode (mB 121) 31 = .ok (.isub, 1) := by decide +kernel
theorem d_121_32 : decode (mB 121) 32 = .ok ((.istore 4), 2) := by decide +kernel
theorem d_121_34 : decode (mB 121) 34 = .ok ((.iload 4), 2) := by decide +kernel
theorem d_121_36 : decode (mB 121) 36 = .ok ((.ifCond .lt 40), 3) := by decide +kernel
theorem d_121_39 : decode (mB 121) 39 = .ok ((.aload_n 0), 1) := by decide +kernel
theorem d_121_40 : decode (mB 121) 40 = .ok ((.getfield 22), 3) := by decide +kernel
theorem d_121_43 : decode (mB 121) 43 = .ok ((.aload_n 0), 1) := by decide +kernel
theorem d_121_44 : decode (mB 121) 44 = .ok ((.getfield 63), 3) := by decide +kernel
theorem d_121_47 : decode (mB 121) 47 = .ok ((.lload_n 2), 1) := by decide +kernel
theorem d_121_48 : decode (mB 121) 48 = .ok ((.bipush 8), 2) := by decide +kernel
theorem d_121_50 : decode (mB 121) 50 = .ok ((.iload 4), 2) := by decide +kernel
theorem d_121_52 : decode (mB 121) 52 = .ok (.imul, 1) := by decide +kernel
theorem d_121_53 : decode (mB 121) 53 = .ok (.lshr, 1) := by decide +kernel
theorem d_121_54 : decode (mB 121) 54 = .ok ((.ldc2_w 66), 3) := by decide +kernel
theorem d_121_57 : decode (mB 121) 57 = .ok (.land, 1) := by decide +kernel
theorem d_121_58 : decode (mB 121) 58 = .ok (.l2i, 1) := by decide +kernel
theorem d_121_59 : decode (mB 121) 59 = .ok (.iastore, 1) := by decide +kernel
theorem d_121_60 : decode (mB 121) 60 = .ok ((.aload_n 0), 1) := by decide +kernel
theorem d_121_61 : decode (mB 121) 61 = .ok (.dup, 1) := by decide +kernel
theorem d_121_62 : decode (mB 121) 62 = .ok ((.getfield 63), 3) := by decide +kernel
theorem d_121_65 : decode (mB 121) 65 = .ok ((.iconst 1), 1) := by decide +kernel
theorem d_121_66 : decode (mB 121) 66 = .ok (.iadd, 1) := by decide +kernel
theorem d_121_67 : decode (mB 121) 67 = .ok ((.putfield 63), 3) := by decide +kernel
theorem d_121_70 : decode (mB 121) 70 = .ok ((.iinc 4 (-1)), 3) := by decide +kernel
theorem d_121_73 : decode (mB 121) 73 = .ok ((.goto (-39)), 3) := by decide +kernel
theorem d_121_76 : decode (mB 121) 76 = .ok ((.aload_n 0), 1) := by decide +kernel
theorem d_121_77 : decode (mB 121) 77 = .ok ((.getfield 63), 3) := by decide +kernel
theorem d_121_80 : decode (mB 121) 80 = .ok (.ireturn, 1) := by decide +kernel
theorem d_122_0 : decode (mB 122) 0 = .ok ((.lload_n 0), 1) := by decide +kernel
theorem d_122_1 : decode (mB 122) 1 = .ok ((.lload_n 2), 1) := by decide +kernel
theorem d_122_2 : decode (mB 122) 2 = .ok (.lcmp, 1) := by decide +kernel
theorem d_122_3 : decode (mB 122) 3 = .ok ((.ifCond .lt 14), 3) := by decide +kernel
theorem d_122_6 : decode (mB 122) 6 = .ok ((.lload_n 0), 1) := by decide +kernel
theorem d_122_7 : decode (mB 122) 7 = .ok ((.lload 4), 2) := by decide +kernel
theorem d_122_9 : decode (mB 122) 9 = .ok (.lcmp, 1) := by decide +kernel
theorem d_122_10 : decode (mB 122) 10 = .ok ((.ifCond .gt 7), 3) := by decide +kernel
theorem d_122_13 : decode (mB 122) 13 = .ok ((.iconst 1), 1) := by decide +kernel
theorem d_122_14 : decode (mB 122) 14 = .ok ((.goto 4), 3) := by decide +kernel
theorem d_122_17 : decode (mB 122) 17 = .ok ((.iconst 0), 1) := by decide +kernel
theorem d_122_18 : decode (mB 122) 18 = .ok (.ireturn, 1) := by decide +kernel
theorem d_123_0 : decode (mB 123) 0 = .ok ((.aload_n 0), 1) := by decide +kernel
theorem d_123_1 : decode (mB 123) 1 = .ok ((.getfield 63), 3) := by decide +kernel
theorem d_123_4 : decode (mB 123) 4 = .ok ((.istore_n 1), 1) := by decide +kernel
theorem d_123_5 : decode (mB 123) 5 = .ok ((.aload_n 0), 1) := by decide +kernel
theorem d_123_6 : decode (mB 123) 6 = .ok ((.iconst 0), 1) := by decide +kernel
theorem d_123_7 : decode (mB 123) 7 = .ok ((.putfield 63), 3) := by decide +kernel
theorem d_123_10 : decode (mB 123) 10 = .ok ((.iload_n 1), 1) := by decide +kernel
theorem d_123_11 : decode (mB 123) 11 = .ok (.ireturn, 1) := by decide +kernel
theorem d_124_0 : decode (mB 124) 0 = .ok ((.aload_n 0), 1) := by decide +kernel
theorem d_124_1 : decode (mB 124) 1 = .ok ((.invokevirtual 87), 3) := by decide +kernel
theorem d_124_4 : decode (mB 124) 4 = .ok (.ireturn, 1) := by decide +kernel
theorem d_125_0 : decode (mB 125) 0 = .ok ((.aload_n 0), 1) := by decide +kernel
theorem d_125_1 : decode (mB 125) 1 = .ok ((.iconst 0), 1) := by decide +kernel
theorem d_125_2 : decode (mB 125) 2 = .ok ((.putfield 71), 3) := by decide +kernel
theorem d_125_5 : decode (mB 125) 5 = .ok ((.aload_n 0), 1) := by decide +kernel
theorem d_125_6 : decode (mB 125) 6 = .ok ((.bipush (-9)), 2) := by decide +kernel
theorem d_125_8 : decode (mB 125) 8 = .ok ((.putfield 68), 3) := by decide +kernel
theorem d_125_11 : decode (mB 125) 11 = .ok ((.aload_n 0), 1) := by decide +kernel
theorem d_125_12 : decode (mB 125) 12 = .ok ((.iconst 0), 1) := by decide +kernel
theorem d_125_13 : decode (mB 125) 13 = .ok ((.putfield 76), 3) := by decide +kernel
theorem d_125_16 : decode (mB 125) 16 = .ok ((.iconst 0), 1) := by decide +kernel
theorem d_125_17 : decode (mB 125) 17 = .ok ((.istore_n 1), 1) := by decide +kernel
theorem d_125_18 : decode (mB 125) 18 = .ok ((.iload_n 1), 1) := by decide +kernel
theorem d_125_19 : decode (mB 125) 19 = .ok ((.bipush 6), 2) := by decide +kernel
theorem d_125_21 : decode (mB 125) 21 = .ok ((.if_icmp .ge 16), 3) := by decide +kernel
theorem d_125_24 : decode (mB 125) 24 = .ok ((.aload_n 0), 1) := by decide +kernel
theorem d_125_25 : decode (mB 125) 25 = .ok ((.getfield 13), 3) := by decide +kernel
theorem d_125_28 : decode (mB 125) 28 = .ok ((.iload_n 1), 1) := by decide +kernel
theorem d_125_29 : decode (mB 125) 29 = .ok ((.iconst 0), 1) := by decide +kernel
theorem d_125_30 : decode (mB 125) 30 = .ok (.iastore, 1) := by decide +kernel
theorem d_125_31 : decode (mB 125) 31 = .ok ((.iinc 1 1), 3) := by decide +kernel
theorem d_125_34 : decode (mB 125) 34 = .ok ((.goto (-16)), 3) := by decide +kernel
theorem d_125_37 : decode (mB 125) 37 = .ok ((.aload_n 0), 1) := by decide +kernel
theorem d_125_38 : decode (mB 125) 38 = .ok ((.getfield 63), 3) := by decide +kernel
theorem d_125_41 : decode (mB 125) 41 = .ok ((.ifCond .eq 14), 3) := by decide +kernel
theorem d_125_44 : decode (mB 125) 44 = .ok ((.aload_n 0), 1) := by decide +kernel
theorem d_125_45 : decode (mB 125) 45 = .ok ((.getfield 22), 3) := by decide +kernel
theorem d_125_48 : decode (mB 125) 48 = .ok ((.iconst 0), 1) := by decide +kernel
theorem d_125_49 : decode (mB 125) 49 = .ok (.iaload, 1) := by decide +kernel
theorem d_125_50 : decode (mB 125) 50 = .ok ((.bipush 71), 2) := by decide +kernel
theorem d_125_52 : decode (mB 125) 52 = .ok ((.if_icmp .eq 5), 3) := by decide +kernel
theorem d_125_55 : decode (mB 125) 55 = .ok ((.iconst 0), 1) := by decide +kernel
theorem d_125_56 : decode (mB 125) 56 = .ok (.ireturn, 1) := by decide +kernel
theorem d_125_57 : decode (mB 125) 57 = .ok ((.aload_n 0), 1) := by decide +kernel
theorem d_125_58 : decode (mB 125) 58 = .ok ((.iconst 1), 1) := by decide +kernel
theorem d_125_59 : decode (mB 125) 59 = .ok ((.putfield 71), 3) := by decide +kernel
theorem d_125_62 : decode (mB 125) 62 = .ok ((.aload_n 0), 1) := by decide +kernel
theorem d_125_63 : decode (mB 125) 63 = .ok ((.getfield 68), 3) := by decide +kernel
theorem d_125_66 : decode (mB 125) 66 = .ok ((.bipush (-9)), 2) := by decide +kernel
theorem d_125_68 : decode (mB 125) 68 = .ok ((.if_icmp .ne 212), 3) := by decide +kernel
theorem d_125_71 : decode (mB 125) 71 = .ok ((.aload_n 0), 1) := by decide +kernel
theorem d_125_72 : decode (mB 125) 72 = .ok ((.getfield 71), 3) := by decide +kernel
theorem d_125_75 : decode (mB 125) 75 = .ok ((.aload_n 0), 1) := by decide +kernel
theorem d_125_76 : decode (mB 125) 76 = .ok ((.getfield 63), 3) := by decide +kernel
theorem d_125_79 : decode (mB 125) 79 = .ok ((.if_icmp .ge 201), 3) := by decide +kernel
theorem d_125_82 : decode (mB 125) 82 = .ok ((.aload_n 0), 1) := by decide +kernel
theorem d_125_83 : decode (mB 125) 83 = .ok ((.getfield 22), 3) := by decide +kernel
theorem d_125_86 : decode (mB 125) 86 = .ok ((.aload_n 0), 1) := by decide +kernel
theorem d_125_87 : decode (mB 125) 87 = .ok ((.getfield 71), 3) := by decide +kernel
theorem d_125_90 : decode (mB 125) 90 = .ok (.iaload, 1) := by decide +kernel
theorem d_125_91 : decode (mB 125) 91 = .ok ((.bipush 82), 2) := by decide +kernel
theorem d_125_93 : decode (mB 125) 93 = .ok ((.if_icmp .ne 100), 3) := by decide +kernel
theorem d_125_96 : decode (mB 125) 96 = .ok ((.aload_n 0), 1) := by decide +kernel
theorem d_125_97 : decode (mB 125) 97 = .ok ((.getfield 76), 3) := by decide +kernel
theorem d_125_100 : decode (mB 125) 100 = .ok ((.bipush 6), 2) := by decide +kernel
theorem d_125_102 : decode (mB 125) 102 = .ok ((.if_icmp .ge 91), 3) := by decide +kernel
theorem d_125_105 : decode (mB 125) 105 = .ok ((.aload_n 0), 1) := by decide +kernel
theorem d_125_106 : decode (mB 125) 106 = .ok (.dup, 1) := by decide +kernel
theorem d_125_107 : decode (mB 125) 107 = .ok ((.getfield 71), 3) := by decide +kernel
theorem d_125_110 : decode (mB 125) 110 = .ok ((.iconst 1), 1) := by decide +kernel
theorem d_125_111 : decode (mB 125) 111 = .ok (.iadd, 1) := by decide +kernel
theorem d_125_112 : decode (mB 125) 112 = .ok ((.putfield 71), 3) := by decide +kernel
theorem d_125_115 : decode (mB 125) 115 = .ok ((.iconst 4), 1) := by decide +kernel
theorem d_125_116 : decode (mB 125) 116 = .ok ((.aload_n 0), 1) := by decide +kernel
theorem d_125_117 : decode (mB 125) 117 = .ok ((.getfield 76), 3) := by decide +kernel
theorem d_125_120 : decode (mB 125) 120 = .ok (.imul, 1) := by decide +kernel
theorem d_125_121 : decode (mB 125) 121 = .ok ((.istore_n 1), 1) := by decide +kernel
theorem d_125_122 : decode (mB 125) 122 = .ok ((.aload_n 0), 1) := by decide +kernel
theorem d_125_123 : decode (mB 125) 123 = .ok ((.getfield 7), 3) := by decide +kernel
theorem d_125_126 : decode (mB 125) 126 = .ok ((.iload_n 1), 1) := by decide +kernel
theorem d_125_127 : decode (mB 125) 127 = .ok ((.aload_n 0), 1) := by decide +kernel
theorem d_125_128 : decode (mB 125) 128 = .ok ((.sipush 1023), 3) := by decide +kernel
theorem d_125_131 : decode (mB 125) 131 = .ok ((.invokevirtual 79), 3) := by decide +kernel
theorem d_125_134 : decode (mB 125) 134 = .ok (.iastore, 1) := by decide +kernel
theorem d_125_135 : decode (mB 125) 135 = .ok ((.aload_n 0), 1) := by decide +kernel
theorem d_125_136 : decode (mB 125) 136 = .ok ((.getfield 7), 3) := by decide +kernel
theorem d_125_139 : decode (mB 125) 139 = .ok ((.iload_n 1), 1) := by decide +kernel
theorem d_125_140 : decode (mB 125) 140 = .ok ((.iconst 1), 1) := by decide +kernel
theorem d_125_141 : decode (mB 125) 141 = .ok (.iadd, 1) := by decide +kernel
theorem d_125_142 : decode (mB 125) 142 = .ok ((.aload_n 0), 1) := by decide +kernel
theorem d_125_143 : decode (mB 125) 143 = .ok ((.sipush 1022), 3) := by decide +kernel
theorem d_125_146 : decode (mB 125) 146 = .ok ((.invokevirtual 79), 3) := by decide +kernel
theorem d_125_149 : decode (mB 125) 149 = .ok (.iastore, 1) := by decide +kernel
theorem d_125_150 : decode (mB 125) 150 = .ok ((.aload_n 0), 1) := by decide +kernel
theorem d_125_151 : decode (mB 125) 151 = .ok ((.getfield 7), 3) := by decide +kernel
theorem d_125_154 : decode (mB 125) 154 = .ok ((.iload_n 1), 1) := by decide +kernel
theorem d_125_155 : decode (mB 125) 155 = .ok ((.iconst 2), 1) := by decide +kernel
theorem d_125_156 : decode (mB 125) 156 = .ok (.iadd, 1) := by decide +kernel
theorem d_125_157 : decode (mB 125) 157 = .ok ((.aload_n 0), 1) := by decide +kernel
theorem d_125_158 : decode (mB 125) 158 = .ok ((.sipush 1023), 3) := by decide +kernel
theorem d_125_161 : decode (mB 125) 161 = .ok ((.invokevirtual 79), 3) := by decide +kernel
theorem d_125_164 : decode (mB 125) 164 = .ok (.iastore, 1) := by decide +kernel
theorem d_125_165 : decode (mB 125) 165 = .ok ((.aload_n 0), 1) := by decide +kernel
theorem d_125_166 : decode (mB 125) 166 = .ok ((.getfield 7), 3) := by decide +kernel
theorem d_125_169 : decode (mB 125) 169 = .ok ((.iload_n 1), 1) := by decide +kernel
theorem d_125_170 : decode (mB 125) 170 = .ok ((.iconst 3), 1) := by decide +kernel
theorem d_125_171 : decode (mB 125) 171 = .ok (.iadd, 1) := by decide +kernel
theorem d_125_172 : decode (mB 125) 172 = .ok ((.aload_n 0), 1) := by decide +kernel
theorem d_125_173 : decode (mB 125) 173 = .ok ((.sipush 1022), 3) := by decide +kernel
theorem d_125_176 : decode (mB 125) 176 = .ok ((.invokevirtual 79), 3) := by decide +kernel
theorem d_125_179 : decode (mB 125) 179 = .ok (.iastore, 1) := by decide +kernel
theorem d_125_180 : decode (mB 125) 180 = .ok ((.aload_n 0), 1) := by decide +kernel
theorem d_125_181 : decode (mB 125) 181 = .ok (.dup, 1) := by decide +kernel
theorem d_125_182 : decode (mB 125) 182 = .ok ((.getfield 76), 3) := by decide +kernel
theorem d_125_185 : decode (mB 125) 185 = .ok ((.iconst 1), 1) := by decide +kernel
theorem d_125_186 : decode (mB 125) 186 = .ok (.iadd, 1) := by decide +kernel
theorem d_125_187 : decode (mB 125) 187 = .ok ((.putfield 76), 3) := by decide +kernel
theorem d_125_190 : decode (mB 125) 190 = .ok ((.goto (-128)), 3) := by decide +kernel
theorem d_125_193 : decode (mB 125) 193 = .ok ((.aload_n 0), 1) := by decide +kernel
theorem d_125_194 : decode (mB 125) 194 = .ok ((.getfield 22), 3) := by decide +kernel
theorem d_125_197 : decode (mB 125) 197 = .ok ((.aload_n 0), 1) := by decide +kernel
theorem d_125_198 : decode (mB 125) 198 = .ok ((.getfield 71), 3) := by decide +kernel
theorem d_125_201 : decode (mB 125) 201 = .ok (.iaload, 1) := by decide +kernel
theorem d_125_202 : decode (mB 125) 202 = .ok ((.bipush 87), 2) := by decide +kernel
theorem d_125_204 : decode (mB 125) 204 = .ok ((.if_icmp .ne 65), 3) := by decide +kernel
theorem d_125_207 : decode (mB 125) 207 = .ok ((.aload_n 0), 1) := by decide +kernel
theorem d_125_208 : decode (mB 125) 208 = .ok ((.invokevirtual 83), 3) := by decide +kernel
theorem d_125_211 : decode (mB 125) 211 = .ok ((.ifCond .eq 58), 3) := by decide +kernel
theorem d_125_214 : decode (mB 125) 214 = .ok ((.aload_n 0), 1) := by decide +kernel
theorem d_125_215 : decode (mB 125) 215 = .ok (.dup, 1) := by decide +kernel
theorem d_125_216 : decode (mB 125) 216 = .ok ((.getfield 71), 3) := by decide +kernel
theorem d_125_219 : decode (mB 125) 219 = .ok ((.iconst 1), 1) := by decide +kernel
theorem d_125_220 : decode (mB 125) 220 = .ok (.iadd, 1) := by decide +kernel
theorem d_125_221 : decode (mB 125) 221 = .ok ((.putfield 71), 3) := by decide +kernel
theorem d_125_224 : decode (mB 125) 224 = .ok ((.aload_n 0), 1) := by decide +kernel
theorem d_125_225 : decode (mB 125) 225 = .ok ((.aload_n 0), 1) := by decide +kernel
theorem d_125_226 : decode (mB 125) 226 = .ok ((.invokevirtual 83), 3) := by decide +kernel
theorem d_125_229 : decode (mB 125) 229 = .ok ((.invokevirtual 79), 3) := by decide +kernel
theorem d_125_232 : decode (mB 125) 232 = .ok ((.istore_n 1), 1) := by decide +kernel
theorem d_125_233 : decode (mB 125) 233 = .ok ((.aload_n 0), 1) := by decide +kernel
theorem d_125_234 : decode (mB 125) 234 = .ok ((.sipush 1022), 3) := by decide +kernel
theorem d_125_237 : decode (mB 125) 237 = .ok ((.invokevirtual 79), 3) := by decide +kernel
theorem d_125_240 : decode (mB 125) 240 = .ok ((.istore_n 2), 1) := by decide +kernel
theorem d_125_241 : decode (mB 125) 241 = .ok ((.aload_n 0), 1) := by decide +kernel
theorem d_125_242 : decode (mB 125) 242 = .ok ((.getfield 13), 3) := by decide +kernel
theorem d_125_245 : decode (mB 125) 245 = .ok ((.iload_n 1), 1) := by decide +kernel
theorem d_125_246 : decode (mB 125) 246 = .ok ((.aload_n 0), 1) := by decide +kernel
theorem d_125_247 : decode (mB 125) 247 = .ok ((.getfield 68), 3) := by decide +kernel
theorem d_125_250 : decode (mB 125) 250 = .ok ((.bipush (-9)), 2) := by decide +kernel
theorem d_125_252 : decode (mB 125) 252 = .ok ((.if_icmp .ne 7), 3) := by decide +kernel
theorem d_125_255 : decode (mB 125) 255 = .ok ((.iload_n 2), 1) := by decide +kernel
theorem d_125_256 : decode (mB 125) 256 = .ok ((.goto 9), 3) := by decide +kernel
theorem d_125_259 : decode (mB 125) 259 = .ok ((.aload_n 0), 1) := by decide +kernel
theorem d_125_260 : decode (mB 125) 260 = .ok ((.getfield 13), 3) := by decide +kernel
theorem d_125_263 : decode (mB 125) 263 = .ok ((.iload_n 1), 1) := by decide +kernel
theorem d_125_264 : decode (mB 125) 264 = .ok (.iaload, 1) := by decide +kernel
theorem d_125_265 : decode (mB 125) 265 = .ok (.iastore, 1) := by decide +kernel
theorem d_125_266 : decode (mB 125) 266 = .ok ((.goto (-204)), 3) := by decide +kernel
theorem d_125_269 : decode (mB 125) 269 = .ok ((.aload_n 0), 1) := by decide +kernel
theorem d_125_270 : decode (mB 125) 270 = .ok ((.aload_n 0), 1) := by decide +kernel
theorem d_125_271 : decode (mB 125) 271 = .ok ((.getfield 71), 3) := by decide +kernel
theorem d_125_274 : decode (mB 125) 274 = .ok ((.putfield 68), 3) := by decide +kernel
theorem d_125_277 : decode (mB 125) 277 = .ok ((.goto (-215)), 3) := by decide +kernel
theorem d_125_280 : decode (mB 125) 280 = .ok ((.aload_n 0), 1) := by decide +kernel
theorem d_125_281 : decode (mB 125) 281 = .ok ((.getfield 68), 3) := by decide +kernel
theorem d_125_284 : decode (mB 125) 284 = .ok (.ireturn, 1) := by decide +kernel
theorem d_126_0 : decode (mB 126) 0 = .ok ((.aload_n 0), 1) := by decide +kernel
theorem d_126_1 : decode (mB 126) 1 = .ok ((.getfield 68), 3) := by decide +kernel
theorem d_126_4 : decode (mB 126) 4 = .ok ((.bipush (-9)), 2) := by decide +kernel
theorem d_126_6 : decode (mB 126) 6 = .ok ((.if_icmp .ne 29), 3) := by decide +kernel
theorem d_126_9 : decode (mB 126) 9 = .ok ((.aload_n 0), 1) := by decide +kernel
theorem d_126_10 : decode (mB 126) 10 = .ok ((.getfield 71), 3) := by decide +kernel
theorem d_126_13 : decode (mB 126) 13 = .ok ((.aload_n 0), 1) := by decide +kernel
theorem d_126_14 : decode (mB 126) 14 = .ok ((.getfield 63), 3) := by decide +kernel
theorem d_126_17 : decode (mB 126) 17 = .ok ((.if_icmp .ge 18), 3) := by decide +kernel
theorem d_126_20 : decode (mB 126) 20 = .ok ((.aload_n 0), 1) := by decide +kernel
theorem d_126_21 : decode (mB 126) 21 = .ok ((.getfield 22), 3) := by decide +kernel
theorem d_126_24 : decode (mB 126) 24 = .ok ((.aload_n 0), 1) := by decide +kernel
theorem d_126_25 : decode (mB 126) 25 = .ok ((.getfield 71), 3) := by decide +kernel
theorem d_126_28 : decode (mB 126) 28 = .ok (.iaload, 1) := by decide +kernel
theorem d_126_29 : decode (mB 126) 29 = .ok ((.bipush 48), 2) := by decide +kernel
theorem d_126_31 : decode (mB 126) 31 = .ok (.isub, 1) := by decide +kernel
theorem d_126_32 : decode (mB 126) 32 = .ok ((.goto 4), 3) := by decide +kernel
theorem d_126_35 : decode (mB 126) 35 = .ok ((.iconst (-1)), 1) := by decide +kernel
theorem d_126_36 : decode (mB 126) 36 = .ok ((.istore_n 2), 1) := by decide +kernel
theorem d_126_37 : decode (mB 126) 37 = .ok ((.iload_n 2), 1) := by decide +kernel
theorem d_126_38 : decode (mB 126) 38 = .ok (.i2l, 1) := by decide +kernel
theorem d_126_39 : decode (mB 126) 39 = .ok ((.lconst 0), 1) := by decide +kernel
theorem d_126_40 : decode (mB 126) 40 = .ok ((.ldc2_w 74), 3) := by decide +kernel
theorem d_126_43 : decode (mB 126) 43 = .ok ((.invokestatic 59), 3) := by decide +kernel
theorem d_126_46 : decode (mB 126) 46 = .ok ((.ifCond .eq 11), 3) := by decide +kernel
theorem d_126_49 : decode (mB 126) 49 = .ok ((.iload_n 1), 1) := by decide +kernel
theorem d_126_50 : decode (mB 126) 50 = .ok ((.iload_n 2), 1) := by decide +kernel
theorem d_126_51 : decode (mB 126) 51 = .ok (.ishr, 1) := by decide +kernel
theorem d_126_52 : decode (mB 126) 52 = .ok ((.iconst 1), 1) := by decide +kernel
theorem d_126_53 : decode (mB 126) 53 = .ok (.iand, 1) := by decide +kernel
theorem d_126_54 : decode (mB 126) 54 = .ok ((.ifCond .ne 29), 3) := by decide +kernel
theorem d_126_57 : decode (mB 126) 57 = .ok ((.aload_n 0), 1) := by decide +kernel
theorem d_126_58 : decode (mB 126) 58 = .ok ((.aload_n 0), 1) := by decide +kernel
theorem d_126_59 : decode (mB 126) 59 = .ok ((.getfield 68), 3) := by decide +kernel
theorem d_126_62 : decode (mB 126) 62 = .ok ((.bipush (-9)), 2) := by decide +kernel
theorem d_126_64 : decode (mB 126) 64 = .ok ((.if_icmp .ne 10), 3) := by decide +kernel
theorem d_126_67 : decode (mB 126) 67 = .ok ((.aload_n 0), 1) := by decide +kernel
theorem d_126_68 : decode (mB 126) 68 = .ok ((.getfield 71), 3) := by decide +kernel
theorem d_126_71 : decode (mB 126) 71 = .ok ((.goto 7), 3) := by decide +kernel
theorem d_126_74 : decode (mB 126) 74 = .ok ((.aload_n 0), 1) := by decide +kernel
theorem d_126_75 : decode (mB 126) 75 = .ok ((.getfield 68), 3) := by decide +kernel
theorem d_126_78 : decode (mB 126) 78 = .ok ((.putfield 68), 3) := by decide +kernel
theorem d_126_81 : decode (mB 126) 81 = .ok ((.iconst 0), 1) := by decide +kernel
theorem d_126_82 : decode (mB 126) 82 = .ok (.ireturn, 1) := by decide +kernel
theorem d_126_83 : decode (mB 126) 83 = .ok ((.aload_n 0), 1) := by decide +kernel
theorem d_126_84 : decode (mB 126) 84 = .ok (.dup, 1) := by decide +kernel
theorem d_126_85 : decode (mB 126) 85 = .ok ((.getfield 71), 3) := by decide +kernel
theorem d_126_88 : decode (mB 126) 88 = .ok ((.iconst 1), 1) := by decide +kernel
theorem d_126_89 : decode (mB 126) 89 = .ok (.iadd, 1) := by decide +kernel
theorem d_126_90 : decode (mB 126) 90 = .ok ((.putfield 71), 3) := by decide +kernel
theorem d_126_93 : decode (mB 126) 93 = .ok ((.iload_n 2), 1) := by decide +kernel
theorem d_126_94 : decode (mB 126) 94 = .ok (.ireturn, 1) := by decide +kernel
theorem d_127_0 : decode (mB 127) 0 = .ok ((.iconst 0), 1) := by decide +kernel
theorem d_127_1 : decode (mB 127) 1 = .ok ((.istore_n 1), 1) := by decide +kernel
theorem d_127_2 : decode (mB 127) 2 = .ok ((.iconst 0), 1) := by decide +kernel
theorem d_127_3 : decode (mB 127) 3 = .ok ((.istore_n 2), 1) := by decide +kernel
theorem d_127_4 : decode (mB 127) 4 = .ok ((.iload_n 2), 1) := by decide +kernel
theorem d_127_5 : decode (mB 127) 5 = .ok ((.aload_n 0), 1) := by decide +kernel
theorem d_127_6 : decode (mB 127) 6 = .ok ((.getfield 76), 3) := by decide +kernel
theorem d_127_9 : decode (mB 127) 9 = .ok ((.if_icmp .ge 28), 3) := by decide +kernel
theorem d_127_12 : decode (mB 127) 12 = .ok ((.iload_n 1), 1) := by decide +kernel
theorem d_127_13 : decode (mB 127) 13 = .ok ((.aload_n 0), 1) := by decide +kernel
theorem d_127_14 : decode (mB 127) 14 = .ok ((.getfield 13), 3) := by decide +kernel
theorem d_127_17 : decode (mB 127) 17 = .ok ((.iload_n 2), 1) := by decide +kernel
theorem d_127_18 : decode (mB 127) 18 = .ok (.iaload, 1) := by decide +kernel
theorem d_127_19 : decode (mB 127) 19 = .ok ((.ifCond .ne 9), 3) := by decide +kernel
theorem d_127_22 : decode (mB 127) 22 = .ok ((.iconst 1), 1) := by decide +kernel
theorem d_127_23 : decode (mB 127) 23 = .ok ((.iload_n 2), 1) := by decide +kernel
theorem d_127_24 : decode (mB 127) 24 = .ok (.ishl, 1) := by decide +kernel
theorem d_127_25 : decode (mB 127) 25 = .ok ((.goto 4), 3) := by decide +kernel
theorem d_127_28 : decode (mB 127) 28 = .ok ((.iconst 0), 1) := by decide +kernel
theorem d_127_29 : decode (mB 127) 29 = .ok (.ior, 1) := by decide +kernel
theorem d_127_30 : decode (mB 127) 30 = .ok ((.istore_n 1), 1) := by decide +kernel
theorem d_127_31 : decode (mB 127) 31 = .ok ((.iinc 2 1), 3) := by decide +kernel
theorem d_127_34 : decode (mB 127) 34 = .ok ((.goto (-30)), 3) := by decide +kernel
theorem d_127_37 : decode (mB 127) 37 = .ok ((.iload_n 1), 1) := by decide +kernel
theorem d_127_38 : decode (mB 127) 38 = .ok (.ireturn, 1) := by decide +kernel
theorem d_128_0 : decode (mB 128) 0 = .ok ((.aload_n 0), 1) := by decide +kernel
theorem d_128_1 : decode (mB 128) 1 = .ok ((.invokevirtual 87), 3) := by decide +kernel
theorem d_128_4 : decode (mB 128) 4 = .ok ((.bipush (-9)), 2) := by decide +kernel
theorem d_128_6 : decode (mB 128) 6 = .ok ((.if_icmp .eq 6), 3) := by decide +kernel
theorem d_128_9 : decode (mB 128) 9 = .ok ((.bipush (-3)), 2) := by decide +kernel
theorem d_128_11 : decode (mB 128) 11 = .ok (.ireturn, 1) := by decide +kernel
theorem d_128_12 : decode (mB 128) 12 = .ok ((.aload_n 0), 1) := by decide +kernel
theorem d_128_13 : decode (mB 128) 13 = .ok ((.aload_n 0), 1) := by decide +kernel
theorem d_128_14 : decode (mB 128) 14 = .ok ((.getfield 76), 3) := by decide +kernel
theorem d_128_17 : decode (mB 128) 17 = .ok ((.putfield 53), 3) := by decide +kernel
theorem d_128_20 : decode (mB 128) 20 = .ok ((.iconst 0), 1) := by decide +kernel
theorem d_128_21 : decode (mB 128) 21 = .ok ((.istore_n 1), 1) := by decide +kernel
theorem d_128_22 : decode (mB 128) 22 = .ok ((.iload_n 1), 1) := by decide +kernel
theorem d_128_23 : decode (mB 128) 23 = .ok ((.bipush 24), 2) := by decide +kernel
theorem d_128_25 : decode (mB 128) 25 = .ok ((.if_icmp .ge 21), 3) := by decide +kernel
theorem d_128_28 : decode (mB 128) 28 = .ok ((.aload_n 0), 1) := by decide +kernel
theorem d_128_29 : decode (mB 128) 29 = .ok ((.getfield 16), 3) := by decide +kernel
theorem d_128_32 : decode (mB 128) 32 = .ok ((.iload_n 1), 1) := by decide +kernel
theorem d_128_33 : decode (mB 128) 33 = .ok ((.aload_n 0), 1) := by decide +kernel
theorem d_128_34 : decode (mB 128) 34 = .ok ((.getfield 7), 3) := by decide +kernel
theorem d_128_37 : decode (mB 128) 37 = .ok ((.iload_n 1), 1) := by decide +kernel
theorem d_128_38 : decode (mB 128) 38 = .ok (.iaload, 1) := by decide +kernel
theorem d_128_39 : decode (mB 128) 39 = .ok (.iastore, 1) := by decide +kernel
theorem d_128_40 : decode (mB 128) 40 = .ok ((.iinc 1 1), 3) := by decide +kernel
theorem d_128_43 : decode (mB 128) 43 = .ok ((.goto (-21)), 3) := by decide +kernel
theorem d_128_46 : decode (mB 128) 46 = .ok ((.iconst 0), 1) := by decide +kernel
theorem d_128_47 : decode (mB 128) 47 = .ok ((.istore_n 1), 1) := by decide +kernel
theorem d_128_48 : decode (mB 128) 48 = .ok ((.iload_n 1), 1) := by decide +kernel
theorem d_128_49 : decode (mB 128) 49 = .ok ((.bipush 30), 2) := by decide +kernel
theorem d_128_51 : decode (mB 128) 51 = .ok ((.if_icmp .ge 31), 3) := by decide +kernel
theorem d_128_54 : decode (mB 128) 54 = .ok ((.aload_n 0), 1) := by decide +kernel
theorem d_128_55 : decode (mB 128) 55 = .ok ((.getfield 19), 3) := by decide +kernel
theorem d_128_58 : decode (mB 128) 58 = .ok ((.iload_n 1), 1) := by decide +kernel
theorem d_128_59 : decode (mB 128) 59 = .ok ((.iload_n 1), 1) := by decide +kernel
theorem d_128_60 : decode (mB 128) 60 = .ok ((.bipush 6), 2) := by decide +kernel
theorem d_128_62 : decode (mB 128) 62 = .ok ((.if_icmp .ge 12), 3) := by decide +kernel
theorem d_128_65 : decode (mB 128) 65 = .ok ((.aload_n 0), 1) := by decide +kernel
theorem d_128_66 : decode (mB 128) 66 = .ok ((.getfield 13), 3) := by decide +kernel
theorem d_128_69 : decode (mB 128) 69 = .ok ((.iload_n 1), 1) := by decide +kernel
theorem d_128_70 : decode (mB 128) 70 = .ok (.iaload, 1) := by decide +kernel
theorem d_128_71 : decode (mB 128) 71 = .ok ((.goto 4), 3) := by decide +kernel
theorem d_128_74 : decode (mB 128) 74 = .ok ((.iconst 0), 1) := by decide +kernel
theorem d_128_75 : decode (mB 128) 75 = .ok (.iastore, 1) := by decide +kernel
theorem d_128_76 : decode (mB 128) 76 = .ok ((.iinc 1 1), 3) := by decide +kernel
theorem d_128_79 : decode (mB 128) 79 = .ok ((.goto (-31)), 3) := by decide +kernel
theorem d_128_82 : decode (mB 128) 82 = .ok ((.aload_n 0), 1) := by decide +kernel
theorem d_128_83 : decode (mB 128) 83 = .ok ((.iconst 0), 1) := by decide +kernel
theorem d_128_84 : decode (mB 128) 84 = .ok ((.putfield 90), 3) := by decide +kernel
theorem d_128_87 : decode (mB 128) 87 = .ok ((.aload_n 0), 1) := by decide +kernel
theorem d_128_88 : decode (mB 128) 88 = .ok ((.iconst 0), 1) := by decide +kernel
theorem d_128_89 : decode (mB 128) 89 = .ok ((.putfield 93), 3) := by decide +kernel
theorem d_128_92 : decode (mB 128) 92 = .ok ((.aload_n 0), 1) := by decide +kernel
theorem d_128_93 : decode (mB 128) 93 = .ok ((.iconst 0), 1) := by decide +kernel
theorem d_128_94 : decode (mB 128) 94 = .ok ((.putfield 96), 3) := by decide +kernel
theorem d_128_97 : decode (mB 128) 97 = .ok ((.aload_n 0), 1) := by decide +kernel
theorem d_128_98 : decode (mB 128) 98 = .ok ((.getfield 46), 3) := by decide +kernel
theorem d_128_101 : decode (mB 128) 101 = .ok ((.iconst 0), 1) := by decide +kernel
theorem d_128_102 : decode (mB 128) 102 = .ok ((.iconst 0), 1) := by decide +kernel
theorem d_128_103 : decode (mB 128) 103 = .ok (.bastore, 1) := by decide +kernel
theorem d_128_104 : decode (mB 128) 104 = .ok ((.aload_n 0), 1) := by decide +kernel
theorem d_128_105 : decode (mB 128) 105 = .ok ((.getfield 46), 3) := by decide +kernel
theorem d_128_108 : decode (mB 128) 108 = .ok ((.iconst 1), 1) := by decide +kernel
theorem d_128_109 : decode (mB 128) 109 = .ok ((.iconst 0), 1) := by decide +kernel
theorem d_128_110 : decode (mB 128) 110 = .ok (.bastore, 1) := by decide +kernel
theorem d_128_111 : decode (mB 128) 111 = .ok ((.aload_n 0), 1) := by decide +kernel
theorem d_128_112 : decode (mB 128) 112 = .ok ((.getfield 53), 3) := by decide +kernel
theorem d_128_115 : decode (mB 128) 115 = .ok (.ireturn, 1) := by decide +kernel
theorem d_129_0 : decode (mB 129) 0 = .ok ((.aload_n 0), 1) := by decide +kernel
theorem d_129_1 : decode (mB 129) 1 = .ok ((.iload_n 1), 1) := by decide +kernel
theorem d_129_2 : decode (mB 129) 2 = .ok ((.invokevirtual 99), 3) := by decide +kernel
theorem d_129_5 : decode (mB 129) 5 = .ok ((.ifCond .ne 5), 3) := by decide +kernel
theorem d_129_8 : decode (mB 129) 8 = .ok ((.iconst (-1)), 1) := by decide +kernel
theorem d_129_9 : decode (mB 129) 9 = .ok (.ireturn, 1) := by decide +kernel
theorem d_129_10 : decode (mB 129) 10 = .ok ((.iload_n 2), 1) := by decide +kernel
theorem d_129_11 : decode (mB 129) 11 = .ok (.i2l, 1) := by decide +kernel
theorem d_129_12 : decode (mB 129) 12 = .ok ((.lconst 0), 1) := by decide +kernel
theorem d_129_13 : decode (mB 129) 13 = .ok ((.ldc2_w 103), 3) := by decide +kernel
theorem d_129_16 : decode (mB 129) 16 = .ok ((.invokestatic 59), 3) := by decide +kernel
theorem d_129_19 : decode (mB 129) 19 = .ok ((.ifCond .eq 15), 3) := by decide +kernel
theorem d_129_22 : decode (mB 129) 22 = .ok ((.aload_n 0), 1) := by decide +kernel
theorem d_129_23 : decode (mB 129) 23 = .ok ((.getfield 19), 3) := by decide +kernel
theorem d_129_26 : decode (mB 129) 26 = .ok ((.bipush 6), 2) := by decide +kernel
theorem d_129_28 : decode (mB 129) 28 = .ok ((.iload_n 2), 1) := by decide +kernel
theorem d_129_29 : decode (mB 129) 29 = .ok (.imul, 1) := by decide +kernel
theorem d_129_30 : decode (mB 129) 30 = .ok ((.iload_n 1), 1) := by decide +kernel
theorem d_129_31 : decode (mB 129) 31 = .ok (.iadd, 1) := by decide +kernel
theorem d_129_32 : decode (mB 129) 32 = .ok (.iaload, 1) := by decide +kernel
theorem d_129_33 : decode (mB 129) 33 = .ok (.ireturn, 1) := by decide +kernel
theorem d_129_34 : decode (mB 129) 34 = .ok ((.iload_n 2), 1) := by decide +kernel
theorem d_129_35 : decode (mB 129) 35 = .ok ((.iconst 4), 1) := by decide +kernel
theorem d_129_36 : decode (mB 129) 36 = .ok ((.if_icmp .ne 18), 3) := by decide +kernel
theorem d_129_39 : decode (mB 129) 39 = .ok ((.aload_n 0), 1) := by decide +kernel
theorem d_129_40 : decode (mB 129) 40 = .ok ((.iconst 0), 1) := by decide +kernel
theorem d_129_41 : decode (mB 129) 41 = .ok ((.iload_n 1), 1) := by decide +kernel
theorem d_129_42 : decode (mB 129) 42 = .ok ((.invokevirtual 105), 3) := by decide +kernel
theorem d_129_45 : decode (mB 129) 45 = .ok ((.ifCond .eq 7), 3) := by decide +kernel
theorem d_129_48 : decode (mB 129) 48 = .ok ((.iconst 1), 1) := by decide +kernel
theorem d_129_49 : decode (mB 129) 49 = .ok ((.goto 4), 3) := by decide +kernel
theorem d_129_52 : decode (mB 129) 52 = .ok ((.iconst 0), 1) := by decide +kernel
theorem d_129_53 : decode (mB 129) 53 = .ok (.ireturn, 1) := by decide +kernel
theorem d_129_54 : decode (mB 129) 54 = .ok ((.iload_n 2), 1) := by decide +kernel
theorem d_129_55 : decode (mB 129) 55 = .ok ((.iconst 5), 1) := by decide +kernel
theorem d_129_56 : decode (mB 129) 56 = .ok ((.if_icmp .ne 14), 3) := by decide +kernel
theorem d_129_59 : decode (mB 129) 59 = .ok ((.aload_n 0), 1) := by decide +kernel
theorem d_129_60 : decode (mB 129) 60 = .ok ((.getfield 90), 3) := by decide +kernel
theorem d_129_63 : decode (mB 129) 63 = .ok ((.iload_n 1), 1) := by decide +kernel
theorem d_129_64 : decode (mB 129) 64 = .ok (.ishr, 1) := by decide +kernel
theorem d_129_65 : decode (mB 129) 65 = .ok ((.iconst 1), 1) := by decide +kernel
theorem d_129_66 : decode (mB 129) 66 = .ok (.iand, 1) := by decide +kernel
theorem d_129_67 : decode (mB 129) 67 = .ok ((.goto 35), 3) := by decide +kernel
theorem d_129_70 : decode (mB 129) 70 = .ok ((.iload_n 2), 1) := by decide +kernel
theorem d_129_71 : decode (mB 129) 71 = .ok (.i2l, 1) := by decide +kernel
theorem d_129_72 : decode (mB 129) 72 = .ok ((.ldc2_w 109), 3) := by decide +kernel
theorem d_129_75 : decode (mB 129) 75 = .ok ((.ldc2_w 74), 3) := by decide +kernel
theorem d_129_78 : decode (mB 129) 78 = .ok ((.invokestatic 59), 3) := by decide +kernel
theorem d_129_81 : decode (mB 129) 81 = .ok ((.ifCond .eq 19), 3) := by decide +kernel
theorem d_129_84 : decode (mB 129) 84 = .ok ((.aload_n 0), 1) := by decide +kernel
theorem d_129_85 : decode (mB 129) 85 = .ok ((.getfield 16), 3) := by decide +kernel
theorem d_129_88 : decode (mB 129) 88 = .ok ((.iconst 4), 1) := by decide +kernel
theorem d_129_89 : decode (mB 129) 89 = .ok ((.iload_n 1), 1) := by decide +kernel
theorem d_129_90 : decode (mB 129) 90 = .ok (.imul, 1) := by decide +kernel
theorem d_129_91 : decode (mB 129) 91 = .ok ((.iload_n 2), 1) := by decide +kernel
theorem d_129_92 : decode (mB 129) 92 = .ok (.iadd, 1) := by decide +kernel
theorem d_129_93 : decode (mB 129) 93 = .ok ((.bipush 6), 2) := by decide +kernel
theorem d_129_95 : decode (mB 129) 95 = .ok (.isub, 1) := by decide +kernel
theorem d_129_96 : decode (mB 129) 96 = .ok (.iaload, 1) := by decide +kernel
theorem d_129_97 : decode (mB 129) 97 = .ok ((.goto 5), 3) := by decide +kernel
theorem d_129_100 : decode (mB 129) 100 = .ok ((.bipush (-2)), 2) := by decide +kernel
theorem d_129_102 : decode (mB 129) 102 = .ok (.ireturn, 1) := by decide +kernel
theorem d_130_0 : decode (mB 130) 0 = .ok ((.iload_n 1), 1) := by decide +kernel
theorem d_130_1 : decode (mB 130) 1 = .ok (.i2l, 1) := by decide +kernel
theorem d_130_2 : decode (mB 130) 2 = .ok ((.lconst 0), 1) := by decide +kernel
theorem d_130_3 : decode (mB 130) 3 = .ok ((.aload_n 0), 1) := by decide +kernel
theorem d_130_4 : decode (mB 130) 4 = .ok ((.getfield 53), 3) := by decide +kernel
theorem d_130_7 : decode (mB 130) 7 = .ok ((.iconst 1), 1) := by decide +kernel
theorem d_130_8 : decode (mB 130) 8 = .ok (.isub, 1) := by decide +kernel
theorem d_130_9 : decode (mB 130) 9 = .ok (.i2l, 1) := by decide +kernel
theorem d_130_10 : decode (mB 130) 10 = .ok ((.invokestatic 59), 3) := by decide +kernel
theorem d_130_13 : decode (mB 130) 13 = .ok (.ireturn, 1) := by decide +kernel
theorem d_131_0 : decode (mB 131) 0 = .ok ((.aload_n 0), 1) := by decide +kernel
theorem d_131_1 : decode (mB 131) 1 = .ok ((.getfield 19), 3) := by decide +kernel
theorem d_131_4 : decode (mB 131) 4 = .ok ((.iload_n 1), 1) := by decide +kernel
theorem d_131_5 : decode (mB 131) 5 = .ok ((.bipush 12), 2) := by decide +kernel
theorem d_131_7 : decode (mB 131) 7 = .ok (.iadd, 1) := by decide +kernel
theorem d_131_8 : decode (mB 131) 8 = .ok ((.iload_n 2), 1) := by decide +kernel
theorem d_131_9 : decode (mB 131) 9 = .ok (.iadd, 1) := by decide +kernel
theorem d_131_10 : decode (mB 131) 10 = .ok (.iaload, 1) := by decide +kernel
theorem d_131_11 : decode (mB 131) 11 = .ok ((.aload_n 0), 1) := by decide +kernel
theorem d_131_12 : decode (mB 131) 12 = .ok ((.getfield 16), 3) := by decide +kernel
theorem d_131_15 : decode (mB 131) 15 = .ok ((.iconst 4), 1) := by decide +kernel
theorem d_131_16 : decode (mB 131) 16 = .ok ((.iload_n 2), 1) := by decide +kernel
theorem d_131_17 : decode (mB 131) 17 = .ok (.imul, 1) := by decide +kernel
theorem d_131_18 : decode (mB 131) 18 = .ok ((.iconst 2), 1) := by decide +kernel
theorem d_131_19 : decode (mB 131) 19 = .ok (.iadd, 1) := by decide +kernel
theorem d_131_20 : decode (mB 131) 20 = .ok (.iaload, 1) := by decide +kernel
theorem d_131_21 : decode (mB 131) 21 = .ok ((.if_icmp .lt 7), 3) := by decide +kernel
theorem d_131_24 : decode (mB 131) 24 = .ok ((.iconst 1), 1) := by decide +kernel
theorem d_131_25 : decode (mB 131) 25 = .ok ((.goto 4), 3) := by decide +kernel
theorem d_131_28 : decode (mB 131) 28 = .ok ((.iconst 0), 1) := by decide +kernel
theorem d_131_29 : decode (mB 131) 29 = .ok (.ireturn, 1) := by decide +kernel
theorem d_132_0 : decode (mB 132) 0 = .ok ((.aload_n 0), 1) := by decide +kernel
theorem d_132_1 : decode (mB 132) 1 = .ok ((.iload_n 1), 1) := by decide +kernel
theorem d_132_2 : decode (mB 132) 2 = .ok ((.invokevirtual 99), 3) := by decide +kernel
theorem d_132_5 : decode (mB 132) 5 = .ok ((.ifCond .ne 5), 3) := by decide +kernel
theorem d_132_8 : decode (mB 132) 8 = .ok ((.iconst (-1)), 1) := by decide +kernel
theorem d_132_9 : decode (mB 132) 9 = .ok (.ireturn, 1) := by decide +kernel
theorem d_132_10 : decode (mB 132) 10 = .ok ((.aload_n 0), 1) := by decide +kernel
theorem d_132_11 : decode (mB 132) 11 = .ok ((.getfield 90), 3) := by decide +kernel
theorem d_132_14 : decode (mB 132) 14 = .ok ((.istore_n 3), 1) := by decide +kernel
theorem d_132_15 : decode (mB 132) 15 = .ok ((.aload_n 0), 1) := by decide +kernel
theorem d_132_16 : decode (mB 132) 16 = .ok ((.iload_n 2), 1) := by decide +kernel
theorem d_132_17 : decode (mB 132) 17 = .ok ((.ifCond .eq 14), 3) := by decide +kernel
theorem d_132_20 : decode (mB 132) 20 = .ok ((.aload_n 0), 1) := by decide +kernel
theorem d_132_21 : decode (mB 132) 21 = .ok ((.getfield 90), 3) := by decide +kernel
theorem d_132_24 : decode (mB 132) 24 = .ok ((.iconst 1), 1) := by decide +kernel
theorem d_132_25 : decode (mB 132) 25 = .ok ((.iload_n 1), 1) := by decide +kernel
theorem d_132_26 : decode (mB 132) 26 = .ok (.ishl, 1) := by decide +kernel
theorem d_132_27 : decode (mB 132) 27 = .ok (.ior, 1) := by decide +kernel
theorem d_132_28 : decode (mB 132) 28 = .ok ((.goto 13), 3) := by decide +kernel
theorem d_132_31 : decode (mB 132) 31 = .ok ((.aload_n 0), 1) := by decide +kernel
theorem d_132_32 : decode (mB 132) 32 = .ok ((.getfield 90), 3) := by decide +kernel
theorem d_132_35 : decode (mB 132) 35 = .ok ((.iconst 1), 1) := by decide +kernel
theorem d_132_36 : decode (mB 132) 36 = .ok ((.iload_n 1), 1) := by decide +kernel
theorem d_132_37 : decode (mB 132) 37 = .ok (.ishl, 1) := by decide +kernel
theorem d_132_38 : decode (mB 132) 38 = .ok ((.iconst (-1)), 1) := by decide +kernel
theorem d_132_39 : decode (mB 132) 39 = .ok (.ixor, 1) := by decide +kernel
theorem d_132_40 : decode (mB 132) 40 = .ok (.iand, 1) := by decide +kernel
theorem d_132_41 : decode (mB 132) 41 = .ok ((.putfield 90), 3) := by decide +kernel
theorem d_132_44 : decode (mB 132) 44 = .ok ((.aload_n 0), 1) := by decide +kernel
theorem d_132_45 : decode (mB 132) 45 = .ok ((.getfield 90), 3) := by decide +kernel
theorem d_132_48 : decode (mB 132) 48 = .ok ((.iload_n 3), 1) := by decide +kernel
theorem d_132_49 : decode (mB 132) 49 = .ok ((.if_icmp .ne 7), 3) := by decide +kernel
theorem d_132_52 : decode (mB 132) 52 = .ok ((.iconst 0), 1) := by decide +kernel
theorem d_132_53 : decode (mB 132) 53 = .ok ((.goto 4), 3) := by decide +kernel
theorem d_132_56 : decode (mB 132) 56 = .ok ((.iconst 1), 1) := by decide +kernel
theorem d_132_57 : decode (mB 132) 57 = .ok (.ireturn, 1) := by decide +kernel
theorem d_133_0 : decode (mB 133) 0 = .ok ((.iload_n 1), 1) := by decide +kernel
theorem d_133_1 : decode (mB 133) 1 = .ok (.i2l, 1) := by decide +kernel
theorem d_133_2 : decode (mB 133) 2 = .ok ((.lconst 0), 1) := by decide +kernel
theorem d_133_3 : decode (mB 133) 3 = .ok ((.ldc2_w 74), 3) := by decide +kernel
theorem d_133_6 : decode (mB 133) 6 = .ok ((.invokestatic 59), 3) := by decide +kernel
theorem d_133_9 : decode (mB 133) 9 = .ok ((.ifCond .ne 6), 3) := by decide +kernel
theorem d_133_12 : decode (mB 133) 12 = .ok ((.bipush (-2)), 2) := by decide +kernel
theorem d_133_14 : decode (mB 133) 14 = .ok (.ireturn, 1) := by decide +kernel
theorem d_133_15 : decode (mB 133) 15 = .ok ((.aload_n 0), 1) := by decide +kernel
theorem d_133_16 : decode (mB 133) 16 = .ok ((.invokevirtual 118), 3) := by decide +kernel
theorem d_133_19 : decode (mB 133) 19 = .ok ((.aload_n 0), 1) := by decide +kernel
theorem d_133_20 : decode (mB 133) 20 = .ok (.dup, 1) := by decide +kernel
theorem d_133_21 : decode (mB 133) 21 = .ok ((.getfield 93), 3) := by decide +kernel
theorem d_133_24 : decode (mB 133) 24 = .ok ((.iconst 1), 1) := by decide +kernel
theorem d_133_25 : decode (mB 133) 25 = .ok (.iadd, 1) := by decide +kernel
theorem d_133_26 : decode (mB 133) 26 = .ok ((.putfield 93), 3) := by decide +kernel
theorem d_133_29 : decode (mB 133) 29 = .ok ((.aload_n 0), 1) := by decide +kernel
theorem d_133_30 : decode (mB 133) 30 = .ok ((.iconst 0), 1) := by decide +kernel
theorem d_133_31 : decode (mB 133) 31 = .ok ((.iload_n 1), 1) := by decide +kernel
theorem d_133_32 : decode (mB 133) 32 = .ok ((.aload_n 0), 1) := by decide +kernel
theorem d_133_33 : decode (mB 133) 33 = .ok ((.getfield 90), 3) := by decide +kernel
theorem d_133_36 : decode (mB 133) 36 = .ok ((.invokevirtual 121), 3) := by decide +kernel
theorem d_133_39 : decode (mB 133) 39 = .ok (.ireturn, 1) := by decide +kernel
theorem d_134_0 : decode (mB 134) 0 = .ok ((.iconst 0), 1) := by decide +kernel
theorem d_134_1 : decode (mB 134) 1 = .ok ((.istore_n 1), 1) := by decide +kernel
theorem d_134_2 : decode (mB 134) 2 = .ok ((.iload_n 1), 1) := by decide +kernel
theorem d_134_3 : decode (mB 134) 3 = .ok ((.bipush 26), 2) := by decide +kernel
theorem d_134_5 : decode (mB 134) 5 = .ok ((.if_icmp .ge 29), 3) := by decide +kernel
theorem d_134_8 : decode (mB 134) 8 = .ok ((.aload_n 0), 1) := by decide +kernel
theorem d_134_9 : decode (mB 134) 9 = .ok ((.getfield 25), 3) := by decide +kernel
theorem d_134_12 : decode (mB 134) 12 = .ok ((.bipush 27), 2) := by decide +kernel
theorem d_134_14 : decode (mB 134) 14 = .ok ((.aload_n 0), 1) := by decide +kernel
theorem d_134_15 : decode (mB 134) 15 = .ok ((.getfield 111), 3) := by decide +kernel
theorem d_134_18 : decode (mB 134) 18 = .ok (.imul, 1) := by decide +kernel
theorem d_134_19 : decode (mB 134) 19 = .ok ((.iload_n 1), 1) := by decide +kernel
theorem d_134_20 : decode (mB 134) 20 = .ok (.iadd, 1) := by decide +kernel
theorem d_134_21 : decode (mB 134) 21 = .ok ((.aload_n 0), 1) := by decide +kernel
theorem d_134_22 : decode (mB 134) 22 = .ok ((.getfield 19), 3) := by decide +kernel
theorem d_134_25 : decode (mB 134) 25 = .ok ((.iload_n 1), 1) := by decide +kernel
theorem d_134_26 : decode (mB 134) 26 = .ok (.iaload, 1) := by decide +kernel
theorem d_134_27 : decode (mB 134) 27 = .ok (.iastore, 1) := by decide +kernel
theorem d_134_28 : decode (mB 134) 28 = .ok ((.iinc 1 1), 3) := by decide +kernel
theorem d_134_31 : decode (mB 134) 31 = .ok ((.goto (-29)), 3) := by decide +kernel
theorem d_134_34 : decode (mB 134) 34 = .ok ((.aload_n 0), 1) := by decide +kernel
theorem d_134_35 : decode (mB 134) 35 = .ok ((.getfield 25), 3) := by decide +kernel
theorem d_134_38 : decode (mB 134) 38 = .ok ((.bipush 27), 2) := by decide +kernel
theorem d_134_40 : decode (mB 134) 40 = .ok ((.aload_n 0), 1) := by decide +kernel
theorem d_134_41 : decode (mB 134) 41 = .ok ((.getfield 111), 3) := by decide +kernel
theorem d_134_44 : decode (mB 134) 44 = .ok (.imul, 1) := by decide +kernel
theorem d_134_45 : decode (mB 134) 45 = .ok ((.bipush 26), 2) := by decide +kernel
theorem d_134_47 : decode (mB 134) 47 = .ok (.iadd, 1) := by decide +kernel
theorem d_134_48 : decode (mB 134) 48 = .ok ((.aload_n 0), 1) := by decide +kernel
theorem d_134_49 : decode (mB 134) 49 = .ok ((.getfield 93), 3) := by decide +kernel
theorem d_134_52 : decode (mB 134) 52 = .ok (.iastore, 1) := by decide +kernel
theorem d_134_53 : decode (mB 134) 53 = .ok ((.aload_n 0), 1) := by decide +kernel
theorem d_134_54 : decode (mB 134) 54 = .ok ((.aload_n 0), 1) := by decide +kernel
theorem d_134_55 : decode (mB 134) 55 = .ok ((.getfield 111), 3) := by decide +kernel
theorem d_134_58 : decode (mB 134) 58 = .ok ((.iconst 1), 1) := by decide +kernel
theorem d_134_59 : decode (mB 134) 59 = .ok (.iadd, 1) := by decide +kernel
theorem d_134_60 : decode (mB 134) 60 = .ok ((.bipush 12), 2) := by decide +kernel
theorem d_134_62 : decode (mB 134) 62 = .ok (.irem, 1) := by decide +kernel
theorem d_134_63 : decode (mB 134) 63 = .ok ((.putfield 111), 3) := by decide +kernel
theorem d_134_66 : decode (mB 134) 66 = .ok ((.aload_n 0), 1) := by decide +kernel
theorem d_134_67 : decode (mB 134) 67 = .ok ((.aload_n 0), 1) := by decide +kernel
theorem d_134_68 : decode (mB 134) 68 = .ok ((.getfield 96), 3) := by decide +kernel
theorem d_134_71 : decode (mB 134) 71 = .ok ((.bipush 12), 2) := by decide +kernel
theorem d_134_73 : decode (mB 134) 73 = .ok ((.if_icmp .ge 12), 3) := by decide +kernel
theorem d_134_76 : decode (mB 134) 76 = .ok ((.aload_n 0), 1) := by decide +kernel
theorem d_134_77 : decode (mB 134) 77 = .ok ((.getfield 96), 3) := by decide +kernel
theorem d_134_80 : decode (mB 134) 80 = .ok ((.iconst 1), 1) := by decide +kernel
theorem d_134_81 : decode (mB 134) 81 = .ok (.iadd, 1) := by decide +kernel
theorem d_134_82 : decode (mB 134) 82 = .ok ((.goto 5), 3) := by decide +kernel
theorem d_134_85 : decode (mB 134) 85 = .ok ((.bipush 12), 2) := by decide +kernel
theorem d_134_87 : decode (mB 134) 87 = .ok ((.putfield 96), 3) := by decide +kernel
theorem d_134_90 : decode (mB 134) 90 = .ok (.return_, 1) := by decide +kernel
theorem d_135_0 : decode (mB 135) 0 = .ok ((.iconst 0), 1) := by decide +kernel
theorem d_135_1 : decode (mB 135) 1 = .ok ((.istore 4), 2) := by decide +kernel
theorem d_135_3 : decode (mB 135) 3 = .ok ((.iload 4), 2) := by decide +kernel
theorem d_135_5 : decode (mB 135) 5 = .ok ((.aload_n 0), 1) := by decide +kernel
theorem d_135_6 : decode (mB 135) 6 = .ok ((.getfield 53), 3) := by decide +kernel
theorem d_135_9 : decode (mB 135) 9 = .ok ((.if_icmp .ge 288), 3) := by decide +kernel
theorem d_135_12 : decode (mB 135) 12 = .ok ((.iload_n 1), 1) := by decide +kernel
theorem d_135_13 : decode (mB 135) 13 = .ok ((.iload 4), 2) := by decide +kernel
theorem d_135_15 : decode (mB 135) 15 = .ok (.iadd, 1) := by decide +kernel
theorem d_135_16 : decode (mB 135) 16 = .ok ((.istore 5), 2) := by decide +kernel
theorem d_135_18 : decode (mB 135) 18 = .ok ((.aload_n 0), 1) := by decide +kernel
theorem d_135_19 : decode (mB 135) 19 = .ok ((.getfield 19), 3) := by decide +kernel
theorem d_135_22 : decode (mB 135) 22 = .ok ((.iload 5), 2) := by decide +kernel
theorem d_135_24 : decode (mB 135) 24 = .ok (.dup2, 1) := by decide +kernel
theorem d_135_25 : decode (mB 135) 25 = .ok (.iaload, 1) := by decide +kernel
theorem d_135_26 : decode (mB 135) 26 = .ok ((.iload_n 2), 1) := by decide +kernel
theorem d_135_27 : decode (mB 135) 27 = .ok (.iadd, 1) := by decide +kernel
theorem d_135_28 : decode (mB 135) 28 = .ok (.iastore, 1) := by decide +kernel
theorem d_135_29 : decode (mB 135) 29 = .ok ((.aload_n 0), 1) := by decide +kernel
theorem d_135_30 : decode (mB 135) 30 = .ok ((.getfield 19), 3) := by decide +kernel
theorem d_135_33 : decode (mB 135) 33 = .ok ((.iload 5), 2) := by decide +kernel
theorem d_135_35 : decode (mB 135) 35 = .ok (.iaload, 1) := by decide +kernel
theorem d_135_36 : decode (mB 135) 36 = .ok ((.aload_n 0), 1) := by decide +kernel
theorem d_135_37 : decode (mB 135) 37 = .ok ((.getfield 16), 3) := by decide +kernel
theorem d_135_40 : decode (mB 135) 40 = .ok ((.iconst 4), 1) := by decide +kernel
theorem d_135_41 : decode (mB 135) 41 = .ok ((.iload 4), 2) := by decide +kernel
theorem d_135_43 : decode (mB 135) 43 = .ok (.imul, 1) := by decide +kernel
theorem d_135_44 : decode (mB 135) 44 = .ok (.iaload, 1) := by decide +kernel
theorem d_135_45 : decode (mB 135) 45 = .ok ((.if_icmp .ge 13), 3) := by decide +kernel
theorem d_135_48 : decode (mB 135) 48 = .ok ((.aload_n 0), 1) := by decide +kernel
theorem d_135_49 : decode (mB 135) 49 = .ok ((.getfield 19), 3) := by decide +kernel
theorem d_135_52 : decode (mB 135) 52 = .ok ((.iload 5), 2) := by decide +kernel
theorem d_135_54 : decode (mB 135) 54 = .ok (.iaload, 1) := by decide +kernel
theorem d_135_55 : decode (mB 135) 55 = .ok ((.goto 12), 3) := by decide +kernel
theorem d_135_58 : decode (mB 135) 58 = .ok ((.aload_n 0), 1) := by decide +kernel
theorem d_135_59 : decode (mB 135) 59 = .ok ((.getfield 16), 3) := by decide +kernel
theorem d_135_62 : decode (mB 135) 62 = .ok ((.iconst 4), 1) := by decide +kernel
theorem d_135_63 : decode (mB 135) 63 = .ok ((.iload 4), 2) := by decide +kernel
theorem d_135_65 : decode (mB 135) 65 = .ok (.imul, 1) := by decide +kernel
theorem d_135_66 : decode (mB 135) 66 = .ok (.iaload, 1) := by decide +kernel
theorem d_135_67 : decode (mB 135) 67 = .ok ((.istore 6), 2) := by decide +kernel
theorem d_135_69 : decode (mB 135) 69 = .ok ((.aload_n 0), 1) := by decide +kernel
theorem d_135_70 : decode (mB 135) 70 = .ok ((.getfield 19), 3) := by decide +kernel
theorem d_135_73 : decode (mB 135) 73 = .ok ((.iload 5), 2) := by decide +kernel
theorem d_135_75 : decode (mB 135) 75 = .ok ((.bipush 6), 2) := by decide +kernel
theorem d_135_77 : decode (mB 135) 77 = .ok (.iadd, 1) := by decide +kernel
theorem d_135_78 : decode (mB 135) 78 = .ok (.iaload, 1) := by decide +kernel
theorem d_135_79 : decode (mB 135) 79 = .ok ((.iload 6), 2) := by decide +kernel
theorem d_135_81 : decode (mB 135) 81 = .ok ((.aload_n 0), 1) := by decide +kernel
theorem d_135_82 : decode (mB 135) 82 = .ok ((.getfield 19), 3) := by decide +kernel
theorem d_135_85 : decode (mB 135) 85 = .ok ((.iload 5), 2) := by decide +kernel
theorem d_135_87 : decode (mB 135) 87 = .ok (.iaload, 1) := by decide +kernel
theorem d_135_88 : decode (mB 135) 88 = .ok ((.invokestatic 114), 3) := by decide +kernel
theorem d_135_91 : decode (mB 135) 91 = .ok ((.istore 7), 2) := by decide +kernel
theorem d_135_93 : decode (mB 135) 93 = .ok ((.aload_n 0), 1) := by decide +kernel
theorem d_135_94 : decode (mB 135) 94 = .ok ((.getfield 19), 3) := by decide +kernel
theorem d_135_97 : decode (mB 135) 97 = .ok ((.iload 5), 2) := by decide +kernel
theorem d_135_99 : decode (mB 135) 99 = .ok (.dup2, 1) := by decide +kernel
theorem d_135_100 : decode (mB 135) 100 = .ok (.iaload, 1) := by decide +kernel
theorem d_135_101 : decode (mB 135) 101 = .ok ((.iload 6), 2) := by decide +kernel
theorem d_135_103 : decode (mB 135) 103 = .ok (.isub, 1) := by decide +kernel
theorem d_135_104 : decode (mB 135) 104 = .ok (.iastore, 1) := by decide +kernel
theorem d_135_105 : decode (mB 135) 105 = .ok ((.aload_n 0), 1) := by decide +kernel
theorem d_135_106 : decode (mB 135) 106 = .ok ((.getfield 19), 3) := by decide +kernel
theorem d_135_109 : decode (mB 135) 109 = .ok ((.iload 5), 2) := by decide +kernel
theorem d_135_111 : decode (mB 135) 111 = .ok ((.bipush 6), 2) := by decide +kernel
theorem d_135_113 : decode (mB 135) 113 = .ok (.iadd, 1) := by decide +kernel
theorem d_135_114 : decode (mB 135) 114 = .ok (.dup2, 1) := by decide +kernel
theorem d_135_115 : decode (mB 135) 115 = .ok (.iaload, 1) := by decide +kernel
theorem d_135_116 : decode (mB 135) 116 = .ok ((.iload 7), 2) := by decide +kernel
theorem d_135_118 : decode (mB 135) 118 = .ok (.isub, 1) := by decide +kernel
theorem d_135_119 : decode (mB 135) 119 = .ok (.iastore, 1) := by decide +kernel
theorem d_135_120 : decode (mB 135) 120 = .ok ((.aload_n 0), 1) := by decide +kernel
theorem d_135_121 : decode (mB 135) 121 = .ok ((.getfield 19), 3) := by decide +kernel
theorem d_135_124 : decode (mB 135) 124 = .ok ((.iload 5), 2) := by decide +kernel
theorem d_135_126 : decode (mB 135) 126 = .ok ((.bipush 12), 2) := by decide +kernel
theorem d_135_128 : decode (mB 135) 128 = .ok (.iadd, 1) := by decide +kernel
theorem d_135_129 : decode (mB 135) 129 = .ok (.dup2, 1) := by decide +kernel
theorem d_135_130 : decode (mB 135) 130 = .ok (.iaload, 1) := by decide +kernel
theorem d_135_131 : decode (mB 135) 131 = .ok ((.iload 6), 2) := by decide +kernel
theorem d_135_133 : decode (mB 135) 133 = .ok (.iadd, 1) := by decide +kernel
theorem d_135_134 : decode (mB 135) 134 = .ok (.iastore, 1) := by decide +kernel
theorem d_135_135 : decode (mB 135) 135 = .ok ((.aload_n 0), 1) := by decide +kernel
theorem d_135_136 : decode (mB 135) 136 = .ok ((.getfield 19), 3) := by decide +kernel
theorem d_135_139 : decode (mB 135) 139 = .ok ((.iload 5), 2) := by decide +kernel
theorem d_135_141 : decode (mB 135) 141 = .ok ((.bipush 18), 2) := by decide +kernel
theorem d_135_143 : decode (mB 135) 143 = .ok (.iadd, 1) := by decide +kernel
theorem d_135_144 : decode (mB 135) 144 = .ok (.dup2, 1) := by decide +kernel
theorem d_135_145 : decode (mB 135) 145 = .ok (.iaload, 1) := by decide +kernel
theorem d_135_146 : decode (mB 135) 146 = .ok ((.iload 7), 2) := by decide +kernel
theorem d_135_148 : decode (mB 135) 148 = .ok (.iadd, 1) := by decide +kernel
theorem d_135_149 : decode (mB 135) 149 = .ok (.iastore, 1) := by decide +kernel
theorem d_135_150 : decode (mB 135) 150 = .ok ((.aload_n 0), 1) := by decide +kernel
theorem d_135_151 : decode (mB 135) 151 = .ok ((.getfield 19), 3) := by decide +kernel
theorem d_135_154 : decode (mB 135) 154 = .ok ((.iload 5), 2) := by decide +kernel
theorem d_135_156 : decode (mB 135) 156 = .ok (.iaload, 1) := by decide +kernel
theorem d_135_157 : decode (mB 135) 157 = .ok ((.aload_n 0), 1) := by decide +kernel
theorem d_135_158 : decode (mB 135) 158 = .ok ((.getfield 16), 3) := by decide +kernel
theorem d_135_161 : decode (mB 135) 161 = .ok ((.iconst 4), 1) := by decide +kernel
theorem d_135_162 : decode (mB 135) 162 = .ok ((.iload 4), 2) := by decide +kernel
theorem d_135_164 : decode (mB 135) 164 = .ok (.imul, 1) := by decide +kernel
theorem d_135_165 : decode (mB 135) 165 = .ok ((.iconst 1), 1) := by decide +kernel
theorem d_135_166 : decode (mB 135) 166 = .ok (.iadd, 1) := by decide +kernel
theorem d_135_167 : decode (mB 135) 167 = .ok (.iaload, 1) := by decide +kernel
theorem d_135_168 : decode (mB 135) 168 = .ok ((.if_icmp .ge 13), 3) := by decide +kernel
theorem d_135_171 : decode (mB 135) 171 = .ok ((.aload_n 0), 1) := by decide +kernel
theorem d_135_172 : decode (mB 135) 172 = .ok ((.getfield 19), 3) := by decide +kernel
theorem d_135_175 : decode (mB 135) 175 = .ok ((.iload 5), 2) := by decide +kernel
theorem d_135_177 : decode (mB 135) 177 = .ok (.iaload, 1) := by decide +kernel
theorem d_135_178 : decode (mB 135) 178 = .ok ((.goto 14), 3) := by decide +kernel
theorem d_135_181 : decode (mB 135) 181 = .ok ((.aload_n 0), 1) := by decide +kernel
theorem d_135_182 : decode (mB 135) 182 = .ok ((.getfield 16), 3) := by decide +kernel
theorem d_135_185 : decode (mB 135) 185 = .ok ((.iconst 4), 1) := by decide +kernel
theorem d_135_186 : decode (mB 135) 186 = .ok ((.iload 4), 2) := by decide +kernel
theorem d_135_188 : decode (mB 135) 188 = .ok (.imul, 1) := by decide +kernel
theorem d_135_189 : decode (mB 135) 189 = .ok ((.iconst 1), 1) := by decide +kernel
theorem d_135_190 : decode (mB 135) 190 = .ok (.iadd, 1) := by decide +kernel
theorem d_135_191 : decode (mB 135) 191 = .ok (.iaload, 1) := by decide +kernel
theorem d_135_192 : decode (mB 135) 192 = .ok ((.istore 8), 2) := by decide +kernel
theorem d_135_194 : decode (mB 135) 194 = .ok ((.iload_n 3), 1) := by decide +kernel
theorem d_135_195 : decode (mB 135) 195 = .ok ((.iload 4), 2) := by decide +kernel
theorem d_135_197 : decode (mB 135) 197 = .ok (.ishr, 1) := by decide +kernel
theorem d_135_198 : decode (mB 135) 198 = .ok ((.iconst 1), 1) := by decide +kernel
theorem d_135_199 : decode (mB 135) 199 = .ok (.iand, 1) := by decide +kernel
theorem d_135_200 : decode (mB 135) 200 = .ok ((.iconst 1), 1) := by decide +kernel
theorem d_135_201 : decode (mB 135) 201 = .ok ((.if_icmp .ne 7), 3) := by decide +kernel
theorem d_135_204 : decode (mB 135) 204 = .ok ((.iconst 0), 1) := by decide +kernel
theorem d_135_205 : decode (mB 135) 205 = .ok ((.goto 5), 3) := by decide +kernel
theorem d_135_208 : decode (mB 135) 208 = .ok ((.iload 8), 2) := by decide +kernel
theorem d_135_210 : decode (mB 135) 210 = .ok ((.istore 9), 2) := by decide +kernel
theorem d_135_212 : decode (mB 135) 212 = .ok ((.aload_n 0), 1) := by decide +kernel
theorem d_135_213 : decode (mB 135) 213 = .ok ((.getfield 19), 3) := by decide +kernel
theorem d_135_216 : decode (mB 135) 216 = .ok ((.iload 5), 2) := by decide +kernel
theorem d_135_218 : decode (mB 135) 218 = .ok (.iaload, 1) := by decide +kernel
theorem d_135_219 : decode (mB 135) 219 = .ok ((.iload 9), 2) := by decide +kernel
theorem d_135_221 : decode (mB 135) 221 = .ok (.isub, 1) := by decide +kernel
theorem d_135_222 : decode (mB 135) 222 = .ok ((.aload_n 0), 1) := by decide +kernel
theorem d_135_223 : decode (mB 135) 223 = .ok ((.getfield 16), 3) := by decide +kernel
theorem d_135_226 : decode (mB 135) 226 = .ok ((.iconst 4), 1) := by decide +kernel
theorem d_135_227 : decode (mB 135) 227 = .ok ((.iload 4), 2) := by decide +kernel
theorem d_135_229 : decode (mB 135) 229 = .ok (.imul, 1) := by decide +kernel
theorem d_135_230 : decode (mB 135) 230 = .ok ((.iconst 3), 1) := by decide +kernel
theorem d_135_231 : decode (mB 135) 231 = .ok (.iadd, 1) := by decide +kernel
theorem d_135_232 : decode (mB 135) 232 = .ok (.iaload, 1) := by decide +kernel
theorem d_135_233 : decode (mB 135) 233 = .ok (.isub, 1) := by decide +kernel
theorem d_135_234 : decode (mB 135) 234 = .ok ((.istore 10), 2) := by decide +kernel
theorem d_135_236 : decode (mB 135) 236 = .ok ((.aload_n 0), 1) := by decide +kernel
theorem d_135_237 : decode (mB 135) 237 = .ok ((.getfield 28), 3) := by decide +kernel
theorem d_135_240 : decode (mB 135) 240 = .ok ((.iload 4), 2) := by decide +kernel
theorem d_135_242 : decode (mB 135) 242 = .ok ((.iload 9), 2) := by decide +kernel
theorem d_135_244 : decode (mB 135) 244 = .ok ((.iload 10), 2) := by decide +kernel
theorem d_135_246 : decode (mB 135) 246 = .ok ((.ifCond .le 8), 3) := by decide +kernel
theorem d_135_249 : decode (mB 135) 249 = .ok ((.iload 10), 2) := by decide +kernel
theorem d_135_251 : decode (mB 135) 251 = .ok ((.goto 4), 3) := by decide +kernel
theorem d_135_254 : decode (mB 135) 254 = .ok ((.iconst 0), 1) := by decide +kernel
theorem d_135_255 : decode (mB 135) 255 = .ok (.iadd, 1) := by decide +kernel
theorem d_135_256 : decode (mB 135) 256 = .ok (.iastore, 1) := by decide +kernel
theorem d_135_257 : decode (mB 135) 257 = .ok ((.aload_n 0), 1) := by decide +kernel
theorem d_135_258 : decode (mB 135) 258 = .ok ((.getfield 31), 3) := by decide +kernel
theorem d_135_261 : decode (mB 135) 261 = .ok ((.iload 4), 2) := by decide +kernel
theorem d_135_263 : decode (mB 135) 263 = .ok ((.aload_n 0), 1) := by decide +kernel
theorem d_135_264 : decode (mB 135) 264 = .ok ((.getfield 19), 3) := by decide +kernel
theorem d_135_267 : decode (mB 135) 267 = .ok ((.iload 5), 2) := by decide +kernel
theorem d_135_269 : decode (mB 135) 269 = .ok ((.bipush 6), 2) := by decide +kernel
theorem d_135_271 : decode (mB 135) 271 = .ok (.iadd, 1) := by decide +kernel
theorem d_135_272 : decode (mB 135) 272 = .ok (.iaload, 1) := by decide +kernel
theorem d_135_273 : decode (mB 135) 273 = .ok ((.aload_n 0), 1) := by decide +kernel
theorem d_135_274 : decode (mB 135) 274 = .ok ((.getfield 28), 3) := by decide +kernel
theorem d_135_277 : decode (mB 135) 277 = .ok ((.iload 4), 2) := by decide +kernel
theorem d_135_279 : decode (mB 135) 279 = .ok (.iaload, 1) := by decide +kernel
theorem d_135_280 : decode (mB 135) 280 = .ok ((.aload_n 0), 1) := by decide +kernel
theorem d_135_281 : decode (mB 135) 281 = .ok ((.getfield 19), 3) := by decide +kernel
theorem d_135_284 : decode (mB 135) 284 = .ok ((.iload 5), 2) := by decide +kernel
theorem d_135_286 : decode (mB 135) 286 = .ok (.iaload, 1) := by decide +kernel
theorem d_135_287 : decode (mB 135) 287 = .ok ((.invokestatic 114), 3) := by decide +kernel
theorem d_135_290 : decode (mB 135) 290 = .ok (.iastore, 1) := by decide +kernel
theorem d_135_291 : decode (mB 135) 291 = .ok ((.iinc 4 1), 3) := by decide +kernel
theorem d_135_294 : decode (mB 135) 294 = .ok ((.goto (-291)), 3) := by decide +kernel
theorem d_135_297 : decode (mB 135) 297 = .ok ((.iconst 0), 1) := by decide +kernel
theorem d_135_298 : decode (mB 135) 298 = .ok ((.istore 4), 2) := by decide +kernel
theorem d_135_300 : decode (mB 135) 300 = .ok ((.iload 4), 2) := by decide +kernel
theorem d_135_302 : decode (mB 135) 302 = .ok ((.aload_n 0), 1) := by decide +kernel
theorem d_135_303 : decode (mB 135) 303 = .ok ((.getfield 53), 3) := by decide +kernel
theorem d_135_306 : decode (mB 135) 306 = .ok ((.if_icmp .ge 131), 3) := by decide +kernel
theorem d_135_309 : decode (mB 135) 309 = .ok ((.aload_n 0), 1) := by decide +kernel
theorem d_135_310 : decode (mB 135) 310 = .ok ((.getfield 19), 3) := by decide +kernel
theorem d_135_313 : decode (mB 135) 313 = .ok ((.iload_n 1), 1) := by decide +kernel
theorem d_135_314 : decode (mB 135) 314 = .ok ((.iload 4), 2) := by decide +kernel
theorem d_135_316 : decode (mB 135) 316 = .ok (.iadd, 1) := by decide +kernel
theorem d_135_317 : decode (mB 135) 317 = .ok (.dup2, 1) := by decide +kernel
theorem d_135_318 : decode (mB 135) 318 = .ok (.iaload, 1) := by decide +kernel
theorem d_135_319 : decode (mB 135) 319 = .ok ((.aload_n 0), 1) := by decide +kernel
theorem d_135_320 : decode (mB 135) 320 = .ok ((.getfield 28), 3) := by decide +kernel
theorem d_135_323 : decode (mB 135) 323 = .ok ((.iload 4), 2) := by decide +kernel
theorem d_135_325 : decode (mB 135) 325 = .ok (.iaload, 1) := by decide +kernel
theorem d_135_326 : decode (mB 135) 326 = .ok (.isub, 1) := by decide +kernel
theorem d_135_327 : decode (mB 135) 327 = .ok (.iastore, 1) := by decide +kernel
theorem d_135_328 : decode (mB 135) 328 = .ok ((.aload_n 0), 1) := by decide +kernel
theorem d_135_329 : decode (mB 135) 329 = .ok ((.getfield 19), 3) := by decide +kernel
theorem d_135_332 : decode (mB 135) 332 = .ok ((.iload_n 1), 1) := by decide +kernel
theorem d_135_333 : decode (mB 135) 333 = .ok ((.bipush 6), 2) := by decide +kernel
theorem d_135_335 : decode (mB 135) 335 = .ok (.iadd, 1) := by decide +kernel
theorem d_135_336 : decode (mB 135) 336 = .ok ((.iload 4), 2) := by decide +kernel
theorem d_135_338 : decode (mB 135) 338 = .ok (.iadd, 1) := by decide +kernel
theorem d_135_339 : decode (mB 135) 339 = .ok (.dup2, 1) := by decide +kernel
theorem d_135_340 : decode (mB 135) 340 = .ok (.iaload, 1) := by decide +kernel
theorem d_135_341 : decode (mB 135) 341 = .ok ((.aload_n 0), 1) := by decide +kernel
theorem d_135_342 : decode (mB 135) 342 = .ok ((.getfield 31), 3) := by decide +kernel
theorem d_135_345 : decode (mB 135) 345 = .ok ((.iload 4), 2) := by decide +kernel
theorem d_135_347 : decode (mB 135) 347 = .ok (.iaload, 1) := by decide +kernel
theorem d_135_348 : decode (mB 135) 348 = .ok (.isub, 1) := by decide +kernel
theorem d_135_349 : decode (mB 135) 349 = .ok (.iastore, 1) := by decide +kernel
theorem d_135_350 : decode (mB 135) 350 = .ok ((.iload 4), 2) := by decide +kernel
theorem d_135_352 : decode (mB 135) 352 = .ok ((.aload_n 0), 1) := by decide +kernel
theorem d_135_353 : decode (mB 135) 353 = .ok ((.getfield 53), 3) := by decide +kernel
theorem d_135_356 : decode (mB 135) 356 = .ok ((.iconst 1), 1) := by decide +kernel
theorem d_135_357 : decode (mB 135) 357 = .ok (.isub, 1) := by decide +kernel
theorem d_135_358 : decode (mB 135) 358 = .ok ((.if_icmp .ne 10), 3) := by decide +kernel
theorem d_135_361 : decode (mB 135) 361 = .ok ((.iload_n 1), 1) := by decide +kernel
theorem d_135_362 : decode (mB 135) 362 = .ok ((.bipush 24), 2) := by decide +kernel
theorem d_135_364 : decode (mB 135) 364 = .ok (.iadd, 1) := by decide +kernel
theorem d_135_365 : decode (mB 135) 365 = .ok ((.goto 9), 3) := by decide +kernel
theorem d_135_368 : decode (mB 135) 368 = .ok ((.iload_n 1), 1) := by decide +kernel
theorem d_135_369 : decode (mB 135) 369 = .ok ((.iload 4), 2) := by decide +kernel
theorem d_135_371 : decode (mB 135) 371 = .ok (.iadd, 1) := by decide +kernel
theorem d_135_372 : decode (mB 135) 372 = .ok ((.iconst 1), 1) := by decide +kernel
theorem d_135_373 : decode (mB 135) 373 = .ok (.iadd, 1) := by decide +kernel
theorem d_135_374 : decode (mB 135) 374 = .ok ((.istore 5), 2) := by decide +kernel
theorem d_135_376 : decode (mB 135) 376 = .ok ((.aload_n 0), 1) := by decide +kernel
theorem d_135_377 : decode (mB 135) 377 = .ok ((.getfield 19), 3) := by decide +kernel
theorem d_135_380 : decode (mB 135) 380 = .ok ((.iload 5), 2) := by decide +kernel
theorem d_135_382 : decode (mB 135) 382 = .ok (.dup2, 1) := by decide +kernel
theorem d_135_383 : decode (mB 135) 383 = .ok (.iaload, 1) := by decide +kernel
theorem d_135_384 : decode (mB 135) 384 = .ok ((.aload_n 0), 1) := by decide +kernel
theorem d_135_385 : decode (mB 135) 385 = .ok ((.getfield 28), 3) := by decide +kernel
theorem d_135_388 : decode (mB 135) 388 = .ok ((.iload 4), 2) := by decide +kernel
theorem d_135_390 : decode (mB 135) 390 = .ok (.iaload, 1) := by decide +kernel
theorem d_135_391 : decode (mB 135) 391 = .ok (.iadd, 1) := by decide +kernel
theorem d_135_392 : decode (mB 135) 392 = .ok (.iastore, 1) := by decide +kernel
theorem d_135_393 : decode (mB 135) 393 = .ok ((.aload_n 0), 1) := by decide +kernel
theorem d_135_394 : decode (mB 135) 394 = .ok ((.getfield 19), 3) := by decide +kernel
theorem d_135_397 : decode (mB 135) 397 = .ok ((.iload 4), 2) := by decide +kernel
theorem d_135_399 : decode (mB 135) 399 = .ok ((.aload_n 0), 1) := by decide +kernel
theorem d_135_400 : decode (mB 135) 400 = .ok ((.getfield 53), 3) := by decide +kernel
theorem d_135_403 : decode (mB 135) 403 = .ok ((.iconst 1), 1) := by decide +kernel
theorem d_135_404 : decode (mB 135) 404 = .ok (.isub, 1) := by decide +kernel
theorem d_135_405 : decode (mB 135) 405 = .ok ((.if_icmp .ne 10), 3) := by decide +kernel
theorem d_135_408 : decode (mB 135) 408 = .ok ((.iload_n 1), 1) := by decide +kernel
theorem d_135_409 : decode (mB 135) 409 = .ok ((.bipush 25), 2) := by decide +kernel
theorem d_135_411 : decode (mB 135) 411 = .ok (.iadd, 1) := by decide +kernel
theorem d_135_412 : decode (mB 135) 412 = .ok ((.goto 8), 3) := by decide +kernel
theorem d_135_415 : decode (mB 135) 415 = .ok ((.iload 5), 2) := by decide +kernel
theorem d_135_417 : decode (mB 135) 417 = .ok ((.bipush 6), 2) := by decide +kernel
theorem d_135_419 : decode (mB 135) 419 = .ok (.iadd, 1) := by decide +kernel
theorem d_135_420 : decode (mB 135) 420 = .ok (.dup2, 1) := by decide +kernel
theorem d_135_421 : decode (mB 135) 421 = .ok (.iaload, 1) := by decide +kernel
theorem d_135_422 : decode (mB 135) 422 = .ok ((.aload_n 0), 1) := by decide +kernel
theorem d_135_423 : decode (mB 135) 423 = .ok ((.getfield 31), 3) := by decide +kernel
theorem d_135_426 : decode (mB 135) 426 = .ok ((.iload 4), 2) := by decide +kernel
theorem d_135_428 : decode (mB 135) 428 = .ok (.iaload, 1) := by decide +kernel
theorem d_135_429 : decode (mB 135) 429 = .ok (.iadd, 1) := by decide +kernel
theorem d_135_430 : decode (mB 135) 430 = .ok (.iastore, 1) := by decide +kernel
theorem d_135_431 : decode (mB 135) 431 = .ok ((.iinc 4 1), 3) := by decide +kernel
theorem d_135_434 : decode (mB 135) 434 = .ok ((.goto (-134)), 3) := by decide +kernel
theorem d_135_437 : decode (mB 135) 437 = .ok ((.aload_n 0), 1) := by decide +kernel
theorem d_135_438 : decode (mB 135) 438 = .ok ((.getfield 53), 3) := by decide +kernel
