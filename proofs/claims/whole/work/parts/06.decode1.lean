theorem d_32_4 : decode (mB 32) 4 = .ok ((.iload_n 2), 1) := by decide +kernel
theorem d_32_5 : decode (mB 32) 5 = .ok ((.bipush 71), 2) := by decide +kernel
theorem d_32_7 : decode (mB 32) 7 = .ok ((.if_icmp .ne 7), 3) := by decide +kernel
theorem d_32_10 : decode (mB 32) 10 = .ok ((.iconst 1), 1) := by decide +kernel
theorem d_32_11 : decode (mB 32) 11 = .ok ((.goto 4), 3) := by decide +kernel
theorem d_32_14 : decode (mB 32) 14 = .ok ((.iconst 0), 1) := by decide +kernel
theorem d_32_15 : decode (mB 32) 15 = .ok (.ireturn, 1) := by decide +kernel
theorem d_32_16 : decode (mB 32) 16 = .ok ((.aload_n 0), 1) := by decide +kernel
theorem d_32_17 : decode (mB 32) 17 = .ok ((.getfield 22), 3) := by decide +kernel
theorem d_32_20 : decode (mB 32) 20 = .ok ((.bipush 82), 2) := by decide +kernel
theorem d_32_22 : decode (mB 32) 22 = .ok ((.if_icmp .ne 12), 3) := by decide +kernel
theorem d_32_25 : decode (mB 32) 25 = .ok ((.aload_n 0), 1) := by decide +kernel
theorem d_32_26 : decode (mB 32) 26 = .ok ((.iload_n 2), 1) := by decide +kernel
theorem d_32_27 : decode (mB 32) 27 = .ok ((.bipush 48), 2) := by decide +kernel
theorem d_32_29 : decode (mB 32) 29 = .ok (.isub, 1) := by decide +kernel
theorem d_32_30 : decode (mB 32) 30 = .ok ((.invokevirtual 49), 3) := by decide +kernel
theorem d_32_33 : decode (mB 32) 33 = .ok (.ireturn, 1) := by decide +kernel
theorem d_32_34 : decode (mB 32) 34 = .ok ((.aload_n 0), 1) := by decide +kernel
theorem d_32_35 : decode (mB 32) 35 = .ok ((.getfield 22), 3) := by decide +kernel
theorem d_32_38 : decode (mB 32) 38 = .ok ((.bipush 87), 2) := by decide +kernel
theorem d_32_40 : decode (mB 32) 40 = .ok ((.if_icmp .ne 12), 3) := by decide +kernel
theorem d_32_43 : decode (mB 32) 43 = .ok ((.aload_n 0), 1) := by decide +kernel
theorem d_32_44 : decode (mB 32) 44 = .ok ((.iload_n 2), 1) := by decide +kernel
theorem d_32_45 : decode (mB 32) 45 = .ok ((.bipush 48), 2) := by decide +kernel
theorem d_32_47 : decode (mB 32) 47 = .ok (.isub, 1) := by decide +kernel
theorem d_32_48 : decode (mB 32) 48 = .ok ((.invokevirtual 53), 3) := by decide +kernel
theorem d_32_51 : decode (mB 32) 51 = .ok (.ireturn, 1) := by decide +kernel
theorem d_32_52 : decode (mB 32) 52 = .ok ((.aload_n 0), 1) := by decide +kernel
theorem d_32_53 : decode (mB 32) 53 = .ok ((.iload_n 2), 1) := by decide +kernel
theorem d_32_54 : decode (mB 32) 54 = .ok ((.invokevirtual 56), 3) := by decide +kernel
theorem d_32_57 : decode (mB 32) 57 = .ok (.ireturn, 1) := by decide +kernel
theorem d_33_0 : decode (mB 33) 0 = .ok ((.aload_n 0), 1) := by decide +kernel
theorem d_33_1 : decode (mB 33) 1 = .ok ((.getfield 26), 3) := by decide +kernel
theorem d_33_4 : decode (mB 33) 4 = .ok ((.ifCond .eq 11), 3) := by decide +kernel
theorem d_33_7 : decode (mB 33) 7 = .ok ((.aload_n 0), 1) := by decide +kernel
theorem d_33_8 : decode (mB 33) 8 = .ok ((.getfield 26), 3) := by decide +kernel
theorem d_33_11 : decode (mB 33) 11 = .ok ((.iconst 2), 1) := by decide +kernel
theorem d_33_12 : decode (mB 33) 12 = .ok ((.if_icmp .ne 7), 3) := by decide +kernel
theorem d_33_15 : decode (mB 33) 15 = .ok ((.iconst 1), 1) := by decide +kernel
theorem d_33_16 : decode (mB 33) 16 = .ok ((.goto 4), 3) := by decide +kernel
theorem d_33_19 : decode (mB 33) 19 = .ok ((.iconst 0), 1) := by decide +kernel
theorem d_33_20 : decode (mB 33) 20 = .ok ((.istore_n 2), 1) := by decide +kernel
theorem d_33_21 : decode (mB 33) 21 = .ok ((.iload_n 1), 1) := by decide +kernel
theorem d_33_22 : decode (mB 33) 22 = .ok ((.iload_n 2), 1) := by decide +kernel
theorem d_33_23 : decode (mB 33) 23 = .ok ((.ifCond .eq 7), 3) := by decide +kernel
theorem d_33_26 : decode (mB 33) 26 = .ok ((.iconst 0), 1) := by decide +kernel
theorem d_33_27 : decode (mB 33) 27 = .ok ((.goto 4), 3) := by decide +kernel
theorem d_33_30 : decode (mB 33) 30 = .ok ((.iconst 1), 1) := by decide +kernel
theorem d_33_31 : decode (mB 33) 31 = .ok ((.bipush 9), 2) := by decide +kernel
theorem d_33_33 : decode (mB 33) 33 = .ok ((.invokestatic 66), 3) := by decide +kernel
theorem d_33_36 : decode (mB 33) 36 = .ok ((.ifCond .ne 5), 3) := by decide +kernel
theorem d_33_39 : decode (mB 33) 39 = .ok ((.iconst 0), 1) := by decide +kernel
theorem d_33_40 : decode (mB 33) 40 = .ok (.ireturn, 1) := by decide +kernel
theorem d_33_41 : decode (mB 33) 41 = .ok ((.aload_n 0), 1) := by decide +kernel
theorem d_33_42 : decode (mB 33) 42 = .ok ((.getfield 26), 3) := by decide +kernel
theorem d_33_45 : decode (mB 33) 45 = .ok ((.ifCond .lt 25), 3) := by decide +kernel
theorem d_33_48 : decode (mB 33) 48 = .ok ((.aload_n 0), 1) := by decide +kernel
theorem d_33_49 : decode (mB 33) 49 = .ok ((.getfield 26), 3) := by decide +kernel
theorem d_33_52 : decode (mB 33) 52 = .ok ((.aload_n 0), 1) := by decide +kernel
theorem d_33_53 : decode (mB 33) 53 = .ok ((.getfield 18), 3) := by decide +kernel
theorem d_33_56 : decode (mB 33) 56 = .ok (.arraylength, 1) := by decide +kernel
theorem d_33_57 : decode (mB 33) 57 = .ok ((.if_icmp .ge 13), 3) := by decide +kernel
theorem d_33_60 : decode (mB 33) 60 = .ok ((.aload_n 0), 1) := by decide +kernel
theorem d_33_61 : decode (mB 33) 61 = .ok ((.getfield 18), 3) := by decide +kernel
theorem d_33_64 : decode (mB 33) 64 = .ok ((.aload_n 0), 1) := by decide +kernel
theorem d_33_65 : decode (mB 33) 65 = .ok ((.getfield 26), 3) := by decide +kernel
theorem d_33_68 : decode (mB 33) 68 = .ok ((.iload_n 1), 1) := by decide +kernel
theorem d_33_69 : decode (mB 33) 69 = .ok (.iastore, 1) := by decide +kernel
theorem d_33_70 : decode (mB 33) 70 = .ok ((.aload_n 0), 1) := by decide +kernel
theorem d_33_71 : decode (mB 33) 71 = .ok (.dup, 1) := by decide +kernel
theorem d_33_72 : decode (mB 33) 72 = .ok ((.getfield 26), 3) := by decide +kernel
theorem d_33_75 : decode (mB 33) 75 = .ok ((.iconst 1), 1) := by decide +kernel
theorem d_33_76 : decode (mB 33) 76 = .ok (.iadd, 1) := by decide +kernel
theorem d_33_77 : decode (mB 33) 77 = .ok ((.putfield 26), 3) := by decide +kernel
theorem d_33_80 : decode (mB 33) 80 = .ok ((.aload_n 0), 1) := by decide +kernel
theorem d_33_81 : decode (mB 33) 81 = .ok ((.getfield 26), 3) := by decide +kernel
theorem d_33_84 : decode (mB 33) 84 = .ok ((.iconst 4), 1) := by decide +kernel
theorem d_33_85 : decode (mB 33) 85 = .ok ((.if_icmp .ne 39), 3) := by decide +kernel
theorem d_33_88 : decode (mB 33) 88 = .ok ((.aload_n 0), 1) := by decide +kernel
theorem d_33_89 : decode (mB 33) 89 = .ok ((.getfield 12), 3) := by decide +kernel
theorem d_33_92 : decode (mB 33) 92 = .ok ((.aload_n 0), 1) := by decide +kernel
theorem d_33_93 : decode (mB 33) 93 = .ok ((.getfield 18), 3) := by decide +kernel
theorem d_33_96 : decode (mB 33) 96 = .ok ((.iconst 0), 1) := by decide +kernel
theorem d_33_97 : decode (mB 33) 97 = .ok (.iaload, 1) := by decide +kernel
theorem d_33_98 : decode (mB 33) 98 = .ok ((.aload_n 0), 1) := by decide +kernel
theorem d_33_99 : decode (mB 33) 99 = .ok ((.getfield 18), 3) := by decide +kernel
theorem d_33_102 : decode (mB 33) 102 = .ok ((.iconst 1), 1) := by decide +kernel
theorem d_33_103 : decode (mB 33) 103 = .ok (.iaload, 1) := by decide +kernel
theorem d_33_104 : decode (mB 33) 104 = .ok ((.aload_n 0), 1) := by decide +kernel
theorem d_33_105 : decode (mB 33) 105 = .ok ((.getfield 18), 3) := by decide +kernel
theorem d_33_108 : decode (mB 33) 108 = .ok ((.iconst 2), 1) := by decide +kernel
theorem d_33_109 : decode (mB 33) 109 = .ok (.iaload, 1) := by decide +kernel
theorem d_33_110 : decode (mB 33) 110 = .ok ((.aload_n 0), 1) := by decide +kernel
theorem d_33_111 : decode (mB 33) 111 = .ok ((.getfield 18), 3) := by decide +kernel
theorem d_33_114 : decode (mB 33) 114 = .ok ((.iconst 3), 1) := by decide +kernel
theorem d_33_115 : decode (mB 33) 115 = .ok (.iaload, 1) := by decide +kernel
theorem d_33_116 : decode (mB 33) 116 = .ok ((.invokevirtual 70), 3) := by decide +kernel
theorem d_33_119 : decode (mB 33) 119 = .ok ((.aload_n 0), 1) := by decide +kernel
theorem d_33_120 : decode (mB 33) 120 = .ok ((.iconst 0), 1) := by decide +kernel
theorem d_33_121 : decode (mB 33) 121 = .ok ((.putfield 22), 3) := by decide +kernel
theorem d_33_124 : decode (mB 33) 124 = .ok ((.iconst 1), 1) := by decide +kernel
theorem d_33_125 : decode (mB 33) 125 = .ok (.ireturn, 1) := by decide +kernel
theorem d_34_0 : decode (mB 34) 0 = .ok ((.aload_n 0), 1) := by decide +kernel
theorem d_34_1 : decode (mB 34) 1 = .ok ((.getfield 26), 3) := by decide +kernel
theorem d_34_4 : decode (mB 34) 4 = .ok ((.ifCond .ne 27), 3) := by decide +kernel
theorem d_34_7 : decode (mB 34) 7 = .ok ((.aload_n 0), 1) := by decide +kernel
theorem d_34_8 : decode (mB 34) 8 = .ok ((.iload_n 1), 1) := by decide +kernel
theorem d_34_9 : decode (mB 34) 9 = .ok ((.putfield 29), 3) := by decide +kernel
theorem d_34_12 : decode (mB 34) 12 = .ok ((.aload_n 0), 1) := by decide +kernel
theorem d_34_13 : decode (mB 34) 13 = .ok (.dup, 1) := by decide +kernel
theorem d_34_14 : decode (mB 34) 14 = .ok ((.getfield 26), 3) := by decide +kernel
theorem d_34_17 : decode (mB 34) 17 = .ok ((.iconst 1), 1) := by decide +kernel
theorem d_34_18 : decode (mB 34) 18 = .ok (.iadd, 1) := by decide +kernel
theorem d_34_19 : decode (mB 34) 19 = .ok ((.putfield 26), 3) := by decide +kernel
theorem d_34_22 : decode (mB 34) 22 = .ok ((.aload_n 0), 1) := by decide +kernel
theorem d_34_23 : decode (mB 34) 23 = .ok ((.getfield 12), 3) := by decide +kernel
theorem d_34_26 : decode (mB 34) 26 = .ok ((.iload_n 1), 1) := by decide +kernel
theorem d_34_27 : decode (mB 34) 27 = .ok ((.invokevirtual 74), 3) := by decide +kernel
theorem d_34_30 : decode (mB 34) 30 = .ok (.ireturn, 1) := by decide +kernel
theorem d_34_31 : decode (mB 34) 31 = .ok ((.iload_n 1), 1) := by decide +kernel
theorem d_34_32 : decode (mB 34) 32 = .ok ((.iconst 1), 1) := by decide +kernel
theorem d_34_33 : decode (mB 34) 33 = .ok ((.bipush 9), 2) := by decide +kernel
theorem d_34_35 : decode (mB 34) 35 = .ok ((.invokestatic 66), 3) := by decide +kernel
theorem d_34_38 : decode (mB 34) 38 = .ok ((.ifCond .ne 5), 3) := by decide +kernel
theorem d_34_41 : decode (mB 34) 41 = .ok ((.iconst 0), 1) := by decide +kernel
theorem d_34_42 : decode (mB 34) 42 = .ok (.ireturn, 1) := by decide +kernel
theorem d_34_43 : decode (mB 34) 43 = .ok ((.aload_n 0), 1) := by decide +kernel
theorem d_34_44 : decode (mB 34) 44 = .ok ((.getfield 12), 3) := by decide +kernel
theorem d_34_47 : decode (mB 34) 47 = .ok ((.aload_n 0), 1) := by decide +kernel
theorem d_34_48 : decode (mB 34) 48 = .ok ((.getfield 29), 3) := by decide +kernel
theorem d_34_51 : decode (mB 34) 51 = .ok ((.iload_n 1), 1) := by decide +kernel
theorem d_34_52 : decode (mB 34) 52 = .ok ((.invokevirtual 77), 3) := by decide +kernel
theorem d_34_55 : decode (mB 34) 55 = .ok ((.aload_n 0), 1) := by decide +kernel
theorem d_34_56 : decode (mB 34) 56 = .ok ((.iconst 0), 1) := by decide +kernel
theorem d_34_57 : decode (mB 34) 57 = .ok ((.putfield 22), 3) := by decide +kernel
theorem d_34_60 : decode (mB 34) 60 = .ok ((.iconst 1), 1) := by decide +kernel
theorem d_34_61 : decode (mB 34) 61 = .ok (.ireturn, 1) := by decide +kernel
theorem d_35_0 : decode (mB 35) 0 = .ok ((.iload_n 1), 1) := by decide +kernel
theorem d_35_1 : decode (mB 35) 1 = .ok ((.bipush 82), 2) := by decide +kernel
theorem d_35_3 : decode (mB 35) 3 = .ok ((.if_icmp .ne 13), 3) := by decide +kernel
theorem d_35_6 : decode (mB 35) 6 = .ok ((.aload_n 0), 1) := by decide +kernel
theorem d_35_7 : decode (mB 35) 7 = .ok ((.getfield 12), 3) := by decide +kernel
theorem d_35_10 : decode (mB 35) 10 = .ok ((.invokevirtual 59), 3) := by decide +kernel
theorem d_35_13 : decode (mB 35) 13 = .ok ((.ifCond .ne 19), 3) := by decide +kernel
theorem d_35_16 : decode (mB 35) 16 = .ok ((.iload_n 1), 1) := by decide +kernel
theorem d_35_17 : decode (mB 35) 17 = .ok ((.bipush 87), 2) := by decide +kernel
theorem d_35_19 : decode (mB 35) 19 = .ok ((.if_icmp .ne 17), 3) := by decide +kernel
theorem d_35_22 : decode (mB 35) 22 = .ok ((.aload_n 0), 1) := by decide +kernel
theorem d_35_23 : decode (mB 35) 23 = .ok ((.getfield 12), 3) := by decide +kernel
theorem d_35_26 : decode (mB 35) 26 = .ok ((.invokevirtual 63), 3) := by decide +kernel
theorem d_35_29 : decode (mB 35) 29 = .ok ((.ifCond .eq 7), 3) := by decide +kernel
theorem d_35_32 : decode (mB 35) 32 = .ok ((.iconst 1), 1) := by decide +kernel
theorem d_35_33 : decode (mB 35) 33 = .ok ((.goto 4), 3) := by decide +kernel
theorem d_35_36 : decode (mB 35) 36 = .ok ((.iconst 0), 1) := by decide +kernel
theorem d_35_37 : decode (mB 35) 37 = .ok ((.istore_n 2), 1) := by decide +kernel
theorem d_35_38 : decode (mB 35) 38 = .ok ((.iload_n 2), 1) := by decide +kernel
theorem d_35_39 : decode (mB 35) 39 = .ok ((.ifCond .eq 13), 3) := by decide +kernel
theorem d_35_42 : decode (mB 35) 42 = .ok ((.aload_n 0), 1) := by decide +kernel
theorem d_35_43 : decode (mB 35) 43 = .ok ((.iload_n 1), 1) := by decide +kernel
theorem d_35_44 : decode (mB 35) 44 = .ok ((.putfield 22), 3) := by decide +kernel
theorem d_35_47 : decode (mB 35) 47 = .ok ((.aload_n 0), 1) := by decide +kernel
theorem d_35_48 : decode (mB 35) 48 = .ok ((.iconst 0), 1) := by decide +kernel
theorem d_35_49 : decode (mB 35) 49 = .ok ((.putfield 26), 3) := by decide +kernel
theorem d_35_52 : decode (mB 35) 52 = .ok ((.iload_n 2), 1) := by decide +kernel
theorem d_35_53 : decode (mB 35) 53 = .ok (.ireturn, 1) := by decide +kernel
theorem d_36_0 : decode (mB 36) 0 = .ok ((.aload_n 0), 1) := by decide +kernel
theorem d_36_1 : decode (mB 36) 1 = .ok ((.getfield 12), 3) := by decide +kernel
theorem d_36_4 : decode (mB 36) 4 = .ok (.areturn, 1) := by decide +kernel
theorem d_37_0 : decode (mB 37) 0 = .ok ((.aload_n 0), 1) := by decide +kernel
theorem d_37_1 : decode (mB 37) 1 = .ok ((.invokespecial 3), 3) := by decide +kernel
theorem d_37_4 : decode (mB 37) 4 = .ok ((.aload_n 0), 1) := by decide +kernel
theorem d_37_5 : decode (mB 37) 5 = .ok ((.bipush 6), 2) := by decide +kernel
theorem d_37_7 : decode (mB 37) 7 = .ok ((.newarray .int), 2) := by decide +kernel
theorem d_37_9 : decode (mB 37) 9 = .ok ((.putfield 9), 3) := by decide +kernel
theorem d_37_12 : decode (mB 37) 12 = .ok ((.aload_n 0), 1) := by decide +kernel
theorem d_37_13 : decode (mB 37) 13 = .ok ((.bipush 6), 2) := by decide +kernel
theorem d_37_15 : decode (mB 37) 15 = .ok ((.newarray .int), 2) := by decide +kernel
theorem d_37_17 : decode (mB 37) 17 = .ok ((.putfield 15), 3) := by decide +kernel
theorem d_37_20 : decode (mB 37) 20 = .ok ((.aload_n 0), 1) := by decide +kernel
theorem d_37_21 : decode (mB 37) 21 = .ok ((.bipush 6), 2) := by decide +kernel
theorem d_37_23 : decode (mB 37) 23 = .ok ((.newarray .int), 2) := by decide +kernel
theorem d_37_25 : decode (mB 37) 25 = .ok ((.putfield 18), 3) := by decide +kernel
theorem d_37_28 : decode (mB 37) 28 = .ok ((.aload_n 0), 1) := by decide +kernel
theorem d_37_29 : decode (mB 37) 29 = .ok ((.bipush 6), 2) := by decide +kernel
theorem d_37_31 : decode (mB 37) 31 = .ok ((.newarray .int), 2) := by decide +kernel
theorem d_37_33 : decode (mB 37) 33 = .ok ((.putfield 21), 3) := by decide +kernel
theorem d_37_36 : decode (mB 37) 36 = .ok ((.aload_n 0), 1) := by decide +kernel
theorem d_37_37 : decode (mB 37) 37 = .ok ((.bipush 6), 2) := by decide +kernel
theorem d_37_39 : decode (mB 37) 39 = .ok ((.newarray .int), 2) := by decide +kernel
theorem d_37_41 : decode (mB 37) 41 = .ok ((.putfield 24), 3) := by decide +kernel
theorem d_37_44 : decode (mB 37) 44 = .ok ((.aload_n 0), 1) := by decide +kernel
theorem d_37_45 : decode (mB 37) 45 = .ok ((.iconst 0), 1) := by decide +kernel
theorem d_37_46 : decode (mB 37) 46 = .ok ((.putfield 27), 3) := by decide +kernel
theorem d_37_49 : decode (mB 37) 49 = .ok (.return_, 1) := by decide +kernel
theorem d_38_0 : decode (mB 38) 0 = .ok ((.aload_n 0), 1) := by decide +kernel
theorem d_38_1 : decode (mB 38) 1 = .ok ((.iconst 0), 1) := by decide +kernel
theorem d_38_2 : decode (mB 38) 2 = .ok ((.putfield 27), 3) := by decide +kernel
theorem d_38_5 : decode (mB 38) 5 = .ok (.return_, 1) := by decide +kernel
theorem d_39_0 : decode (mB 39) 0 = .ok ((.aload_n 0), 1) := by decide +kernel
theorem d_39_1 : decode (mB 39) 1 = .ok ((.getfield 27), 3) := by decide +kernel
theorem d_39_4 : decode (mB 39) 4 = .ok ((.ifCond .lt 12), 3) := by decide +kernel
theorem d_39_7 : decode (mB 39) 7 = .ok ((.aload_n 0), 1) := by decide +kernel
theorem d_39_8 : decode (mB 39) 8 = .ok ((.getfield 27), 3) := by decide +kernel
theorem d_39_11 : decode (mB 39) 11 = .ok ((.bipush 6), 2) := by decide +kernel
theorem d_39_13 : decode (mB 39) 13 = .ok ((.if_icmp .lt 4), 3) := by decide +kernel
theorem d_39_16 : decode (mB 39) 16 = .ok (.return_, 1) := by decide +kernel
theorem d_39_17 : decode (mB 39) 17 = .ok ((.aload_n 0), 1) := by decide +kernel
theorem d_39_18 : decode (mB 39) 18 = .ok ((.getfield 9), 3) := by decide +kernel
theorem d_39_21 : decode (mB 39) 21 = .ok ((.aload_n 0), 1) := by decide +kernel
theorem d_39_22 : decode (mB 39) 22 = .ok ((.getfield 27), 3) := by decide +kernel
theorem d_39_25 : decode (mB 39) 25 = .ok ((.iload_n 1), 1) := by decide +kernel
theorem d_39_26 : decode (mB 39) 26 = .ok (.iastore, 1) := by decide +kernel
theorem d_39_27 : decode (mB 39) 27 = .ok ((.aload_n 0), 1) := by decide +kernel
theorem d_39_28 : decode (mB 39) 28 = .ok ((.getfield 15), 3) := by decide +kernel
theorem d_39_31 : decode (mB 39) 31 = .ok ((.aload_n 0), 1) := by decide +kernel
theorem d_39_32 : decode (mB 39) 32 = .ok ((.getfield 27), 3) := by decide +kernel
theorem d_39_35 : decode (mB 39) 35 = .ok ((.iload_n 2), 1) := by decide +kernel
theorem d_39_36 : decode (mB 39) 36 = .ok (.iastore, 1) := by decide +kernel
theorem d_39_37 : decode (mB 39) 37 = .ok ((.aload_n 0), 1) := by decide +kernel
theorem d_39_38 : decode (mB 39) 38 = .ok ((.getfield 18), 3) := by decide +kernel
theorem d_39_41 : decode (mB 39) 41 = .ok ((.aload_n 0), 1) := by decide +kernel
theorem d_39_42 : decode (mB 39) 42 = .ok ((.getfield 27), 3) := by decide +kernel
theorem d_39_45 : decode (mB 39) 45 = .ok ((.iload_n 3), 1) := by decide +kernel
theorem d_39_46 : decode (mB 39) 46 = .ok (.iastore, 1) := by decide +kernel
theorem d_39_47 : decode (mB 39) 47 = .ok ((.aload_n 0), 1) := by decide +kernel
theorem d_39_48 : decode (mB 39) 48 = .ok ((.getfield 21), 3) := by decide +kernel
theorem d_39_51 : decode (mB 39) 51 = .ok ((.aload_n 0), 1) := by decide +kernel
theorem d_39_52 : decode (mB 39) 52 = .ok ((.getfield 27), 3) := by decide +kernel
theorem d_39_55 : decode (mB 39) 55 = .ok ((.iload 4), 2) := by decide +kernel
theorem d_39_57 : decode (mB 39) 57 = .ok (.iastore, 1) := by decide +kernel
theorem d_39_58 : decode (mB 39) 58 = .ok ((.aload_n 0), 1) := by decide +kernel
theorem d_39_59 : decode (mB 39) 59 = .ok ((.getfield 24), 3) := by decide +kernel
theorem d_39_62 : decode (mB 39) 62 = .ok ((.aload_n 0), 1) := by decide +kernel
theorem d_39_63 : decode (mB 39) 63 = .ok ((.getfield 27), 3) := by decide +kernel
theorem d_39_66 : decode (mB 39) 66 = .ok ((.iconst 0), 1) := by decide +kernel
theorem d_39_67 : decode (mB 39) 67 = .ok (.iastore, 1) := by decide +kernel
theorem d_39_68 : decode (mB 39) 68 = .ok ((.aload_n 0), 1) := by decide +kernel
theorem d_39_69 : decode (mB 39) 69 = .ok (.dup, 1) := by decide +kernel
theorem d_39_70 : decode (mB 39) 70 = .ok ((.getfield 27), 3) := by decide +kernel
theorem d_39_73 : decode (mB 39) 73 = .ok ((.iconst 1), 1) := by decide +kernel
theorem d_39_74 : decode (mB 39) 74 = .ok (.iadd, 1) := by decide +kernel
theorem d_39_75 : decode (mB 39) 75 = .ok ((.putfield 27), 3) := by decide +kernel
theorem d_39_78 : decode (mB 39) 78 = .ok (.return_, 1) := by decide +kernel
theorem d_40_0 : decode (mB 40) 0 = .ok ((.aload_n 0), 1) := by decide +kernel
theorem d_40_1 : decode (mB 40) 1 = .ok ((.iload_n 1), 1) := by decide +kernel
theorem d_40_2 : decode (mB 40) 2 = .ok ((.invokevirtual 31), 3) := by decide +kernel
theorem d_40_5 : decode (mB 40) 5 = .ok ((.ifCond .eq 16), 3) := by decide +kernel
theorem d_40_8 : decode (mB 40) 8 = .ok ((.aload_n 0), 1) := by decide +kernel
theorem d_40_9 : decode (mB 40) 9 = .ok ((.getfield 24), 3) := by decide +kernel
theorem d_40_12 : decode (mB 40) 12 = .ok ((.iload_n 1), 1) := by decide +kernel
theorem d_40_13 : decode (mB 40) 13 = .ok (.iaload, 1) := by decide +kernel
theorem d_40_14 : decode (mB 40) 14 = .ok ((.ifCond .ne 7), 3) := by decide +kernel
theorem d_40_17 : decode (mB 40) 17 = .ok ((.iconst 1), 1) := by decide +kernel
theorem d_40_18 : decode (mB 40) 18 = .ok ((.goto 4), 3) := by decide +kernel
theorem d_40_21 : decode (mB 40) 21 = .ok ((.iconst 0), 1) := by decide +kernel
theorem d_40_22 : decode (mB 40) 22 = .ok (.ireturn, 1) := by decide +kernel
theorem d_41_0 : decode (mB 41) 0 = .ok ((.iload_n 1), 1) := by decide +kernel
theorem d_41_1 : decode (mB 41) 1 = .ok ((.ifCond .lt 21), 3) := by decide +kernel
theorem d_41_4 : decode (mB 41) 4 = .ok ((.iload_n 1), 1) := by decide +kernel
theorem d_41_5 : decode (mB 41) 5 = .ok ((.aload_n 0), 1) := by decide +kernel
theorem d_41_6 : decode (mB 41) 6 = .ok ((.getfield 27), 3) := by decide +kernel
theorem d_41_9 : decode (mB 41) 9 = .ok ((.if_icmp .ge 13), 3) := by decide +kernel
theorem d_41_12 : decode (mB 41) 12 = .ok ((.iload_n 1), 1) := by decide +kernel
theorem d_41_13 : decode (mB 41) 13 = .ok ((.bipush 6), 2) := by decide +kernel
theorem d_41_15 : decode (mB 41) 15 = .ok ((.if_icmp .ge 7), 3) := by decide +kernel
theorem d_41_18 : decode (mB 41) 18 = .ok ((.iconst 1), 1) := by decide +kernel
theorem d_41_19 : decode (mB 41) 19 = .ok ((.goto 4), 3) := by decide +kernel
theorem d_41_22 : decode (mB 41) 22 = .ok ((.iconst 0), 1) := by decide +kernel
theorem d_41_23 : decode (mB 41) 23 = .ok (.ireturn, 1) := by decide +kernel
theorem d_42_0 : decode (mB 42) 0 = .ok ((.aload_n 0), 1) := by decide +kernel
theorem d_42_1 : decode (mB 42) 1 = .ok ((.iload_n 1), 1) := by decide +kernel
theorem d_42_2 : decode (mB 42) 2 = .ok ((.invokevirtual 31), 3) := by decide +kernel
theorem d_42_5 : decode (mB 42) 5 = .ok ((.ifCond .eq 10), 3) := by decide +kernel
theorem d_42_8 : decode (mB 42) 8 = .ok ((.aload_n 0), 1) := by decide +kernel
theorem d_42_9 : decode (mB 42) 9 = .ok ((.getfield 24), 3) := by decide +kernel
theorem d_42_12 : decode (mB 42) 12 = .ok ((.iload_n 1), 1) := by decide +kernel
theorem d_42_13 : decode (mB 42) 13 = .ok ((.iload_n 2), 1) := by decide +kernel
theorem d_42_14 : decode (mB 42) 14 = .ok (.iastore, 1) := by decide +kernel
theorem d_42_15 : decode (mB 42) 15 = .ok (.return_, 1) := by decide +kernel
theorem d_43_0 : decode (mB 43) 0 = .ok ((.aload_n 0), 1) := by decide +kernel
theorem d_43_1 : decode (mB 43) 1 = .ok ((.getfield 27), 3) := by decide +kernel
theorem d_43_4 : decode (mB 43) 4 = .ok ((.bipush 6), 2) := by decide +kernel
theorem d_43_6 : decode (mB 43) 6 = .ok ((.if_icmp .ge 7), 3) := by decide +kernel
theorem d_43_9 : decode (mB 43) 9 = .ok ((.iconst 1), 1) := by decide +kernel
theorem d_43_10 : decode (mB 43) 10 = .ok ((.goto 4), 3) := by decide +kernel
theorem d_43_13 : decode (mB 43) 13 = .ok ((.iconst 0), 1) := by decide +kernel
theorem d_43_14 : decode (mB 43) 14 = .ok (.ireturn, 1) := by decide +kernel
theorem d_44_0 : decode (mB 44) 0 = .ok ((.iconst 0), 1) := by decide +kernel
theorem d_44_1 : decode (mB 44) 1 = .ok ((.istore_n 1), 1) := by decide +kernel
theorem d_44_2 : decode (mB 44) 2 = .ok ((.iload_n 1), 1) := by decide +kernel
theorem d_44_3 : decode (mB 44) 3 = .ok ((.aload_n 0), 1) := by decide +kernel
theorem d_44_4 : decode (mB 44) 4 = .ok ((.getfield 27), 3) := by decide +kernel
theorem d_44_7 : decode (mB 44) 7 = .ok ((.if_icmp .ge 19), 3) := by decide +kernel
theorem d_44_10 : decode (mB 44) 10 = .ok ((.aload_n 0), 1) := by decide +kernel
theorem d_44_11 : decode (mB 44) 11 = .ok ((.iload_n 1), 1) := by decide +kernel
theorem d_44_12 : decode (mB 44) 12 = .ok ((.invokevirtual 35), 3) := by decide +kernel
theorem d_44_15 : decode (mB 44) 15 = .ok ((.ifCond .eq 5), 3) := by decide +kernel
theorem d_44_18 : decode (mB 44) 18 = .ok ((.iconst 1), 1) := by decide +kernel
theorem d_44_19 : decode (mB 44) 19 = .ok (.ireturn, 1) := by decide +kernel
theorem d_44_20 : decode (mB 44) 20 = .ok ((.iinc 1 1), 3) := by decide +kernel
theorem d_44_23 : decode (mB 44) 23 = .ok ((.goto (-21)), 3) := by decide +kernel
theorem d_44_26 : decode (mB 44) 26 = .ok ((.iconst 0), 1) := by decide +kernel
theorem d_44_27 : decode (mB 44) 27 = .ok (.ireturn, 1) := by decide +kernel
theorem d_45_0 : decode (mB 45) 0 = .ok ((.aload_n 0), 1) := by decide +kernel
theorem d_45_1 : decode (mB 45) 1 = .ok ((.invokevirtual 38), 3) := by decide +kernel
theorem d_45_4 : decode (mB 45) 4 = .ok ((.iconst 0), 1) := by decide +kernel
theorem d_45_5 : decode (mB 45) 5 = .ok ((.istore_n 2), 1) := by decide +kernel
theorem d_45_6 : decode (mB 45) 6 = .ok ((.aload_n 1), 1) := by decide +kernel
theorem d_45_7 : decode (mB 45) 7 = .ok ((.iload_n 2), 1) := by decide +kernel
theorem d_45_8 : decode (mB 45) 8 = .ok ((.invokevirtual 31), 3) := by decide +kernel
theorem d_45_11 : decode (mB 45) 11 = .ok ((.ifCond .eq 54), 3) := by decide +kernel
theorem d_45_14 : decode (mB 45) 14 = .ok ((.iload_n 2), 1) := by decide +kernel
theorem d_45_15 : decode (mB 45) 15 = .ok ((.bipush 6), 2) := by decide +kernel
theorem d_45_17 : decode (mB 45) 17 = .ok ((.if_icmp .ge 48), 3) := by decide +kernel
theorem d_45_20 : decode (mB 45) 20 = .ok ((.aload_n 0), 1) := by decide +kernel
theorem d_45_21 : decode (mB 45) 21 = .ok ((.aload_n 1), 1) := by decide +kernel
theorem d_45_22 : decode (mB 45) 22 = .ok ((.getfield 9), 3) := by decide +kernel
theorem d_45_25 : decode (mB 45) 25 = .ok ((.iload_n 2), 1) := by decide +kernel
theorem d_45_26 : decode (mB 45) 26 = .ok (.iaload, 1) := by decide +kernel
theorem d_45_27 : decode (mB 45) 27 = .ok ((.aload_n 1), 1) := by decide +kernel
theorem d_45_28 : decode (mB 45) 28 = .ok ((.getfield 15), 3) := by decide +kernel
theorem d_45_31 : decode (mB 45) 31 = .ok ((.iload_n 2), 1) := by decide +kernel
theorem d_45_32 : decode (mB 45) 32 = .ok (.iaload, 1) := by decide +kernel
theorem d_45_33 : decode (mB 45) 33 = .ok ((.aload_n 1), 1) := by decide +kernel
theorem d_45_34 : decode (mB 45) 34 = .ok ((.getfield 18), 3) := by decide +kernel
theorem d_45_37 : decode (mB 45) 37 = .ok ((.iload_n 2), 1) := by decide +kernel
theorem d_45_38 : decode (mB 45) 38 = .ok (.iaload, 1) := by decide +kernel
theorem d_45_39 : decode (mB 45) 39 = .ok ((.aload_n 1), 1) := by decide +kernel
theorem d_45_40 : decode (mB 45) 40 = .ok ((.getfield 21), 3) := by decide +kernel
theorem d_45_43 : decode (mB 45) 43 = .ok ((.iload_n 2), 1) := by decide +kernel
theorem d_45_44 : decode (mB 45) 44 = .ok (.iaload, 1) := by decide +kernel
theorem d_45_45 : decode (mB 45) 45 = .ok ((.invokevirtual 41), 3) := by decide +kernel
theorem d_45_48 : decode (mB 45) 48 = .ok ((.aload_n 0), 1) := by decide +kernel
theorem d_45_49 : decode (mB 45) 49 = .ok ((.iload_n 2), 1) := by decide +kernel
theorem d_45_50 : decode (mB 45) 50 = .ok ((.aload_n 1), 1) := by decide +kernel
theorem d_45_51 : decode (mB 45) 51 = .ok ((.getfield 24), 3) := by decide +kernel
theorem d_45_54 : decode (mB 45) 54 = .ok ((.iload_n 2), 1) := by decide +kernel
theorem d_45_55 : decode (mB 45) 55 = .ok (.iaload, 1) := by decide +kernel
theorem d_45_56 : decode (mB 45) 56 = .ok ((.invokevirtual 45), 3) := by decide +kernel
theorem d_45_59 : decode (mB 45) 59 = .ok ((.iinc 2 1), 3) := by decide +kernel
theorem d_45_62 : decode (mB 45) 62 = .ok ((.goto (-56)), 3) := by decide +kernel
theorem d_45_65 : decode (mB 45) 65 = .ok (.return_, 1) := by decide +kernel
theorem d_46_0 : decode (mB 46) 0 = .ok ((.aload_n 0), 1) := by decide +kernel
theorem d_46_1 : decode (mB 46) 1 = .ok ((.iload_n 1), 1) := by decide +kernel
theorem d_46_2 : decode (mB 46) 2 = .ok ((.invokevirtual 31), 3) := by decide +kernel
theorem d_46_5 : decode (mB 46) 5 = .ok ((.ifCond .eq 12), 3) := by decide +kernel
theorem d_46_8 : decode (mB 46) 8 = .ok ((.aload_n 0), 1) := by decide +kernel
theorem d_46_9 : decode (mB 46) 9 = .ok ((.getfield 24), 3) := by decide +kernel
theorem d_46_12 : decode (mB 46) 12 = .ok ((.iload_n 1), 1) := by decide +kernel
theorem d_46_13 : decode (mB 46) 13 = .ok (.iaload, 1) := by decide +kernel
theorem d_46_14 : decode (mB 46) 14 = .ok ((.goto 4), 3) := by decide +kernel
theorem d_46_17 : decode (mB 46) 17 = .ok ((.iconst 0), 1) := by decide +kernel
theorem d_46_18 : decode (mB 46) 18 = .ok (.ireturn, 1) := by decide +kernel
theorem d_47_0 : decode (mB 47) 0 = .ok ((.aload_n 0), 1) := by decide +kernel
theorem d_47_1 : decode (mB 47) 1 = .ok ((.getfield 27), 3) := by decide +kernel
theorem d_47_4 : decode (mB 47) 4 = .ok (.ireturn, 1) := by decide +kernel
theorem d_48_0 : decode (mB 48) 0 = .ok ((.aload_n 0), 1) := by decide +kernel
theorem d_48_1 : decode (mB 48) 1 = .ok ((.iload_n 1), 1) := by decide +kernel
theorem d_48_2 : decode (mB 48) 2 = .ok ((.invokevirtual 31), 3) := by decide +kernel
theorem d_48_5 : decode (mB 48) 5 = .ok ((.ifCond .eq 12), 3) := by decide +kernel
theorem d_48_8 : decode (mB 48) 8 = .ok ((.aload_n 0), 1) := by decide +kernel
theorem d_48_9 : decode (mB 48) 9 = .ok ((.getfield 18), 3) := by decide +kernel
theorem d_48_12 : decode (mB 48) 12 = .ok ((.iload_n 1), 1) := by decide +kernel
theorem d_48_13 : decode (mB 48) 13 = .ok (.iaload, 1) := by decide +kernel
theorem d_48_14 : decode (mB 48) 14 = .ok ((.goto 4), 3) := by decide +kernel
theorem d_48_17 : decode (mB 48) 17 = .ok ((.iconst 0), 1) := by decide +kernel
theorem d_48_18 : decode (mB 48) 18 = .ok (.ireturn, 1) := by decide +kernel
theorem d_49_0 : decode (mB 49) 0 = .ok ((.aload_n 0), 1) := by decide +kernel
theorem d_49_1 : decode (mB 49) 1 = .ok ((.iload_n 1), 1) := by decide +kernel
theorem d_49_2 : decode (mB 49) 2 = .ok ((.invokevirtual 31), 3) := by decide +kernel
theorem d_49_5 : decode (mB 49) 5 = .ok ((.ifCond .eq 12), 3) := by decide +kernel
theorem d_49_8 : decode (mB 49) 8 = .ok ((.aload_n 0), 1) := by decide +kernel
theorem d_49_9 : decode (mB 49) 9 = .ok ((.getfield 9), 3) := by decide +kernel
theorem d_49_12 : decode (mB 49) 12 = .ok ((.iload_n 1), 1) := by decide +kernel
theorem d_49_13 : decode (mB 49) 13 = .ok (.iaload, 1) := by decide +kernel
theorem d_49_14 : decode (mB 49) 14 = .ok ((.goto 4), 3) := by decide +kernel
theorem d_49_17 : decode (mB 49) 17 = .ok ((.iconst 0), 1) := by decide +kernel
theorem d_49_18 : decode (mB 49) 18 = .ok (.ireturn, 1) := by decide +kernel
theorem d_50_0 : decode (mB 50) 0 = .ok ((.aload_n 0), 1) := by decide +kernel
theorem d_50_1 : decode (mB 50) 1 = .ok ((.iload_n 1), 1) := by decide +kernel
theorem d_50_2 : decode (mB 50) 2 = .ok ((.invokevirtual 31), 3) := by decide +kernel
theorem d_50_5 : decode (mB 50) 5 = .ok ((.ifCond .eq 12), 3) := by decide +kernel
theorem d_50_8 : decode (mB 50) 8 = .ok ((.aload_n 0), 1) := by decide +kernel
theorem d_50_9 : decode (mB 50) 9 = .ok ((.getfield 15), 3) := by decide +kernel
theorem d_50_12 : decode (mB 50) 12 = .ok ((.iload_n 1), 1) := by decide +kernel
theorem d_50_13 : decode (mB 50) 13 = .ok (.iaload, 1) := by decide +kernel
theorem d_50_14 : decode (mB 50) 14 = .ok ((.goto 4), 3) := by decide +kernel
theorem d_50_17 : decode (mB 50) 17 = .ok ((.iconst 0), 1) := by decide +kernel
theorem d_50_18 : decode (mB 50) 18 = .ok (.ireturn, 1) := by decide +kernel
theorem d_51_0 : decode (mB 51) 0 = .ok ((.aload_n 0), 1) := by decide +kernel
theorem d_51_1 : decode (mB 51) 1 = .ok ((.iload_n 1), 1) := by decide +kernel
theorem d_51_2 : decode (mB 51) 2 = .ok ((.invokevirtual 31), 3) := by decide +kernel
theorem d_51_5 : decode (mB 51) 5 = .ok ((.ifCond .eq 12), 3) := by decide +kernel
theorem d_51_8 : decode (mB 51) 8 = .ok ((.aload_n 0), 1) := by decide +kernel
theorem d_51_9 : decode (mB 51) 9 = .ok ((.getfield 21), 3) := by decide +kernel
theorem d_51_12 : decode (mB 51) 12 = .ok ((.iload_n 1), 1) := by decide +kernel
theorem d_51_13 : decode (mB 51) 13 = .ok (.iaload, 1) := by decide +kernel
theorem d_51_14 : decode (mB 51) 14 = .ok ((.goto 4), 3) := by decide +kernel
theorem d_51_17 : decode (mB 51) 17 = .ok ((.iconst 0), 1) := by decide +kernel
theorem d_51_18 : decode (mB 51) 18 = .ok (.ireturn, 1) := by decide +kernel
theorem d_52_0 : decode (mB 52) 0 = .ok ((.aload_n 0), 1) := by decide +kernel
theorem d_52_1 : decode (mB 52) 1 = .ok ((.invokespecial 1), 3) := by decide +kernel
theorem d_52_4 : decode (mB 52) 4 = .ok ((.aload_n 0), 1) := by decide +kernel
theorem d_52_5 : decode (mB 52) 5 = .ok ((.new 7), 3) := by decide +kernel
theorem d_52_8 : decode (mB 52) 8 = .ok (.dup, 1) := by decide +kernel
theorem d_52_9 : decode (mB 52) 9 = .ok ((.invokespecial 9), 3) := by decide +kernel
theorem d_52_12 : decode (mB 52) 12 = .ok ((.putfield 10), 3) := by decide +kernel
theorem d_52_15 : decode (mB 52) 15 = .ok ((.iconst 0), 1) := by decide +kernel
theorem d_52_16 : decode (mB 52) 16 = .ok ((.iload_n 1), 1) := by decide +kernel
theorem d_52_17 : decode (mB 52) 17 = .ok ((.invokestatic 16), 3) := by decide +kernel
theorem d_52_20 : decode (mB 52) 20 = .ok ((.istore_n 2), 1) := by decide +kernel
theorem d_52_21 : decode (mB 52) 21 = .ok ((.aload_n 0), 1) := by decide +kernel
theorem d_52_22 : decode (mB 52) 22 = .ok ((.iload_n 2), 1) := by decide +kernel
theorem d_52_23 : decode (mB 52) 23 = .ok ((.anewarray 7), 3) := by decide +kernel
theorem d_52_26 : decode (mB 52) 26 = .ok ((.putfield 22), 3) := by decide +kernel
theorem d_52_29 : decode (mB 52) 29 = .ok ((.aload_n 0), 1) := by decide +kernel
theorem d_52_30 : decode (mB 52) 30 = .ok ((.iload_n 2), 1) := by decide +kernel
theorem d_52_31 : decode (mB 52) 31 = .ok ((.newarray .boolean), 2) := by decide +kernel
theorem d_52_33 : decode (mB 52) 33 = .ok ((.putfield 26), 3) := by decide +kernel
theorem d_52_36 : decode (mB 52) 36 = .ok ((.iconst 0), 1) := by decide +kernel
theorem d_52_37 : decode (mB 52) 37 = .ok ((.istore_n 3), 1) := by decide +kernel
theorem d_52_38 : decode (mB 52) 38 = .ok ((.iload_n 3), 1) := by decide +kernel
theorem d_52_39 : decode (mB 52) 39 = .ok ((.iload_n 2), 1) := by decide +kernel
theorem d_52_40 : decode (mB 52) 40 = .ok ((.if_icmp .ge 22), 3) := by decide +kernel
theorem d_52_43 : decode (mB 52) 43 = .ok ((.aload_n 0), 1) := by decide +kernel
theorem d_52_44 : decode (mB 52) 44 = .ok ((.getfield 22), 3) := by decide +kernel
theorem d_52_47 : decode (mB 52) 47 = .ok ((.iload_n 3), 1) := by decide +kernel
theorem d_52_48 : decode (mB 52) 48 = .ok ((.new 7), 3) := by decide +kernel
theorem d_52_51 : decode (mB 52) 51 = .ok (.dup, 1) := by decide +kernel
theorem d_52_52 : decode (mB 52) 52 = .ok ((.invokespecial 9), 3) := by decide +kernel
theorem d_52_55 : decode (mB 52) 55 = .ok (.aastore, 1) := by decide +kernel
theorem d_52_56 : decode (mB 52) 56 = .ok ((.iinc 3 1), 3) := by decide +kernel
theorem d_52_59 : decode (mB 52) 59 = .ok ((.goto (-21)), 3) := by decide +kernel
theorem d_52_62 : decode (mB 52) 62 = .ok (.return_, 1) := by decide +kernel
theorem d_53_0 : decode (mB 53) 0 = .ok ((.iconst 0), 1) := by decide +kernel
theorem d_53_1 : decode (mB 53) 1 = .ok ((.istore_n 1), 1) := by decide +kernel
theorem d_53_2 : decode (mB 53) 2 = .ok ((.iload_n 1), 1) := by decide +kernel
theorem d_53_3 : decode (mB 53) 3 = .ok ((.aload_n 0), 1) := by decide +kernel
theorem d_53_4 : decode (mB 53) 4 = .ok ((.getfield 26), 3) := by decide +kernel
theorem d_53_7 : decode (mB 53) 7 = .ok (.arraylength, 1) := by decide +kernel
theorem d_53_8 : decode (mB 53) 8 = .ok ((.if_icmp .ge 16), 3) := by decide +kernel
theorem d_53_11 : decode (mB 53) 11 = .ok ((.aload_n 0), 1) := by decide +kernel
theorem d_53_12 : decode (mB 53) 12 = .ok ((.getfield 26), 3) := by decide +kernel
theorem d_53_15 : decode (mB 53) 15 = .ok ((.iload_n 1), 1) := by decide +kernel
theorem d_53_16 : decode (mB 53) 16 = .ok ((.iconst 0), 1) := by decide +kernel
theorem d_53_17 : decode (mB 53) 17 = .ok (.bastore, 1) := by decide +kernel
theorem d_53_18 : decode (mB 53) 18 = .ok ((.iinc 1 1), 3) := by decide +kernel
theorem d_53_21 : decode (mB 53) 21 = .ok ((.goto (-19)), 3) := by decide +kernel
theorem d_53_24 : decode (mB 53) 24 = .ok (.return_, 1) := by decide +kernel
theorem d_54_0 : decode (mB 54) 0 = .ok ((.aload_n 0), 1) := by decide +kernel
theorem d_54_1 : decode (mB 54) 1 = .ok ((.iload_n 1), 1) := by decide +kernel
theorem d_54_2 : decode (mB 54) 2 = .ok ((.invokevirtual 30), 3) := by decide +kernel
theorem d_54_5 : decode (mB 54) 5 = .ok ((.aload_n 2), 1) := by decide +kernel
theorem d_54_6 : decode (mB 54) 6 = .ok ((.invokevirtual 34), 3) := by decide +kernel
theorem d_54_9 : decode (mB 54) 9 = .ok ((.iload_n 1), 1) := by decide +kernel
theorem d_54_10 : decode (mB 54) 10 = .ok ((.ifCond .lt 19), 3) := by decide +kernel
theorem d_54_13 : decode (mB 54) 13 = .ok ((.iload_n 1), 1) := by decide +kernel
theorem d_54_14 : decode (mB 54) 14 = .ok ((.aload_n 0), 1) := by decide +kernel
theorem d_54_15 : decode (mB 54) 15 = .ok ((.getfield 26), 3) := by decide +kernel
theorem d_54_18 : decode (mB 54) 18 = .ok (.arraylength, 1) := by decide +kernel
theorem d_54_19 : decode (mB 54) 19 = .ok ((.if_icmp .ge 10), 3) := by decide +kernel
theorem d_54_22 : decode (mB 54) 22 = .ok ((.aload_n 0), 1) := by decide +kernel
theorem d_54_23 : decode (mB 54) 23 = .ok ((.getfield 26), 3) := by decide +kernel
theorem d_54_26 : decode (mB 54) 26 = .ok ((.iload_n 1), 1) := by decide +kernel
theorem d_54_27 : decode (mB 54) 27 = .ok ((.iconst 1), 1) := by decide +kernel
theorem d_54_28 : decode (mB 54) 28 = .ok (.bastore, 1) := by decide +kernel
theorem d_54_29 : decode (mB 54) 29 = .ok (.return_, 1) := by decide +kernel
theorem d_55_0 : decode (mB 55) 0 = .ok ((.iload_n 1), 1) := by decide +kernel
theorem d_55_1 : decode (mB 55) 1 = .ok ((.ifCond .lt 12), 3) := by decide +kernel
theorem d_55_4 : decode (mB 55) 4 = .ok ((.iload_n 1), 1) := by decide +kernel
theorem d_55_5 : decode (mB 55) 5 = .ok ((.aload_n 0), 1) := by decide +kernel
theorem d_55_6 : decode (mB 55) 6 = .ok ((.getfield 22), 3) := by decide +kernel
theorem d_55_9 : decode (mB 55) 9 = .ok (.arraylength, 1) := by decide +kernel
theorem d_55_10 : decode (mB 55) 10 = .ok ((.if_icmp .lt 8), 3) := by decide +kernel
theorem d_55_13 : decode (mB 55) 13 = .ok ((.aload_n 0), 1) := by decide +kernel
theorem d_55_14 : decode (mB 55) 14 = .ok ((.getfield 10), 3) := by decide +kernel
theorem d_55_17 : decode (mB 55) 17 = .ok (.areturn, 1) := by decide +kernel
theorem d_55_18 : decode (mB 55) 18 = .ok ((.aload_n 0), 1) := by decide +kernel
theorem d_55_19 : decode (mB 55) 19 = .ok ((.getfield 22), 3) := by decide +kernel
theorem d_55_22 : decode (mB 55) 22 = .ok ((.iload_n 1), 1) := by decide +kernel
theorem d_55_23 : decode (mB 55) 23 = .ok (.aaload, 1) := by decide +kernel
theorem d_55_24 : decode (mB 55) 24 = .ok ((.astore_n 2), 1) := by decide +kernel
theorem d_55_25 : decode (mB 55) 25 = .ok ((.aload_n 2), 1) := by decide +kernel
theorem d_55_26 : decode (mB 55) 26 = .ok ((.ifnonnull 10), 3) := by decide +kernel
theorem d_55_29 : decode (mB 55) 29 = .ok ((.aload_n 0), 1) := by decide +kernel
theorem d_55_30 : decode (mB 55) 30 = .ok ((.getfield 10), 3) := by decide +kernel
theorem d_55_33 : decode (mB 55) 33 = .ok ((.goto 4), 3) := by decide +kernel
theorem d_55_36 : decode (mB 55) 36 = .ok ((.aload_n 2), 1) := by decide +kernel
theorem d_55_37 : decode (mB 55) 37 = .ok (.areturn, 1) := by decide +kernel
theorem d_56_0 : decode (mB 56) 0 = .ok ((.iload_n 1), 1) := by decide +kernel
theorem d_56_1 : decode (mB 56) 1 = .ok ((.ifCond .lt 25), 3) := by decide +kernel
theorem d_56_4 : decode (mB 56) 4 = .ok ((.iload_n 1), 1) := by decide +kernel
theorem d_56_5 : decode (mB 56) 5 = .ok ((.aload_n 0), 1) := by decide +kernel
theorem d_56_6 : decode (mB 56) 6 = .ok ((.getfield 26), 3) := by decide +kernel
theorem d_56_9 : decode (mB 56) 9 = .ok (.arraylength, 1) := by decide +kernel
theorem d_56_10 : decode (mB 56) 10 = .ok ((.if_icmp .ge 16), 3) := by decide +kernel
theorem d_56_13 : decode (mB 56) 13 = .ok ((.aload_n 0), 1) := by decide +kernel
theorem d_56_14 : decode (mB 56) 14 = .ok ((.getfield 26), 3) := by decide +kernel
theorem d_56_17 : decode (mB 56) 17 = .ok ((.iload_n 1), 1) := by decide +kernel
theorem d_56_18 : decode (mB 56) 18 = .ok (.baload, 1) := by decide +kernel
theorem d_56_19 : decode (mB 56) 19 = .ok ((.ifCond .eq 7), 3) := by decide +kernel
theorem d_56_22 : decode (mB 56) 22 = .ok ((.iconst 1), 1) := by decide +kernel
theorem d_56_23 : decode (mB 56) 23 = .ok ((.goto 4), 3) := by decide +kernel
theorem d_56_26 : decode (mB 56) 26 = .ok ((.iconst 0), 1) := by decide +kernel
theorem d_56_27 : decode (mB 56) 27 = .ok (.ireturn, 1) := by decide +kernel
theorem d_57_0 : decode (mB 57) 0 = .ok ((.aload_n 0), 1) := by decide +kernel
theorem d_57_1 : decode (mB 57) 1 = .ok ((.invokespecial 3), 3) := by decide +kernel
theorem d_57_4 : decode (mB 57) 4 = .ok ((.aload_n 0), 1) := by decide +kernel
theorem d_57_5 : decode (mB 57) 5 = .ok ((.bipush 40), 2) := by decide +kernel
theorem d_57_7 : decode (mB 57) 7 = .ok ((.newarray .int), 2) := by decide +kernel
theorem d_57_9 : decode (mB 57) 9 = .ok ((.putfield 9), 3) := by decide +kernel
theorem d_57_12 : decode (mB 57) 12 = .ok ((.aload_n 0), 1) := by decide +kernel
theorem d_57_13 : decode (mB 57) 13 = .ok ((.iconst 0), 1) := by decide +kernel
theorem d_57_14 : decode (mB 57) 14 = .ok ((.putfield 15), 3) := by decide +kernel
theorem d_57_17 : decode (mB 57) 17 = .ok (.return_, 1) := by decide +kernel
theorem d_58_0 : decode (mB 58) 0 = .ok ((.iload_n 1), 1) := by decide +kernel
theorem d_58_1 : decode (mB 58) 1 = .ok ((.bipush 40), 2) := by decide +kernel
theorem d_58_3 : decode (mB 58) 3 = .ok ((.aload_n 0), 1) := by decide +kernel
theorem d_58_4 : decode (mB 58) 4 = .ok ((.getfield 15), 3) := by decide +kernel
theorem d_58_7 : decode (mB 58) 7 = .ok (.isub, 1) := by decide +kernel
theorem d_58_8 : decode (mB 58) 8 = .ok ((.if_icmp .gt 7), 3) := by decide +kernel
theorem d_58_11 : decode (mB 58) 11 = .ok ((.iconst 1), 1) := by decide +kernel
theorem d_58_12 : decode (mB 58) 12 = .ok ((.goto 4), 3) := by decide +kernel
theorem d_58_15 : decode (mB 58) 15 = .ok ((.iconst 0), 1) := by decide +kernel
theorem d_58_16 : decode (mB 58) 16 = .ok (.ireturn, 1) := by decide +kernel
theorem d_59_0 : decode (mB 59) 0 = .ok ((.iload_n 1), 1) := by decide +kernel
theorem d_59_1 : decode (mB 59) 1 = .ok ((.iconst 1), 1) := by decide +kernel
theorem d_59_2 : decode (mB 59) 2 = .ok (.isub, 1) := by decide +kernel
theorem d_59_3 : decode (mB 59) 3 = .ok ((.istore 4), 2) := by decide +kernel
theorem d_59_5 : decode (mB 59) 5 = .ok ((.iload 4), 2) := by decide +kernel
theorem d_59_7 : decode (mB 59) 7 = .ok ((.ifCond .lt 25), 3) := by decide +kernel
theorem d_59_10 : decode (mB 59) 10 = .ok ((.aload_n 0), 1) := by decide +kernel
theorem d_59_11 : decode (mB 59) 11 = .ok ((.lload_n 2), 1) := by decide +kernel
theorem d_59_12 : decode (mB 59) 12 = .ok ((.bipush 8), 2) := by decide +kernel
theorem d_59_14 : decode (mB 59) 14 = .ok ((.iload 4), 2) := by decide +kernel
theorem d_59_16 : decode (mB 59) 16 = .ok (.imul, 1) := by decide +kernel
theorem d_59_17 : decode (mB 59) 17 = .ok (.lushr, 1) := by decide +kernel
theorem d_59_18 : decode (mB 59) 18 = .ok (.l2i, 1) := by decide +kernel
theorem d_59_19 : decode (mB 59) 19 = .ok ((.sipush 255), 3) := by decide +kernel
theorem d_59_22 : decode (mB 59) 22 = .ok (.iand, 1) := by decide +kernel
theorem d_59_23 : decode (mB 59) 23 = .ok ((.invokevirtual 19), 3) := by decide +kernel
theorem d_59_26 : decode (mB 59) 26 = .ok ((.iinc 4 (-1)), 3) := by decide +kernel
theorem d_59_29 : decode (mB 59) 29 = .ok ((.goto (-24)), 3) := by decide +kernel
theorem d_59_32 : decode (mB 59) 32 = .ok (.return_, 1) := by decide +kernel
theorem d_60_0 : decode (mB 60) 0 = .ok ((.aload_n 0), 1) := by decide +kernel
theorem d_60_1 : decode (mB 60) 1 = .ok ((.getfield 15), 3) := by decide +kernel
theorem d_60_4 : decode (mB 60) 4 = .ok ((.ifCond .lt 15), 3) := by decide +kernel
theorem d_60_7 : decode (mB 60) 7 = .ok ((.aload_n 0), 1) := by decide +kernel
theorem d_60_8 : decode (mB 60) 8 = .ok ((.getfield 15), 3) := by decide +kernel
theorem d_60_11 : decode (mB 60) 11 = .ok ((.aload_n 0), 1) := by decide +kernel
theorem d_60_12 : decode (mB 60) 12 = .ok ((.getfield 9), 3) := by decide +kernel
theorem d_60_15 : decode (mB 60) 15 = .ok (.arraylength, 1) := by decide +kernel
theorem d_60_16 : decode (mB 60) 16 = .ok ((.if_icmp .lt 4), 3) := by decide +kernel
theorem d_60_19 : decode (mB 60) 19 = .ok (.return_, 1) := by decide +kernel
theorem d_60_20 : decode (mB 60) 20 = .ok ((.aload_n 0), 1) := by decide +kernel
theorem d_60_21 : decode (mB 60) 21 = .ok ((.getfield 9), 3) := by decide +kernel
theorem d_60_24 : decode (mB 60) 24 = .ok ((.aload_n 0), 1) := by decide +kernel
theorem d_60_25 : decode (mB 60) 25 = .ok ((.getfield 15), 3) := by decide +kernel
theorem d_60_28 : decode (mB 60) 28 = .ok ((.iload_n 1), 1) := by decide +kernel
theorem d_60_29 : decode (mB 60) 29 = .ok (.iastore, 1) := by decide +kernel
theorem d_60_30 : decode (mB 60) 30 = .ok ((.aload_n 0), 1) := by decide +kernel
theorem d_60_31 : decode (mB 60) 31 = .ok (.dup, 1) := by decide +kernel
theorem d_60_32 : decode (mB 60) 32 = .ok ((.getfield 15), 3) := by decide +kernel
theorem d_60_35 : decode (mB 60) 35 = .ok ((.iconst 1), 1) := by decide +kernel
theorem d_60_36 : decode (mB 60) 36 = .ok (.iadd, 1) := by decide +kernel
theorem d_60_37 : decode (mB 60) 37 = .ok ((.putfield 15), 3) := by decide +kernel
theorem d_60_40 : decode (mB 60) 40 = .ok (.return_, 1) := by decide +kernel
theorem d_61_0 : decode (mB 61) 0 = .ok ((.aload_n 0), 1) := by decide +kernel
theorem d_61_1 : decode (mB 61) 1 = .ok ((.getfield 15), 3) := by decide +kernel
theorem d_61_4 : decode (mB 61) 4 = .ok (.ireturn, 1) := by decide +kernel
theorem d_62_0 : decode (mB 62) 0 = .ok ((.aload_n 0), 1) := by decide +kernel
theorem d_62_1 : decode (mB 62) 1 = .ok ((.iconst 0), 1) := by decide +kernel
theorem d_62_2 : decode (mB 62) 2 = .ok ((.putfield 15), 3) := by decide +kernel
theorem d_62_5 : decode (mB 62) 5 = .ok (.return_, 1) := by decide +kernel
theorem d_63_0 : decode (mB 63) 0 = .ok ((.iload_n 1), 1) := by decide +kernel
theorem d_63_1 : decode (mB 63) 1 = .ok ((.ifCond .lt 21), 3) := by decide +kernel
theorem d_63_4 : decode (mB 63) 4 = .ok ((.iload_n 1), 1) := by decide +kernel
theorem d_63_5 : decode (mB 63) 5 = .ok ((.aload_n 0), 1) := by decide +kernel
theorem d_63_6 : decode (mB 63) 6 = .ok ((.getfield 9), 3) := by decide +kernel
theorem d_63_9 : decode (mB 63) 9 = .ok (.arraylength, 1) := by decide +kernel
theorem d_63_10 : decode (mB 63) 10 = .ok ((.if_icmp .ge 12), 3) := by decide +kernel
theorem d_63_13 : decode (mB 63) 13 = .ok ((.aload_n 0), 1) := by decide +kernel
theorem d_63_14 : decode (mB 63) 14 = .ok ((.getfield 9), 3) := by decide +kernel
theorem d_63_17 : decode (mB 63) 17 = .ok ((.iload_n 1), 1) := by decide +kernel
theorem d_63_18 : decode (mB 63) 18 = .ok (.iaload, 1) := by decide +kernel
theorem d_63_19 : decode (mB 63) 19 = .ok ((.goto 4), 3) := by decide +kernel
theorem d_63_22 : decode (mB 63) 22 = .ok ((.iconst 0), 1) := by decide +kernel
theorem d_63_23 : decode (mB 63) 23 = .ok (.ireturn, 1) := by decide +kernel
theorem d_64_0 : decode (mB 64) 0 = .ok ((.aload_n 0), 1) := by decide +kernel
theorem d_64_1 : decode (mB 64) 1 = .ok ((.invokespecial 3), 3) := by decide +kernel
theorem d_64_4 : decode (mB 64) 4 = .ok ((.aload_n 0), 1) := by decide +kernel
theorem d_64_5 : decode (mB 64) 5 = .ok ((.bipush 6), 2) := by decide +kernel
theorem d_64_7 : decode (mB 64) 7 = .ok ((.newarray .int), 2) := by decide +kernel
theorem d_64_9 : decode (mB 64) 9 = .ok ((.putfield 9), 3) := by decide +kernel
theorem d_64_12 : decode (mB 64) 12 = .ok ((.aload_n 0), 1) := by decide +kernel
theorem d_64_13 : decode (mB 64) 13 = .ok ((.bipush 6), 2) := by decide +kernel
theorem d_64_15 : decode (mB 64) 15 = .ok ((.newarray .int), 2) := by decide +kernel
theorem d_64_17 : decode (mB 64) 17 = .ok ((.putfield 15), 3) := by decide +kernel
theorem d_64_20 : decode (mB 64) 20 = .ok ((.aload_n 0), 1) := by decide +kernel
theorem d_64_21 : decode (mB 64) 21 = .ok ((.bipush 6), 2) := by decide +kernel
theorem d_64_23 : decode (mB 64) 23 = .ok ((.newarray .int), 2) := by decide +kernel
theorem d_64_25 : decode (mB 64) 25 = .ok ((.putfield 18), 3) := by decide +kernel
theorem d_64_28 : decode (mB 64) 28 = .ok ((.aload_n 0), 1) := by decide +kernel
theorem d_64_29 : decode (mB 64) 29 = .ok ((.bipush 6), 2) := by decide +kernel
theorem d_64_31 : decode (mB 64) 31 = .ok ((.newarray .int), 2) := by decide +kernel
theorem d_64_33 : decode (mB 64) 33 = .ok ((.putfield 21), 3) := by decide +kernel
theorem d_64_36 : decode (mB 64) 36 = .ok ((.aload_n 0), 1) := by decide +kernel
theorem d_64_37 : decode (mB 64) 37 = .ok ((.iconst 0), 1) := by decide +kernel
theorem d_64_38 : decode (mB 64) 38 = .ok ((.putfield 24), 3) := by decide +kernel
theorem d_64_41 : decode (mB 64) 41 = .ok ((.aload_n 0), 1) := by decide +kernel
theorem d_64_42 : decode (mB 64) 42 = .ok ((.iconst 0), 1) := by decide +kernel
theorem d_64_43 : decode (mB 64) 43 = .ok ((.putfield 28), 3) := by decide +kernel
theorem d_64_46 : decode (mB 64) 46 = .ok ((.aload_n 0), 1) := by decide +kernel
theorem d_64_47 : decode (mB 64) 47 = .ok ((.iconst 0), 1) := by decide +kernel
theorem d_64_48 : decode (mB 64) 48 = .ok ((.putfield 31), 3) := by decide +kernel
theorem d_64_51 : decode (mB 64) 51 = .ok ((.aload_n 0), 1) := by decide +kernel
theorem d_64_52 : decode (mB 64) 52 = .ok ((.iconst 0), 1) := by decide +kernel
theorem d_64_53 : decode (mB 64) 53 = .ok ((.putfield 34), 3) := by decide +kernel
theorem d_64_56 : decode (mB 64) 56 = .ok (.return_, 1) := by decide +kernel
theorem d_65_0 : decode (mB 65) 0 = .ok ((.iconst 0), 1) := by decide +kernel
theorem d_65_1 : decode (mB 65) 1 = .ok ((.istore_n 2), 1) := by decide +kernel
theorem d_65_2 : decode (mB 65) 2 = .ok ((.iload_n 2), 1) := by decide +kernel
theorem d_65_3 : decode (mB 65) 3 = .ok ((.bipush 6), 2) := by decide +kernel
theorem d_65_5 : decode (mB 65) 5 = .ok ((.if_icmp .ge 41), 3) := by decide +kernel
theorem d_65_8 : decode (mB 65) 8 = .ok ((.aload_n 0), 1) := by decide +kernel
theorem d_65_9 : decode (mB 65) 9 = .ok ((.getfield 9), 3) := by decide +kernel
theorem d_65_12 : decode (mB 65) 12 = .ok ((.iload_n 2), 1) := by decide +kernel
theorem d_65_13 : decode (mB 65) 13 = .ok ((.aload_n 1), 1) := by decide +kernel
theorem d_65_14 : decode (mB 65) 14 = .ok ((.iload_n 2), 1) := by decide +kernel
theorem d_65_15 : decode (mB 65) 15 = .ok ((.invokevirtual 60), 3) := by decide +kernel
theorem d_65_18 : decode (mB 65) 18 = .ok (.iastore, 1) := by decide +kernel
theorem d_65_19 : decode (mB 65) 19 = .ok ((.aload_n 0), 1) := by decide +kernel
theorem d_65_20 : decode (mB 65) 20 = .ok ((.getfield 15), 3) := by decide +kernel
theorem d_65_23 : decode (mB 65) 23 = .ok ((.iload_n 2), 1) := by decide +kernel
theorem d_65_24 : decode (mB 65) 24 = .ok ((.iconst 0), 1) := by decide +kernel
theorem d_65_25 : decode (mB 65) 25 = .ok (.iastore, 1) := by decide +kernel
theorem d_65_26 : decode (mB 65) 26 = .ok ((.aload_n 0), 1) := by decide +kernel
theorem d_65_27 : decode (mB 65) 27 = .ok ((.getfield 18), 3) := by decide +kernel
theorem d_65_30 : decode (mB 65) 30 = .ok ((.iload_n 2), 1) := by decide +kernel
theorem d_65_31 : decode (mB 65) 31 = .ok ((.iconst 0), 1) := by decide +kernel
theorem d_65_32 : decode (mB 65) 32 = .ok (.iastore, 1) := by decide +kernel
theorem d_65_33 : decode (mB 65) 33 = .ok ((.aload_n 0), 1) := by decide +kernel
theorem d_65_34 : decode (mB 65) 34 = .ok ((.getfield 21), 3) := by decide +kernel
theorem d_65_37 : decode (mB 65) 37 = .ok ((.iload_n 2), 1) := by decide +kernel
theorem d_65_38 : decode (mB 65) 38 = .ok ((.iconst 0), 1) := by decide +kernel
theorem d_65_39 : decode (mB 65) 39 = .ok (.iastore, 1) := by decide +kernel
theorem d_65_40 : decode (mB 65) 40 = .ok ((.iinc 2 1), 3) := by decide +kernel
theorem d_65_43 : decode (mB 65) 43 = .ok ((.goto (-41)), 3) := by decide +kernel
theorem d_65_46 : decode (mB 65) 46 = .ok ((.aload_n 0), 1) := by decide +kernel
theorem d_65_47 : decode (mB 65) 47 = .ok ((.iconst 0), 1) := by decide +kernel
theorem d_65_48 : decode (mB 65) 48 = .ok ((.putfield 24), 3) := by decide +kernel
theorem d_65_51 : decode (mB 65) 51 = .ok ((.aload_n 0), 1) := by decide +kernel
theorem d_65_52 : decode (mB 65) 52 = .ok ((.iconst 0), 1) := by decide +kernel
theorem d_65_53 : decode (mB 65) 53 = .ok ((.putfield 28), 3) := by decide +kernel
theorem d_65_56 : decode (mB 65) 56 = .ok ((.aload_n 0), 1) := by decide +kernel
theorem d_65_57 : decode (mB 65) 57 = .ok ((.iconst 0), 1) := by decide +kernel
theorem d_65_58 : decode (mB 65) 58 = .ok ((.putfield 31), 3) := by decide +kernel
theorem d_65_61 : decode (mB 65) 61 = .ok ((.aload_n 0), 1) := by decide +kernel
theorem d_65_62 : decode (mB 65) 62 = .ok ((.iconst 0), 1) := by decide +kernel
theorem d_65_63 : decode (mB 65) 63 = .ok ((.putfield 34), 3) := by decide +kernel
theorem d_65_66 : decode (mB 65) 66 = .ok (.return_, 1) := by decide +kernel
theorem d_66_0 : decode (mB 66) 0 = .ok ((.iload_n 1), 1) := by decide +kernel
theorem d_66_1 : decode (mB 66) 1 = .ok ((.invokestatic 37), 3) := by decide +kernel
theorem d_66_4 : decode (mB 66) 4 = .ok ((.ifCond .eq 12), 3) := by decide +kernel
theorem d_66_7 : decode (mB 66) 7 = .ok ((.aload_n 0), 1) := by decide +kernel
theorem d_66_8 : decode (mB 66) 8 = .ok ((.getfield 9), 3) := by decide +kernel
theorem d_66_11 : decode (mB 66) 11 = .ok ((.iload_n 1), 1) := by decide +kernel
theorem d_66_12 : decode (mB 66) 12 = .ok (.iaload, 1) := by decide +kernel
theorem d_66_13 : decode (mB 66) 13 = .ok ((.goto 4), 3) := by decide +kernel
theorem d_66_16 : decode (mB 66) 16 = .ok ((.iconst 0), 1) := by decide +kernel
theorem d_66_17 : decode (mB 66) 17 = .ok (.ireturn, 1) := by decide +kernel
theorem d_67_0 : decode (mB 67) 0 = .ok ((.iload_n 0), 1) := by decide +kernel
theorem d_67_1 : decode (mB 67) 1 = .ok ((.ifCond .lt 13), 3) := by decide +kernel
theorem d_67_4 : decode (mB 67) 4 = .ok ((.iload_n 0), 1) := by decide +kernel
theorem d_67_5 : decode (mB 67) 5 = .ok ((.bipush 6), 2) := by decide +kernel
theorem d_67_7 : decode (mB 67) 7 = .ok ((.if_icmp .ge 7), 3) := by decide +kernel
theorem d_67_10 : decode (mB 67) 10 = .ok ((.iconst 1), 1) := by decide +kernel
theorem d_67_11 : decode (mB 67) 11 = .ok ((.goto 4), 3) := by decide +kernel
theorem d_67_14 : decode (mB 67) 14 = .ok ((.iconst 0), 1) := by decide +kernel
theorem d_67_15 : decode (mB 67) 15 = .ok (.ireturn, 1) := by decide +kernel
theorem d_68_0 : decode (mB 68) 0 = .ok ((.iload_n 1), 1) := by decide +kernel
theorem d_68_1 : decode (mB 68) 1 = .ok ((.invokestatic 37), 3) := by decide +kernel
theorem d_68_4 : decode (mB 68) 4 = .ok ((.ifCond .eq 12), 3) := by decide +kernel
theorem d_68_7 : decode (mB 68) 7 = .ok ((.aload_n 0), 1) := by decide +kernel
theorem d_68_8 : decode (mB 68) 8 = .ok ((.getfield 15), 3) := by decide +kernel
theorem d_68_11 : decode (mB 68) 11 = .ok ((.iload_n 1), 1) := by decide +kernel
theorem d_68_12 : decode (mB 68) 12 = .ok (.iaload, 1) := by decide +kernel
theorem d_68_13 : decode (mB 68) 13 = .ok ((.goto 4), 3) := by decide +kernel
theorem d_68_16 : decode (mB 68) 16 = .ok ((.iconst 0), 1) := by decide +kernel
theorem d_68_17 : decode (mB 68) 17 = .ok (.ireturn, 1) := by decide +kernel
theorem d_69_0 : decode (mB 69) 0 = .ok ((.iload_n 1), 1) := by decide +kernel
theorem d_69_1 : decode (mB 69) 1 = .ok ((.invokestatic 37), 3) := by decide +kernel
theorem d_69_4 : decode (mB 69) 4 = .ok ((.ifCond .eq 12), 3) := by decide +kernel
theorem d_69_7 : decode (mB 69) 7 = .ok ((.aload_n 0), 1) := by decide +kernel
theorem d_69_8 : decode (mB 69) 8 = .ok ((.getfield 18), 3) := by decide +kernel
theorem d_69_11 : decode (mB 69) 11 = .ok ((.iload_n 1), 1) := by decide +kernel
theorem d_69_12 : decode (mB 69) 12 = .ok (.iaload, 1) := by decide +kernel
theorem d_69_13 : decode (mB 69) 13 = .ok ((.goto 4), 3) := by decide +kernel
theorem d_69_16 : decode (mB 69) 16 = .ok ((.iconst 0), 1) := by decide +kernel
theorem d_69_17 : decode (mB 69) 17 = .ok (.ireturn, 1) := by decide +kernel
theorem d_70_0 : decode (mB 70) 0 = .ok ((.iload_n 1), 1) := by decide +kernel
theorem d_70_1 : decode (mB 70) 1 = .ok ((.invokestatic 37), 3) := by decide +kernel
theorem d_70_4 : decode (mB 70) 4 = .ok ((.ifCond .eq 12), 3) := by decide +kernel
theorem d_70_7 : decode (mB 70) 7 = .ok ((.aload_n 0), 1) := by decide +kernel
theorem d_70_8 : decode (mB 70) 8 = .ok ((.getfield 21), 3) := by decide +kernel
theorem d_70_11 : decode (mB 70) 11 = .ok ((.iload_n 1), 1) := by decide +kernel
theorem d_70_12 : decode (mB 70) 12 = .ok (.iaload, 1) := by decide +kernel
theorem d_70_13 : decode (mB 70) 13 = .ok ((.goto 4), 3) := by decide +kernel
theorem d_70_16 : decode (mB 70) 16 = .ok ((.iconst 0), 1) := by decide +kernel
theorem d_70_17 : decode (mB 70) 17 = .ok (.ireturn, 1) := by decide +kernel
theorem d_71_0 : decode (mB 71) 0 = .ok ((.aload_n 0), 1) := by decide +kernel
theorem d_71_1 : decode (mB 71) 1 = .ok ((.iload_n 2), 1) := by decide +kernel
theorem d_71_2 : decode (mB 71) 2 = .ok ((.invokevirtual 41), 3) := by decide +kernel
theorem d_71_5 : decode (mB 71) 5 = .ok ((.aload_n 1), 1) := by decide +kernel
theorem d_71_6 : decode (mB 71) 6 = .ok ((.iload_n 2), 1) := by decide +kernel
theorem d_71_7 : decode (mB 71) 7 = .ok ((.invokevirtual 45), 3) := by decide +kernel
theorem d_71_10 : decode (mB 71) 10 = .ok ((.if_icmp .lt 7), 3) := by decide +kernel
theorem d_71_13 : decode (mB 71) 13 = .ok ((.iconst 1), 1) := by decide +kernel
theorem d_71_14 : decode (mB 71) 14 = .ok ((.goto 4), 3) := by decide +kernel
theorem d_71_17 : decode (mB 71) 17 = .ok ((.iconst 0), 1) := by decide +kernel
theorem d_71_18 : decode (mB 71) 18 = .ok (.ireturn, 1) := by decide +kernel
theorem d_72_0 : decode (mB 72) 0 = .ok ((.aload_n 0), 1) := by decide +kernel
theorem d_72_1 : decode (mB 72) 1 = .ok ((.getfield 34), 3) := by decide +kernel
theorem d_72_4 : decode (mB 72) 4 = .ok (.ireturn, 1) := by decide +kernel
theorem d_73_0 : decode (mB 73) 0 = .ok ((.aload_n 0), 1) := by decide +kernel
theorem d_73_1 : decode (mB 73) 1 = .ok ((.iload_n 1), 1) := by decide +kernel
theorem d_73_2 : decode (mB 73) 2 = .ok ((.putfield 34), 3) := by decide +kernel
theorem d_73_5 : decode (mB 73) 5 = .ok (.return_, 1) := by decide +kernel
theorem d_74_0 : decode (mB 74) 0 = .ok ((.iconst 0), 1) := by decide +kernel
theorem d_74_1 : decode (mB 74) 1 = .ok ((.istore_n 2), 1) := by decide +kernel
theorem d_74_2 : decode (mB 74) 2 = .ok ((.iload_n 2), 1) := by decide +kernel
theorem d_74_3 : decode (mB 74) 3 = .ok ((.bipush 6), 2) := by decide +kernel
theorem d_74_5 : decode (mB 74) 5 = .ok ((.if_icmp .ge 57), 3) := by decide +kernel
theorem d_74_8 : decode (mB 74) 8 = .ok ((.aload_n 0), 1) := by decide +kernel
theorem d_74_9 : decode (mB 74) 9 = .ok ((.getfield 9), 3) := by decide +kernel
theorem d_74_12 : decode (mB 74) 12 = .ok ((.iload_n 2), 1) := by decide +kernel
theorem d_74_13 : decode (mB 74) 13 = .ok ((.aload_n 1), 1) := by decide +kernel
theorem d_74_14 : decode (mB 74) 14 = .ok ((.getfield 9), 3) := by decide +kernel
theorem d_74_17 : decode (mB 74) 17 = .ok ((.iload_n 2), 1) := by decide +kernel
theorem d_74_18 : decode (mB 74) 18 = .ok (.iaload, 1) := by decide +kernel
theorem d_74_19 : decode (mB 74) 19 = .ok (.iastore, 1) := by decide +kernel
theorem d_74_20 : decode (mB 74) 20 = .ok ((.aload_n 0), 1) := by decide +kernel
theorem d_74_21 : decode (mB 74) 21 = .ok ((.getfield 15), 3) := by decide +kernel
theorem d_74_24 : decode (mB 74) 24 = .ok ((.iload_n 2), 1) := by decide +kernel
theorem d_74_25 : decode (mB 74) 25 = .ok ((.aload_n 1), 1) := by decide +kernel
theorem d_74_26 : decode (mB 74) 26 = .ok ((.getfield 15), 3) := by decide +kernel
theorem d_74_29 : decode (mB 74) 29 = .ok ((.iload_n 2), 1) := by decide +kernel
theorem d_74_30 : decode (mB 74) 30 = .ok (.iaload, 1) := by decide +kernel
theorem d_74_31 : decode (mB 74) 31 = .ok (.iastore, 1) := by decide +kernel
theorem d_74_32 : decode (mB 74) 32 = .ok ((.aload_n 0), 1) := by decide +kernel
theorem d_74_33 : decode (mB 74) 33 = .ok ((.getfield 18), 3) := by decide +kernel
theorem d_74_36 : decode (mB 74) 36 = .ok ((.iload_n 2), 1) := by decide +kernel
theorem d_74_37 : decode (mB 74) 37 = .ok ((.aload_n 1), 1) := by decide +kernel
theorem d_74_38 : decode (mB 74) 38 = .ok ((.getfield 18), 3) := by decide +kernel
theorem d_74_41 : decode (mB 74) 41 = .ok ((.iload_n 2), 1) := by decide +kernel
theorem d_74_42 : decode (mB 74) 42 = .ok (.iaload, 1) := by decide +kernel
theorem d_74_43 : decode (mB 74) 43 = .ok (.iastore, 1) := by decide +kernel
theorem d_74_44 : decode (mB 74) 44 = .ok ((.aload_n 0), 1) := by decide +kernel
theorem d_74_45 : decode (mB 74) 45 = .ok ((.getfield 21), 3) := by decide +kernel
theorem d_74_48 : decode (mB 74) 48 = .ok ((.iload_n 2), 1) := by decide +kernel
theorem d_74_49 : decode (mB 74) 49 = .ok ((.aload_n 1), 1) := by decide +kernel
theorem d_74_50 : decode (mB 74) 50 = .ok ((.getfield 21), 3) := by decide +kernel
theorem d_74_53 : decode (mB 74) 53 = .ok ((.iload_n 2), 1) := by decide +kernel
theorem d_74_54 : decode (mB 74) 54 = .ok (.iaload, 1) := by decide +kernel
theorem d_74_55 : decode (mB 74) 55 = .ok (.iastore, 1) := by decide +kernel
theorem d_74_56 : decode (mB 74) 56 = .ok ((.iinc 2 1), 3) := by decide +kernel
theorem d_74_59 : decode (mB 74) 59 = .ok ((.goto (-57)), 3) := by decide +kernel
theorem d_74_62 : decode (mB 74) 62 = .ok ((.aload_n 0), 1) := by decide +kernel
theorem d_74_63 : decode (mB 74) 63 = .ok ((.aload_n 1), 1) := by decide +kernel
theorem d_74_64 : decode (mB 74) 64 = .ok ((.getfield 24), 3) := by decide +kernel
theorem d_74_67 : decode (mB 74) 67 = .ok ((.putfield 24), 3) := by decide +kernel
theorem d_74_70 : decode (mB 74) 70 = .ok ((.aload_n 0), 1) := by decide +kernel
theorem d_74_71 : decode (mB 74) 71 = .ok ((.aload_n 1), 1) := by decide +kernel
theorem d_74_72 : decode (mB 74) 72 = .ok ((.getfield 28), 3) := by decide +kernel
theorem d_74_75 : decode (mB 74) 75 = .ok ((.putfield 28), 3) := by decide +kernel
theorem d_74_78 : decode (mB 74) 78 = .ok ((.aload_n 0), 1) := by decide +kernel
theorem d_74_79 : decode (mB 74) 79 = .ok ((.aload_n 1), 1) := by decide +kernel
theorem d_74_80 : decode (mB 74) 80 = .ok ((.getfield 31), 3) := by decide +kernel
theorem d_74_83 : decode (mB 74) 83 = .ok ((.putfield 31), 3) := by decide +kernel
theorem d_74_86 : decode (mB 74) 86 = .ok ((.aload_n 0), 1) := by decide +kernel
theorem d_74_87 : decode (mB 74) 87 = .ok ((.aload_n 1), 1) := by decide +kernel
theorem d_74_88 : decode (mB 74) 88 = .ok ((.getfield 34), 3) := by decide +kernel
theorem d_74_91 : decode (mB 74) 91 = .ok ((.putfield 34), 3) := by decide +kernel
theorem d_74_94 : decode (mB 74) 94 = .ok (.return_, 1) := by decide +kernel
theorem d_75_0 : decode (mB 75) 0 = .ok ((.iconst 0), 1) := by decide +kernel
theorem d_75_1 : decode (mB 75) 1 = .ok ((.istore 4), 2) := by decide +kernel
theorem d_75_3 : decode (mB 75) 3 = .ok ((.iconst 0), 1) := by decide +kernel
theorem d_75_4 : decode (mB 75) 4 = .ok ((.istore 5), 2) := by decide +kernel
theorem d_75_6 : decode (mB 75) 6 = .ok ((.iconst 0), 1) := by decide +kernel
theorem d_75_7 : decode (mB 75) 7 = .ok ((.istore 6), 2) := by decide +kernel
theorem d_75_9 : decode (mB 75) 9 = .ok ((.aload_n 1), 1) := by decide +kernel
theorem d_75_10 : decode (mB 75) 10 = .ok ((.iload 6), 2) := by decide +kernel
theorem d_75_12 : decode (mB 75) 12 = .ok ((.invokevirtual 50), 3) := by decide +kernel
theorem d_75_15 : decode (mB 75) 15 = .ok ((.ifCond .eq 158), 3) := by decide +kernel
theorem d_75_18 : decode (mB 75) 18 = .ok ((.iload 6), 2) := by decide +kernel
theorem d_75_20 : decode (mB 75) 20 = .ok ((.bipush 6), 2) := by decide +kernel
theorem d_75_22 : decode (mB 75) 22 = .ok ((.if_icmp .ge 151), 3) := by decide +kernel
theorem d_75_25 : decode (mB 75) 25 = .ok ((.aload_n 0), 1) := by decide +kernel
theorem d_75_26 : decode (mB 75) 26 = .ok ((.getfield 9), 3) := by decide +kernel
theorem d_75_29 : decode (mB 75) 29 = .ok ((.iload 6), 2) := by decide +kernel
theorem d_75_31 : decode (mB 75) 31 = .ok (.dup2, 1) := by decide +kernel
theorem d_75_32 : decode (mB 75) 32 = .ok (.iaload, 1) := by decide +kernel
theorem d_75_33 : decode (mB 75) 33 = .ok ((.iload_n 3), 1) := by decide +kernel
theorem d_75_34 : decode (mB 75) 34 = .ok (.iadd, 1) := by decide +kernel
theorem d_75_35 : decode (mB 75) 35 = .ok (.iastore, 1) := by decide +kernel
theorem d_75_36 : decode (mB 75) 36 = .ok ((.aload_n 1), 1) := by decide +kernel
theorem d_75_37 : decode (mB 75) 37 = .ok ((.iload 6), 2) := by decide +kernel
theorem d_75_39 : decode (mB 75) 39 = .ok ((.invokevirtual 67), 3) := by decide +kernel
theorem d_75_42 : decode (mB 75) 42 = .ok ((.aload_n 0), 1) := by decide +kernel
theorem d_75_43 : decode (mB 75) 43 = .ok ((.getfield 9), 3) := by decide +kernel
theorem d_75_46 : decode (mB 75) 46 = .ok ((.iload 6), 2) := by decide +kernel
theorem d_75_48 : decode (mB 75) 48 = .ok (.iaload, 1) := by decide +kernel
theorem d_75_49 : decode (mB 75) 49 = .ok ((.invokestatic 70), 3) := by decide +kernel
theorem d_75_52 : decode (mB 75) 52 = .ok ((.istore 7), 2) := by decide +kernel
theorem d_75_54 : decode (mB 75) 54 = .ok ((.aload_n 0), 1) := by decide +kernel
theorem d_75_55 : decode (mB 75) 55 = .ok ((.getfield 18), 3) := by decide +kernel
theorem d_75_58 : decode (mB 75) 58 = .ok ((.iload 6), 2) := by decide +kernel
theorem d_75_60 : decode (mB 75) 60 = .ok (.dup2, 1) := by decide +kernel
theorem d_75_61 : decode (mB 75) 61 = .ok (.iaload, 1) := by decide +kernel
theorem d_75_62 : decode (mB 75) 62 = .ok ((.iload 7), 2) := by decide +kernel
theorem d_75_64 : decode (mB 75) 64 = .ok (.iadd, 1) := by decide +kernel
theorem d_75_65 : decode (mB 75) 65 = .ok (.iastore, 1) := by decide +kernel
theorem d_75_66 : decode (mB 75) 66 = .ok ((.aload_n 0), 1) := by decide +kernel
theorem d_75_67 : decode (mB 75) 67 = .ok ((.getfield 21), 3) := by decide +kernel
theorem d_75_70 : decode (mB 75) 70 = .ok ((.iload 6), 2) := by decide +kernel
theorem d_75_72 : decode (mB 75) 72 = .ok (.dup2, 1) := by decide +kernel
theorem d_75_73 : decode (mB 75) 73 = .ok (.iaload, 1) := by decide +kernel
theorem d_75_74 : decode (mB 75) 74 = .ok ((.aload_n 0), 1) := by decide +kernel
theorem d_75_75 : decode (mB 75) 75 = .ok ((.iload 6), 2) := by decide +kernel
theorem d_75_77 : decode (mB 75) 77 = .ok ((.iload 7), 2) := by decide +kernel
theorem d_75_79 : decode (mB 75) 79 = .ok ((.invokevirtual 76), 3) := by decide +kernel
theorem d_75_82 : decode (mB 75) 82 = .ok (.iadd, 1) := by decide +kernel
theorem d_75_83 : decode (mB 75) 83 = .ok (.iastore, 1) := by decide +kernel
theorem d_75_84 : decode (mB 75) 84 = .ok ((.iload_n 2), 1) := by decide +kernel
theorem d_75_85 : decode (mB 75) 85 = .ok ((.iload 6), 2) := by decide +kernel
theorem d_75_87 : decode (mB 75) 87 = .ok ((.invokestatic 79), 3) := by decide +kernel
theorem d_75_90 : decode (mB 75) 90 = .ok ((.ifCond .eq 7), 3) := by decide +kernel
theorem d_75_93 : decode (mB 75) 93 = .ok ((.iconst 0), 1) := by decide +kernel
theorem d_75_94 : decode (mB 75) 94 = .ok ((.goto 9), 3) := by decide +kernel
theorem d_75_97 : decode (mB 75) 97 = .ok ((.aload_n 1), 1) := by decide +kernel
theorem d_75_98 : decode (mB 75) 98 = .ok ((.iload 6), 2) := by decide +kernel
theorem d_75_100 : decode (mB 75) 100 = .ok ((.invokevirtual 83), 3) := by decide +kernel
theorem d_75_103 : decode (mB 75) 103 = .ok ((.istore 8), 2) := by decide +kernel
theorem d_75_105 : decode (mB 75) 105 = .ok ((.aload_n 0), 1) := by decide +kernel
theorem d_75_106 : decode (mB 75) 106 = .ok ((.getfield 9), 3) := by decide +kernel
theorem d_75_109 : decode (mB 75) 109 = .ok ((.iload 6), 2) := by decide +kernel
theorem d_75_111 : decode (mB 75) 111 = .ok (.iaload, 1) := by decide +kernel
theorem d_75_112 : decode (mB 75) 112 = .ok ((.iload 8), 2) := by decide +kernel
theorem d_75_114 : decode (mB 75) 114 = .ok ((.aload_n 1), 1) := by decide +kernel
theorem d_75_115 : decode (mB 75) 115 = .ok ((.iload 6), 2) := by decide +kernel
theorem d_75_117 : decode (mB 75) 117 = .ok ((.invokevirtual 86), 3) := by decide +kernel
theorem d_75_120 : decode (mB 75) 120 = .ok ((.invokestatic 89), 3) := by decide +kernel
theorem d_75_123 : decode (mB 75) 123 = .ok ((.istore 9), 2) := by decide +kernel
theorem d_75_125 : decode (mB 75) 125 = .ok ((.aload_n 0), 1) := by decide +kernel
theorem d_75_126 : decode (mB 75) 126 = .ok ((.iload 6), 2) := by decide +kernel
theorem d_75_128 : decode (mB 75) 128 = .ok ((.iload 9), 2) := by decide +kernel
theorem d_75_130 : decode (mB 75) 130 = .ok ((.invokevirtual 76), 3) := by decide +kernel
theorem d_75_133 : decode (mB 75) 133 = .ok ((.istore 10), 2) := by decide +kernel
theorem d_75_135 : decode (mB 75) 135 = .ok ((.aload_n 0), 1) := by decide +kernel
theorem d_75_136 : decode (mB 75) 136 = .ok ((.getfield 9), 3) := by decide +kernel
theorem d_75_139 : decode (mB 75) 139 = .ok ((.iload 6), 2) := by decide +kernel
theorem d_75_141 : decode (mB 75) 141 = .ok (.dup2, 1) := by decide +kernel
theorem d_75_142 : decode (mB 75) 142 = .ok (.iaload, 1) := by decide +kernel
theorem d_75_143 : decode (mB 75) 143 = .ok ((.iload 4), 2) := by decide +kernel
theorem d_75_145 : decode (mB 75) 145 = .ok (.iadd, 1) := by decide +kernel
theorem d_75_146 : decode (mB 75) 146 = .ok (.iastore, 1) := by decide +kernel
theorem d_75_147 : decode (mB 75) 147 = .ok ((.aload_n 0), 1) := by decide +kernel
theorem d_75_148 : decode (mB 75) 148 = .ok ((.getfield 15), 3) := by decide +kernel
theorem d_75_151 : decode (mB 75) 151 = .ok ((.iload 6), 2) := by decide +kernel
theorem d_75_153 : decode (mB 75) 153 = .ok (.dup2, 1) := by decide +kernel
theorem d_75_154 : decode (mB 75) 154 = .ok (.iaload, 1) := by decide +kernel
theorem d_75_155 : decode (mB 75) 155 = .ok ((.iload 5), 2) := by decide +kernel
theorem d_75_157 : decode (mB 75) 157 = .ok (.iadd, 1) := by decide +kernel
theorem d_75_158 : decode (mB 75) 158 = .ok (.iastore, 1) := by decide +kernel
theorem d_75_159 : decode (mB 75) 159 = .ok ((.iload 9), 2) := by decide +kernel
theorem d_75_161 : decode (mB 75) 161 = .ok ((.istore 4), 2) := by decide +kernel
theorem d_75_163 : decode (mB 75) 163 = .ok ((.iload 10), 2) := by decide +kernel
theorem d_75_165 : decode (mB 75) 165 = .ok ((.istore 5), 2) := by decide +kernel
theorem d_75_167 : decode (mB 75) 167 = .ok ((.iinc 6 1), 3) := by decide +kernel
theorem d_75_170 : decode (mB 75) 170 = .ok ((.goto (-161)), 3) := by decide +kernel
theorem d_75_173 : decode (mB 75) 173 = .ok ((.aload_n 0), 1) := by decide +kernel
theorem d_75_174 : decode (mB 75) 174 = .ok (.dup, 1) := by decide +kernel
theorem d_75_175 : decode (mB 75) 175 = .ok ((.getfield 24), 3) := by decide +kernel
theorem d_75_178 : decode (mB 75) 178 = .ok ((.iload 4), 2) := by decide +kernel
theorem d_75_180 : decode (mB 75) 180 = .ok (.iadd, 1) := by decide +kernel
theorem d_75_181 : decode (mB 75) 181 = .ok ((.putfield 24), 3) := by decide +kernel
theorem d_75_184 : decode (mB 75) 184 = .ok ((.aload_n 0), 1) := by decide +kernel
theorem d_75_185 : decode (mB 75) 185 = .ok (.dup, 1) := by decide +kernel
theorem d_75_186 : decode (mB 75) 186 = .ok ((.getfield 28), 3) := by decide +kernel
theorem d_75_189 : decode (mB 75) 189 = .ok ((.iload 5), 2) := by decide +kernel
theorem d_75_191 : decode (mB 75) 191 = .ok (.iadd, 1) := by decide +kernel
theorem d_75_192 : decode (mB 75) 192 = .ok ((.putfield 28), 3) := by decide +kernel
theorem d_75_195 : decode (mB 75) 195 = .ok ((.aload_n 0), 1) := by decide +kernel
theorem d_75_196 : decode (mB 75) 196 = .ok (.dup, 1) := by decide +kernel
theorem d_75_197 : decode (mB 75) 197 = .ok ((.getfield 31), 3) := by decide +kernel
theorem d_75_200 : decode (mB 75) 200 = .ok ((.iconst 1), 1) := by decide +kernel
theorem d_75_201 : decode (mB 75) 201 = .ok (.iadd, 1) := by decide +kernel
theorem d_75_202 : decode (mB 75) 202 = .ok ((.putfield 31), 3) := by decide +kernel
theorem d_75_205 : decode (mB 75) 205 = .ok ((.iload 4), 2) := by decide +kernel
theorem d_75_207 : decode (mB 75) 207 = .ok (.ireturn, 1) := by decide +kernel
theorem d_76_0 : decode (mB 76) 0 = .ok ((.iload_n 1), 1) := by decide +kernel
theorem d_76_1 : decode (mB 76) 1 = .ok ((.invokestatic 37), 3) := by decide +kernel
theorem d_76_4 : decode (mB 76) 4 = .ok ((.ifCond .ne 5), 3) := by decide +kernel
theorem d_76_7 : decode (mB 76) 7 = .ok ((.iconst 0), 1) := by decide +kernel
theorem d_76_8 : decode (mB 76) 8 = .ok (.ireturn, 1) := by decide +kernel
theorem d_76_9 : decode (mB 76) 9 = .ok ((.aload_n 0), 1) := by decide +kernel
theorem d_76_10 : decode (mB 76) 10 = .ok ((.getfield 15), 3) := by decide +kernel
theorem d_76_13 : decode (mB 76) 13 = .ok ((.iload_n 1), 1) := by decide +kernel
theorem d_76_14 : decode (mB 76) 14 = .ok (.iaload, 1) := by decide +kernel
theorem d_76_15 : decode (mB 76) 15 = .ok ((.iload_n 2), 1) := by decide +kernel
theorem d_76_16 : decode (mB 76) 16 = .ok ((.aload_n 0), 1) := by decide +kernel
theorem d_76_17 : decode (mB 76) 17 = .ok ((.getfield 9), 3) := by decide +kernel
theorem d_76_20 : decode (mB 76) 20 = .ok ((.iload_n 1), 1) := by decide +kernel
theorem d_76_21 : decode (mB 76) 21 = .ok (.iaload, 1) := by decide +kernel
theorem d_76_22 : decode (mB 76) 22 = .ok ((.invokestatic 63), 3) := by decide +kernel
theorem d_76_25 : decode (mB 76) 25 = .ok ((.istore_n 3), 1) := by decide +kernel
theorem d_76_26 : decode (mB 76) 26 = .ok ((.aload_n 0), 1) := by decide +kernel
theorem d_76_27 : decode (mB 76) 27 = .ok ((.getfield 9), 3) := by decide +kernel
theorem d_76_30 : decode (mB 76) 30 = .ok ((.iload_n 1), 1) := by decide +kernel
theorem d_76_31 : decode (mB 76) 31 = .ok (.dup2, 1) := by decide +kernel
theorem d_76_32 : decode (mB 76) 32 = .ok (.iaload, 1) := by decide +kernel
theorem d_76_33 : decode (mB 76) 33 = .ok ((.iload_n 2), 1) := by decide +kernel
theorem d_76_34 : decode (mB 76) 34 = .ok (.isub, 1) := by decide +kernel
theorem d_76_35 : decode (mB 76) 35 = .ok (.iastore, 1) := by decide +kernel
theorem d_76_36 : decode (mB 76) 36 = .ok ((.aload_n 0), 1) := by decide +kernel
theorem d_76_37 : decode (mB 76) 37 = .ok ((.getfield 15), 3) := by decide +kernel
theorem d_76_40 : decode (mB 76) 40 = .ok ((.iload_n 1), 1) := by decide +kernel
theorem d_76_41 : decode (mB 76) 41 = .ok (.dup2, 1) := by decide +kernel
theorem d_76_42 : decode (mB 76) 42 = .ok (.iaload, 1) := by decide +kernel
theorem d_76_43 : decode (mB 76) 43 = .ok ((.iload_n 3), 1) := by decide +kernel
theorem d_76_44 : decode (mB 76) 44 = .ok (.isub, 1) := by decide +kernel
theorem d_76_45 : decode (mB 76) 45 = .ok (.iastore, 1) := by decide +kernel
theorem d_76_46 : decode (mB 76) 46 = .ok ((.iload_n 3), 1) := by decide +kernel
theorem d_76_47 : decode (mB 76) 47 = .ok (.ireturn, 1) := by decide +kernel
theorem d_77_0 : decode (mB 77) 0 = .ok ((.iload_n 1), 1) := by decide +kernel
theorem d_77_1 : decode (mB 77) 1 = .ok ((.iload_n 2), 1) := by decide +kernel
theorem d_77_2 : decode (mB 77) 2 = .ok ((.if_icmp .ge 8), 3) := by decide +kernel
theorem d_77_5 : decode (mB 77) 5 = .ok ((.iload_n 2), 1) := by decide +kernel
theorem d_77_6 : decode (mB 77) 6 = .ok ((.iconst 1), 1) := by decide +kernel
theorem d_77_7 : decode (mB 77) 7 = .ok ((.if_icmp .ge 5), 3) := by decide +kernel
theorem d_77_10 : decode (mB 77) 10 = .ok ((.iload_n 0), 1) := by decide +kernel
theorem d_77_11 : decode (mB 77) 11 = .ok (.ireturn, 1) := by decide +kernel
theorem d_77_12 : decode (mB 77) 12 = .ok ((.iload_n 0), 1) := by decide +kernel
theorem d_77_13 : decode (mB 77) 13 = .ok (.i2l, 1) := by decide +kernel
theorem d_77_14 : decode (mB 77) 14 = .ok ((.iload_n 1), 1) := by decide +kernel
theorem d_77_15 : decode (mB 77) 15 = .ok (.i2l, 1) := by decide +kernel
theorem d_77_16 : decode (mB 77) 16 = .ok (.lmul, 1) := by decide +kernel
theorem d_77_17 : decode (mB 77) 17 = .ok ((.iload_n 2), 1) := by decide +kernel
theorem d_77_18 : decode (mB 77) 18 = .ok (.i2l, 1) := by decide +kernel
theorem d_77_19 : decode (mB 77) 19 = .ok (.ldiv, 1) := by decide +kernel
theorem d_77_20 : decode (mB 77) 20 = .ok (.l2i, 1) := by decide +kernel
theorem d_77_21 : decode (mB 77) 21 = .ok (.ireturn, 1) := by decide +kernel
theorem d_78_0 : decode (mB 78) 0 = .ok ((.iload_n 1), 1) := by decide +kernel
theorem d_78_1 : decode (mB 78) 1 = .ok ((.iload_n 0), 1) := by decide +kernel
theorem d_78_2 : decode (mB 78) 2 = .ok ((.invokestatic 70), 3) := by decide +kernel
theorem d_78_5 : decode (mB 78) 5 = .ok ((.istore_n 3), 1) := by decide +kernel
theorem d_78_6 : decode (mB 78) 6 = .ok ((.iconst 0), 1) := by decide +kernel
theorem d_78_7 : decode (mB 78) 7 = .ok ((.iload_n 0), 1) := by decide +kernel
theorem d_78_8 : decode (mB 78) 8 = .ok ((.iload_n 3), 1) := by decide +kernel
theorem d_78_9 : decode (mB 78) 9 = .ok (.isub, 1) := by decide +kernel
theorem d_78_10 : decode (mB 78) 10 = .ok ((.iload_n 2), 1) := by decide +kernel
theorem d_78_11 : decode (mB 78) 11 = .ok (.isub, 1) := by decide +kernel
theorem d_78_12 : decode (mB 78) 12 = .ok ((.invokestatic 92), 3) := by decide +kernel
theorem d_78_15 : decode (mB 78) 15 = .ok ((.istore 4), 2) := by decide +kernel
theorem d_78_17 : decode (mB 78) 17 = .ok ((.iload_n 3), 1) := by decide +kernel
theorem d_78_18 : decode (mB 78) 18 = .ok ((.iload 4), 2) := by decide +kernel
theorem d_78_20 : decode (mB 78) 20 = .ok (.iadd, 1) := by decide +kernel
theorem d_78_21 : decode (mB 78) 21 = .ok (.ireturn, 1) := by decide +kernel
theorem d_79_0 : decode (mB 79) 0 = .ok ((.iload_n 1), 1) := by decide +kernel
theorem d_79_1 : decode (mB 79) 1 = .ok ((.invokestatic 37), 3) := by decide +kernel
theorem d_79_4 : decode (mB 79) 4 = .ok ((.ifCond .ne 5), 3) := by decide +kernel
theorem d_79_7 : decode (mB 79) 7 = .ok ((.iconst 0), 1) := by decide +kernel
theorem d_79_8 : decode (mB 79) 8 = .ok (.ireturn, 1) := by decide +kernel
theorem d_79_9 : decode (mB 79) 9 = .ok ((.aload_n 0), 1) := by decide +kernel
theorem d_79_10 : decode (mB 79) 10 = .ok ((.getfield 15), 3) := by decide +kernel
theorem d_79_13 : decode (mB 79) 13 = .ok ((.iload_n 1), 1) := by decide +kernel
theorem d_79_14 : decode (mB 79) 14 = .ok (.dup2, 1) := by decide +kernel
theorem d_79_15 : decode (mB 79) 15 = .ok (.iaload, 1) := by decide +kernel
theorem d_79_16 : decode (mB 79) 16 = .ok ((.iload_n 2), 1) := by decide +kernel
theorem d_79_17 : decode (mB 79) 17 = .ok (.iadd, 1) := by decide +kernel
theorem d_79_18 : decode (mB 79) 18 = .ok (.iastore, 1) := by decide +kernel
theorem d_79_19 : decode (mB 79) 19 = .ok ((.aload_n 0), 1) := by decide +kernel
theorem d_79_20 : decode (mB 79) 20 = .ok ((.getfield 15), 3) := by decide +kernel
theorem d_79_23 : decode (mB 79) 23 = .ok ((.iload_n 1), 1) := by decide +kernel
theorem d_79_24 : decode (mB 79) 24 = .ok (.iaload, 1) := by decide +kernel
theorem d_79_25 : decode (mB 79) 25 = .ok (.ireturn, 1) := by decide +kernel
theorem d_80_0 : decode (mB 80) 0 = .ok ((.aload_n 0), 1) := by decide +kernel
theorem d_80_1 : decode (mB 80) 1 = .ok ((.getfield 28), 3) := by decide +kernel
theorem d_80_4 : decode (mB 80) 4 = .ok (.ireturn, 1) := by decide +kernel
theorem d_81_0 : decode (mB 81) 0 = .ok ((.aload_n 0), 1) := by decide +kernel
theorem d_81_1 : decode (mB 81) 1 = .ok ((.getfield 24), 3) := by decide +kernel
theorem d_81_4 : decode (mB 81) 4 = .ok (.ireturn, 1) := by decide +kernel
theorem d_82_0 : decode (mB 82) 0 = .ok ((.iconst 0), 1) := by decide +kernel
theorem d_82_1 : decode (mB 82) 1 = .ok ((.istore_n 2), 1) := by decide +kernel
theorem d_82_2 : decode (mB 82) 2 = .ok ((.iconst 0), 1) := by decide +kernel
theorem d_82_3 : decode (mB 82) 3 = .ok ((.istore_n 3), 1) := by decide +kernel
theorem d_82_4 : decode (mB 82) 4 = .ok ((.aload_n 1), 1) := by decide +kernel
theorem d_82_5 : decode (mB 82) 5 = .ok ((.iload_n 3), 1) := by decide +kernel
theorem d_82_6 : decode (mB 82) 6 = .ok ((.invokevirtual 50), 3) := by decide +kernel
theorem d_82_9 : decode (mB 82) 9 = .ok ((.ifCond .eq 31), 3) := by decide +kernel
theorem d_82_12 : decode (mB 82) 12 = .ok ((.iload_n 3), 1) := by decide +kernel
theorem d_82_13 : decode (mB 82) 13 = .ok ((.bipush 6), 2) := by decide +kernel
theorem d_82_15 : decode (mB 82) 15 = .ok ((.if_icmp .ge 25), 3) := by decide +kernel
theorem d_82_18 : decode (mB 82) 18 = .ok ((.aload_n 0), 1) := by decide +kernel
theorem d_82_19 : decode (mB 82) 19 = .ok ((.aload_n 1), 1) := by decide +kernel
theorem d_82_20 : decode (mB 82) 20 = .ok ((.iload_n 3), 1) := by decide +kernel
theorem d_82_21 : decode (mB 82) 21 = .ok ((.invokevirtual 53), 3) := by decide +kernel
theorem d_82_24 : decode (mB 82) 24 = .ok ((.ifCond .eq 10), 3) := by decide +kernel
theorem d_82_27 : decode (mB 82) 27 = .ok ((.iload_n 2), 1) := by decide +kernel
theorem d_82_28 : decode (mB 82) 28 = .ok ((.iload_n 3), 1) := by decide +kernel
theorem d_82_29 : decode (mB 82) 29 = .ok ((.invokestatic 57), 3) := by decide +kernel
theorem d_82_32 : decode (mB 82) 32 = .ok (.ior, 1) := by decide +kernel
theorem d_82_33 : decode (mB 82) 33 = .ok ((.istore_n 2), 1) := by decide +kernel
theorem d_82_34 : decode (mB 82) 34 = .ok ((.iinc 3 1), 3) := by decide +kernel
theorem d_82_37 : decode (mB 82) 37 = .ok ((.goto (-33)), 3) := by decide +kernel
theorem d_82_40 : decode (mB 82) 40 = .ok ((.iload_n 2), 1) := by decide +kernel
theorem d_82_41 : decode (mB 82) 41 = .ok (.ireturn, 1) := by decide +kernel
theorem d_83_0 : decode (mB 83) 0 = .ok ((.aload_n 0), 1) := by decide +kernel
theorem d_83_1 : decode (mB 83) 1 = .ok ((.getfield 31), 3) := by decide +kernel
theorem d_83_4 : decode (mB 83) 4 = .ok (.ireturn, 1) := by decide +kernel
theorem d_84_0 : decode (mB 84) 0 = .ok ((.iconst 0), 1) := by decide +kernel
theorem d_84_1 : decode (mB 84) 1 = .ok ((.istore_n 1), 1) := by decide +kernel
theorem d_84_2 : decode (mB 84) 2 = .ok ((.iconst 0), 1) := by decide +kernel
theorem d_84_3 : decode (mB 84) 3 = .ok ((.istore_n 2), 1) := by decide +kernel
theorem d_84_4 : decode (mB 84) 4 = .ok ((.iload_n 2), 1) := by decide +kernel
theorem d_84_5 : decode (mB 84) 5 = .ok ((.bipush 6), 2) := by decide +kernel
theorem d_84_7 : decode (mB 84) 7 = .ok ((.if_icmp .ge 18), 3) := by decide +kernel
theorem d_84_10 : decode (mB 84) 10 = .ok ((.iload_n 1), 1) := by decide +kernel
theorem d_84_11 : decode (mB 84) 11 = .ok ((.aload_n 0), 1) := by decide +kernel
theorem d_84_12 : decode (mB 84) 12 = .ok ((.getfield 9), 3) := by decide +kernel
theorem d_84_15 : decode (mB 84) 15 = .ok ((.iload_n 2), 1) := by decide +kernel
theorem d_84_16 : decode (mB 84) 16 = .ok (.iaload, 1) := by decide +kernel
theorem d_84_17 : decode (mB 84) 17 = .ok (.iadd, 1) := by decide +kernel
theorem d_84_18 : decode (mB 84) 18 = .ok ((.istore_n 1), 1) := by decide +kernel
theorem d_84_19 : decode (mB 84) 19 = .ok ((.iinc 2 1), 3) := by decide +kernel
theorem d_84_22 : decode (mB 84) 22 = .ok ((.goto (-18)), 3) := by decide +kernel
theorem d_84_25 : decode (mB 84) 25 = .ok ((.iload_n 1), 1) := by decide +kernel
theorem d_84_26 : decode (mB 84) 26 = .ok (.ireturn, 1) := by decide +kernel
theorem d_85_0 : decode (mB 85) 0 = .ok ((.aload_n 0), 1) := by decide +kernel
theorem d_85_1 : decode (mB 85) 1 = .ok ((.invokespecial 1), 3) := by decide +kernel
theorem d_85_4 : decode (mB 85) 4 = .ok ((.aload_n 0), 1) := by decide +kernel
theorem d_85_5 : decode (mB 85) 5 = .ok ((.new 7), 3) := by decide +kernel
theorem d_85_8 : decode (mB 85) 8 = .ok (.dup, 1) := by decide +kernel
theorem d_85_9 : decode (mB 85) 9 = .ok ((.invokespecial 9), 3) := by decide +kernel
theorem d_85_12 : decode (mB 85) 12 = .ok ((.putfield 10), 3) := by decide +kernel
theorem d_85_15 : decode (mB 85) 15 = .ok ((.aload_n 0), 1) := by decide +kernel
theorem d_85_16 : decode (mB 85) 16 = .ok ((.new 16), 3) := by decide +kernel
theorem d_85_19 : decode (mB 85) 19 = .ok (.dup, 1) := by decide +kernel
theorem d_85_20 : decode (mB 85) 20 = .ok ((.invokespecial 18), 3) := by decide +kernel
theorem d_85_23 : decode (mB 85) 23 = .ok ((.putfield 19), 3) := by decide +kernel
theorem d_85_26 : decode (mB 85) 26 = .ok ((.aload_n 0), 1) := by decide +kernel
theorem d_85_27 : decode (mB 85) 27 = .ok ((.new 23), 3) := by decide +kernel
theorem d_85_30 : decode (mB 85) 30 = .ok (.dup, 1) := by decide +kernel
theorem d_85_31 : decode (mB 85) 31 = .ok ((.invokespecial 25), 3) := by decide +kernel
theorem d_85_34 : decode (mB 85) 34 = .ok ((.putfield 26), 3) := by decide +kernel
theorem d_85_37 : decode (mB 85) 37 = .ok ((.aload_n 0), 1) := by decide +kernel
theorem d_85_38 : decode (mB 85) 38 = .ok ((.new 30), 3) := by decide +kernel
theorem d_85_41 : decode (mB 85) 41 = .ok (.dup, 1) := by decide +kernel
theorem d_85_42 : decode (mB 85) 42 = .ok ((.invokespecial 32), 3) := by decide +kernel
theorem d_85_45 : decode (mB 85) 45 = .ok ((.putfield 33), 3) := by decide +kernel
theorem d_85_48 : decode (mB 85) 48 = .ok ((.aload_n 0), 1) := by decide +kernel
theorem d_85_49 : decode (mB 85) 49 = .ok ((.new 37), 3) := by decide +kernel
theorem d_85_52 : decode (mB 85) 52 = .ok (.dup, 1) := by decide +kernel
theorem d_85_53 : decode (mB 85) 53 = .ok ((.invokespecial 39), 3) := by decide +kernel
theorem d_85_56 : decode (mB 85) 56 = .ok ((.putfield 40), 3) := by decide +kernel
theorem d_85_59 : decode (mB 85) 59 = .ok ((.aload_n 0), 1) := by decide +kernel
theorem d_85_60 : decode (mB 85) 60 = .ok ((.new 44), 3) := by decide +kernel
theorem d_85_63 : decode (mB 85) 63 = .ok (.dup, 1) := by decide +kernel
theorem d_85_64 : decode (mB 85) 64 = .ok ((.aload_n 0), 1) := by decide +kernel
theorem d_85_65 : decode (mB 85) 65 = .ok ((.getfield 26), 3) := by decide +kernel
theorem d_85_68 : decode (mB 85) 68 = .ok ((.aload_n 0), 1) := by decide +kernel
theorem d_85_69 : decode (mB 85) 69 = .ok ((.getfield 33), 3) := by decide +kernel
theorem d_85_72 : decode (mB 85) 72 = .ok ((.invokespecial 46), 3) := by decide +kernel
theorem d_85_75 : decode (mB 85) 75 = .ok ((.putfield 49), 3) := by decide +kernel
theorem d_85_78 : decode (mB 85) 78 = .ok ((.aload_n 0), 1) := by decide +kernel
theorem d_85_79 : decode (mB 85) 79 = .ok ((.new 53), 3) := by decide +kernel
theorem d_85_82 : decode (mB 85) 82 = .ok (.dup, 1) := by decide +kernel
theorem d_85_83 : decode (mB 85) 83 = .ok ((.invokespecial 55), 3) := by decide +kernel
theorem d_85_86 : decode (mB 85) 86 = .ok ((.putfield 56), 3) := by decide +kernel
theorem d_85_89 : decode (mB 85) 89 = .ok ((.aload_n 0), 1) := by decide +kernel
theorem d_85_90 : decode (mB 85) 90 = .ok ((.new 60), 3) := by decide +kernel
theorem d_85_93 : decode (mB 85) 93 = .ok (.dup, 1) := by decide +kernel
theorem d_85_94 : decode (mB 85) 94 = .ok ((.iconst 2), 1) := by decide +kernel
theorem d_85_95 : decode (mB 85) 95 = .ok ((.invokespecial 62), 3) := by decide +kernel
theorem d_85_98 : decode (mB 85) 98 = .ok ((.putfield 65), 3) := by decide +kernel
theorem d_85_101 : decode (mB 85) 101 = .ok ((.aload_n 0), 1) := by decide +kernel
theorem d_85_102 : decode (mB 85) 102 = .ok ((.lconst 0), 1) := by decide +kernel
theorem d_85_103 : decode (mB 85) 103 = .ok ((.putfield 69), 3) := by decide +kernel
theorem d_85_106 : decode (mB 85) 106 = .ok (.return_, 1) := by decide +kernel
theorem d_86_0 : decode (mB 86) 0 = .ok ((.iload_n 1), 1) := by decide +kernel
theorem d_86_1 : decode (mB 86) 1 = .ok ((.iconst 1), 1) := by decide +kernel
theorem d_86_2 : decode (mB 86) 2 = .ok ((.if_icmp .lt 9), 3) := by decide +kernel
theorem d_86_5 : decode (mB 86) 5 = .ok ((.iload_n 1), 1) := by decide +kernel
theorem d_86_6 : decode (mB 86) 6 = .ok ((.bipush 8), 2) := by decide +kernel
theorem d_86_8 : decode (mB 86) 8 = .ok ((.if_icmp .le 6), 3) := by decide +kernel
theorem d_86_11 : decode (mB 86) 11 = .ok ((.bipush (-2)), 2) := by decide +kernel
theorem d_86_13 : decode (mB 86) 13 = .ok (.ireturn, 1) := by decide +kernel
theorem d_86_14 : decode (mB 86) 14 = .ok ((.aload_n 0), 1) := by decide +kernel
theorem d_86_15 : decode (mB 86) 15 = .ok ((.getfield 10), 3) := by decide +kernel
theorem d_86_18 : decode (mB 86) 18 = .ok ((.iload_n 1), 1) := by decide +kernel
theorem d_86_19 : decode (mB 86) 19 = .ok ((.invokevirtual 73), 3) := by decide +kernel
theorem d_86_22 : decode (mB 86) 22 = .ok ((.ifCond .ne 6), 3) := by decide +kernel
theorem d_86_25 : decode (mB 86) 25 = .ok ((.bipush (-4)), 2) := by decide +kernel
theorem d_86_27 : decode (mB 86) 27 = .ok (.ireturn, 1) := by decide +kernel
theorem d_86_28 : decode (mB 86) 28 = .ok ((.aload_n 0), 1) := by decide +kernel
theorem d_86_29 : decode (mB 86) 29 = .ok ((.getfield 10), 3) := by decide +kernel
theorem d_86_32 : decode (mB 86) 32 = .ok ((.iload_n 1), 1) := by decide +kernel
theorem d_86_33 : decode (mB 86) 33 = .ok ((.lload_n 2), 1) := by decide +kernel
theorem d_86_34 : decode (mB 86) 34 = .ok ((.invokevirtual 77), 3) := by decide +kernel
theorem d_86_37 : decode (mB 86) 37 = .ok ((.aload_n 0), 1) := by decide +kernel
theorem d_86_38 : decode (mB 86) 38 = .ok ((.getfield 10), 3) := by decide +kernel
theorem d_86_41 : decode (mB 86) 41 = .ok ((.invokevirtual 81), 3) := by decide +kernel
theorem d_86_44 : decode (mB 86) 44 = .ok (.ireturn, 1) := by decide +kernel
theorem d_87_0 : decode (mB 87) 0 = .ok ((.aload_n 0), 1) := by decide +kernel
theorem d_87_1 : decode (mB 87) 1 = .ok ((.getfield 10), 3) := by decide +kernel
theorem d_87_4 : decode (mB 87) 4 = .ok ((.invokevirtual 81), 3) := by decide +kernel
theorem d_87_7 : decode (mB 87) 7 = .ok ((.istore_n 1), 1) := by decide +kernel
theorem d_87_8 : decode (mB 87) 8 = .ok ((.aload_n 0), 1) := by decide +kernel
theorem d_87_9 : decode (mB 87) 9 = .ok ((.getfield 10), 3) := by decide +kernel
theorem d_87_12 : decode (mB 87) 12 = .ok ((.invokevirtual 85), 3) := by decide +kernel
theorem d_87_15 : decode (mB 87) 15 = .ok ((.iload_n 1), 1) := by decide +kernel
theorem d_87_16 : decode (mB 87) 16 = .ok (.ireturn, 1) := by decide +kernel
theorem d_88_0 : decode (mB 88) 0 = .ok ((.aload_n 0), 1) := by decide +kernel
theorem d_88_1 : decode (mB 88) 1 = .ok ((.getfield 19), 3) := by decide +kernel
theorem d_88_4 : decode (mB 88) 4 = .ok ((.aload_n 0), 1) := by decide +kernel
theorem d_88_5 : decode (mB 88) 5 = .ok ((.getfield 10), 3) := by decide +kernel
theorem d_88_8 : decode (mB 88) 8 = .ok ((.invokevirtual 88), 3) := by decide +kernel
theorem d_88_11 : decode (mB 88) 11 = .ok (.ireturn, 1) := by decide +kernel
theorem d_89_0 : decode (mB 89) 0 = .ok ((.iload_n 0), 1) := by decide +kernel
theorem d_89_1 : decode (mB 89) 1 = .ok ((.iload_n 1), 1) := by decide +kernel
theorem d_89_2 : decode (mB 89) 2 = .ok ((.if_icmp .lt 12), 3) := by decide +kernel
theorem d_89_5 : decode (mB 89) 5 = .ok ((.iload_n 0), 1) := by decide +kernel
theorem d_89_6 : decode (mB 89) 6 = .ok ((.iload_n 2), 1) := by decide +kernel
theorem d_89_7 : decode (mB 89) 7 = .ok ((.if_icmp .gt 7), 3) := by decide +kernel
theorem d_89_10 : decode (mB 89) 10 = .ok ((.iconst 1), 1) := by decide +kernel
theorem d_89_11 : decode (mB 89) 11 = .ok ((.goto 4), 3) := by decide +kernel
theorem d_89_14 : decode (mB 89) 14 = .ok ((.iconst 0), 1) := by decide +kernel
theorem d_89_15 : decode (mB 89) 15 = .ok (.ireturn, 1) := by decide +kernel
theorem d_90_0 : decode (mB 90) 0 = .ok ((.aload_n 0), 1) := by decide +kernel
theorem d_90_1 : decode (mB 90) 1 = .ok ((.getfield 19), 3) := by decide +kernel
theorem d_90_4 : decode (mB 90) 4 = .ok ((.aload_n 0), 1) := by decide +kernel
theorem d_90_5 : decode (mB 90) 5 = .ok ((.getfield 10), 3) := by decide +kernel
theorem d_90_8 : decode (mB 90) 8 = .ok ((.invokevirtual 88), 3) := by decide +kernel
theorem d_90_11 : decode (mB 90) 11 = .ok ((.bipush (-9)), 2) := by decide +kernel
theorem d_90_13 : decode (mB 90) 13 = .ok ((.if_icmp .eq 6), 3) := by decide +kernel
theorem d_90_16 : decode (mB 90) 16 = .ok ((.bipush (-3)), 2) := by decide +kernel
theorem d_90_18 : decode (mB 90) 18 = .ok (.ireturn, 1) := by decide +kernel
theorem d_90_19 : decode (mB 90) 19 = .ok ((.aload_n 0), 1) := by decide +kernel
theorem d_90_20 : decode (mB 90) 20 = .ok ((.getfield 26), 3) := by decide +kernel
theorem d_90_23 : decode (mB 90) 23 = .ok ((.aload_n 0), 1) := by decide +kernel
theorem d_90_24 : decode (mB 90) 24 = .ok ((.getfield 19), 3) := by decide +kernel
theorem d_90_27 : decode (mB 90) 27 = .ok ((.invokevirtual 92), 3) := by decide +kernel
theorem d_90_30 : decode (mB 90) 30 = .ok ((.invokevirtual 96), 3) := by decide +kernel
theorem d_90_33 : decode (mB 90) 33 = .ok ((.aload_n 0), 1) := by decide +kernel
theorem d_90_34 : decode (mB 90) 34 = .ok ((.getfield 33), 3) := by decide +kernel
theorem d_90_37 : decode (mB 90) 37 = .ok ((.aload_n 0), 1) := by decide +kernel
theorem d_90_38 : decode (mB 90) 38 = .ok ((.getfield 26), 3) := by decide +kernel
theorem d_90_41 : decode (mB 90) 41 = .ok ((.invokevirtual 100), 3) := by decide +kernel
theorem d_90_44 : decode (mB 90) 44 = .ok ((.aload_n 0), 1) := by decide +kernel
theorem d_90_45 : decode (mB 90) 45 = .ok ((.getfield 40), 3) := by decide +kernel
theorem d_90_48 : decode (mB 90) 48 = .ok ((.invokevirtual 103), 3) := by decide +kernel
theorem d_90_51 : decode (mB 90) 51 = .ok ((.aload_n 0), 1) := by decide +kernel
theorem d_90_52 : decode (mB 90) 52 = .ok ((.getfield 65), 3) := by decide +kernel
theorem d_90_55 : decode (mB 90) 55 = .ok ((.invokevirtual 106), 3) := by decide +kernel
theorem d_90_58 : decode (mB 90) 58 = .ok ((.aload_n 0), 1) := by decide +kernel
theorem d_90_59 : decode (mB 90) 59 = .ok ((.getfield 26), 3) := by decide +kernel
theorem d_90_62 : decode (mB 90) 62 = .ok ((.invokevirtual 109), 3) := by decide +kernel
theorem d_90_65 : decode (mB 90) 65 = .ok (.ireturn, 1) := by decide +kernel
theorem d_91_0 : decode (mB 91) 0 = .ok ((.aload_n 0), 1) := by decide +kernel
theorem d_91_1 : decode (mB 91) 1 = .ok ((.getfield 26), 3) := by decide +kernel
theorem d_91_4 : decode (mB 91) 4 = .ok ((.iload_n 1), 1) := by decide +kernel
theorem d_91_5 : decode (mB 91) 5 = .ok ((.invokevirtual 112), 3) := by decide +kernel
theorem d_91_8 : decode (mB 91) 8 = .ok ((.ifCond .ne 5), 3) := by decide +kernel
theorem d_91_11 : decode (mB 91) 11 = .ok ((.iconst (-1)), 1) := by decide +kernel
theorem d_91_12 : decode (mB 91) 12 = .ok (.ireturn, 1) := by decide +kernel
theorem d_91_13 : decode (mB 91) 13 = .ok ((.iload_n 2), 1) := by decide +kernel
theorem d_91_14 : decode (mB 91) 14 = .ok ((.tableswitch 167 0 9 #[54, 63, 72, 81, 90, 111, 131, 140, 149, 158]), 54) := by decide +kernel
theorem d_91_68 : decode (mB 91) 68 = .ok ((.aload_n 0), 1) := by decide +kernel
theorem d_91_69 : decode (mB 91) 69 = .ok ((.getfield 33), 3) := by decide +kernel
theorem d_91_72 : decode (mB 91) 72 = .ok ((.iload_n 1), 1) := by decide +kernel
theorem d_91_73 : decode (mB 91) 73 = .ok ((.invokevirtual 115), 3) := by decide +kernel
theorem d_91_76 : decode (mB 91) 76 = .ok (.ireturn, 1) := by decide +kernel
theorem d_91_77 : decode (mB 91) 77 = .ok ((.aload_n 0), 1) := by decide +kernel
theorem d_91_78 : decode (mB 91) 78 = .ok ((.getfield 33), 3) := by decide +kernel
theorem d_91_81 : decode (mB 91) 81 = .ok ((.iload_n 1), 1) := by decide +kernel
theorem d_91_82 : decode (mB 91) 82 = .ok ((.invokevirtual 119), 3) := by decide +kernel
theorem d_91_85 : decode (mB 91) 85 = .ok (.ireturn, 1) := by decide +kernel
theorem d_91_86 : decode (mB 91) 86 = .ok ((.aload_n 0), 1) := by decide +kernel
theorem d_91_87 : decode (mB 91) 87 = .ok ((.getfield 33), 3) := by decide +kernel
theorem d_91_90 : decode (mB 91) 90 = .ok ((.iload_n 1), 1) := by decide +kernel
theorem d_91_91 : decode (mB 91) 91 = .ok ((.invokevirtual 122), 3) := by decide +kernel
theorem d_91_94 : decode (mB 91) 94 = .ok (.ireturn, 1) := by decide +kernel
theorem d_91_95 : decode (mB 91) 95 = .ok ((.aload_n 0), 1) := by decide +kernel
theorem d_91_96 : decode (mB 91) 96 = .ok ((.getfield 33), 3) := by decide +kernel
theorem d_91_99 : decode (mB 91) 99 = .ok ((.iload_n 1), 1) := by decide +kernel
theorem d_91_100 : decode (mB 91) 100 = .ok ((.invokevirtual 125), 3) := by decide +kernel
theorem d_91_103 : decode (mB 91) 103 = .ok (.ireturn, 1) := by decide +kernel
theorem d_91_104 : decode (mB 91) 104 = .ok ((.aload_n 0), 1) := by decide +kernel
theorem d_91_105 : decode (mB 91) 105 = .ok ((.getfield 33), 3) := by decide +kernel
theorem d_91_108 : decode (mB 91) 108 = .ok ((.aload_n 0), 1) := by decide +kernel
theorem d_91_109 : decode (mB 91) 109 = .ok ((.getfield 26), 3) := by decide +kernel
theorem d_91_112 : decode (mB 91) 112 = .ok ((.iload_n 1), 1) := by decide +kernel
theorem d_91_113 : decode (mB 91) 113 = .ok ((.invokevirtual 128), 3) := by decide +kernel
theorem d_91_116 : decode (mB 91) 116 = .ok ((.ifCond .eq 7), 3) := by decide +kernel
theorem d_91_119 : decode (mB 91) 119 = .ok ((.iconst 1), 1) := by decide +kernel
theorem d_91_120 : decode (mB 91) 120 = .ok ((.goto 4), 3) := by decide +kernel
theorem d_91_123 : decode (mB 91) 123 = .ok ((.iconst 0), 1) := by decide +kernel
theorem d_91_124 : decode (mB 91) 124 = .ok (.ireturn, 1) := by decide +kernel
theorem d_91_125 : decode (mB 91) 125 = .ok ((.aload_n 0), 1) := by decide +kernel
theorem d_91_126 : decode (mB 91) 126 = .ok ((.getfield 33), 3) := by decide +kernel
theorem d_91_129 : decode (mB 91) 129 = .ok ((.invokevirtual 132), 3) := by decide +kernel
theorem d_91_132 : decode (mB 91) 132 = .ok ((.iload_n 1), 1) := by decide +kernel
theorem d_91_133 : decode (mB 91) 133 = .ok ((.invokestatic 135), 3) := by decide +kernel
theorem d_91_136 : decode (mB 91) 136 = .ok ((.ifCond .eq 7), 3) := by decide +kernel
theorem d_91_139 : decode (mB 91) 139 = .ok ((.iconst 1), 1) := by decide +kernel
theorem d_91_140 : decode (mB 91) 140 = .ok ((.goto 4), 3) := by decide +kernel
theorem d_91_143 : decode (mB 91) 143 = .ok ((.iconst 0), 1) := by decide +kernel
theorem d_91_144 : decode (mB 91) 144 = .ok (.ireturn, 1) := by decide +kernel
theorem d_91_145 : decode (mB 91) 145 = .ok ((.aload_n 0), 1) := by decide +kernel
theorem d_91_146 : decode (mB 91) 146 = .ok ((.getfield 26), 3) := by decide +kernel
theorem d_91_149 : decode (mB 91) 149 = .ok ((.iload_n 1), 1) := by decide +kernel
theorem d_91_150 : decode (mB 91) 150 = .ok ((.invokevirtual 139), 3) := by decide +kernel
theorem d_91_153 : decode (mB 91) 153 = .ok (.ireturn, 1) := by decide +kernel
theorem d_91_154 : decode (mB 91) 154 = .ok ((.aload_n 0), 1) := by decide +kernel
theorem d_91_155 : decode (mB 91) 155 = .ok ((.getfield 26), 3) := by decide +kernel
theorem d_91_158 : decode (mB 91) 158 = .ok ((.iload_n 1), 1) := by decide +kernel
theorem d_91_159 : decode (mB 91) 159 = .ok ((.invokevirtual 142), 3) := by decide +kernel
theorem d_91_162 : decode (mB 91) 162 = .ok (.ireturn, 1) := by decide +kernel
theorem d_91_163 : decode (mB 91) 163 = .ok ((.aload_n 0), 1) := by decide +kernel
theorem d_91_164 : decode (mB 91) 164 = .ok ((.getfield 26), 3) := by decide +kernel
theorem d_91_167 : decode (mB 91) 167 = .ok ((.iload_n 1), 1) := by decide +kernel
theorem d_91_168 : decode (mB 91) 168 = .ok ((.invokevirtual 145), 3) := by decide +kernel
theorem d_91_171 : decode (mB 91) 171 = .ok (.ireturn, 1) := by decide +kernel
theorem d_91_172 : decode (mB 91) 172 = .ok ((.aload_n 0), 1) := by decide +kernel
theorem d_91_173 : decode (mB 91) 173 = .ok ((.getfield 26), 3) := by decide +kernel
theorem d_91_176 : decode (mB 91) 176 = .ok ((.iload_n 1), 1) := by decide +kernel
theorem d_91_177 : decode (mB 91) 177 = .ok ((.invokevirtual 148), 3) := by decide +kernel
theorem d_91_180 : decode (mB 91) 180 = .ok (.ireturn, 1) := by decide +kernel
theorem d_91_181 : decode (mB 91) 181 = .ok ((.bipush (-2)), 2) := by decide +kernel
theorem d_91_183 : decode (mB 91) 183 = .ok (.ireturn, 1) := by decide +kernel
theorem d_92_0 : decode (mB 92) 0 = .ok ((.iload_n 0), 1) := by decide +kernel
theorem d_92_1 : decode (mB 92) 1 = .ok ((.iload_n 1), 1) := by decide +kernel
theorem d_92_2 : decode (mB 92) 2 = .ok ((.invokestatic 151), 3) := by decide +kernel
theorem d_92_5 : decode (mB 92) 5 = .ok (.iand, 1) := by decide +kernel
theorem d_92_6 : decode (mB 92) 6 = .ok ((.ifCond .eq 7), 3) := by decide +kernel
theorem d_92_9 : decode (mB 92) 9 = .ok ((.iconst 1), 1) := by decide +kernel
theorem d_92_10 : decode (mB 92) 10 = .ok ((.goto 4), 3) := by decide +kernel
theorem d_92_13 : decode (mB 92) 13 = .ok ((.iconst 0), 1) := by decide +kernel
theorem d_92_14 : decode (mB 92) 14 = .ok (.ireturn, 1) := by decide +kernel
theorem d_93_0 : decode (mB 93) 0 = .ok ((.iconst 1), 1) := by decide +kernel
theorem d_93_1 : decode (mB 93) 1 = .ok ((.iload_n 0), 1) := by decide +kernel
theorem d_93_2 : decode (mB 93) 2 = .ok (.ishl, 1) := by decide +kernel
theorem d_93_3 : decode (mB 93) 3 = .ok (.ireturn, 1) := by decide +kernel
theorem d_94_0 : decode (mB 94) 0 = .ok ((.aload_n 0), 1) := by decide +kernel
theorem d_94_1 : decode (mB 94) 1 = .ok ((.getfield 26), 3) := by decide +kernel
theorem d_94_4 : decode (mB 94) 4 = .ok ((.iload_n 1), 1) := by decide +kernel
theorem d_94_5 : decode (mB 94) 5 = .ok ((.invokevirtual 112), 3) := by decide +kernel
theorem d_94_8 : decode (mB 94) 8 = .ok ((.ifCond .ne 5), 3) := by decide +kernel
theorem d_94_11 : decode (mB 94) 11 = .ok ((.iconst (-1)), 1) := by decide +kernel
theorem d_94_12 : decode (mB 94) 12 = .ok (.ireturn, 1) := by decide +kernel
theorem d_94_13 : decode (mB 94) 13 = .ok ((.aload_n 0), 1) := by decide +kernel
theorem d_94_14 : decode (mB 94) 14 = .ok ((.getfield 33), 3) := by decide +kernel
theorem d_94_17 : decode (mB 94) 17 = .ok ((.invokevirtual 132), 3) := by decide +kernel
theorem d_94_20 : decode (mB 94) 20 = .ok ((.iload_n 1), 1) := by decide +kernel
theorem d_94_21 : decode (mB 94) 21 = .ok ((.invokestatic 135), 3) := by decide +kernel
theorem d_94_24 : decode (mB 94) 24 = .ok ((.iload_n 2), 1) := by decide +kernel
theorem d_94_25 : decode (mB 94) 25 = .ok ((.if_icmp .ne 5), 3) := by decide +kernel
theorem d_94_28 : decode (mB 94) 28 = .ok ((.iconst 0), 1) := by decide +kernel
theorem d_94_29 : decode (mB 94) 29 = .ok (.ireturn, 1) := by decide +kernel
theorem d_94_30 : decode (mB 94) 30 = .ok ((.aload_n 0), 1) := by decide +kernel
theorem d_94_31 : decode (mB 94) 31 = .ok ((.getfield 33), 3) := by decide +kernel
theorem d_94_34 : decode (mB 94) 34 = .ok ((.aload_n 0), 1) := by decide +kernel
theorem d_94_35 : decode (mB 94) 35 = .ok ((.getfield 33), 3) := by decide +kernel
theorem d_94_38 : decode (mB 94) 38 = .ok ((.invokevirtual 132), 3) := by decide +kernel
theorem d_94_41 : decode (mB 94) 41 = .ok ((.iload_n 1), 1) := by decide +kernel
theorem d_94_42 : decode (mB 94) 42 = .ok ((.invokestatic 151), 3) := by decide +kernel
theorem d_94_45 : decode (mB 94) 45 = .ok (.ixor, 1) := by decide +kernel
theorem d_94_46 : decode (mB 94) 46 = .ok ((.invokevirtual 154), 3) := by decide +kernel
theorem d_94_49 : decode (mB 94) 49 = .ok ((.iconst 1), 1) := by decide +kernel
theorem d_94_50 : decode (mB 94) 50 = .ok (.ireturn, 1) := by decide +kernel
theorem d_95_0 : decode (mB 95) 0 = .ok ((.iload_n 1), 1) := by decide +kernel
theorem d_95_1 : decode (mB 95) 1 = .ok ((.invokestatic 157), 3) := by decide +kernel
theorem d_95_4 : decode (mB 95) 4 = .ok ((.ifCond .ne 6), 3) := by decide +kernel
theorem d_95_7 : decode (mB 95) 7 = .ok ((.bipush (-2)), 2) := by decide +kernel
theorem d_95_9 : decode (mB 95) 9 = .ok (.ireturn, 1) := by decide +kernel
theorem d_95_10 : decode (mB 95) 10 = .ok ((.aload_n 0), 1) := by decide +kernel
theorem d_95_11 : decode (mB 95) 11 = .ok ((.getfield 40), 3) := by decide +kernel
theorem d_95_14 : decode (mB 95) 14 = .ok ((.aload_n 0), 1) := by decide +kernel
theorem d_95_15 : decode (mB 95) 15 = .ok ((.getfield 33), 3) := by decide +kernel
theorem d_95_18 : decode (mB 95) 18 = .ok ((.invokevirtual 160), 3) := by decide +kernel
theorem d_95_21 : decode (mB 95) 21 = .ok ((.aload_n 0), 1) := by decide +kernel
theorem d_95_22 : decode (mB 95) 22 = .ok ((.getfield 33), 3) := by decide +kernel
theorem d_95_25 : decode (mB 95) 25 = .ok ((.aload_n 0), 1) := by decide +kernel
theorem d_95_26 : decode (mB 95) 26 = .ok ((.getfield 26), 3) := by decide +kernel
theorem d_95_29 : decode (mB 95) 29 = .ok ((.aload_n 0), 1) := by decide +kernel
theorem d_95_30 : decode (mB 95) 30 = .ok ((.getfield 33), 3) := by decide +kernel
theorem d_95_33 : decode (mB 95) 33 = .ok ((.invokevirtual 132), 3) := by decide +kernel
theorem d_95_36 : decode (mB 95) 36 = .ok ((.iload_n 1), 1) := by decide +kernel
theorem d_95_37 : decode (mB 95) 37 = .ok ((.invokevirtual 164), 3) := by decide +kernel
theorem d_95_40 : decode (mB 95) 40 = .ok (.ireturn, 1) := by decide +kernel
theorem d_96_0 : decode (mB 96) 0 = .ok ((.iload_n 0), 1) := by decide +kernel
theorem d_96_1 : decode (mB 96) 1 = .ok ((.iconst 0), 1) := by decide +kernel
theorem d_96_2 : decode (mB 96) 2 = .ok ((.bipush 9), 2) := by decide +kernel
theorem d_96_4 : decode (mB 96) 4 = .ok ((.invokestatic 168), 3) := by decide +kernel
theorem d_96_7 : decode (mB 96) 7 = .ok (.ireturn, 1) := by decide +kernel
theorem d_97_0 : decode (mB 97) 0 = .ok ((.aload_n 0), 1) := by decide +kernel
theorem d_97_1 : decode (mB 97) 1 = .ok ((.getfield 26), 3) := by decide +kernel
theorem d_97_4 : decode (mB 97) 4 = .ok ((.iload_n 1), 1) := by decide +kernel
theorem d_97_5 : decode (mB 97) 5 = .ok ((.invokevirtual 112), 3) := by decide +kernel
theorem d_97_8 : decode (mB 97) 8 = .ok ((.ifCond .ne 5), 3) := by decide +kernel
theorem d_97_11 : decode (mB 97) 11 = .ok ((.iconst (-1)), 1) := by decide +kernel
theorem d_97_12 : decode (mB 97) 12 = .ok (.ireturn, 1) := by decide +kernel
theorem d_97_13 : decode (mB 97) 13 = .ok ((.iload_n 2), 1) := by decide +kernel
theorem d_97_14 : decode (mB 97) 14 = .ok ((.iconst 1), 1) := by decide +kernel
theorem d_97_15 : decode (mB 97) 15 = .ok ((.bipush 9), 2) := by decide +kernel
theorem d_97_17 : decode (mB 97) 17 = .ok ((.invokestatic 168), 3) := by decide +kernel
theorem d_97_20 : decode (mB 97) 20 = .ok ((.ifCond .ne 6), 3) := by decide +kernel
theorem d_97_23 : decode (mB 97) 23 = .ok ((.bipush (-2)), 2) := by decide +kernel
theorem d_97_25 : decode (mB 97) 25 = .ok (.ireturn, 1) := by decide +kernel
theorem d_97_26 : decode (mB 97) 26 = .ok ((.aload_n 0), 1) := by decide +kernel
theorem d_97_27 : decode (mB 97) 27 = .ok ((.getfield 33), 3) := by decide +kernel
theorem d_97_30 : decode (mB 97) 30 = .ok ((.iload_n 1), 1) := by decide +kernel
theorem d_97_31 : decode (mB 97) 31 = .ok ((.invokevirtual 115), 3) := by decide +kernel
theorem d_97_34 : decode (mB 97) 34 = .ok ((.iload_n 2), 1) := by decide +kernel
theorem d_97_35 : decode (mB 97) 35 = .ok ((.if_icmp .ge 6), 3) := by decide +kernel
theorem d_97_38 : decode (mB 97) 38 = .ok ((.bipush (-3)), 2) := by decide +kernel
theorem d_97_40 : decode (mB 97) 40 = .ok (.ireturn, 1) := by decide +kernel
theorem d_97_41 : decode (mB 97) 41 = .ok ((.aload_n 0), 1) := by decide +kernel
theorem d_97_42 : decode (mB 97) 42 = .ok ((.getfield 40), 3) := by decide +kernel
theorem d_97_45 : decode (mB 97) 45 = .ok ((.aload_n 0), 1) := by decide +kernel
theorem d_97_46 : decode (mB 97) 46 = .ok ((.getfield 33), 3) := by decide +kernel
theorem d_97_49 : decode (mB 97) 49 = .ok ((.invokevirtual 160), 3) := by decide +kernel
theorem d_97_52 : decode (mB 97) 52 = .ok ((.aload_n 0), 1) := by decide +kernel
theorem d_97_53 : decode (mB 97) 53 = .ok ((.getfield 33), 3) := by decide +kernel
theorem d_97_56 : decode (mB 97) 56 = .ok ((.iload_n 1), 1) := by decide +kernel
theorem d_97_57 : decode (mB 97) 57 = .ok ((.iload_n 2), 1) := by decide +kernel
theorem d_97_58 : decode (mB 97) 58 = .ok ((.invokevirtual 172), 3) := by decide +kernel
theorem d_97_61 : decode (mB 97) 61 = .ok (.ireturn, 1) := by decide +kernel
theorem d_98_0 : decode (mB 98) 0 = .ok ((.aload_n 0), 1) := by decide +kernel
theorem d_98_1 : decode (mB 98) 1 = .ok ((.getfield 26), 3) := by decide +kernel
theorem d_98_4 : decode (mB 98) 4 = .ok ((.iload_n 1), 1) := by decide +kernel
theorem d_98_5 : decode (mB 98) 5 = .ok ((.invokevirtual 112), 3) := by decide +kernel
theorem d_98_8 : decode (mB 98) 8 = .ok ((.ifCond .ne 5), 3) := by decide +kernel
theorem d_98_11 : decode (mB 98) 11 = .ok ((.iconst (-1)), 1) := by decide +kernel
theorem d_98_12 : decode (mB 98) 12 = .ok (.ireturn, 1) := by decide +kernel
theorem d_98_13 : decode (mB 98) 13 = .ok ((.iload_n 2), 1) := by decide +kernel
theorem d_98_14 : decode (mB 98) 14 = .ok ((.iconst 1), 1) := by decide +kernel
theorem d_98_15 : decode (mB 98) 15 = .ok ((.bipush 9), 2) := by decide +kernel
theorem d_98_17 : decode (mB 98) 17 = .ok ((.invokestatic 168), 3) := by decide +kernel
theorem d_98_20 : decode (mB 98) 20 = .ok ((.ifCond .ne 6), 3) := by decide +kernel
theorem d_98_23 : decode (mB 98) 23 = .ok ((.bipush (-2)), 2) := by decide +kernel
theorem d_98_25 : decode (mB 98) 25 = .ok (.ireturn, 1) := by decide +kernel
theorem d_98_26 : decode (mB 98) 26 = .ok ((.aload_n 0), 1) := by decide +kernel
theorem d_98_27 : decode (mB 98) 27 = .ok ((.getfield 33), 3) := by decide +kernel
theorem d_98_30 : decode (mB 98) 30 = .ok ((.iload_n 1), 1) := by decide +kernel
theorem d_98_31 : decode (mB 98) 31 = .ok ((.invokevirtual 115), 3) := by decide +kernel
theorem d_98_34 : decode (mB 98) 34 = .ok ((.iconst 1), 1) := by decide +kernel
theorem d_98_35 : decode (mB 98) 35 = .ok ((.if_icmp .ge 6), 3) := by decide +kernel
theorem d_98_38 : decode (mB 98) 38 = .ok ((.bipush (-3)), 2) := by decide +kernel
theorem d_98_40 : decode (mB 98) 40 = .ok (.ireturn, 1) := by decide +kernel
theorem d_98_41 : decode (mB 98) 41 = .ok ((.aload_n 0), 1) := by decide +kernel
theorem d_98_42 : decode (mB 98) 42 = .ok ((.getfield 33), 3) := by decide +kernel
theorem d_98_45 : decode (mB 98) 45 = .ok ((.iload_n 1), 1) := by decide +kernel
theorem d_98_46 : decode (mB 98) 46 = .ok ((.invokevirtual 119), 3) := by decide +kernel
theorem d_98_49 : decode (mB 98) 49 = .ok ((.bipush 99), 2) := by decide +kernel
theorem d_98_51 : decode (mB 98) 51 = .ok ((.iload_n 2), 1) := by decide +kernel
theorem d_98_52 : decode (mB 98) 52 = .ok (.isub, 1) := by decide +kernel
theorem d_98_53 : decode (mB 98) 53 = .ok ((.if_icmp .le 6), 3) := by decide +kernel
theorem d_98_56 : decode (mB 98) 56 = .ok ((.bipush (-4)), 2) := by decide +kernel
theorem d_98_58 : decode (mB 98) 58 = .ok (.ireturn, 1) := by decide +kernel
theorem d_98_59 : decode (mB 98) 59 = .ok ((.aload_n 0), 1) := by decide +kernel
theorem d_98_60 : decode (mB 98) 60 = .ok ((.getfield 40), 3) := by decide +kernel
theorem d_98_63 : decode (mB 98) 63 = .ok ((.aload_n 0), 1) := by decide +kernel
theorem d_98_64 : decode (mB 98) 64 = .ok ((.getfield 33), 3) := by decide +kernel
theorem d_98_67 : decode (mB 98) 67 = .ok ((.invokevirtual 160), 3) := by decide +kernel
theorem d_98_70 : decode (mB 98) 70 = .ok ((.aload_n 0), 1) := by decide +kernel
theorem d_98_71 : decode (mB 98) 71 = .ok ((.getfield 33), 3) := by decide +kernel
theorem d_98_74 : decode (mB 98) 74 = .ok ((.iload_n 1), 1) := by decide +kernel
theorem d_98_75 : decode (mB 98) 75 = .ok ((.iload_n 2), 1) := by decide +kernel
theorem d_98_76 : decode (mB 98) 76 = .ok ((.invokevirtual 176), 3) := by decide +kernel
theorem d_98_79 : decode (mB 98) 79 = .ok (.ireturn, 1) := by decide +kernel
theorem d_99_0 : decode (mB 99) 0 = .ok ((.aload_n 0), 1) := by decide +kernel
theorem d_99_1 : decode (mB 99) 1 = .ok ((.getfield 40), 3) := by decide +kernel
theorem d_99_4 : decode (mB 99) 4 = .ok ((.invokevirtual 179), 3) := by decide +kernel
theorem d_99_7 : decode (mB 99) 7 = .ok ((.iconst 1), 1) := by decide +kernel
theorem d_99_8 : decode (mB 99) 8 = .ok ((.if_icmp .ge 6), 3) := by decide +kernel
theorem d_99_11 : decode (mB 99) 11 = .ok ((.bipush (-3)), 2) := by decide +kernel
theorem d_99_13 : decode (mB 99) 13 = .ok (.ireturn, 1) := by decide +kernel
theorem d_99_14 : decode (mB 99) 14 = .ok ((.aload_n 0), 1) := by decide +kernel
theorem d_99_15 : decode (mB 99) 15 = .ok ((.getfield 33), 3) := by decide +kernel
theorem d_99_18 : decode (mB 99) 18 = .ok ((.invokevirtual 132), 3) := by decide +kernel
theorem d_99_21 : decode (mB 99) 21 = .ok ((.istore_n 1), 1) := by decide +kernel
theorem d_99_22 : decode (mB 99) 22 = .ok ((.aload_n 0), 1) := by decide +kernel
theorem d_99_23 : decode (mB 99) 23 = .ok ((.getfield 40), 3) := by decide +kernel
theorem d_99_26 : decode (mB 99) 26 = .ok ((.aload_n 0), 1) := by decide +kernel
theorem d_99_27 : decode (mB 99) 27 = .ok ((.getfield 33), 3) := by decide +kernel
theorem d_99_30 : decode (mB 99) 30 = .ok ((.invokevirtual 180), 3) := by decide +kernel
theorem d_99_33 : decode (mB 99) 33 = .ok ((.aload_n 0), 1) := by decide +kernel
theorem d_99_34 : decode (mB 99) 34 = .ok ((.getfield 33), 3) := by decide +kernel
theorem d_99_37 : decode (mB 99) 37 = .ok ((.iload_n 1), 1) := by decide +kernel
