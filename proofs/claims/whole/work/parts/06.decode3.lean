theorem d_135_441 : decode (mB 135) 441 = .ok ((.ifCond .ne 7), 3) := by decide +kernel
theorem d_135_444 : decode (mB 135) 444 = .ok ((.iconst 0), 1) := by decide +kernel
theorem d_135_445 : decode (mB 135) 445 = .ok ((.goto 14), 3) := by decide +kernel
theorem d_135_448 : decode (mB 135) 448 = .ok ((.aload_n 0), 1) := by decide +kernel
theorem d_135_449 : decode (mB 135) 449 = .ok ((.getfield 28), 3) := by decide +kernel
theorem d_135_452 : decode (mB 135) 452 = .ok ((.aload_n 0), 1) := by decide +kernel
theorem d_135_453 : decode (mB 135) 453 = .ok ((.getfield 53), 3) := by decide +kernel
theorem d_135_456 : decode (mB 135) 456 = .ok ((.iconst 1), 1) := by decide +kernel
theorem d_135_457 : decode (mB 135) 457 = .ok (.isub, 1) := by decide +kernel
theorem d_135_458 : decode (mB 135) 458 = .ok (.iaload, 1) := by decide +kernel
theorem d_135_459 : decode (mB 135) 459 = .ok (.ireturn, 1) := by decide +kernel
theorem d_136_0 : decode (mB 136) 0 = .ok ((.iload_n 2), 1) := by decide +kernel
theorem d_136_1 : decode (mB 136) 1 = .ok ((.ifCond .ne 7), 3) := by decide +kernel
theorem d_136_4 : decode (mB 136) 4 = .ok ((.iconst 0), 1) := by decide +kernel
theorem d_136_5 : decode (mB 136) 5 = .ok ((.goto 8), 3) := by decide +kernel
theorem d_136_8 : decode (mB 136) 8 = .ok ((.iload_n 0), 1) := by decide +kernel
theorem d_136_9 : decode (mB 136) 9 = .ok ((.iload_n 1), 1) := by decide +kernel
theorem d_136_10 : decode (mB 136) 10 = .ok (.imul, 1) := by decide +kernel
theorem d_136_11 : decode (mB 136) 11 = .ok ((.iload_n 2), 1) := by decide +kernel
theorem d_136_12 : decode (mB 136) 12 = .ok (.idiv, 1) := by decide +kernel
theorem d_136_13 : decode (mB 136) 13 = .ok (.ireturn, 1) := by decide +kernel
theorem d_137_0 : decode (mB 137) 0 = .ok ((.aload_n 0), 1) := by decide +kernel
theorem d_137_1 : decode (mB 137) 1 = .ok ((.iload_n 1), 1) := by decide +kernel
theorem d_137_2 : decode (mB 137) 2 = .ok ((.invokevirtual 99), 3) := by decide +kernel
theorem d_137_5 : decode (mB 137) 5 = .ok ((.ifCond .ne 5), 3) := by decide +kernel
theorem d_137_8 : decode (mB 137) 8 = .ok ((.iconst (-1)), 1) := by decide +kernel
theorem d_137_9 : decode (mB 137) 9 = .ok (.ireturn, 1) := by decide +kernel
theorem d_137_10 : decode (mB 137) 10 = .ok ((.iload_n 2), 1) := by decide +kernel
theorem d_137_11 : decode (mB 137) 11 = .ok (.i2l, 1) := by decide +kernel
theorem d_137_12 : decode (mB 137) 12 = .ok ((.lconst 1), 1) := by decide +kernel
theorem d_137_13 : decode (mB 137) 13 = .ok ((.ldc2_w 74), 3) := by decide +kernel
theorem d_137_16 : decode (mB 137) 16 = .ok ((.invokestatic 59), 3) := by decide +kernel
theorem d_137_19 : decode (mB 137) 19 = .ok ((.ifCond .ne 6), 3) := by decide +kernel
theorem d_137_22 : decode (mB 137) 22 = .ok ((.bipush (-2)), 2) := by decide +kernel
theorem d_137_24 : decode (mB 137) 24 = .ok (.ireturn, 1) := by decide +kernel
theorem d_137_25 : decode (mB 137) 25 = .ok ((.aload_n 0), 1) := by decide +kernel
theorem d_137_26 : decode (mB 137) 26 = .ok ((.getfield 19), 3) := by decide +kernel
theorem d_137_29 : decode (mB 137) 29 = .ok ((.iload_n 1), 1) := by decide +kernel
theorem d_137_30 : decode (mB 137) 30 = .ok (.iaload, 1) := by decide +kernel
theorem d_137_31 : decode (mB 137) 31 = .ok ((.iload_n 2), 1) := by decide +kernel
theorem d_137_32 : decode (mB 137) 32 = .ok ((.if_icmp .ge 6), 3) := by decide +kernel
theorem d_137_35 : decode (mB 137) 35 = .ok ((.bipush (-3)), 2) := by decide +kernel
theorem d_137_37 : decode (mB 137) 37 = .ok (.ireturn, 1) := by decide +kernel
theorem d_137_38 : decode (mB 137) 38 = .ok ((.aload_n 0), 1) := by decide +kernel
theorem d_137_39 : decode (mB 137) 39 = .ok ((.invokevirtual 118), 3) := by decide +kernel
theorem d_137_42 : decode (mB 137) 42 = .ok ((.aload_n 0), 1) := by decide +kernel
theorem d_137_43 : decode (mB 137) 43 = .ok ((.getfield 19), 3) := by decide +kernel
theorem d_137_46 : decode (mB 137) 46 = .ok ((.bipush 6), 2) := by decide +kernel
theorem d_137_48 : decode (mB 137) 48 = .ok ((.iload_n 1), 1) := by decide +kernel
theorem d_137_49 : decode (mB 137) 49 = .ok (.iadd, 1) := by decide +kernel
theorem d_137_50 : decode (mB 137) 50 = .ok (.iaload, 1) := by decide +kernel
theorem d_137_51 : decode (mB 137) 51 = .ok ((.iload_n 2), 1) := by decide +kernel
theorem d_137_52 : decode (mB 137) 52 = .ok ((.aload_n 0), 1) := by decide +kernel
theorem d_137_53 : decode (mB 137) 53 = .ok ((.getfield 19), 3) := by decide +kernel
theorem d_137_56 : decode (mB 137) 56 = .ok ((.iload_n 1), 1) := by decide +kernel
theorem d_137_57 : decode (mB 137) 57 = .ok (.iaload, 1) := by decide +kernel
theorem d_137_58 : decode (mB 137) 58 = .ok ((.invokestatic 114), 3) := by decide +kernel
theorem d_137_61 : decode (mB 137) 61 = .ok ((.istore_n 3), 1) := by decide +kernel
theorem d_137_62 : decode (mB 137) 62 = .ok ((.aload_n 0), 1) := by decide +kernel
theorem d_137_63 : decode (mB 137) 63 = .ok ((.getfield 19), 3) := by decide +kernel
theorem d_137_66 : decode (mB 137) 66 = .ok ((.iload_n 1), 1) := by decide +kernel
theorem d_137_67 : decode (mB 137) 67 = .ok (.dup2, 1) := by decide +kernel
theorem d_137_68 : decode (mB 137) 68 = .ok (.iaload, 1) := by decide +kernel
theorem d_137_69 : decode (mB 137) 69 = .ok ((.iload_n 2), 1) := by decide +kernel
theorem d_137_70 : decode (mB 137) 70 = .ok (.isub, 1) := by decide +kernel
theorem d_137_71 : decode (mB 137) 71 = .ok (.iastore, 1) := by decide +kernel
theorem d_137_72 : decode (mB 137) 72 = .ok ((.aload_n 0), 1) := by decide +kernel
theorem d_137_73 : decode (mB 137) 73 = .ok ((.getfield 19), 3) := by decide +kernel
theorem d_137_76 : decode (mB 137) 76 = .ok ((.bipush 6), 2) := by decide +kernel
theorem d_137_78 : decode (mB 137) 78 = .ok ((.iload_n 1), 1) := by decide +kernel
theorem d_137_79 : decode (mB 137) 79 = .ok (.iadd, 1) := by decide +kernel
theorem d_137_80 : decode (mB 137) 80 = .ok (.dup2, 1) := by decide +kernel
theorem d_137_81 : decode (mB 137) 81 = .ok (.iaload, 1) := by decide +kernel
theorem d_137_82 : decode (mB 137) 82 = .ok ((.iload_n 3), 1) := by decide +kernel
theorem d_137_83 : decode (mB 137) 83 = .ok (.isub, 1) := by decide +kernel
theorem d_137_84 : decode (mB 137) 84 = .ok (.iastore, 1) := by decide +kernel
theorem d_137_85 : decode (mB 137) 85 = .ok ((.iload_n 3), 1) := by decide +kernel
theorem d_137_86 : decode (mB 137) 86 = .ok (.ireturn, 1) := by decide +kernel
theorem d_138_0 : decode (mB 138) 0 = .ok ((.aload_n 0), 1) := by decide +kernel
theorem d_138_1 : decode (mB 138) 1 = .ok ((.iload_n 1), 1) := by decide +kernel
theorem d_138_2 : decode (mB 138) 2 = .ok ((.invokevirtual 99), 3) := by decide +kernel
theorem d_138_5 : decode (mB 138) 5 = .ok ((.ifCond .ne 5), 3) := by decide +kernel
theorem d_138_8 : decode (mB 138) 8 = .ok ((.iconst (-1)), 1) := by decide +kernel
theorem d_138_9 : decode (mB 138) 9 = .ok (.ireturn, 1) := by decide +kernel
theorem d_138_10 : decode (mB 138) 10 = .ok ((.iload_n 2), 1) := by decide +kernel
theorem d_138_11 : decode (mB 138) 11 = .ok (.i2l, 1) := by decide +kernel
theorem d_138_12 : decode (mB 138) 12 = .ok ((.lconst 1), 1) := by decide +kernel
theorem d_138_13 : decode (mB 138) 13 = .ok ((.ldc2_w 74), 3) := by decide +kernel
theorem d_138_16 : decode (mB 138) 16 = .ok ((.invokestatic 59), 3) := by decide +kernel
theorem d_138_19 : decode (mB 138) 19 = .ok ((.ifCond .ne 6), 3) := by decide +kernel
theorem d_138_22 : decode (mB 138) 22 = .ok ((.bipush (-2)), 2) := by decide +kernel
theorem d_138_24 : decode (mB 138) 24 = .ok (.ireturn, 1) := by decide +kernel
theorem d_138_25 : decode (mB 138) 25 = .ok ((.aload_n 0), 1) := by decide +kernel
theorem d_138_26 : decode (mB 138) 26 = .ok ((.getfield 19), 3) := by decide +kernel
theorem d_138_29 : decode (mB 138) 29 = .ok ((.iload_n 1), 1) := by decide +kernel
theorem d_138_30 : decode (mB 138) 30 = .ok (.iaload, 1) := by decide +kernel
theorem d_138_31 : decode (mB 138) 31 = .ok ((.ifCond .ne 6), 3) := by decide +kernel
theorem d_138_34 : decode (mB 138) 34 = .ok ((.bipush (-3)), 2) := by decide +kernel
theorem d_138_36 : decode (mB 138) 36 = .ok (.ireturn, 1) := by decide +kernel
theorem d_138_37 : decode (mB 138) 37 = .ok ((.aload_n 0), 1) := by decide +kernel
theorem d_138_38 : decode (mB 138) 38 = .ok ((.getfield 19), 3) := by decide +kernel
theorem d_138_41 : decode (mB 138) 41 = .ok ((.bipush 6), 2) := by decide +kernel
theorem d_138_43 : decode (mB 138) 43 = .ok ((.iload_n 1), 1) := by decide +kernel
theorem d_138_44 : decode (mB 138) 44 = .ok (.iadd, 1) := by decide +kernel
theorem d_138_45 : decode (mB 138) 45 = .ok (.iaload, 1) := by decide +kernel
theorem d_138_46 : decode (mB 138) 46 = .ok ((.iload_n 2), 1) := by decide +kernel
theorem d_138_47 : decode (mB 138) 47 = .ok (.iadd, 1) := by decide +kernel
theorem d_138_48 : decode (mB 138) 48 = .ok ((.bipush 99), 2) := by decide +kernel
theorem d_138_50 : decode (mB 138) 50 = .ok ((.if_icmp .le 6), 3) := by decide +kernel
theorem d_138_53 : decode (mB 138) 53 = .ok ((.bipush (-4)), 2) := by decide +kernel
theorem d_138_55 : decode (mB 138) 55 = .ok (.ireturn, 1) := by decide +kernel
theorem d_138_56 : decode (mB 138) 56 = .ok ((.aload_n 0), 1) := by decide +kernel
theorem d_138_57 : decode (mB 138) 57 = .ok ((.invokevirtual 118), 3) := by decide +kernel
theorem d_138_60 : decode (mB 138) 60 = .ok ((.aload_n 0), 1) := by decide +kernel
theorem d_138_61 : decode (mB 138) 61 = .ok ((.getfield 19), 3) := by decide +kernel
theorem d_138_64 : decode (mB 138) 64 = .ok ((.bipush 6), 2) := by decide +kernel
theorem d_138_66 : decode (mB 138) 66 = .ok ((.iload_n 1), 1) := by decide +kernel
theorem d_138_67 : decode (mB 138) 67 = .ok (.iadd, 1) := by decide +kernel
theorem d_138_68 : decode (mB 138) 68 = .ok (.dup2, 1) := by decide +kernel
theorem d_138_69 : decode (mB 138) 69 = .ok (.iaload, 1) := by decide +kernel
theorem d_138_70 : decode (mB 138) 70 = .ok ((.iload_n 2), 1) := by decide +kernel
theorem d_138_71 : decode (mB 138) 71 = .ok (.iadd, 1) := by decide +kernel
theorem d_138_72 : decode (mB 138) 72 = .ok (.iastore, 1) := by decide +kernel
theorem d_138_73 : decode (mB 138) 73 = .ok ((.aload_n 0), 1) := by decide +kernel
theorem d_138_74 : decode (mB 138) 74 = .ok ((.getfield 19), 3) := by decide +kernel
theorem d_138_77 : decode (mB 138) 77 = .ok ((.bipush 6), 2) := by decide +kernel
theorem d_138_79 : decode (mB 138) 79 = .ok ((.iload_n 1), 1) := by decide +kernel
theorem d_138_80 : decode (mB 138) 80 = .ok (.iadd, 1) := by decide +kernel
theorem d_138_81 : decode (mB 138) 81 = .ok (.iaload, 1) := by decide +kernel
theorem d_138_82 : decode (mB 138) 82 = .ok (.ireturn, 1) := by decide +kernel
theorem d_139_0 : decode (mB 139) 0 = .ok ((.aload_n 0), 1) := by decide +kernel
theorem d_139_1 : decode (mB 139) 1 = .ok ((.getfield 96), 3) := by decide +kernel
theorem d_139_4 : decode (mB 139) 4 = .ok ((.ifCond .ne 6), 3) := by decide +kernel
theorem d_139_7 : decode (mB 139) 7 = .ok ((.bipush (-3)), 2) := by decide +kernel
theorem d_139_9 : decode (mB 139) 9 = .ok (.ireturn, 1) := by decide +kernel
theorem d_139_10 : decode (mB 139) 10 = .ok ((.aload_n 0), 1) := by decide +kernel
theorem d_139_11 : decode (mB 139) 11 = .ok (.dup, 1) := by decide +kernel
theorem d_139_12 : decode (mB 139) 12 = .ok ((.getfield 96), 3) := by decide +kernel
theorem d_139_15 : decode (mB 139) 15 = .ok ((.iconst 1), 1) := by decide +kernel
theorem d_139_16 : decode (mB 139) 16 = .ok (.isub, 1) := by decide +kernel
theorem d_139_17 : decode (mB 139) 17 = .ok ((.putfield 96), 3) := by decide +kernel
theorem d_139_20 : decode (mB 139) 20 = .ok ((.aload_n 0), 1) := by decide +kernel
theorem d_139_21 : decode (mB 139) 21 = .ok ((.aload_n 0), 1) := by decide +kernel
theorem d_139_22 : decode (mB 139) 22 = .ok ((.getfield 111), 3) := by decide +kernel
theorem d_139_25 : decode (mB 139) 25 = .ok ((.bipush 11), 2) := by decide +kernel
theorem d_139_27 : decode (mB 139) 27 = .ok (.iadd, 1) := by decide +kernel
theorem d_139_28 : decode (mB 139) 28 = .ok ((.bipush 12), 2) := by decide +kernel
theorem d_139_30 : decode (mB 139) 30 = .ok (.irem, 1) := by decide +kernel
theorem d_139_31 : decode (mB 139) 31 = .ok ((.putfield 111), 3) := by decide +kernel
theorem d_139_34 : decode (mB 139) 34 = .ok ((.iconst 0), 1) := by decide +kernel
theorem d_139_35 : decode (mB 139) 35 = .ok ((.istore_n 1), 1) := by decide +kernel
theorem d_139_36 : decode (mB 139) 36 = .ok ((.iload_n 1), 1) := by decide +kernel
theorem d_139_37 : decode (mB 139) 37 = .ok ((.bipush 26), 2) := by decide +kernel
theorem d_139_39 : decode (mB 139) 39 = .ok ((.if_icmp .ge 29), 3) := by decide +kernel
theorem d_139_42 : decode (mB 139) 42 = .ok ((.aload_n 0), 1) := by decide +kernel
theorem d_139_43 : decode (mB 139) 43 = .ok ((.getfield 19), 3) := by decide +kernel
theorem d_139_46 : decode (mB 139) 46 = .ok ((.iload_n 1), 1) := by decide +kernel
theorem d_139_47 : decode (mB 139) 47 = .ok ((.aload_n 0), 1) := by decide +kernel
theorem d_139_48 : decode (mB 139) 48 = .ok ((.getfield 25), 3) := by decide +kernel
theorem d_139_51 : decode (mB 139) 51 = .ok ((.bipush 27), 2) := by decide +kernel
theorem d_139_53 : decode (mB 139) 53 = .ok ((.aload_n 0), 1) := by decide +kernel
theorem d_139_54 : decode (mB 139) 54 = .ok ((.getfield 111), 3) := by decide +kernel
theorem d_139_57 : decode (mB 139) 57 = .ok (.imul, 1) := by decide +kernel
theorem d_139_58 : decode (mB 139) 58 = .ok ((.iload_n 1), 1) := by decide +kernel
theorem d_139_59 : decode (mB 139) 59 = .ok (.iadd, 1) := by decide +kernel
theorem d_139_60 : decode (mB 139) 60 = .ok (.iaload, 1) := by decide +kernel
theorem d_139_61 : decode (mB 139) 61 = .ok (.iastore, 1) := by decide +kernel
theorem d_139_62 : decode (mB 139) 62 = .ok ((.iinc 1 1), 3) := by decide +kernel
theorem d_139_65 : decode (mB 139) 65 = .ok ((.goto (-29)), 3) := by decide +kernel
theorem d_139_68 : decode (mB 139) 68 = .ok ((.aload_n 0), 1) := by decide +kernel
theorem d_139_69 : decode (mB 139) 69 = .ok ((.aload_n 0), 1) := by decide +kernel
theorem d_139_70 : decode (mB 139) 70 = .ok ((.getfield 25), 3) := by decide +kernel
theorem d_139_73 : decode (mB 139) 73 = .ok ((.bipush 27), 2) := by decide +kernel
theorem d_139_75 : decode (mB 139) 75 = .ok ((.aload_n 0), 1) := by decide +kernel
theorem d_139_76 : decode (mB 139) 76 = .ok ((.getfield 111), 3) := by decide +kernel
theorem d_139_79 : decode (mB 139) 79 = .ok (.imul, 1) := by decide +kernel
theorem d_139_80 : decode (mB 139) 80 = .ok ((.bipush 26), 2) := by decide +kernel
theorem d_139_82 : decode (mB 139) 82 = .ok (.iadd, 1) := by decide +kernel
theorem d_139_83 : decode (mB 139) 83 = .ok (.iaload, 1) := by decide +kernel
theorem d_139_84 : decode (mB 139) 84 = .ok ((.putfield 93), 3) := by decide +kernel
theorem d_139_87 : decode (mB 139) 87 = .ok ((.aload_n 0), 1) := by decide +kernel
theorem d_139_88 : decode (mB 139) 88 = .ok ((.getfield 96), 3) := by decide +kernel
theorem d_139_91 : decode (mB 139) 91 = .ok (.ireturn, 1) := by decide +kernel
theorem d_140_0 : decode (mB 140) 0 = .ok ((.aload_n 0), 1) := by decide +kernel
theorem d_140_1 : decode (mB 140) 1 = .ok ((.iload_n 1), 1) := by decide +kernel
theorem d_140_2 : decode (mB 140) 2 = .ok ((.invokevirtual 99), 3) := by decide +kernel
theorem d_140_5 : decode (mB 140) 5 = .ok ((.ifCond .ne 5), 3) := by decide +kernel
theorem d_140_8 : decode (mB 140) 8 = .ok ((.iconst (-1)), 1) := by decide +kernel
theorem d_140_9 : decode (mB 140) 9 = .ok (.ireturn, 1) := by decide +kernel
theorem d_140_10 : decode (mB 140) 10 = .ok ((.iload_n 2), 1) := by decide +kernel
theorem d_140_11 : decode (mB 140) 11 = .ok (.i2l, 1) := by decide +kernel
theorem d_140_12 : decode (mB 140) 12 = .ok ((.lconst 0), 1) := by decide +kernel
theorem d_140_13 : decode (mB 140) 13 = .ok ((.ldc2_w 127), 3) := by decide +kernel
theorem d_140_16 : decode (mB 140) 16 = .ok ((.invokestatic 59), 3) := by decide +kernel
theorem d_140_19 : decode (mB 140) 19 = .ok ((.ifCond .eq 15), 3) := by decide +kernel
theorem d_140_22 : decode (mB 140) 22 = .ok ((.iload_n 3), 1) := by decide +kernel
theorem d_140_23 : decode (mB 140) 23 = .ok (.i2l, 1) := by decide +kernel
theorem d_140_24 : decode (mB 140) 24 = .ok ((.lconst 0), 1) := by decide +kernel
theorem d_140_25 : decode (mB 140) 25 = .ok ((.ldc2_w 74), 3) := by decide +kernel
theorem d_140_28 : decode (mB 140) 28 = .ok ((.invokestatic 59), 3) := by decide +kernel
theorem d_140_31 : decode (mB 140) 31 = .ok ((.ifCond .ne 6), 3) := by decide +kernel
theorem d_140_34 : decode (mB 140) 34 = .ok ((.bipush (-2)), 2) := by decide +kernel
theorem d_140_36 : decode (mB 140) 36 = .ok (.ireturn, 1) := by decide +kernel
theorem d_140_37 : decode (mB 140) 37 = .ok ((.aload_n 0), 1) := by decide +kernel
theorem d_140_38 : decode (mB 140) 38 = .ok ((.iload_n 2), 1) := by decide +kernel
theorem d_140_39 : decode (mB 140) 39 = .ok ((.iload_n 3), 1) := by decide +kernel
theorem d_140_40 : decode (mB 140) 40 = .ok ((.aload_n 0), 1) := by decide +kernel
theorem d_140_41 : decode (mB 140) 41 = .ok ((.getfield 90), 3) := by decide +kernel
theorem d_140_44 : decode (mB 140) 44 = .ok ((.invokevirtual 129), 3) := by decide +kernel
theorem d_140_47 : decode (mB 140) 47 = .ok ((.aload_n 0), 1) := by decide +kernel
theorem d_140_48 : decode (mB 140) 48 = .ok ((.getfield 19), 3) := by decide +kernel
theorem d_140_51 : decode (mB 140) 51 = .ok ((.bipush 42), 2) := by decide +kernel
theorem d_140_53 : decode (mB 140) 53 = .ok ((.iload_n 1), 1) := by decide +kernel
theorem d_140_54 : decode (mB 140) 54 = .ok (.iadd, 1) := by decide +kernel
theorem d_140_55 : decode (mB 140) 55 = .ok (.iaload, 1) := by decide +kernel
theorem d_140_56 : decode (mB 140) 56 = .ok (.ireturn, 1) := by decide +kernel
theorem d_141_0 : decode (mB 141) 0 = .ok ((.aload_n 0), 1) := by decide +kernel
theorem d_141_1 : decode (mB 141) 1 = .ok ((.invokevirtual 124), 3) := by decide +kernel
theorem d_141_4 : decode (mB 141) 4 = .ok ((.iconst 0), 1) := by decide +kernel
theorem d_141_5 : decode (mB 141) 5 = .ok ((.istore 4), 2) := by decide +kernel
theorem d_141_7 : decode (mB 141) 7 = .ok ((.iload 4), 2) := by decide +kernel
theorem d_141_9 : decode (mB 141) 9 = .ok ((.iload_n 1), 1) := by decide +kernel
theorem d_141_10 : decode (mB 141) 10 = .ok ((.if_icmp .ge 18), 3) := by decide +kernel
theorem d_141_13 : decode (mB 141) 13 = .ok ((.aload_n 0), 1) := by decide +kernel
theorem d_141_14 : decode (mB 141) 14 = .ok ((.bipush 30), 2) := by decide +kernel
theorem d_141_16 : decode (mB 141) 16 = .ok ((.iload_n 2), 1) := by decide +kernel
theorem d_141_17 : decode (mB 141) 17 = .ok ((.iload_n 3), 1) := by decide +kernel
theorem d_141_18 : decode (mB 141) 18 = .ok ((.invokevirtual 121), 3) := by decide +kernel
theorem d_141_21 : decode (mB 141) 21 = .ok (.pop, 1) := by decide +kernel
theorem d_141_22 : decode (mB 141) 22 = .ok ((.iinc 4 1), 3) := by decide +kernel
theorem d_141_25 : decode (mB 141) 25 = .ok ((.goto (-18)), 3) := by decide +kernel
theorem d_141_28 : decode (mB 141) 28 = .ok (.return_, 1) := by decide +kernel
theorem d_142_0 : decode (mB 142) 0 = .ok ((.iconst 0), 1) := by decide +kernel
theorem d_142_1 : decode (mB 142) 1 = .ok ((.istore_n 1), 1) := by decide +kernel
theorem d_142_2 : decode (mB 142) 2 = .ok ((.iload_n 1), 1) := by decide +kernel
theorem d_142_3 : decode (mB 142) 3 = .ok ((.bipush 30), 2) := by decide +kernel
theorem d_142_5 : decode (mB 142) 5 = .ok ((.if_icmp .ge 24), 3) := by decide +kernel
theorem d_142_8 : decode (mB 142) 8 = .ok ((.aload_n 0), 1) := by decide +kernel
theorem d_142_9 : decode (mB 142) 9 = .ok ((.getfield 19), 3) := by decide +kernel
theorem d_142_12 : decode (mB 142) 12 = .ok ((.bipush 30), 2) := by decide +kernel
theorem d_142_14 : decode (mB 142) 14 = .ok ((.iload_n 1), 1) := by decide +kernel
theorem d_142_15 : decode (mB 142) 15 = .ok (.iadd, 1) := by decide +kernel
theorem d_142_16 : decode (mB 142) 16 = .ok ((.aload_n 0), 1) := by decide +kernel
theorem d_142_17 : decode (mB 142) 17 = .ok ((.getfield 19), 3) := by decide +kernel
theorem d_142_20 : decode (mB 142) 20 = .ok ((.iload_n 1), 1) := by decide +kernel
theorem d_142_21 : decode (mB 142) 21 = .ok (.iaload, 1) := by decide +kernel
theorem d_142_22 : decode (mB 142) 22 = .ok (.iastore, 1) := by decide +kernel
theorem d_142_23 : decode (mB 142) 23 = .ok ((.iinc 1 1), 3) := by decide +kernel
theorem d_142_26 : decode (mB 142) 26 = .ok ((.goto (-24)), 3) := by decide +kernel
theorem d_142_29 : decode (mB 142) 29 = .ok (.return_, 1) := by decide +kernel
theorem d_143_0 : decode (mB 143) 0 = .ok ((.iload_n 1), 1) := by decide +kernel
theorem d_143_1 : decode (mB 143) 1 = .ok (.i2l, 1) := by decide +kernel
theorem d_143_2 : decode (mB 143) 2 = .ok ((.lconst 0), 1) := by decide +kernel
theorem d_143_3 : decode (mB 143) 3 = .ok ((.ldc2_w 127), 3) := by decide +kernel
theorem d_143_6 : decode (mB 143) 6 = .ok ((.invokestatic 59), 3) := by decide +kernel
theorem d_143_9 : decode (mB 143) 9 = .ok ((.ifCond .eq 15), 3) := by decide +kernel
theorem d_143_12 : decode (mB 143) 12 = .ok ((.iload_n 2), 1) := by decide +kernel
theorem d_143_13 : decode (mB 143) 13 = .ok (.i2l, 1) := by decide +kernel
theorem d_143_14 : decode (mB 143) 14 = .ok ((.lconst 0), 1) := by decide +kernel
theorem d_143_15 : decode (mB 143) 15 = .ok ((.ldc2_w 74), 3) := by decide +kernel
theorem d_143_18 : decode (mB 143) 18 = .ok ((.invokestatic 59), 3) := by decide +kernel
theorem d_143_21 : decode (mB 143) 21 = .ok ((.ifCond .ne 6), 3) := by decide +kernel
theorem d_143_24 : decode (mB 143) 24 = .ok ((.bipush (-2)), 2) := by decide +kernel
theorem d_143_26 : decode (mB 143) 26 = .ok (.ireturn, 1) := by decide +kernel
theorem d_143_27 : decode (mB 143) 27 = .ok ((.aload_n 0), 1) := by decide +kernel
theorem d_143_28 : decode (mB 143) 28 = .ok ((.iload_n 1), 1) := by decide +kernel
theorem d_143_29 : decode (mB 143) 29 = .ok ((.iload_n 2), 1) := by decide +kernel
theorem d_143_30 : decode (mB 143) 30 = .ok ((.aload_n 0), 1) := by decide +kernel
theorem d_143_31 : decode (mB 143) 31 = .ok ((.getfield 90), 3) := by decide +kernel
theorem d_143_34 : decode (mB 143) 34 = .ok ((.invokevirtual 129), 3) := by decide +kernel
theorem d_143_37 : decode (mB 143) 37 = .ok ((.iload_n 3), 1) := by decide +kernel
theorem d_143_38 : decode (mB 143) 38 = .ok ((.ifCond .eq 13), 3) := by decide +kernel
theorem d_143_41 : decode (mB 143) 41 = .ok ((.aload_n 0), 1) := by decide +kernel
theorem d_143_42 : decode (mB 143) 42 = .ok ((.getfield 19), 3) := by decide +kernel
theorem d_143_45 : decode (mB 143) 45 = .ok ((.bipush 55), 2) := by decide +kernel
theorem d_143_47 : decode (mB 143) 47 = .ok (.iaload, 1) := by decide +kernel
theorem d_143_48 : decode (mB 143) 48 = .ok ((.goto 10), 3) := by decide +kernel
theorem d_143_51 : decode (mB 143) 51 = .ok ((.aload_n 0), 1) := by decide +kernel
theorem d_143_52 : decode (mB 143) 52 = .ok ((.getfield 19), 3) := by decide +kernel
theorem d_143_55 : decode (mB 143) 55 = .ok ((.bipush 54), 2) := by decide +kernel
theorem d_143_57 : decode (mB 143) 57 = .ok (.iaload, 1) := by decide +kernel
theorem d_143_58 : decode (mB 143) 58 = .ok (.ireturn, 1) := by decide +kernel
theorem d_144_0 : decode (mB 144) 0 = .ok ((.iload_n 1), 1) := by decide +kernel
theorem d_144_1 : decode (mB 144) 1 = .ok (.i2l, 1) := by decide +kernel
theorem d_144_2 : decode (mB 144) 2 = .ok ((.lconst 1), 1) := by decide +kernel
theorem d_144_3 : decode (mB 144) 3 = .ok ((.ldc2_w 109), 3) := by decide +kernel
theorem d_144_6 : decode (mB 144) 6 = .ok ((.invokestatic 59), 3) := by decide +kernel
theorem d_144_9 : decode (mB 144) 9 = .ok ((.ifCond .eq 24), 3) := by decide +kernel
theorem d_144_12 : decode (mB 144) 12 = .ok ((.iload_n 2), 1) := by decide +kernel
theorem d_144_13 : decode (mB 144) 13 = .ok (.i2l, 1) := by decide +kernel
theorem d_144_14 : decode (mB 144) 14 = .ok ((.lconst 0), 1) := by decide +kernel
theorem d_144_15 : decode (mB 144) 15 = .ok ((.ldc2_w 74), 3) := by decide +kernel
theorem d_144_18 : decode (mB 144) 18 = .ok ((.invokestatic 59), 3) := by decide +kernel
theorem d_144_21 : decode (mB 144) 21 = .ok ((.ifCond .eq 12), 3) := by decide +kernel
theorem d_144_24 : decode (mB 144) 24 = .ok ((.aload_n 0), 1) := by decide +kernel
theorem d_144_25 : decode (mB 144) 25 = .ok ((.iload_n 1), 1) := by decide +kernel
theorem d_144_26 : decode (mB 144) 26 = .ok ((.iload_n 2), 1) := by decide +kernel
theorem d_144_27 : decode (mB 144) 27 = .ok ((.invokevirtual 142), 3) := by decide +kernel
theorem d_144_30 : decode (mB 144) 30 = .ok ((.goto 5), 3) := by decide +kernel
theorem d_144_33 : decode (mB 144) 33 = .ok ((.bipush (-2)), 2) := by decide +kernel
theorem d_144_35 : decode (mB 144) 35 = .ok (.ireturn, 1) := by decide +kernel
theorem d_145_0 : decode (mB 145) 0 = .ok ((.iconst 0), 1) := by decide +kernel
theorem d_145_1 : decode (mB 145) 1 = .ok ((.istore_n 3), 1) := by decide +kernel
theorem d_145_2 : decode (mB 145) 2 = .ok ((.aload_n 0), 1) := by decide +kernel
theorem d_145_3 : decode (mB 145) 3 = .ok ((.bipush (-9)), 2) := by decide +kernel
theorem d_145_5 : decode (mB 145) 5 = .ok ((.putfield 133), 3) := by decide +kernel
theorem d_145_8 : decode (mB 145) 8 = .ok ((.iconst 0), 1) := by decide +kernel
theorem d_145_9 : decode (mB 145) 9 = .ok ((.istore 4), 2) := by decide +kernel
theorem d_145_11 : decode (mB 145) 11 = .ok ((.iload 4), 2) := by decide +kernel
theorem d_145_13 : decode (mB 145) 13 = .ok ((.iconst 1), 1) := by decide +kernel
theorem d_145_14 : decode (mB 145) 14 = .ok ((.aload_n 0), 1) := by decide +kernel
theorem d_145_15 : decode (mB 145) 15 = .ok ((.getfield 53), 3) := by decide +kernel
theorem d_145_18 : decode (mB 145) 18 = .ok (.ishl, 1) := by decide +kernel
theorem d_145_19 : decode (mB 145) 19 = .ok ((.if_icmp .ge 90), 3) := by decide +kernel
theorem d_145_22 : decode (mB 145) 22 = .ok ((.aload_n 0), 1) := by decide +kernel
theorem d_145_23 : decode (mB 145) 23 = .ok ((.iload_n 1), 1) := by decide +kernel
theorem d_145_24 : decode (mB 145) 24 = .ok ((.iload_n 2), 1) := by decide +kernel
theorem d_145_25 : decode (mB 145) 25 = .ok ((.iload 4), 2) := by decide +kernel
theorem d_145_27 : decode (mB 145) 27 = .ok ((.invokevirtual 129), 3) := by decide +kernel
theorem d_145_30 : decode (mB 145) 30 = .ok ((.aload_n 0), 1) := by decide +kernel
theorem d_145_31 : decode (mB 145) 31 = .ok ((.invokevirtual 136), 3) := by decide +kernel
theorem d_145_34 : decode (mB 145) 34 = .ok ((.istore 5), 2) := by decide +kernel
theorem d_145_36 : decode (mB 145) 36 = .ok ((.iload 5), 2) := by decide +kernel
theorem d_145_38 : decode (mB 145) 38 = .ok ((.aload_n 0), 1) := by decide +kernel
theorem d_145_39 : decode (mB 145) 39 = .ok ((.getfield 133), 3) := by decide +kernel
theorem d_145_42 : decode (mB 145) 42 = .ok ((.if_icmp .gt 24), 3) := by decide +kernel
theorem d_145_45 : decode (mB 145) 45 = .ok ((.iload 5), 2) := by decide +kernel
theorem d_145_47 : decode (mB 145) 47 = .ok ((.aload_n 0), 1) := by decide +kernel
theorem d_145_48 : decode (mB 145) 48 = .ok ((.getfield 133), 3) := by decide +kernel
theorem d_145_51 : decode (mB 145) 51 = .ok ((.if_icmp .ne 19), 3) := by decide +kernel
theorem d_145_54 : decode (mB 145) 54 = .ok ((.iload 4), 2) := by decide +kernel
theorem d_145_56 : decode (mB 145) 56 = .ok ((.invokestatic 139), 3) := by decide +kernel
theorem d_145_59 : decode (mB 145) 59 = .ok ((.iload_n 3), 1) := by decide +kernel
theorem d_145_60 : decode (mB 145) 60 = .ok ((.invokestatic 139), 3) := by decide +kernel
theorem d_145_63 : decode (mB 145) 63 = .ok ((.if_icmp .ge 7), 3) := by decide +kernel
theorem d_145_66 : decode (mB 145) 66 = .ok ((.iconst 1), 1) := by decide +kernel
theorem d_145_67 : decode (mB 145) 67 = .ok ((.goto 4), 3) := by decide +kernel
theorem d_145_70 : decode (mB 145) 70 = .ok ((.iconst 0), 1) := by decide +kernel
theorem d_145_71 : decode (mB 145) 71 = .ok ((.istore 6), 2) := by decide +kernel
theorem d_145_73 : decode (mB 145) 73 = .ok ((.iload 6), 2) := by decide +kernel
theorem d_145_75 : decode (mB 145) 75 = .ok ((.ifCond .eq 8), 3) := by decide +kernel
theorem d_145_78 : decode (mB 145) 78 = .ok ((.iload 4), 2) := by decide +kernel
theorem d_145_80 : decode (mB 145) 80 = .ok ((.goto 4), 3) := by decide +kernel
theorem d_145_83 : decode (mB 145) 83 = .ok ((.iload_n 3), 1) := by decide +kernel
theorem d_145_84 : decode (mB 145) 84 = .ok ((.istore_n 3), 1) := by decide +kernel
theorem d_145_85 : decode (mB 145) 85 = .ok ((.aload_n 0), 1) := by decide +kernel
theorem d_145_86 : decode (mB 145) 86 = .ok ((.iload 6), 2) := by decide +kernel
theorem d_145_88 : decode (mB 145) 88 = .ok ((.ifCond .eq 8), 3) := by decide +kernel
theorem d_145_91 : decode (mB 145) 91 = .ok ((.iload 5), 2) := by decide +kernel
theorem d_145_93 : decode (mB 145) 93 = .ok ((.goto 7), 3) := by decide +kernel
theorem d_145_96 : decode (mB 145) 96 = .ok ((.aload_n 0), 1) := by decide +kernel
theorem d_145_97 : decode (mB 145) 97 = .ok ((.getfield 133), 3) := by decide +kernel
theorem d_145_100 : decode (mB 145) 100 = .ok ((.putfield 133), 3) := by decide +kernel
theorem d_145_103 : decode (mB 145) 103 = .ok ((.iinc 4 1), 3) := by decide +kernel
theorem d_145_106 : decode (mB 145) 106 = .ok ((.goto (-95)), 3) := by decide +kernel
theorem d_145_109 : decode (mB 145) 109 = .ok ((.iload_n 3), 1) := by decide +kernel
theorem d_145_110 : decode (mB 145) 110 = .ok (.ireturn, 1) := by decide +kernel
theorem d_146_0 : decode (mB 146) 0 = .ok ((.iconst 0), 1) := by decide +kernel
theorem d_146_1 : decode (mB 146) 1 = .ok ((.istore_n 1), 1) := by decide +kernel
theorem d_146_2 : decode (mB 146) 2 = .ok ((.iconst 0), 1) := by decide +kernel
theorem d_146_3 : decode (mB 146) 3 = .ok ((.istore_n 2), 1) := by decide +kernel
theorem d_146_4 : decode (mB 146) 4 = .ok ((.iload_n 2), 1) := by decide +kernel
theorem d_146_5 : decode (mB 146) 5 = .ok ((.aload_n 0), 1) := by decide +kernel
theorem d_146_6 : decode (mB 146) 6 = .ok ((.getfield 53), 3) := by decide +kernel
theorem d_146_9 : decode (mB 146) 9 = .ok ((.if_icmp .ge 27), 3) := by decide +kernel
theorem d_146_12 : decode (mB 146) 12 = .ok ((.iload_n 1), 1) := by decide +kernel
theorem d_146_13 : decode (mB 146) 13 = .ok ((.aload_n 0), 1) := by decide +kernel
theorem d_146_14 : decode (mB 146) 14 = .ok ((.bipush 30), 2) := by decide +kernel
theorem d_146_16 : decode (mB 146) 16 = .ok ((.iload_n 2), 1) := by decide +kernel
theorem d_146_17 : decode (mB 146) 17 = .ok ((.invokevirtual 105), 3) := by decide +kernel
theorem d_146_20 : decode (mB 146) 20 = .ok ((.ifCond .eq 7), 3) := by decide +kernel
theorem d_146_23 : decode (mB 146) 23 = .ok ((.iconst 1), 1) := by decide +kernel
theorem d_146_24 : decode (mB 146) 24 = .ok ((.goto 4), 3) := by decide +kernel
theorem d_146_27 : decode (mB 146) 27 = .ok ((.iconst 0), 1) := by decide +kernel
theorem d_146_28 : decode (mB 146) 28 = .ok (.iadd, 1) := by decide +kernel
theorem d_146_29 : decode (mB 146) 29 = .ok ((.istore_n 1), 1) := by decide +kernel
theorem d_146_30 : decode (mB 146) 30 = .ok ((.iinc 2 1), 3) := by decide +kernel
theorem d_146_33 : decode (mB 146) 33 = .ok ((.goto (-29)), 3) := by decide +kernel
theorem d_146_36 : decode (mB 146) 36 = .ok ((.iload_n 1), 1) := by decide +kernel
theorem d_146_37 : decode (mB 146) 37 = .ok (.ireturn, 1) := by decide +kernel
theorem d_147_0 : decode (mB 147) 0 = .ok ((.iconst 0), 1) := by decide +kernel
theorem d_147_1 : decode (mB 147) 1 = .ok ((.istore_n 1), 1) := by decide +kernel
theorem d_147_2 : decode (mB 147) 2 = .ok ((.iconst 0), 1) := by decide +kernel
theorem d_147_3 : decode (mB 147) 3 = .ok ((.istore_n 2), 1) := by decide +kernel
theorem d_147_4 : decode (mB 147) 4 = .ok ((.iload_n 2), 1) := by decide +kernel
theorem d_147_5 : decode (mB 147) 5 = .ok ((.bipush 6), 2) := by decide +kernel
theorem d_147_7 : decode (mB 147) 7 = .ok ((.if_icmp .ge 17), 3) := by decide +kernel
theorem d_147_10 : decode (mB 147) 10 = .ok ((.iload_n 1), 1) := by decide +kernel
theorem d_147_11 : decode (mB 147) 11 = .ok ((.iload_n 0), 1) := by decide +kernel
theorem d_147_12 : decode (mB 147) 12 = .ok ((.iload_n 2), 1) := by decide +kernel
theorem d_147_13 : decode (mB 147) 13 = .ok (.ishr, 1) := by decide +kernel
theorem d_147_14 : decode (mB 147) 14 = .ok ((.iconst 1), 1) := by decide +kernel
theorem d_147_15 : decode (mB 147) 15 = .ok (.iand, 1) := by decide +kernel
theorem d_147_16 : decode (mB 147) 16 = .ok (.iadd, 1) := by decide +kernel
theorem d_147_17 : decode (mB 147) 17 = .ok ((.istore_n 1), 1) := by decide +kernel
theorem d_147_18 : decode (mB 147) 18 = .ok ((.iinc 2 1), 3) := by decide +kernel
theorem d_147_21 : decode (mB 147) 21 = .ok ((.goto (-17)), 3) := by decide +kernel
theorem d_147_24 : decode (mB 147) 24 = .ok ((.iload_n 1), 1) := by decide +kernel
theorem d_147_25 : decode (mB 147) 25 = .ok (.ireturn, 1) := by decide +kernel
theorem d_148_0 : decode (mB 148) 0 = .ok ((.iload_n 1), 1) := by decide +kernel
theorem d_148_1 : decode (mB 148) 1 = .ok (.i2l, 1) := by decide +kernel
theorem d_148_2 : decode (mB 148) 2 = .ok ((.lconst 1), 1) := by decide +kernel
theorem d_148_3 : decode (mB 148) 3 = .ok ((.ldc2_w 109), 3) := by decide +kernel
theorem d_148_6 : decode (mB 148) 6 = .ok ((.invokestatic 59), 3) := by decide +kernel
theorem d_148_9 : decode (mB 148) 9 = .ok ((.ifCond .eq 15), 3) := by decide +kernel
theorem d_148_12 : decode (mB 148) 12 = .ok ((.iload_n 2), 1) := by decide +kernel
theorem d_148_13 : decode (mB 148) 13 = .ok (.i2l, 1) := by decide +kernel
theorem d_148_14 : decode (mB 148) 14 = .ok ((.lconst 0), 1) := by decide +kernel
theorem d_148_15 : decode (mB 148) 15 = .ok ((.ldc2_w 74), 3) := by decide +kernel
theorem d_148_18 : decode (mB 148) 18 = .ok ((.invokestatic 59), 3) := by decide +kernel
theorem d_148_21 : decode (mB 148) 21 = .ok ((.ifCond .ne 6), 3) := by decide +kernel
theorem d_148_24 : decode (mB 148) 24 = .ok ((.bipush (-2)), 2) := by decide +kernel
theorem d_148_26 : decode (mB 148) 26 = .ok (.ireturn, 1) := by decide +kernel
theorem d_148_27 : decode (mB 148) 27 = .ok ((.aload_n 0), 1) := by decide +kernel
theorem d_148_28 : decode (mB 148) 28 = .ok ((.iload_n 1), 1) := by decide +kernel
theorem d_148_29 : decode (mB 148) 29 = .ok ((.iload_n 2), 1) := by decide +kernel
theorem d_148_30 : decode (mB 148) 30 = .ok ((.invokevirtual 142), 3) := by decide +kernel
theorem d_148_33 : decode (mB 148) 33 = .ok (.pop, 1) := by decide +kernel
theorem d_148_34 : decode (mB 148) 34 = .ok ((.aload_n 0), 1) := by decide +kernel
theorem d_148_35 : decode (mB 148) 35 = .ok ((.getfield 133), 3) := by decide +kernel
theorem d_148_38 : decode (mB 148) 38 = .ok (.ireturn, 1) := by decide +kernel
theorem d_149_0 : decode (mB 149) 0 = .ok ((.iload_n 1), 1) := by decide +kernel
theorem d_149_1 : decode (mB 149) 1 = .ok (.i2l, 1) := by decide +kernel
theorem d_149_2 : decode (mB 149) 2 = .ok ((.lconst 1), 1) := by decide +kernel
theorem d_149_3 : decode (mB 149) 3 = .ok ((.ldc2_w 103), 3) := by decide +kernel
theorem d_149_6 : decode (mB 149) 6 = .ok ((.invokestatic 59), 3) := by decide +kernel
theorem d_149_9 : decode (mB 149) 9 = .ok ((.ifCond .eq 15), 3) := by decide +kernel
theorem d_149_12 : decode (mB 149) 12 = .ok ((.iload_n 2), 1) := by decide +kernel
theorem d_149_13 : decode (mB 149) 13 = .ok (.i2l, 1) := by decide +kernel
theorem d_149_14 : decode (mB 149) 14 = .ok ((.lconst 0), 1) := by decide +kernel
theorem d_149_15 : decode (mB 149) 15 = .ok ((.ldc2_w 74), 3) := by decide +kernel
theorem d_149_18 : decode (mB 149) 18 = .ok ((.invokestatic 59), 3) := by decide +kernel
theorem d_149_21 : decode (mB 149) 21 = .ok ((.ifCond .ne 6), 3) := by decide +kernel
theorem d_149_24 : decode (mB 149) 24 = .ok ((.bipush (-2)), 2) := by decide +kernel
theorem d_149_26 : decode (mB 149) 26 = .ok (.ireturn, 1) := by decide +kernel
theorem d_149_27 : decode (mB 149) 27 = .ok ((.aload_n 0), 1) := by decide +kernel
theorem d_149_28 : decode (mB 149) 28 = .ok ((.getfield 53), 3) := by decide +kernel
theorem d_149_31 : decode (mB 149) 31 = .ok ((.iconst 4), 1) := by decide +kernel
theorem d_149_32 : decode (mB 149) 32 = .ok ((.if_icmp .le 6), 3) := by decide +kernel
theorem d_149_35 : decode (mB 149) 35 = .ok ((.bipush (-3)), 2) := by decide +kernel
theorem d_149_37 : decode (mB 149) 37 = .ok (.ireturn, 1) := by decide +kernel
theorem d_149_38 : decode (mB 149) 38 = .ok ((.aload_n 0), 1) := by decide +kernel
theorem d_149_39 : decode (mB 149) 39 = .ok ((.iload_n 1), 1) := by decide +kernel
theorem d_149_40 : decode (mB 149) 40 = .ok ((.iload_n 2), 1) := by decide +kernel
theorem d_149_41 : decode (mB 149) 41 = .ok ((.invokevirtual 146), 3) := by decide +kernel
theorem d_149_44 : decode (mB 149) 44 = .ok (.pop, 1) := by decide +kernel
theorem d_149_45 : decode (mB 149) 45 = .ok ((.aload_n 0), 1) := by decide +kernel
theorem d_149_46 : decode (mB 149) 46 = .ok ((.getfield 133), 3) := by decide +kernel
theorem d_149_49 : decode (mB 149) 49 = .ok (.ireturn, 1) := by decide +kernel
theorem d_150_0 : decode (mB 150) 0 = .ok ((.iconst 0), 1) := by decide +kernel
theorem d_150_1 : decode (mB 150) 1 = .ok ((.istore_n 3), 1) := by decide +kernel
theorem d_150_2 : decode (mB 150) 2 = .ok ((.aload_n 0), 1) := by decide +kernel
theorem d_150_3 : decode (mB 150) 3 = .ok ((.bipush (-9)), 2) := by decide +kernel
theorem d_150_5 : decode (mB 150) 5 = .ok ((.putfield 133), 3) := by decide +kernel
theorem d_150_8 : decode (mB 150) 8 = .ok ((.iconst 0), 1) := by decide +kernel
theorem d_150_9 : decode (mB 150) 9 = .ok ((.istore 4), 2) := by decide +kernel
theorem d_150_11 : decode (mB 150) 11 = .ok ((.iload 4), 2) := by decide +kernel
theorem d_150_13 : decode (mB 150) 13 = .ok ((.iconst 1), 1) := by decide +kernel
theorem d_150_14 : decode (mB 150) 14 = .ok ((.iconst 4), 1) := by decide +kernel
theorem d_150_15 : decode (mB 150) 15 = .ok ((.iload_n 1), 1) := by decide +kernel
theorem d_150_16 : decode (mB 150) 16 = .ok (.imul, 1) := by decide +kernel
theorem d_150_17 : decode (mB 150) 17 = .ok (.ishl, 1) := by decide +kernel
theorem d_150_18 : decode (mB 150) 18 = .ok ((.if_icmp .ge 136), 3) := by decide +kernel
theorem d_150_21 : decode (mB 150) 21 = .ok ((.iconst 1), 1) := by decide +kernel
theorem d_150_22 : decode (mB 150) 22 = .ok ((.istore 5), 2) := by decide +kernel
theorem d_150_24 : decode (mB 150) 24 = .ok ((.aload_n 0), 1) := by decide +kernel
theorem d_150_25 : decode (mB 150) 25 = .ok ((.invokevirtual 124), 3) := by decide +kernel
theorem d_150_28 : decode (mB 150) 28 = .ok ((.iload_n 1), 1) := by decide +kernel
theorem d_150_29 : decode (mB 150) 29 = .ok ((.iconst 1), 1) := by decide +kernel
theorem d_150_30 : decode (mB 150) 30 = .ok (.isub, 1) := by decide +kernel
theorem d_150_31 : decode (mB 150) 31 = .ok ((.istore 6), 2) := by decide +kernel
theorem d_150_33 : decode (mB 150) 33 = .ok ((.iload 6), 2) := by decide +kernel
theorem d_150_35 : decode (mB 150) 35 = .ok ((.ifCond .lt 59), 3) := by decide +kernel
theorem d_150_38 : decode (mB 150) 38 = .ok ((.iload 5), 2) := by decide +kernel
theorem d_150_40 : decode (mB 150) 40 = .ok ((.ifCond .eq 54), 3) := by decide +kernel
theorem d_150_43 : decode (mB 150) 43 = .ok ((.iload 4), 2) := by decide +kernel
theorem d_150_45 : decode (mB 150) 45 = .ok ((.iconst 4), 1) := by decide +kernel
theorem d_150_46 : decode (mB 150) 46 = .ok ((.iload 6), 2) := by decide +kernel
theorem d_150_48 : decode (mB 150) 48 = .ok (.imul, 1) := by decide +kernel
theorem d_150_49 : decode (mB 150) 49 = .ok (.ishr, 1) := by decide +kernel
theorem d_150_50 : decode (mB 150) 50 = .ok ((.bipush 15), 2) := by decide +kernel
theorem d_150_52 : decode (mB 150) 52 = .ok (.iand, 1) := by decide +kernel
theorem d_150_53 : decode (mB 150) 53 = .ok ((.istore 7), 2) := by decide +kernel
theorem d_150_55 : decode (mB 150) 55 = .ok ((.iload 7), 2) := by decide +kernel
theorem d_150_57 : decode (mB 150) 57 = .ok ((.iconst 1), 1) := by decide +kernel
theorem d_150_58 : decode (mB 150) 58 = .ok ((.aload_n 0), 1) := by decide +kernel
theorem d_150_59 : decode (mB 150) 59 = .ok ((.getfield 53), 3) := by decide +kernel
theorem d_150_62 : decode (mB 150) 62 = .ok (.ishl, 1) := by decide +kernel
theorem d_150_63 : decode (mB 150) 63 = .ok ((.if_icmp .ge 7), 3) := by decide +kernel
theorem d_150_66 : decode (mB 150) 66 = .ok ((.iconst 1), 1) := by decide +kernel
theorem d_150_67 : decode (mB 150) 67 = .ok ((.goto 4), 3) := by decide +kernel
theorem d_150_70 : decode (mB 150) 70 = .ok ((.iconst 0), 1) := by decide +kernel
theorem d_150_71 : decode (mB 150) 71 = .ok ((.istore 5), 2) := by decide +kernel
theorem d_150_73 : decode (mB 150) 73 = .ok ((.iload 5), 2) := by decide +kernel
theorem d_150_75 : decode (mB 150) 75 = .ok ((.ifCond .eq 13), 3) := by decide +kernel
theorem d_150_78 : decode (mB 150) 78 = .ok ((.aload_n 0), 1) := by decide +kernel
theorem d_150_79 : decode (mB 150) 79 = .ok ((.bipush 30), 2) := by decide +kernel
theorem d_150_81 : decode (mB 150) 81 = .ok ((.iload_n 2), 1) := by decide +kernel
theorem d_150_82 : decode (mB 150) 82 = .ok ((.iload 7), 2) := by decide +kernel
theorem d_150_84 : decode (mB 150) 84 = .ok ((.invokevirtual 121), 3) := by decide +kernel
theorem d_150_87 : decode (mB 150) 87 = .ok (.pop, 1) := by decide +kernel
theorem d_150_88 : decode (mB 150) 88 = .ok ((.iinc 6 (-1)), 3) := by decide +kernel
theorem d_150_91 : decode (mB 150) 91 = .ok ((.goto (-58)), 3) := by decide +kernel
theorem d_150_94 : decode (mB 150) 94 = .ok ((.iload 5), 2) := by decide +kernel
theorem d_150_96 : decode (mB 150) 96 = .ok ((.ifCond .eq 10), 3) := by decide +kernel
theorem d_150_99 : decode (mB 150) 99 = .ok ((.aload_n 0), 1) := by decide +kernel
theorem d_150_100 : decode (mB 150) 100 = .ok ((.invokevirtual 136), 3) := by decide +kernel
theorem d_150_103 : decode (mB 150) 103 = .ok ((.goto 5), 3) := by decide +kernel
theorem d_150_106 : decode (mB 150) 106 = .ok ((.bipush (-9)), 2) := by decide +kernel
theorem d_150_108 : decode (mB 150) 108 = .ok ((.istore 6), 2) := by decide +kernel
theorem d_150_110 : decode (mB 150) 110 = .ok ((.iload 6), 2) := by decide +kernel
theorem d_150_112 : decode (mB 150) 112 = .ok ((.aload_n 0), 1) := by decide +kernel
theorem d_150_113 : decode (mB 150) 113 = .ok ((.getfield 133), 3) := by decide +kernel
theorem d_150_116 : decode (mB 150) 116 = .ok ((.if_icmp .le 8), 3) := by decide +kernel
theorem d_150_119 : decode (mB 150) 119 = .ok ((.iload 4), 2) := by decide +kernel
theorem d_150_121 : decode (mB 150) 121 = .ok ((.goto 4), 3) := by decide +kernel
theorem d_150_124 : decode (mB 150) 124 = .ok ((.iload_n 3), 1) := by decide +kernel
theorem d_150_125 : decode (mB 150) 125 = .ok ((.istore_n 3), 1) := by decide +kernel
theorem d_150_126 : decode (mB 150) 126 = .ok ((.aload_n 0), 1) := by decide +kernel
theorem d_150_127 : decode (mB 150) 127 = .ok ((.iload 6), 2) := by decide +kernel
theorem d_150_129 : decode (mB 150) 129 = .ok ((.aload_n 0), 1) := by decide +kernel
theorem d_150_130 : decode (mB 150) 130 = .ok ((.getfield 133), 3) := by decide +kernel
theorem d_150_133 : decode (mB 150) 133 = .ok ((.if_icmp .le 8), 3) := by decide +kernel
theorem d_150_136 : decode (mB 150) 136 = .ok ((.iload 6), 2) := by decide +kernel
theorem d_150_138 : decode (mB 150) 138 = .ok ((.goto 7), 3) := by decide +kernel
theorem d_150_141 : decode (mB 150) 141 = .ok ((.aload_n 0), 1) := by decide +kernel
theorem d_150_142 : decode (mB 150) 142 = .ok ((.getfield 133), 3) := by decide +kernel
theorem d_150_145 : decode (mB 150) 145 = .ok ((.putfield 133), 3) := by decide +kernel
theorem d_150_148 : decode (mB 150) 148 = .ok ((.iinc 4 1), 3) := by decide +kernel
theorem d_150_151 : decode (mB 150) 151 = .ok ((.goto (-140)), 3) := by decide +kernel
theorem d_150_154 : decode (mB 150) 154 = .ok ((.iload_n 3), 1) := by decide +kernel
theorem d_150_155 : decode (mB 150) 155 = .ok (.ireturn, 1) := by decide +kernel
theorem d_151_0 : decode (mB 151) 0 = .ok ((.iload_n 1), 1) := by decide +kernel
theorem d_151_1 : decode (mB 151) 1 = .ok (.i2l, 1) := by decide +kernel
theorem d_151_2 : decode (mB 151) 2 = .ok ((.lconst 1), 1) := by decide +kernel
theorem d_151_3 : decode (mB 151) 3 = .ok ((.ldc2_w 103), 3) := by decide +kernel
theorem d_151_6 : decode (mB 151) 6 = .ok ((.invokestatic 59), 3) := by decide +kernel
theorem d_151_9 : decode (mB 151) 9 = .ok ((.ifCond .eq 15), 3) := by decide +kernel
theorem d_151_12 : decode (mB 151) 12 = .ok ((.iload_n 2), 1) := by decide +kernel
theorem d_151_13 : decode (mB 151) 13 = .ok (.i2l, 1) := by decide +kernel
theorem d_151_14 : decode (mB 151) 14 = .ok ((.lconst 0), 1) := by decide +kernel
theorem d_151_15 : decode (mB 151) 15 = .ok ((.ldc2_w 74), 3) := by decide +kernel
theorem d_151_18 : decode (mB 151) 18 = .ok ((.invokestatic 59), 3) := by decide +kernel
theorem d_151_21 : decode (mB 151) 21 = .ok ((.ifCond .ne 6), 3) := by decide +kernel
theorem d_151_24 : decode (mB 151) 24 = .ok ((.bipush (-2)), 2) := by decide +kernel
theorem d_151_26 : decode (mB 151) 26 = .ok (.ireturn, 1) := by decide +kernel
theorem d_151_27 : decode (mB 151) 27 = .ok ((.aload_n 0), 1) := by decide +kernel
theorem d_151_28 : decode (mB 151) 28 = .ok ((.getfield 53), 3) := by decide +kernel
theorem d_151_31 : decode (mB 151) 31 = .ok ((.iconst 4), 1) := by decide +kernel
theorem d_151_32 : decode (mB 151) 32 = .ok ((.if_icmp .le 6), 3) := by decide +kernel
theorem d_151_35 : decode (mB 151) 35 = .ok ((.bipush (-3)), 2) := by decide +kernel
theorem d_151_37 : decode (mB 151) 37 = .ok (.ireturn, 1) := by decide +kernel
theorem d_151_38 : decode (mB 151) 38 = .ok ((.iload_n 3), 1) := by decide +kernel
theorem d_151_39 : decode (mB 151) 39 = .ok (.i2l, 1) := by decide +kernel
theorem d_151_40 : decode (mB 151) 40 = .ok ((.lconst 0), 1) := by decide +kernel
theorem d_151_41 : decode (mB 151) 41 = .ok ((.iload_n 1), 1) := by decide +kernel
theorem d_151_42 : decode (mB 151) 42 = .ok ((.iconst 1), 1) := by decide +kernel
theorem d_151_43 : decode (mB 151) 43 = .ok (.isub, 1) := by decide +kernel
theorem d_151_44 : decode (mB 151) 44 = .ok (.i2l, 1) := by decide +kernel
theorem d_151_45 : decode (mB 151) 45 = .ok ((.invokestatic 59), 3) := by decide +kernel
theorem d_151_48 : decode (mB 151) 48 = .ok ((.ifCond .eq 23), 3) := by decide +kernel
theorem d_151_51 : decode (mB 151) 51 = .ok ((.aload_n 0), 1) := by decide +kernel
theorem d_151_52 : decode (mB 151) 52 = .ok ((.iload_n 1), 1) := by decide +kernel
theorem d_151_53 : decode (mB 151) 53 = .ok ((.iload_n 2), 1) := by decide +kernel
theorem d_151_54 : decode (mB 151) 54 = .ok ((.invokevirtual 146), 3) := by decide +kernel
theorem d_151_57 : decode (mB 151) 57 = .ok ((.iconst 4), 1) := by decide +kernel
theorem d_151_58 : decode (mB 151) 58 = .ok ((.iload_n 1), 1) := by decide +kernel
theorem d_151_59 : decode (mB 151) 59 = .ok ((.iconst 1), 1) := by decide +kernel
theorem d_151_60 : decode (mB 151) 60 = .ok (.isub, 1) := by decide +kernel
theorem d_151_61 : decode (mB 151) 61 = .ok ((.iload_n 3), 1) := by decide +kernel
theorem d_151_62 : decode (mB 151) 62 = .ok (.isub, 1) := by decide +kernel
theorem d_151_63 : decode (mB 151) 63 = .ok (.imul, 1) := by decide +kernel
theorem d_151_64 : decode (mB 151) 64 = .ok (.ishr, 1) := by decide +kernel
theorem d_151_65 : decode (mB 151) 65 = .ok ((.bipush 15), 2) := by decide +kernel
theorem d_151_67 : decode (mB 151) 67 = .ok (.iand, 1) := by decide +kernel
theorem d_151_68 : decode (mB 151) 68 = .ok ((.goto 5), 3) := by decide +kernel
theorem d_151_71 : decode (mB 151) 71 = .ok ((.bipush (-9)), 2) := by decide +kernel
theorem d_151_73 : decode (mB 151) 73 = .ok (.ireturn, 1) := by decide +kernel
theorem d_152_0 : decode (mB 152) 0 = .ok ((.iload_n 1), 1) := by decide +kernel
theorem d_152_1 : decode (mB 152) 1 = .ok (.i2l, 1) := by decide +kernel
theorem d_152_2 : decode (mB 152) 2 = .ok ((.lconst 1), 1) := by decide +kernel
theorem d_152_3 : decode (mB 152) 3 = .ok ((.ldc2_w 109), 3) := by decide +kernel
theorem d_152_6 : decode (mB 152) 6 = .ok ((.invokestatic 59), 3) := by decide +kernel
theorem d_152_9 : decode (mB 152) 9 = .ok ((.ifCond .eq 15), 3) := by decide +kernel
theorem d_152_12 : decode (mB 152) 12 = .ok ((.iload_n 2), 1) := by decide +kernel
theorem d_152_13 : decode (mB 152) 13 = .ok (.i2l, 1) := by decide +kernel
theorem d_152_14 : decode (mB 152) 14 = .ok ((.lconst 0), 1) := by decide +kernel
theorem d_152_15 : decode (mB 152) 15 = .ok ((.ldc2_w 74), 3) := by decide +kernel
theorem d_152_18 : decode (mB 152) 18 = .ok ((.invokestatic 59), 3) := by decide +kernel
theorem d_152_21 : decode (mB 152) 21 = .ok ((.ifCond .ne 6), 3) := by decide +kernel
theorem d_152_24 : decode (mB 152) 24 = .ok ((.bipush (-2)), 2) := by decide +kernel
theorem d_152_26 : decode (mB 152) 26 = .ok (.ireturn, 1) := by decide +kernel
theorem d_152_27 : decode (mB 152) 27 = .ok ((.iconst 0), 1) := by decide +kernel
theorem d_152_28 : decode (mB 152) 28 = .ok ((.istore_n 3), 1) := by decide +kernel
theorem d_152_29 : decode (mB 152) 29 = .ok ((.iload_n 3), 1) := by decide +kernel
theorem d_152_30 : decode (mB 152) 30 = .ok ((.bipush 64), 2) := by decide +kernel
theorem d_152_32 : decode (mB 152) 32 = .ok ((.if_icmp .ge 16), 3) := by decide +kernel
theorem d_152_35 : decode (mB 152) 35 = .ok ((.aload_n 0), 1) := by decide +kernel
theorem d_152_36 : decode (mB 152) 36 = .ok ((.getfield 34), 3) := by decide +kernel
theorem d_152_39 : decode (mB 152) 39 = .ok ((.iload_n 3), 1) := by decide +kernel
theorem d_152_40 : decode (mB 152) 40 = .ok ((.iload_n 3), 1) := by decide +kernel
theorem d_152_41 : decode (mB 152) 41 = .ok (.iastore, 1) := by decide +kernel
theorem d_152_42 : decode (mB 152) 42 = .ok ((.iinc 3 1), 3) := by decide +kernel
theorem d_152_45 : decode (mB 152) 45 = .ok ((.goto (-16)), 3) := by decide +kernel
theorem d_152_48 : decode (mB 152) 48 = .ok ((.aload_n 0), 1) := by decide +kernel
theorem d_152_49 : decode (mB 152) 49 = .ok ((.getfield 53), 3) := by decide +kernel
theorem d_152_52 : decode (mB 152) 52 = .ok ((.iconst 1), 1) := by decide +kernel
theorem d_152_53 : decode (mB 152) 53 = .ok (.isub, 1) := by decide +kernel
theorem d_152_54 : decode (mB 152) 54 = .ok ((.istore_n 3), 1) := by decide +kernel
theorem d_152_55 : decode (mB 152) 55 = .ok ((.iload_n 3), 1) := by decide +kernel
theorem d_152_56 : decode (mB 152) 56 = .ok ((.ifCond .lt 103), 3) := by decide +kernel
theorem d_152_59 : decode (mB 152) 59 = .ok ((.iconst 0), 1) := by decide +kernel
theorem d_152_60 : decode (mB 152) 60 = .ok ((.istore 4), 2) := by decide +kernel
theorem d_152_62 : decode (mB 152) 62 = .ok ((.iload 4), 2) := by decide +kernel
theorem d_152_64 : decode (mB 152) 64 = .ok ((.iconst 1), 1) := by decide +kernel
theorem d_152_65 : decode (mB 152) 65 = .ok ((.iload_n 3), 1) := by decide +kernel
theorem d_152_66 : decode (mB 152) 66 = .ok (.ishl, 1) := by decide +kernel
theorem d_152_67 : decode (mB 152) 67 = .ok ((.if_icmp .ge 86), 3) := by decide +kernel
theorem d_152_70 : decode (mB 152) 70 = .ok ((.aload_n 0), 1) := by decide +kernel
theorem d_152_71 : decode (mB 152) 71 = .ok ((.getfield 34), 3) := by decide +kernel
theorem d_152_74 : decode (mB 152) 74 = .ok ((.iload 4), 2) := by decide +kernel
theorem d_152_76 : decode (mB 152) 76 = .ok (.iaload, 1) := by decide +kernel
theorem d_152_77 : decode (mB 152) 77 = .ok ((.istore 5), 2) := by decide +kernel
theorem d_152_79 : decode (mB 152) 79 = .ok ((.aload_n 0), 1) := by decide +kernel
theorem d_152_80 : decode (mB 152) 80 = .ok ((.getfield 34), 3) := by decide +kernel
theorem d_152_83 : decode (mB 152) 83 = .ok ((.iload 4), 2) := by decide +kernel
theorem d_152_85 : decode (mB 152) 85 = .ok ((.iconst 1), 1) := by decide +kernel
theorem d_152_86 : decode (mB 152) 86 = .ok ((.iload_n 3), 1) := by decide +kernel
theorem d_152_87 : decode (mB 152) 87 = .ok (.ishl, 1) := by decide +kernel
theorem d_152_88 : decode (mB 152) 88 = .ok (.ior, 1) := by decide +kernel
theorem d_152_89 : decode (mB 152) 89 = .ok (.iaload, 1) := by decide +kernel
theorem d_152_90 : decode (mB 152) 90 = .ok ((.istore 6), 2) := by decide +kernel
theorem d_152_92 : decode (mB 152) 92 = .ok ((.aload_n 0), 1) := by decide +kernel
theorem d_152_93 : decode (mB 152) 93 = .ok ((.iload_n 1), 1) := by decide +kernel
theorem d_152_94 : decode (mB 152) 94 = .ok ((.iload_n 2), 1) := by decide +kernel
theorem d_152_95 : decode (mB 152) 95 = .ok ((.iload 5), 2) := by decide +kernel
theorem d_152_97 : decode (mB 152) 97 = .ok ((.invokevirtual 129), 3) := by decide +kernel
theorem d_152_100 : decode (mB 152) 100 = .ok ((.aload_n 0), 1) := by decide +kernel
theorem d_152_101 : decode (mB 152) 101 = .ok ((.getfield 19), 3) := by decide +kernel
theorem d_152_104 : decode (mB 152) 104 = .ok ((.bipush 42), 2) := by decide +kernel
theorem d_152_106 : decode (mB 152) 106 = .ok ((.iload_n 3), 1) := by decide +kernel
theorem d_152_107 : decode (mB 152) 107 = .ok (.iadd, 1) := by decide +kernel
theorem d_152_108 : decode (mB 152) 108 = .ok (.iaload, 1) := by decide +kernel
theorem d_152_109 : decode (mB 152) 109 = .ok ((.istore 7), 2) := by decide +kernel
theorem d_152_111 : decode (mB 152) 111 = .ok ((.aload_n 0), 1) := by decide +kernel
theorem d_152_112 : decode (mB 152) 112 = .ok ((.iload_n 1), 1) := by decide +kernel
theorem d_152_113 : decode (mB 152) 113 = .ok ((.iload_n 2), 1) := by decide +kernel
theorem d_152_114 : decode (mB 152) 114 = .ok ((.iload 6), 2) := by decide +kernel
theorem d_152_116 : decode (mB 152) 116 = .ok ((.invokevirtual 129), 3) := by decide +kernel
theorem d_152_119 : decode (mB 152) 119 = .ok ((.aload_n 0), 1) := by decide +kernel
theorem d_152_120 : decode (mB 152) 120 = .ok ((.getfield 34), 3) := by decide +kernel
theorem d_152_123 : decode (mB 152) 123 = .ok ((.iload 4), 2) := by decide +kernel
theorem d_152_125 : decode (mB 152) 125 = .ok ((.aload_n 0), 1) := by decide +kernel
theorem d_152_126 : decode (mB 152) 126 = .ok ((.getfield 19), 3) := by decide +kernel
theorem d_152_129 : decode (mB 152) 129 = .ok ((.bipush 42), 2) := by decide +kernel
theorem d_152_131 : decode (mB 152) 131 = .ok ((.iload_n 3), 1) := by decide +kernel
theorem d_152_132 : decode (mB 152) 132 = .ok (.iadd, 1) := by decide +kernel
theorem d_152_133 : decode (mB 152) 133 = .ok (.iaload, 1) := by decide +kernel
theorem d_152_134 : decode (mB 152) 134 = .ok ((.iload 7), 2) := by decide +kernel
theorem d_152_136 : decode (mB 152) 136 = .ok ((.if_icmp .le 8), 3) := by decide +kernel
theorem d_152_139 : decode (mB 152) 139 = .ok ((.iload 6), 2) := by decide +kernel
theorem d_152_141 : decode (mB 152) 141 = .ok ((.goto 5), 3) := by decide +kernel
theorem d_152_144 : decode (mB 152) 144 = .ok ((.iload 5), 2) := by decide +kernel
theorem d_152_146 : decode (mB 152) 146 = .ok (.iastore, 1) := by decide +kernel
theorem d_152_147 : decode (mB 152) 147 = .ok ((.iinc 4 1), 3) := by decide +kernel
theorem d_152_150 : decode (mB 152) 150 = .ok ((.goto (-88)), 3) := by decide +kernel
theorem d_152_153 : decode (mB 152) 153 = .ok ((.iinc 3 (-1)), 3) := by decide +kernel
theorem d_152_156 : decode (mB 152) 156 = .ok ((.goto (-101)), 3) := by decide +kernel
theorem d_152_159 : decode (mB 152) 159 = .ok ((.aload_n 0), 1) := by decide +kernel
theorem d_152_160 : decode (mB 152) 160 = .ok ((.getfield 34), 3) := by decide +kernel
theorem d_152_163 : decode (mB 152) 163 = .ok ((.iconst 0), 1) := by decide +kernel
theorem d_152_164 : decode (mB 152) 164 = .ok (.iaload, 1) := by decide +kernel
theorem d_152_165 : decode (mB 152) 165 = .ok (.ireturn, 1) := by decide +kernel
theorem d_153_0 : decode (mB 153) 0 = .ok ((.iload_n 1), 1) := by decide +kernel
theorem d_153_1 : decode (mB 153) 1 = .ok (.i2l, 1) := by decide +kernel
theorem d_153_2 : decode (mB 153) 2 = .ok ((.lconst 1), 1) := by decide +kernel
theorem d_153_3 : decode (mB 153) 3 = .ok ((.ldc2_w 109), 3) := by decide +kernel
theorem d_153_6 : decode (mB 153) 6 = .ok ((.invokestatic 59), 3) := by decide +kernel
theorem d_153_9 : decode (mB 153) 9 = .ok ((.ifCond .eq 27), 3) := by decide +kernel
theorem d_153_12 : decode (mB 153) 12 = .ok ((.iload_n 2), 1) := by decide +kernel
theorem d_153_13 : decode (mB 153) 13 = .ok (.i2l, 1) := by decide +kernel
theorem d_153_14 : decode (mB 153) 14 = .ok ((.lconst 0), 1) := by decide +kernel
theorem d_153_15 : decode (mB 153) 15 = .ok ((.ldc2_w 74), 3) := by decide +kernel
theorem d_153_18 : decode (mB 153) 18 = .ok ((.invokestatic 59), 3) := by decide +kernel
theorem d_153_21 : decode (mB 153) 21 = .ok ((.ifCond .eq 15), 3) := by decide +kernel
theorem d_153_24 : decode (mB 153) 24 = .ok ((.iload_n 3), 1) := by decide +kernel
theorem d_153_25 : decode (mB 153) 25 = .ok (.i2l, 1) := by decide +kernel
theorem d_153_26 : decode (mB 153) 26 = .ok ((.lconst 0), 1) := by decide +kernel
theorem d_153_27 : decode (mB 153) 27 = .ok ((.ldc2_w 149), 3) := by decide +kernel
theorem d_153_30 : decode (mB 153) 30 = .ok ((.invokestatic 59), 3) := by decide +kernel
theorem d_153_33 : decode (mB 153) 33 = .ok ((.ifCond .ne 6), 3) := by decide +kernel
theorem d_153_36 : decode (mB 153) 36 = .ok ((.bipush (-2)), 2) := by decide +kernel
theorem d_153_38 : decode (mB 153) 38 = .ok (.ireturn, 1) := by decide +kernel
theorem d_153_39 : decode (mB 153) 39 = .ok ((.aload_n 0), 1) := by decide +kernel
theorem d_153_40 : decode (mB 153) 40 = .ok ((.getfield 151), 3) := by decide +kernel
theorem d_153_43 : decode (mB 153) 43 = .ok ((.bipush 6), 2) := by decide +kernel
theorem d_153_45 : decode (mB 153) 45 = .ok ((.if_icmp .ne 6), 3) := by decide +kernel
theorem d_153_48 : decode (mB 153) 48 = .ok ((.bipush (-4)), 2) := by decide +kernel
theorem d_153_50 : decode (mB 153) 50 = .ok (.ireturn, 1) := by decide +kernel
theorem d_153_51 : decode (mB 153) 51 = .ok ((.aload_n 0), 1) := by decide +kernel
theorem d_153_52 : decode (mB 153) 52 = .ok ((.getfield 37), 3) := by decide +kernel
theorem d_153_55 : decode (mB 153) 55 = .ok ((.aload_n 0), 1) := by decide +kernel
theorem d_153_56 : decode (mB 153) 56 = .ok ((.getfield 151), 3) := by decide +kernel
theorem d_153_59 : decode (mB 153) 59 = .ok ((.iload_n 1), 1) := by decide +kernel
theorem d_153_60 : decode (mB 153) 60 = .ok (.iastore, 1) := by decide +kernel
theorem d_153_61 : decode (mB 153) 61 = .ok ((.aload_n 0), 1) := by decide +kernel
theorem d_153_62 : decode (mB 153) 62 = .ok ((.getfield 40), 3) := by decide +kernel
theorem d_153_65 : decode (mB 153) 65 = .ok ((.aload_n 0), 1) := by decide +kernel
theorem d_153_66 : decode (mB 153) 66 = .ok ((.getfield 151), 3) := by decide +kernel
theorem d_153_69 : decode (mB 153) 69 = .ok ((.iload_n 2), 1) := by decide +kernel
theorem d_153_70 : decode (mB 153) 70 = .ok (.iastore, 1) := by decide +kernel
theorem d_153_71 : decode (mB 153) 71 = .ok ((.aload_n 0), 1) := by decide +kernel
theorem d_153_72 : decode (mB 153) 72 = .ok ((.getfield 43), 3) := by decide +kernel
theorem d_153_75 : decode (mB 153) 75 = .ok ((.aload_n 0), 1) := by decide +kernel
theorem d_153_76 : decode (mB 153) 76 = .ok ((.getfield 151), 3) := by decide +kernel
theorem d_153_79 : decode (mB 153) 79 = .ok ((.iload_n 3), 1) := by decide +kernel
theorem d_153_80 : decode (mB 153) 80 = .ok (.iastore, 1) := by decide +kernel
theorem d_153_81 : decode (mB 153) 81 = .ok ((.aload_n 0), 1) := by decide +kernel
theorem d_153_82 : decode (mB 153) 82 = .ok (.dup, 1) := by decide +kernel
theorem d_153_83 : decode (mB 153) 83 = .ok ((.getfield 151), 3) := by decide +kernel
theorem d_153_86 : decode (mB 153) 86 = .ok ((.iconst 1), 1) := by decide +kernel
theorem d_153_87 : decode (mB 153) 87 = .ok (.iadd, 1) := by decide +kernel
theorem d_153_88 : decode (mB 153) 88 = .ok ((.putfield 151), 3) := by decide +kernel
theorem d_153_91 : decode (mB 153) 91 = .ok ((.aload_n 0), 1) := by decide +kernel
theorem d_153_92 : decode (mB 153) 92 = .ok ((.getfield 151), 3) := by decide +kernel
theorem d_153_95 : decode (mB 153) 95 = .ok (.ireturn, 1) := by decide +kernel
theorem d_154_0 : decode (mB 154) 0 = .ok ((.aload_n 0), 1) := by decide +kernel
theorem d_154_1 : decode (mB 154) 1 = .ok ((.getfield 151), 3) := by decide +kernel
theorem d_154_4 : decode (mB 154) 4 = .ok ((.istore_n 1), 1) := by decide +kernel
theorem d_154_5 : decode (mB 154) 5 = .ok ((.aload_n 0), 1) := by decide +kernel
theorem d_154_6 : decode (mB 154) 6 = .ok ((.iconst 0), 1) := by decide +kernel
theorem d_154_7 : decode (mB 154) 7 = .ok ((.putfield 151), 3) := by decide +kernel
theorem d_154_10 : decode (mB 154) 10 = .ok ((.iload_n 1), 1) := by decide +kernel
theorem d_154_11 : decode (mB 154) 11 = .ok (.ireturn, 1) := by decide +kernel
theorem d_155_0 : decode (mB 155) 0 = .ok ((.iconst 0), 1) := by decide +kernel
theorem d_155_1 : decode (mB 155) 1 = .ok ((.istore_n 1), 1) := by decide +kernel
theorem d_155_2 : decode (mB 155) 2 = .ok ((.iconst 0), 1) := by decide +kernel
theorem d_155_3 : decode (mB 155) 3 = .ok ((.istore_n 2), 1) := by decide +kernel
theorem d_155_4 : decode (mB 155) 4 = .ok ((.iload_n 2), 1) := by decide +kernel
theorem d_155_5 : decode (mB 155) 5 = .ok ((.iconst 1), 1) := by decide +kernel
theorem d_155_6 : decode (mB 155) 6 = .ok ((.aload_n 0), 1) := by decide +kernel
theorem d_155_7 : decode (mB 155) 7 = .ok ((.getfield 53), 3) := by decide +kernel
theorem d_155_10 : decode (mB 155) 10 = .ok (.ishl, 1) := by decide +kernel
theorem d_155_11 : decode (mB 155) 11 = .ok ((.if_icmp .ge 25), 3) := by decide +kernel
theorem d_155_14 : decode (mB 155) 14 = .ok ((.iload_n 1), 1) := by decide +kernel
theorem d_155_15 : decode (mB 155) 15 = .ok ((.aload_n 0), 1) := by decide +kernel
theorem d_155_16 : decode (mB 155) 16 = .ok ((.iload_n 2), 1) := by decide +kernel
theorem d_155_17 : decode (mB 155) 17 = .ok ((.invokevirtual 154), 3) := by decide +kernel
theorem d_155_20 : decode (mB 155) 20 = .ok ((.ifCond .eq 7), 3) := by decide +kernel
theorem d_155_23 : decode (mB 155) 23 = .ok ((.iconst 1), 1) := by decide +kernel
theorem d_155_24 : decode (mB 155) 24 = .ok ((.goto 4), 3) := by decide +kernel
theorem d_155_27 : decode (mB 155) 27 = .ok ((.iconst 0), 1) := by decide +kernel
theorem d_155_28 : decode (mB 155) 28 = .ok (.iadd, 1) := by decide +kernel
theorem d_155_29 : decode (mB 155) 29 = .ok ((.istore_n 1), 1) := by decide +kernel
theorem d_155_30 : decode (mB 155) 30 = .ok ((.iinc 2 1), 3) := by decide +kernel
theorem d_155_33 : decode (mB 155) 33 = .ok ((.goto (-29)), 3) := by decide +kernel
theorem d_155_36 : decode (mB 155) 36 = .ok ((.iload_n 1), 1) := by decide +kernel
theorem d_155_37 : decode (mB 155) 37 = .ok (.ireturn, 1) := by decide +kernel
theorem d_156_0 : decode (mB 156) 0 = .ok ((.iconst 1), 1) := by decide +kernel
theorem d_156_1 : decode (mB 156) 1 = .ok ((.istore_n 2), 1) := by decide +kernel
theorem d_156_2 : decode (mB 156) 2 = .ok ((.iconst 0), 1) := by decide +kernel
theorem d_156_3 : decode (mB 156) 3 = .ok ((.istore_n 3), 1) := by decide +kernel
theorem d_156_4 : decode (mB 156) 4 = .ok ((.iload_n 3), 1) := by decide +kernel
theorem d_156_5 : decode (mB 156) 5 = .ok ((.aload_n 0), 1) := by decide +kernel
theorem d_156_6 : decode (mB 156) 6 = .ok ((.getfield 151), 3) := by decide +kernel
theorem d_156_9 : decode (mB 156) 9 = .ok ((.if_icmp .ge 60), 3) := by decide +kernel
theorem d_156_12 : decode (mB 156) 12 = .ok ((.iload_n 2), 1) := by decide +kernel
theorem d_156_13 : decode (mB 156) 13 = .ok ((.ifCond .eq 56), 3) := by decide +kernel
theorem d_156_16 : decode (mB 156) 16 = .ok ((.aload_n 0), 1) := by decide +kernel
theorem d_156_17 : decode (mB 156) 17 = .ok ((.aload_n 0), 1) := by decide +kernel
theorem d_156_18 : decode (mB 156) 18 = .ok ((.getfield 37), 3) := by decide +kernel
theorem d_156_21 : decode (mB 156) 21 = .ok ((.iload_n 3), 1) := by decide +kernel
theorem d_156_22 : decode (mB 156) 22 = .ok (.iaload, 1) := by decide +kernel
theorem d_156_23 : decode (mB 156) 23 = .ok ((.aload_n 0), 1) := by decide +kernel
theorem d_156_24 : decode (mB 156) 24 = .ok ((.getfield 40), 3) := by decide +kernel
theorem d_156_27 : decode (mB 156) 27 = .ok ((.iload_n 3), 1) := by decide +kernel
theorem d_156_28 : decode (mB 156) 28 = .ok (.iaload, 1) := by decide +kernel
theorem d_156_29 : decode (mB 156) 29 = .ok ((.iload_n 1), 1) := by decide +kernel
theorem d_156_30 : decode (mB 156) 30 = .ok ((.invokevirtual 129), 3) := by decide +kernel
theorem d_156_33 : decode (mB 156) 33 = .ok ((.aload_n 0), 1) := by decide +kernel
theorem d_156_34 : decode (mB 156) 34 = .ok ((.getfield 19), 3) := by decide +kernel
theorem d_156_37 : decode (mB 156) 37 = .ok ((.bipush 54), 2) := by decide +kernel
theorem d_156_39 : decode (mB 156) 39 = .ok (.iaload, 1) := by decide +kernel
theorem d_156_40 : decode (mB 156) 40 = .ok ((.aload_n 0), 1) := by decide +kernel
theorem d_156_41 : decode (mB 156) 41 = .ok ((.getfield 19), 3) := by decide +kernel
theorem d_156_44 : decode (mB 156) 44 = .ok ((.bipush 24), 2) := by decide +kernel
theorem d_156_46 : decode (mB 156) 46 = .ok (.iaload, 1) := by decide +kernel
theorem d_156_47 : decode (mB 156) 47 = .ok (.isub, 1) := by decide +kernel
theorem d_156_48 : decode (mB 156) 48 = .ok ((.aload_n 0), 1) := by decide +kernel
theorem d_156_49 : decode (mB 156) 49 = .ok ((.getfield 43), 3) := by decide +kernel
theorem d_156_52 : decode (mB 156) 52 = .ok ((.iload_n 3), 1) := by decide +kernel
theorem d_156_53 : decode (mB 156) 53 = .ok (.iaload, 1) := by decide +kernel
theorem d_156_54 : decode (mB 156) 54 = .ok ((.if_icmp .ne 7), 3) := by decide +kernel
theorem d_156_57 : decode (mB 156) 57 = .ok ((.iconst 1), 1) := by decide +kernel
theorem d_156_58 : decode (mB 156) 58 = .ok ((.goto 4), 3) := by decide +kernel
theorem d_156_61 : decode (mB 156) 61 = .ok ((.iconst 0), 1) := by decide +kernel
theorem d_156_62 : decode (mB 156) 62 = .ok ((.istore_n 2), 1) := by decide +kernel
theorem d_156_63 : decode (mB 156) 63 = .ok ((.iinc 3 1), 3) := by decide +kernel
theorem d_156_66 : decode (mB 156) 66 = .ok ((.goto (-62)), 3) := by decide +kernel
theorem d_156_69 : decode (mB 156) 69 = .ok ((.iload_n 2), 1) := by decide +kernel
theorem d_156_70 : decode (mB 156) 70 = .ok (.ireturn, 1) := by decide +kernel
theorem d_157_0 : decode (mB 157) 0 = .ok ((.iconst (-1)), 1) := by decide +kernel
theorem d_157_1 : decode (mB 157) 1 = .ok ((.istore_n 2), 1) := by decide +kernel
theorem d_157_2 : decode (mB 157) 2 = .ok ((.iconst 0), 1) := by decide +kernel
theorem d_157_3 : decode (mB 157) 3 = .ok ((.istore_n 3), 1) := by decide +kernel
theorem d_157_4 : decode (mB 157) 4 = .ok ((.iconst 1), 1) := by decide +kernel
theorem d_157_5 : decode (mB 157) 5 = .ok ((.istore 4), 2) := by decide +kernel
theorem d_157_7 : decode (mB 157) 7 = .ok ((.iconst 0), 1) := by decide +kernel
theorem d_157_8 : decode (mB 157) 8 = .ok ((.istore 5), 2) := by decide +kernel
theorem d_157_10 : decode (mB 157) 10 = .ok ((.iload 5), 2) := by decide +kernel
theorem d_157_12 : decode (mB 157) 12 = .ok ((.iconst 1), 1) := by decide +kernel
theorem d_157_13 : decode (mB 157) 13 = .ok ((.aload_n 0), 1) := by decide +kernel
theorem d_157_14 : decode (mB 157) 14 = .ok ((.getfield 53), 3) := by decide +kernel
theorem d_157_17 : decode (mB 157) 17 = .ok (.ishl, 1) := by decide +kernel
theorem d_157_18 : decode (mB 157) 18 = .ok ((.if_icmp .ge 31), 3) := by decide +kernel
theorem d_157_21 : decode (mB 157) 21 = .ok ((.aload_n 0), 1) := by decide +kernel
theorem d_157_22 : decode (mB 157) 22 = .ok ((.iload 5), 2) := by decide +kernel
theorem d_157_24 : decode (mB 157) 24 = .ok ((.invokevirtual 154), 3) := by decide +kernel
theorem d_157_27 : decode (mB 157) 27 = .ok ((.ifCond .eq 16), 3) := by decide +kernel
theorem d_157_30 : decode (mB 157) 30 = .ok ((.iload_n 2), 1) := by decide +kernel
theorem d_157_31 : decode (mB 157) 31 = .ok ((.iload 5), 2) := by decide +kernel
theorem d_157_33 : decode (mB 157) 33 = .ok (.iand, 1) := by decide +kernel
theorem d_157_34 : decode (mB 157) 34 = .ok ((.istore_n 2), 1) := by decide +kernel
theorem d_157_35 : decode (mB 157) 35 = .ok ((.iload_n 3), 1) := by decide +kernel
theorem d_157_36 : decode (mB 157) 36 = .ok ((.iload 5), 2) := by decide +kernel
theorem d_157_38 : decode (mB 157) 38 = .ok (.ior, 1) := by decide +kernel
theorem d_157_39 : decode (mB 157) 39 = .ok ((.istore_n 3), 1) := by decide +kernel
theorem d_157_40 : decode (mB 157) 40 = .ok ((.iconst 0), 1) := by decide +kernel
theorem d_157_41 : decode (mB 157) 41 = .ok ((.istore 4), 2) := by decide +kernel
theorem d_157_43 : decode (mB 157) 43 = .ok ((.iinc 5 1), 3) := by decide +kernel
theorem d_157_46 : decode (mB 157) 46 = .ok ((.goto (-36)), 3) := by decide +kernel
theorem d_157_49 : decode (mB 157) 49 = .ok ((.iload 4), 2) := by decide +kernel
theorem d_157_51 : decode (mB 157) 51 = .ok ((.ifCond .eq 8), 3) := by decide +kernel
theorem d_157_54 : decode (mB 157) 54 = .ok ((.bipush (-9)), 2) := by decide +kernel
theorem d_157_56 : decode (mB 157) 56 = .ok ((.goto 12), 3) := by decide +kernel
theorem d_157_59 : decode (mB 157) 59 = .ok ((.iload_n 1), 1) := by decide +kernel
theorem d_157_60 : decode (mB 157) 60 = .ok ((.ifCond .eq 7), 3) := by decide +kernel
theorem d_157_63 : decode (mB 157) 63 = .ok ((.iload_n 3), 1) := by decide +kernel
theorem d_157_64 : decode (mB 157) 64 = .ok ((.goto 4), 3) := by decide +kernel
theorem d_157_67 : decode (mB 157) 67 = .ok ((.iload_n 2), 1) := by decide +kernel
theorem d_157_68 : decode (mB 157) 68 = .ok (.ireturn, 1) := by decide +kernel
theorem d_158_0 : decode (mB 158) 0 = .ok ((.aload_n 0), 1) := by decide +kernel
theorem d_158_1 : decode (mB 158) 1 = .ok ((.iload_n 1), 1) := by decide +kernel
theorem d_158_2 : decode (mB 158) 2 = .ok ((.invokevirtual 99), 3) := by decide +kernel
theorem d_158_5 : decode (mB 158) 5 = .ok ((.ifCond .ne 7), 3) := by decide +kernel
theorem d_158_8 : decode (mB 158) 8 = .ok ((.ldc2_w 157), 3) := by decide +kernel
theorem d_158_11 : decode (mB 158) 11 = .ok (.lreturn, 1) := by decide +kernel
theorem d_158_12 : decode (mB 158) 12 = .ok ((.iload_n 2), 1) := by decide +kernel
theorem d_158_13 : decode (mB 158) 13 = .ok (.i2l, 1) := by decide +kernel
theorem d_158_14 : decode (mB 158) 14 = .ok ((.lconst 0), 1) := by decide +kernel
theorem d_158_15 : decode (mB 158) 15 = .ok ((.ldc2_w 57), 3) := by decide +kernel
theorem d_158_18 : decode (mB 158) 18 = .ok ((.invokestatic 59), 3) := by decide +kernel
theorem d_158_21 : decode (mB 158) 21 = .ok ((.ifCond .eq 28), 3) := by decide +kernel
theorem d_158_24 : decode (mB 158) 24 = .ok ((.iload_n 3), 1) := by decide +kernel
theorem d_158_25 : decode (mB 158) 25 = .ok (.i2l, 1) := by decide +kernel
theorem d_158_26 : decode (mB 158) 26 = .ok ((.lconst 0), 1) := by decide +kernel
theorem d_158_27 : decode (mB 158) 27 = .ok ((.ldc2_w 74), 3) := by decide +kernel
theorem d_158_30 : decode (mB 158) 30 = .ok ((.invokestatic 59), 3) := by decide +kernel
theorem d_158_33 : decode (mB 158) 33 = .ok ((.ifCond .eq 16), 3) := by decide +kernel
theorem d_158_36 : decode (mB 158) 36 = .ok ((.iload 4), 2) := by decide +kernel
theorem d_158_38 : decode (mB 158) 38 = .ok (.i2l, 1) := by decide +kernel
theorem d_158_39 : decode (mB 158) 39 = .ok ((.lconst 0), 1) := by decide +kernel
theorem d_158_40 : decode (mB 158) 40 = .ok ((.ldc2_w 159), 3) := by decide +kernel
theorem d_158_43 : decode (mB 158) 43 = .ok ((.invokestatic 59), 3) := by decide +kernel
theorem d_158_46 : decode (mB 158) 46 = .ok ((.ifCond .ne 7), 3) := by decide +kernel
theorem d_158_49 : decode (mB 158) 49 = .ok ((.ldc2_w 161), 3) := by decide +kernel
theorem d_158_52 : decode (mB 158) 52 = .ok (.lreturn, 1) := by decide +kernel
theorem d_158_53 : decode (mB 158) 53 = .ok ((.lconst 0), 1) := by decide +kernel
theorem d_158_54 : decode (mB 158) 54 = .ok ((.lstore 6), 2) := by decide +kernel
theorem d_158_56 : decode (mB 158) 56 = .ok ((.lconst 0), 1) := by decide +kernel
theorem d_158_57 : decode (mB 158) 57 = .ok ((.lstore 8), 2) := by decide +kernel
theorem d_158_59 : decode (mB 158) 59 = .ok ((.iconst 0), 1) := by decide +kernel
theorem d_158_60 : decode (mB 158) 60 = .ok ((.istore 10), 2) := by decide +kernel
theorem d_158_62 : decode (mB 158) 62 = .ok ((.iload 10), 2) := by decide +kernel
theorem d_158_64 : decode (mB 158) 64 = .ok ((.iconst 1), 1) := by decide +kernel
theorem d_158_65 : decode (mB 158) 65 = .ok ((.iload_n 2), 1) := by decide +kernel
theorem d_158_66 : decode (mB 158) 66 = .ok (.ishl, 1) := by decide +kernel
theorem d_158_67 : decode (mB 158) 67 = .ok ((.if_icmp .ge 120), 3) := by decide +kernel
theorem d_158_70 : decode (mB 158) 70 = .ok ((.lconst 1), 1) := by decide +kernel
theorem d_158_71 : decode (mB 158) 71 = .ok ((.lstore 11), 2) := by decide +kernel
theorem d_158_73 : decode (mB 158) 73 = .ok ((.aload_n 0), 1) := by decide +kernel
theorem d_158_74 : decode (mB 158) 74 = .ok ((.invokevirtual 124), 3) := by decide +kernel
theorem d_158_77 : decode (mB 158) 77 = .ok ((.iconst 0), 1) := by decide +kernel
theorem d_158_78 : decode (mB 158) 78 = .ok ((.istore 13), 2) := by decide +kernel
theorem d_158_80 : decode (mB 158) 80 = .ok ((.iload 13), 2) := by decide +kernel
theorem d_158_82 : decode (mB 158) 82 = .ok ((.iload_n 2), 1) := by decide +kernel
theorem d_158_83 : decode (mB 158) 83 = .ok ((.if_icmp .ge 70), 3) := by decide +kernel
theorem d_158_86 : decode (mB 158) 86 = .ok ((.iload 10), 2) := by decide +kernel
theorem d_158_88 : decode (mB 158) 88 = .ok ((.iload 13), 2) := by decide +kernel
theorem d_158_90 : decode (mB 158) 90 = .ok (.ishr, 1) := by decide +kernel
theorem d_158_91 : decode (mB 158) 91 = .ok ((.iconst 1), 1) := by decide +kernel
theorem d_158_92 : decode (mB 158) 92 = .ok (.iand, 1) := by decide +kernel
theorem d_158_93 : decode (mB 158) 93 = .ok ((.iconst 1), 1) := by decide +kernel
theorem d_158_94 : decode (mB 158) 94 = .ok ((.if_icmp .ne 7), 3) := by decide +kernel
theorem d_158_97 : decode (mB 158) 97 = .ok ((.iconst 1), 1) := by decide +kernel
theorem d_158_98 : decode (mB 158) 98 = .ok ((.goto 4), 3) := by decide +kernel
theorem d_158_101 : decode (mB 158) 101 = .ok ((.iconst 0), 1) := by decide +kernel
theorem d_158_102 : decode (mB 158) 102 = .ok ((.istore 14), 2) := by decide +kernel
theorem d_158_104 : decode (mB 158) 104 = .ok ((.lload 11), 2) := by decide +kernel
theorem d_158_106 : decode (mB 158) 106 = .ok ((.iload 14), 2) := by decide +kernel
theorem d_158_108 : decode (mB 158) 108 = .ok ((.ifCond .eq 9), 3) := by decide +kernel
theorem d_158_111 : decode (mB 158) 111 = .ok ((.iload 4), 2) := by decide +kernel
theorem d_158_113 : decode (mB 158) 113 = .ok (.i2l, 1) := by decide +kernel
theorem d_158_114 : decode (mB 158) 114 = .ok ((.goto 9), 3) := by decide +kernel
theorem d_158_117 : decode (mB 158) 117 = .ok ((.bipush 10), 2) := by decide +kernel
theorem d_158_119 : decode (mB 158) 119 = .ok ((.iload 4), 2) := by decide +kernel
theorem d_158_121 : decode (mB 158) 121 = .ok (.isub, 1) := by decide +kernel
theorem d_158_122 : decode (mB 158) 122 = .ok (.i2l, 1) := by decide +kernel
theorem d_158_123 : decode (mB 158) 123 = .ok (.lmul, 1) := by decide +kernel
theorem d_158_124 : decode (mB 158) 124 = .ok ((.lstore 11), 2) := by decide +kernel
theorem d_158_126 : decode (mB 158) 126 = .ok ((.aload_n 0), 1) := by decide +kernel
theorem d_158_127 : decode (mB 158) 127 = .ok ((.bipush 30), 2) := by decide +kernel
theorem d_158_129 : decode (mB 158) 129 = .ok ((.iload 14), 2) := by decide +kernel
theorem d_158_131 : decode (mB 158) 131 = .ok ((.ifCond .eq 7), 3) := by decide +kernel
theorem d_158_134 : decode (mB 158) 134 = .ok ((.iload_n 3), 1) := by decide +kernel
theorem d_158_135 : decode (mB 158) 135 = .ok ((.goto 4), 3) := by decide +kernel
theorem d_158_138 : decode (mB 158) 138 = .ok ((.iconst 0), 1) := by decide +kernel
theorem d_158_139 : decode (mB 158) 139 = .ok ((.aload_n 0), 1) := by decide +kernel
theorem d_158_140 : decode (mB 158) 140 = .ok ((.getfield 90), 3) := by decide +kernel
theorem d_158_143 : decode (mB 158) 143 = .ok ((.invokevirtual 121), 3) := by decide +kernel
theorem d_158_146 : decode (mB 158) 146 = .ok (.pop, 1) := by decide +kernel
theorem d_158_147 : decode (mB 158) 147 = .ok ((.iinc 13 1), 3) := by decide +kernel
theorem d_158_150 : decode (mB 158) 150 = .ok ((.goto (-70)), 3) := by decide +kernel
theorem d_158_153 : decode (mB 158) 153 = .ok ((.lload 8), 2) := by decide +kernel
theorem d_158_155 : decode (mB 158) 155 = .ok ((.lload 11), 2) := by decide +kernel
theorem d_158_157 : decode (mB 158) 157 = .ok (.ladd, 1) := by decide +kernel
theorem d_158_158 : decode (mB 158) 158 = .ok ((.lstore 8), 2) := by decide +kernel
theorem d_158_160 : decode (mB 158) 160 = .ok ((.lload 6), 2) := by decide +kernel
theorem d_158_162 : decode (mB 158) 162 = .ok ((.aload_n 0), 1) := by decide +kernel
theorem d_158_163 : decode (mB 158) 163 = .ok ((.bipush 30), 2) := by decide +kernel
theorem d_158_165 : decode (mB 158) 165 = .ok ((.iload_n 1), 1) := by decide +kernel
theorem d_158_166 : decode (mB 158) 166 = .ok ((.invokevirtual 105), 3) := by decide +kernel
theorem d_158_169 : decode (mB 158) 169 = .ok ((.ifCond .eq 8), 3) := by decide +kernel
theorem d_158_172 : decode (mB 158) 172 = .ok ((.lload 11), 2) := by decide +kernel
theorem d_158_174 : decode (mB 158) 174 = .ok ((.goto 4), 3) := by decide +kernel
theorem d_158_177 : decode (mB 158) 177 = .ok ((.lconst 0), 1) := by decide +kernel
theorem d_158_178 : decode (mB 158) 178 = .ok (.ladd, 1) := by decide +kernel
theorem d_158_179 : decode (mB 158) 179 = .ok ((.lstore 6), 2) := by decide +kernel
theorem d_158_181 : decode (mB 158) 181 = .ok ((.iinc 10 1), 3) := by decide +kernel
theorem d_158_184 : decode (mB 158) 184 = .ok ((.goto (-122)), 3) := by decide +kernel
theorem d_158_187 : decode (mB 158) 187 = .ok ((.lload 6), 2) := by decide +kernel
theorem d_158_189 : decode (mB 158) 189 = .ok ((.lload 8), 2) := by decide +kernel
theorem d_158_191 : decode (mB 158) 191 = .ok ((.iload 5), 2) := by decide +kernel
theorem d_158_193 : decode (mB 158) 193 = .ok ((.invokestatic 163), 3) := by decide +kernel
theorem d_158_196 : decode (mB 158) 196 = .ok (.lreturn, 1) := by decide +kernel
theorem d_159_0 : decode (mB 159) 0 = .ok ((.lload_n 0), 1) := by decide +kernel
theorem d_159_1 : decode (mB 159) 1 = .ok ((.lstore 5), 2) := by decide +kernel
theorem d_159_3 : decode (mB 159) 3 = .ok ((.lload_n 2), 1) := by decide +kernel
theorem d_159_4 : decode (mB 159) 4 = .ok ((.lstore 7), 2) := by decide +kernel
theorem d_159_6 : decode (mB 159) 6 = .ok ((.lload 7), 2) := by decide +kernel
theorem d_159_8 : decode (mB 159) 8 = .ok ((.lconst 0), 1) := by decide +kernel
theorem d_159_9 : decode (mB 159) 9 = .ok (.lcmp, 1) := by decide +kernel
theorem d_159_10 : decode (mB 159) 10 = .ok ((.ifCond .eq 21), 3) := by decide +kernel
theorem d_159_13 : decode (mB 159) 13 = .ok ((.lload 5), 2) := by decide +kernel
theorem d_159_15 : decode (mB 159) 15 = .ok ((.lload 7), 2) := by decide +kernel
theorem d_159_17 : decode (mB 159) 17 = .ok (.lrem, 1) := by decide +kernel
theorem d_159_18 : decode (mB 159) 18 = .ok ((.lstore 9), 2) := by decide +kernel
theorem d_159_20 : decode (mB 159) 20 = .ok ((.lload 7), 2) := by decide +kernel
theorem d_159_22 : decode (mB 159) 22 = .ok ((.lstore 5), 2) := by decide +kernel
theorem d_159_24 : decode (mB 159) 24 = .ok ((.lload 9), 2) := by decide +kernel
theorem d_159_26 : decode (mB 159) 26 = .ok ((.lstore 7), 2) := by decide +kernel
theorem d_159_28 : decode (mB 159) 28 = .ok ((.goto (-22)), 3) := by decide +kernel
theorem d_159_31 : decode (mB 159) 31 = .ok ((.iload 4), 2) := by decide +kernel
theorem d_159_33 : decode (mB 159) 33 = .ok ((.ifCond .eq 10), 3) := by decide +kernel
theorem d_159_36 : decode (mB 159) 36 = .ok ((.lload_n 0), 1) := by decide +kernel
theorem d_159_37 : decode (mB 159) 37 = .ok ((.lload 5), 2) := by decide +kernel
theorem d_159_39 : decode (mB 159) 39 = .ok (.ldiv, 1) := by decide +kernel
theorem d_159_40 : decode (mB 159) 40 = .ok ((.goto 7), 3) := by decide +kernel
theorem d_159_43 : decode (mB 159) 43 = .ok ((.lload_n 2), 1) := by decide +kernel
theorem d_159_44 : decode (mB 159) 44 = .ok ((.lload 5), 2) := by decide +kernel
theorem d_159_46 : decode (mB 159) 46 = .ok (.ldiv, 1) := by decide +kernel
theorem d_159_47 : decode (mB 159) 47 = .ok (.lreturn, 1) := by decide +kernel
theorem d_160_0 : decode (mB 160) 0 = .ok ((.aload_n 0), 1) := by decide +kernel
theorem d_160_1 : decode (mB 160) 1 = .ok ((.getfield 167), 3) := by decide +kernel
theorem d_160_4 : decode (mB 160) 4 = .ok ((.lstore_n 3), 1) := by decide +kernel
theorem d_160_5 : decode (mB 160) 5 = .ok ((.aload_n 0), 1) := by decide +kernel
theorem d_160_6 : decode (mB 160) 6 = .ok ((.lload_n 1), 1) := by decide +kernel
theorem d_160_7 : decode (mB 160) 7 = .ok ((.putfield 167), 3) := by decide +kernel
theorem d_160_10 : decode (mB 160) 10 = .ok ((.lload_n 3), 1) := by decide +kernel
theorem d_160_11 : decode (mB 160) 11 = .ok (.lreturn, 1) := by decide +kernel
theorem d_161_0 : decode (mB 161) 0 = .ok ((.aload_n 0), 1) := by decide +kernel
theorem d_161_1 : decode (mB 161) 1 = .ok ((.iload_n 1), 1) := by decide +kernel
theorem d_161_2 : decode (mB 161) 2 = .ok ((.invokevirtual 99), 3) := by decide +kernel
theorem d_161_5 : decode (mB 161) 5 = .ok ((.ifCond .ne 5), 3) := by decide +kernel
theorem d_161_8 : decode (mB 161) 8 = .ok ((.iconst (-1)), 1) := by decide +kernel
theorem d_161_9 : decode (mB 161) 9 = .ok (.ireturn, 1) := by decide +kernel
theorem d_161_10 : decode (mB 161) 10 = .ok ((.iload_n 2), 1) := by decide +kernel
theorem d_161_11 : decode (mB 161) 11 = .ok (.i2l, 1) := by decide +kernel
theorem d_161_12 : decode (mB 161) 12 = .ok ((.lconst 1), 1) := by decide +kernel
theorem d_161_13 : decode (mB 161) 13 = .ok ((.ldc2_w 171), 3) := by decide +kernel
theorem d_161_16 : decode (mB 161) 16 = .ok ((.invokestatic 59), 3) := by decide +kernel
theorem d_161_19 : decode (mB 161) 19 = .ok ((.ifCond .ne 6), 3) := by decide +kernel
theorem d_161_22 : decode (mB 161) 22 = .ok ((.bipush (-2)), 2) := by decide +kernel
theorem d_161_24 : decode (mB 161) 24 = .ok (.ireturn, 1) := by decide +kernel
theorem d_161_25 : decode (mB 161) 25 = .ok ((.aload_n 0), 1) := by decide +kernel
theorem d_161_26 : decode (mB 161) 26 = .ok ((.invokevirtual 124), 3) := by decide +kernel
theorem d_161_29 : decode (mB 161) 29 = .ok ((.iconst 0), 1) := by decide +kernel
theorem d_161_30 : decode (mB 161) 30 = .ok ((.istore_n 3), 1) := by decide +kernel
theorem d_161_31 : decode (mB 161) 31 = .ok ((.iload_n 3), 1) := by decide +kernel
theorem d_161_32 : decode (mB 161) 32 = .ok ((.iload_n 2), 1) := by decide +kernel
theorem d_161_33 : decode (mB 161) 33 = .ok ((.if_icmp .ge 48), 3) := by decide +kernel
theorem d_161_36 : decode (mB 161) 36 = .ok ((.aload_n 0), 1) := by decide +kernel
theorem d_161_37 : decode (mB 161) 37 = .ok ((.aload_n 0), 1) := by decide +kernel
theorem d_161_38 : decode (mB 161) 38 = .ok ((.getfield 167), 3) := by decide +kernel
theorem d_161_41 : decode (mB 161) 41 = .ok ((.ldc2_w 173), 3) := by decide +kernel
theorem d_161_44 : decode (mB 161) 44 = .ok (.lmul, 1) := by decide +kernel
theorem d_161_45 : decode (mB 161) 45 = .ok ((.ldc2_w 175), 3) := by decide +kernel
theorem d_161_48 : decode (mB 161) 48 = .ok (.ladd, 1) := by decide +kernel
theorem d_161_49 : decode (mB 161) 49 = .ok ((.putfield 167), 3) := by decide +kernel
theorem d_161_52 : decode (mB 161) 52 = .ok ((.aload_n 0), 1) := by decide +kernel
theorem d_161_53 : decode (mB 161) 53 = .ok ((.bipush 30), 2) := by decide +kernel
theorem d_161_55 : decode (mB 161) 55 = .ok ((.aload_n 0), 1) := by decide +kernel
theorem d_161_56 : decode (mB 161) 56 = .ok ((.getfield 167), 3) := by decide +kernel
theorem d_161_59 : decode (mB 161) 59 = .ok ((.bipush 33), 2) := by decide +kernel
theorem d_161_61 : decode (mB 161) 61 = .ok (.lushr, 1) := by decide +kernel
theorem d_161_62 : decode (mB 161) 62 = .ok ((.ldc2_w 159), 3) := by decide +kernel
theorem d_161_65 : decode (mB 161) 65 = .ok (.lrem, 1) := by decide +kernel
theorem d_161_66 : decode (mB 161) 66 = .ok (.l2i, 1) := by decide +kernel
theorem d_161_67 : decode (mB 161) 67 = .ok ((.aload_n 0), 1) := by decide +kernel
theorem d_161_68 : decode (mB 161) 68 = .ok ((.getfield 90), 3) := by decide +kernel
theorem d_161_71 : decode (mB 161) 71 = .ok ((.invokevirtual 121), 3) := by decide +kernel
theorem d_161_74 : decode (mB 161) 74 = .ok (.pop, 1) := by decide +kernel
theorem d_161_75 : decode (mB 161) 75 = .ok ((.iinc 3 1), 3) := by decide +kernel
theorem d_161_78 : decode (mB 161) 78 = .ok ((.goto (-47)), 3) := by decide +kernel
theorem d_161_81 : decode (mB 161) 81 = .ok ((.aload_n 0), 1) := by decide +kernel
theorem d_161_82 : decode (mB 161) 82 = .ok ((.getfield 19), 3) := by decide +kernel
theorem d_161_85 : decode (mB 161) 85 = .ok ((.bipush 42), 2) := by decide +kernel
theorem d_161_87 : decode (mB 161) 87 = .ok ((.iload_n 1), 1) := by decide +kernel
theorem d_161_88 : decode (mB 161) 88 = .ok (.iadd, 1) := by decide +kernel
theorem d_161_89 : decode (mB 161) 89 = .ok (.iaload, 1) := by decide +kernel
theorem d_161_90 : decode (mB 161) 90 = .ok ((.aload_n 0), 1) := by decide +kernel
theorem d_161_91 : decode (mB 161) 91 = .ok ((.getfield 19), 3) := by decide +kernel
theorem d_161_94 : decode (mB 161) 94 = .ok ((.bipush 12), 2) := by decide +kernel
theorem d_161_96 : decode (mB 161) 96 = .ok ((.iload_n 1), 1) := by decide +kernel
theorem d_161_97 : decode (mB 161) 97 = .ok (.iadd, 1) := by decide +kernel
theorem d_161_98 : decode (mB 161) 98 = .ok (.iaload, 1) := by decide +kernel
theorem d_161_99 : decode (mB 161) 99 = .ok (.isub, 1) := by decide +kernel
theorem d_161_100 : decode (mB 161) 100 = .ok (.ireturn, 1) := by decide +kernel
theorem d_162_0 : decode (mB 162) 0 = .ok ((.iload_n 1), 1) := by decide +kernel
theorem d_162_1 : decode (mB 162) 1 = .ok (.i2l, 1) := by decide +kernel
theorem d_162_2 : decode (mB 162) 2 = .ok ((.lconst 0), 1) := by decide +kernel
theorem d_162_3 : decode (mB 162) 3 = .ok ((.lconst 1), 1) := by decide +kernel
theorem d_162_4 : decode (mB 162) 4 = .ok ((.invokestatic 59), 3) := by decide +kernel
theorem d_162_7 : decode (mB 162) 7 = .ok ((.ifCond .ne 5), 3) := by decide +kernel
theorem d_162_10 : decode (mB 162) 10 = .ok ((.iconst (-1)), 1) := by decide +kernel
theorem d_162_11 : decode (mB 162) 11 = .ok (.ireturn, 1) := by decide +kernel
theorem d_162_12 : decode (mB 162) 12 = .ok ((.aload_n 0), 1) := by decide +kernel
theorem d_162_13 : decode (mB 162) 13 = .ok ((.getfield 46), 3) := by decide +kernel
theorem d_162_16 : decode (mB 162) 16 = .ok ((.iload_n 1), 1) := by decide +kernel
theorem d_162_17 : decode (mB 162) 17 = .ok ((.iconst 1), 1) := by decide +kernel
theorem d_162_18 : decode (mB 162) 18 = .ok (.bastore, 1) := by decide +kernel
theorem d_162_19 : decode (mB 162) 19 = .ok ((.iconst 0), 1) := by decide +kernel
theorem d_162_20 : decode (mB 162) 20 = .ok ((.istore_n 2), 1) := by decide +kernel
theorem d_162_21 : decode (mB 162) 21 = .ok ((.iload_n 2), 1) := by decide +kernel
theorem d_162_22 : decode (mB 162) 22 = .ok ((.bipush 26), 2) := by decide +kernel
theorem d_162_24 : decode (mB 162) 24 = .ok ((.if_icmp .ge 26), 3) := by decide +kernel
theorem d_162_27 : decode (mB 162) 27 = .ok ((.aload_n 0), 1) := by decide +kernel
theorem d_162_28 : decode (mB 162) 28 = .ok ((.getfield 50), 3) := by decide +kernel
theorem d_162_31 : decode (mB 162) 31 = .ok ((.bipush 28), 2) := by decide +kernel
theorem d_162_33 : decode (mB 162) 33 = .ok ((.iload_n 1), 1) := by decide +kernel
theorem d_162_34 : decode (mB 162) 34 = .ok (.imul, 1) := by decide +kernel
theorem d_162_35 : decode (mB 162) 35 = .ok ((.iload_n 2), 1) := by decide +kernel
theorem d_162_36 : decode (mB 162) 36 = .ok (.iadd, 1) := by decide +kernel
theorem d_162_37 : decode (mB 162) 37 = .ok ((.aload_n 0), 1) := by decide +kernel
theorem d_162_38 : decode (mB 162) 38 = .ok ((.getfield 19), 3) := by decide +kernel
theorem d_162_41 : decode (mB 162) 41 = .ok ((.iload_n 2), 1) := by decide +kernel
theorem d_162_42 : decode (mB 162) 42 = .ok (.iaload, 1) := by decide +kernel
theorem d_162_43 : decode (mB 162) 43 = .ok (.iastore, 1) := by decide +kernel
theorem d_162_44 : decode (mB 162) 44 = .ok ((.iinc 2 1), 3) := by decide +kernel
theorem d_162_47 : decode (mB 162) 47 = .ok ((.goto (-26)), 3) := by decide +kernel
theorem d_162_50 : decode (mB 162) 50 = .ok ((.aload_n 0), 1) := by decide +kernel
theorem d_162_51 : decode (mB 162) 51 = .ok ((.getfield 50), 3) := by decide +kernel
theorem d_162_54 : decode (mB 162) 54 = .ok ((.bipush 28), 2) := by decide +kernel
theorem d_162_56 : decode (mB 162) 56 = .ok ((.iload_n 1), 1) := by decide +kernel
theorem d_162_57 : decode (mB 162) 57 = .ok (.imul, 1) := by decide +kernel
theorem d_162_58 : decode (mB 162) 58 = .ok ((.bipush 26), 2) := by decide +kernel
theorem d_162_60 : decode (mB 162) 60 = .ok (.iadd, 1) := by decide +kernel
theorem d_162_61 : decode (mB 162) 61 = .ok ((.aload_n 0), 1) := by decide +kernel
theorem d_162_62 : decode (mB 162) 62 = .ok ((.getfield 93), 3) := by decide +kernel
theorem d_162_65 : decode (mB 162) 65 = .ok (.iastore, 1) := by decide +kernel
theorem d_162_66 : decode (mB 162) 66 = .ok ((.aload_n 0), 1) := by decide +kernel
theorem d_162_67 : decode (mB 162) 67 = .ok ((.getfield 50), 3) := by decide +kernel
theorem d_162_70 : decode (mB 162) 70 = .ok ((.bipush 28), 2) := by decide +kernel
theorem d_162_72 : decode (mB 162) 72 = .ok ((.iload_n 1), 1) := by decide +kernel
theorem d_162_73 : decode (mB 162) 73 = .ok (.imul, 1) := by decide +kernel
theorem d_162_74 : decode (mB 162) 74 = .ok ((.bipush 27), 2) := by decide +kernel
theorem d_162_76 : decode (mB 162) 76 = .ok (.iadd, 1) := by decide +kernel
theorem d_162_77 : decode (mB 162) 77 = .ok ((.aload_n 0), 1) := by decide +kernel
theorem d_162_78 : decode (mB 162) 78 = .ok ((.getfield 90), 3) := by decide +kernel
theorem d_162_81 : decode (mB 162) 81 = .ok (.iastore, 1) := by decide +kernel
theorem d_162_82 : decode (mB 162) 82 = .ok ((.aload_n 0), 1) := by decide +kernel
theorem d_162_83 : decode (mB 162) 83 = .ok ((.getfield 93), 3) := by decide +kernel
theorem d_162_86 : decode (mB 162) 86 = .ok (.ireturn, 1) := by decide +kernel
theorem d_163_0 : decode (mB 163) 0 = .ok ((.iload_n 1), 1) := by decide +kernel
theorem d_163_1 : decode (mB 163) 1 = .ok (.i2l, 1) := by decide +kernel
theorem d_163_2 : decode (mB 163) 2 = .ok ((.lconst 0), 1) := by decide +kernel
theorem d_163_3 : decode (mB 163) 3 = .ok ((.lconst 1), 1) := by decide +kernel
theorem d_163_4 : decode (mB 163) 4 = .ok ((.invokestatic 59), 3) := by decide +kernel
theorem d_163_7 : decode (mB 163) 7 = .ok ((.ifCond .ne 5), 3) := by decide +kernel
theorem d_163_10 : decode (mB 163) 10 = .ok ((.iconst (-1)), 1) := by decide +kernel
theorem d_163_11 : decode (mB 163) 11 = .ok (.ireturn, 1) := by decide +kernel
theorem d_163_12 : decode (mB 163) 12 = .ok ((.aload_n 0), 1) := by decide +kernel
theorem d_163_13 : decode (mB 163) 13 = .ok ((.getfield 46), 3) := by decide +kernel
theorem d_163_16 : decode (mB 163) 16 = .ok ((.iload_n 1), 1) := by decide +kernel
theorem d_163_17 : decode (mB 163) 17 = .ok (.baload, 1) := by decide +kernel
theorem d_163_18 : decode (mB 163) 18 = .ok ((.ifCond .ne 6), 3) := by decide +kernel
theorem d_163_21 : decode (mB 163) 21 = .ok ((.bipush (-3)), 2) := by decide +kernel
theorem d_163_23 : decode (mB 163) 23 = .ok (.ireturn, 1) := by decide +kernel
theorem d_163_24 : decode (mB 163) 24 = .ok ((.iconst 0), 1) := by decide +kernel
theorem d_163_25 : decode (mB 163) 25 = .ok ((.istore_n 2), 1) := by decide +kernel
theorem d_163_26 : decode (mB 163) 26 = .ok ((.iload_n 2), 1) := by decide +kernel
theorem d_163_27 : decode (mB 163) 27 = .ok ((.bipush 26), 2) := by decide +kernel
theorem d_163_29 : decode (mB 163) 29 = .ok ((.if_icmp .ge 26), 3) := by decide +kernel
theorem d_163_32 : decode (mB 163) 32 = .ok ((.aload_n 0), 1) := by decide +kernel
theorem d_163_33 : decode (mB 163) 33 = .ok ((.getfield 19), 3) := by decide +kernel
theorem d_163_36 : decode (mB 163) 36 = .ok ((.iload_n 2), 1) := by decide +kernel
theorem d_163_37 : decode (mB 163) 37 = .ok ((.aload_n 0), 1) := by decide +kernel
theorem d_163_38 : decode (mB 163) 38 = .ok ((.getfield 50), 3) := by decide +kernel
theorem d_163_41 : decode (mB 163) 41 = .ok ((.bipush 28), 2) := by decide +kernel
theorem d_163_43 : decode (mB 163) 43 = .ok ((.iload_n 1), 1) := by decide +kernel
theorem d_163_44 : decode (mB 163) 44 = .ok (.imul, 1) := by decide +kernel
theorem d_163_45 : decode (mB 163) 45 = .ok ((.iload_n 2), 1) := by decide +kernel
theorem d_163_46 : decode (mB 163) 46 = .ok (.iadd, 1) := by decide +kernel
theorem d_163_47 : decode (mB 163) 47 = .ok (.iaload, 1) := by decide +kernel
theorem d_163_48 : decode (mB 163) 48 = .ok (.iastore, 1) := by decide +kernel
theorem d_163_49 : decode (mB 163) 49 = .ok ((.iinc 2 1), 3) := by decide +kernel
theorem d_163_52 : decode (mB 163) 52 = .ok ((.goto (-26)), 3) := by decide +kernel
theorem d_163_55 : decode (mB 163) 55 = .ok ((.aload_n 0), 1) := by decide +kernel
theorem d_163_56 : decode (mB 163) 56 = .ok ((.aload_n 0), 1) := by decide +kernel
theorem d_163_57 : decode (mB 163) 57 = .ok ((.getfield 50), 3) := by decide +kernel
theorem d_163_60 : decode (mB 163) 60 = .ok ((.bipush 28), 2) := by decide +kernel
theorem d_163_62 : decode (mB 163) 62 = .ok ((.iload_n 1), 1) := by decide +kernel
theorem d_163_63 : decode (mB 163) 63 = .ok (.imul, 1) := by decide +kernel
theorem d_163_64 : decode (mB 163) 64 = .ok ((.bipush 26), 2) := by decide +kernel
theorem d_163_66 : decode (mB 163) 66 = .ok (.iadd, 1) := by decide +kernel
theorem d_163_67 : decode (mB 163) 67 = .ok (.iaload, 1) := by decide +kernel
theorem d_163_68 : decode (mB 163) 68 = .ok ((.putfield 93), 3) := by decide +kernel
theorem d_163_71 : decode (mB 163) 71 = .ok ((.aload_n 0), 1) := by decide +kernel
theorem d_163_72 : decode (mB 163) 72 = .ok ((.aload_n 0), 1) := by decide +kernel
theorem d_163_73 : decode (mB 163) 73 = .ok ((.getfield 50), 3) := by decide +kernel
theorem d_163_76 : decode (mB 163) 76 = .ok ((.bipush 28), 2) := by decide +kernel
theorem d_163_78 : decode (mB 163) 78 = .ok ((.iload_n 1), 1) := by decide +kernel
theorem d_163_79 : decode (mB 163) 79 = .ok (.imul, 1) := by decide +kernel
theorem d_163_80 : decode (mB 163) 80 = .ok ((.bipush 27), 2) := by decide +kernel
theorem d_163_82 : decode (mB 163) 82 = .ok (.iadd, 1) := by decide +kernel
theorem d_163_83 : decode (mB 163) 83 = .ok (.iaload, 1) := by decide +kernel
theorem d_163_84 : decode (mB 163) 84 = .ok ((.putfield 90), 3) := by decide +kernel
theorem d_163_87 : decode (mB 163) 87 = .ok ((.aload_n 0), 1) := by decide +kernel
theorem d_163_88 : decode (mB 163) 88 = .ok ((.iconst 0), 1) := by decide +kernel
theorem d_163_89 : decode (mB 163) 89 = .ok ((.putfield 96), 3) := by decide +kernel
theorem d_163_92 : decode (mB 163) 92 = .ok ((.aload_n 0), 1) := by decide +kernel
theorem d_163_93 : decode (mB 163) 93 = .ok ((.getfield 93), 3) := by decide +kernel
theorem d_163_96 : decode (mB 163) 96 = .ok (.ireturn, 1) := by decide +kernel
theorem d_164_0 : decode (mB 164) 0 = .ok ((.iconst 0), 1) := by decide +kernel
theorem d_164_1 : decode (mB 164) 1 = .ok ((.istore_n 2), 1) := by decide +kernel
theorem d_164_2 : decode (mB 164) 2 = .ok ((.iconst 0), 1) := by decide +kernel
theorem d_164_3 : decode (mB 164) 3 = .ok ((.istore_n 3), 1) := by decide +kernel
theorem d_164_4 : decode (mB 164) 4 = .ok ((.iconst 0), 1) := by decide +kernel
theorem d_164_5 : decode (mB 164) 5 = .ok ((.istore 4), 2) := by decide +kernel
theorem d_164_7 : decode (mB 164) 7 = .ok ((.iload 4), 2) := by decide +kernel
theorem d_164_9 : decode (mB 164) 9 = .ok ((.aload_n 0), 1) := by decide +kernel
theorem d_164_10 : decode (mB 164) 10 = .ok ((.getfield 53), 3) := by decide +kernel
theorem d_164_13 : decode (mB 164) 13 = .ok ((.if_icmp .ge 40), 3) := by decide +kernel
theorem d_164_16 : decode (mB 164) 16 = .ok ((.iload_n 2), 1) := by decide +kernel
theorem d_164_17 : decode (mB 164) 17 = .ok ((.aload_n 0), 1) := by decide +kernel
theorem d_164_18 : decode (mB 164) 18 = .ok ((.iconst 0), 1) := by decide +kernel
theorem d_164_19 : decode (mB 164) 19 = .ok ((.iload 4), 2) := by decide +kernel
theorem d_164_21 : decode (mB 164) 21 = .ok ((.invokevirtual 105), 3) := by decide +kernel
theorem d_164_24 : decode (mB 164) 24 = .ok ((.ifCond .eq 10), 3) := by decide +kernel
theorem d_164_27 : decode (mB 164) 27 = .ok ((.iconst 1), 1) := by decide +kernel
theorem d_164_28 : decode (mB 164) 28 = .ok ((.iload 4), 2) := by decide +kernel
theorem d_164_30 : decode (mB 164) 30 = .ok (.ishl, 1) := by decide +kernel
theorem d_164_31 : decode (mB 164) 31 = .ok ((.goto 4), 3) := by decide +kernel
theorem d_164_34 : decode (mB 164) 34 = .ok ((.iconst 0), 1) := by decide +kernel
theorem d_164_35 : decode (mB 164) 35 = .ok (.ior, 1) := by decide +kernel
theorem d_164_36 : decode (mB 164) 36 = .ok ((.istore_n 2), 1) := by decide +kernel
theorem d_164_37 : decode (mB 164) 37 = .ok ((.iload_n 3), 1) := by decide +kernel
theorem d_164_38 : decode (mB 164) 38 = .ok ((.aload_n 0), 1) := by decide +kernel
theorem d_164_39 : decode (mB 164) 39 = .ok ((.getfield 19), 3) := by decide +kernel
theorem d_164_42 : decode (mB 164) 42 = .ok ((.iload 4), 2) := by decide +kernel
theorem d_164_44 : decode (mB 164) 44 = .ok (.iaload, 1) := by decide +kernel
theorem d_164_45 : decode (mB 164) 45 = .ok (.iadd, 1) := by decide +kernel
theorem d_164_46 : decode (mB 164) 46 = .ok ((.istore_n 3), 1) := by decide +kernel
theorem d_164_47 : decode (mB 164) 47 = .ok ((.iinc 4 1), 3) := by decide +kernel
theorem d_164_50 : decode (mB 164) 50 = .ok ((.goto (-43)), 3) := by decide +kernel
theorem d_164_53 : decode (mB 164) 53 = .ok ((.iload_n 1), 1) := by decide +kernel
theorem d_164_54 : decode (mB 164) 54 = .ok ((.tableswitch 104 0 9 #[54, 59, 64, 69, 77, 85, 87, 92, 97, 102]), 54) := by decide +kernel
theorem d_164_108 : decode (mB 164) 108 = .ok ((.aload_n 0), 1) := by decide +kernel
theorem d_164_109 : decode (mB 164) 109 = .ok ((.getfield 63), 3) := by decide +kernel
theorem d_164_112 : decode (mB 164) 112 = .ok (.ireturn, 1) := by decide +kernel
theorem d_164_113 : decode (mB 164) 113 = .ok ((.aload_n 0), 1) := by decide +kernel
theorem d_164_114 : decode (mB 164) 114 = .ok ((.getfield 53), 3) := by decide +kernel
theorem d_164_117 : decode (mB 164) 117 = .ok (.ireturn, 1) := by decide +kernel
theorem d_164_118 : decode (mB 164) 118 = .ok ((.aload_n 0), 1) := by decide +kernel
theorem d_164_119 : decode (mB 164) 119 = .ok ((.getfield 93), 3) := by decide +kernel
theorem d_164_122 : decode (mB 164) 122 = .ok (.ireturn, 1) := by decide +kernel
theorem d_164_123 : decode (mB 164) 123 = .ok ((.aload_n 0), 1) := by decide +kernel
theorem d_164_124 : decode (mB 164) 124 = .ok ((.getfield 19), 3) := by decide +kernel
theorem d_164_127 : decode (mB 164) 127 = .ok ((.bipush 24), 2) := by decide +kernel
theorem d_164_129 : decode (mB 164) 129 = .ok (.iaload, 1) := by decide +kernel
theorem d_164_130 : decode (mB 164) 130 = .ok (.ireturn, 1) := by decide +kernel
theorem d_164_131 : decode (mB 164) 131 = .ok ((.aload_n 0), 1) := by decide +kernel
theorem d_164_132 : decode (mB 164) 132 = .ok ((.getfield 19), 3) := by decide +kernel
theorem d_164_135 : decode (mB 164) 135 = .ok ((.bipush 25), 2) := by decide +kernel
theorem d_164_137 : decode (mB 164) 137 = .ok (.iaload, 1) := by decide +kernel
theorem d_164_138 : decode (mB 164) 138 = .ok (.ireturn, 1) := by decide +kernel
theorem d_164_139 : decode (mB 164) 139 = .ok ((.iload_n 2), 1) := by decide +kernel
theorem d_164_140 : decode (mB 164) 140 = .ok (.ireturn, 1) := by decide +kernel
theorem d_164_141 : decode (mB 164) 141 = .ok ((.aload_n 0), 1) := by decide +kernel
theorem d_164_142 : decode (mB 164) 142 = .ok ((.getfield 90), 3) := by decide +kernel
theorem d_164_145 : decode (mB 164) 145 = .ok (.ireturn, 1) := by decide +kernel
theorem d_164_146 : decode (mB 164) 146 = .ok ((.aload_n 0), 1) := by decide +kernel
theorem d_164_147 : decode (mB 164) 147 = .ok ((.getfield 96), 3) := by decide +kernel
theorem d_164_150 : decode (mB 164) 150 = .ok (.ireturn, 1) := by decide +kernel
theorem d_164_151 : decode (mB 164) 151 = .ok ((.aload_n 0), 1) := by decide +kernel
theorem d_164_152 : decode (mB 164) 152 = .ok ((.getfield 151), 3) := by decide +kernel
theorem d_164_155 : decode (mB 164) 155 = .ok (.ireturn, 1) := by decide +kernel
theorem d_164_156 : decode (mB 164) 156 = .ok ((.iload_n 3), 1) := by decide +kernel
theorem d_164_157 : decode (mB 164) 157 = .ok (.ireturn, 1) := by decide +kernel
theorem d_164_158 : decode (mB 164) 158 = .ok ((.bipush (-2)), 2) := by decide +kernel
theorem d_164_160 : decode (mB 164) 160 = .ok (.ireturn, 1) := by decide +kernel
theorem d_165_0 : decode (mB 165) 0 = .ok ((.iload_n 0), 1) := by decide +kernel
theorem d_165_1 : decode (mB 165) 1 = .ok ((.iload_n 0), 1) := by decide +kernel
theorem d_165_2 : decode (mB 165) 2 = .ok ((.iconst 1), 1) := by decide +kernel
theorem d_165_3 : decode (mB 165) 3 = .ok (.iushr, 1) := by decide +kernel
theorem d_165_4 : decode (mB 165) 4 = .ok ((.ldc_w 265), 3) := by decide +kernel
theorem d_165_7 : decode (mB 165) 7 = .ok (.iand, 1) := by decide +kernel
theorem d_165_8 : decode (mB 165) 8 = .ok (.isub, 1) := by decide +kernel
theorem d_165_9 : decode (mB 165) 9 = .ok ((.istore_n 0), 1) := by decide +kernel
theorem d_165_10 : decode (mB 165) 10 = .ok ((.iload_n 0), 1) := by decide +kernel
theorem d_165_11 : decode (mB 165) 11 = .ok ((.ldc_w 266), 3) := by decide +kernel
theorem d_165_14 : decode (mB 165) 14 = .ok (.iand, 1) := by decide +kernel
theorem d_165_15 : decode (mB 165) 15 = .ok ((.iload_n 0), 1) := by decide +kernel
theorem d_165_16 : decode (mB 165) 16 = .ok ((.iconst 2), 1) := by decide +kernel
theorem d_165_17 : decode (mB 165) 17 = .ok (.iushr, 1) := by decide +kernel
theorem d_165_18 : decode (mB 165) 18 = .ok ((.ldc_w 266), 3) := by decide +kernel
theorem d_165_21 : decode (mB 165) 21 = .ok (.iand, 1) := by decide +kernel
theorem d_165_22 : decode (mB 165) 22 = .ok (.iadd, 1) := by decide +kernel
theorem d_165_23 : decode (mB 165) 23 = .ok ((.istore_n 0), 1) := by decide +kernel
theorem d_165_24 : decode (mB 165) 24 = .ok ((.iload_n 0), 1) := by decide +kernel
theorem d_165_25 : decode (mB 165) 25 = .ok ((.iload_n 0), 1) := by decide +kernel
theorem d_165_26 : decode (mB 165) 26 = .ok ((.iconst 4), 1) := by decide +kernel
theorem d_165_27 : decode (mB 165) 27 = .ok (.iushr, 1) := by decide +kernel
theorem d_165_28 : decode (mB 165) 28 = .ok (.iadd, 1) := by decide +kernel
theorem d_165_29 : decode (mB 165) 29 = .ok ((.ldc_w 267), 3) := by decide +kernel
theorem d_165_32 : decode (mB 165) 32 = .ok (.iand, 1) := by decide +kernel
theorem d_165_33 : decode (mB 165) 33 = .ok ((.istore_n 0), 1) := by decide +kernel
theorem d_165_34 : decode (mB 165) 34 = .ok ((.iload_n 0), 1) := by decide +kernel
theorem d_165_35 : decode (mB 165) 35 = .ok ((.iload_n 0), 1) := by decide +kernel
theorem d_165_36 : decode (mB 165) 36 = .ok ((.bipush 8), 2) := by decide +kernel
theorem d_165_38 : decode (mB 165) 38 = .ok (.iushr, 1) := by decide +kernel
theorem d_165_39 : decode (mB 165) 39 = .ok (.iadd, 1) := by decide +kernel
theorem d_165_40 : decode (mB 165) 40 = .ok ((.istore_n 0), 1) := by decide +kernel
theorem d_165_41 : decode (mB 165) 41 = .ok ((.iload_n 0), 1) := by decide +kernel
theorem d_165_42 : decode (mB 165) 42 = .ok ((.iload_n 0), 1) := by decide +kernel
theorem d_165_43 : decode (mB 165) 43 = .ok ((.bipush 16), 2) := by decide +kernel
theorem d_165_45 : decode (mB 165) 45 = .ok (.iushr, 1) := by decide +kernel
theorem d_165_46 : decode (mB 165) 46 = .ok (.iadd, 1) := by decide +kernel
theorem d_165_47 : decode (mB 165) 47 = .ok ((.istore_n 0), 1) := by decide +kernel
theorem d_165_48 : decode (mB 165) 48 = .ok ((.iload_n 0), 1) := by decide +kernel
theorem d_165_49 : decode (mB 165) 49 = .ok ((.bipush 63), 2) := by decide +kernel
theorem d_165_51 : decode (mB 165) 51 = .ok (.iand, 1) := by decide +kernel
theorem d_165_52 : decode (mB 165) 52 = .ok (.ireturn, 1) := by decide +kernel
