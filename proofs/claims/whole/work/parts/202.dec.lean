theorem d_Layout_lies_0 : decode b_Layout_lies 0 = .ok (.aload_n 0, 1) := by decide +kernel
theorem d_Layout_lies_1 : decode b_Layout_lies 1 = .ok (.getfield 9, 3) := by decide +kernel
theorem d_Layout_lies_4 : decode b_Layout_lies 4 = .ok (.iload_n 1, 1) := by decide +kernel
theorem d_Layout_lies_5 : decode b_Layout_lies 5 = .ok (.iaload, 1) := by decide +kernel
theorem d_Layout_lies_6 : decode b_Layout_lies 6 = .ok (.iload_n 2, 1) := by decide +kernel
theorem d_Layout_lies_7 : decode b_Layout_lies 7 = .ok (.if_icmp .ne 28, 3) := by decide +kernel
theorem d_Layout_lies_10 : decode b_Layout_lies 10 = .ok (.aload_n 0, 1) := by decide +kernel
theorem d_Layout_lies_11 : decode b_Layout_lies 11 = .ok (.getfield 15, 3) := by decide +kernel
theorem d_Layout_lies_14 : decode b_Layout_lies 14 = .ok (.iload_n 1, 1) := by decide +kernel
theorem d_Layout_lies_15 : decode b_Layout_lies 15 = .ok (.iaload, 1) := by decide +kernel
theorem d_Layout_lies_16 : decode b_Layout_lies 16 = .ok (.iload_n 3, 1) := by decide +kernel
theorem d_Layout_lies_17 : decode b_Layout_lies 17 = .ok (.if_icmp .ne 18, 3) := by decide +kernel
theorem d_Layout_lies_20 : decode b_Layout_lies 20 = .ok (.aload_n 0, 1) := by decide +kernel
theorem d_Layout_lies_21 : decode b_Layout_lies 21 = .ok (.getfield 18, 3) := by decide +kernel
theorem d_Layout_lies_24 : decode b_Layout_lies 24 = .ok (.iload_n 1, 1) := by decide +kernel
theorem d_Layout_lies_25 : decode b_Layout_lies 25 = .ok (.iaload, 1) := by decide +kernel
theorem d_Layout_lies_26 : decode b_Layout_lies 26 = .ok (.iload 4, 2) := by decide +kernel
theorem d_Layout_lies_28 : decode b_Layout_lies 28 = .ok (.if_icmp .ne 7, 3) := by decide +kernel
theorem d_Layout_lies_31 : decode b_Layout_lies 31 = .ok (.iconst 1, 1) := by decide +kernel
theorem d_Layout_lies_32 : decode b_Layout_lies 32 = .ok (.goto 4, 3) := by decide +kernel
theorem d_Layout_lies_35 : decode b_Layout_lies 35 = .ok (.iconst 0, 1) := by decide +kernel
theorem d_Layout_lies_36 : decode b_Layout_lies 36 = .ok (.ireturn, 1) := by decide +kernel
theorem d_Layout_copy_0 : decode b_Layout_copy 0 = .ok (.iconst 0, 1) := by decide +kernel
theorem d_Layout_copy_1 : decode b_Layout_copy 1 = .ok (.istore_n 2, 1) := by decide +kernel
theorem d_Layout_copy_2 : decode b_Layout_copy 2 = .ok (.iload_n 2, 1) := by decide +kernel
theorem d_Layout_copy_3 : decode b_Layout_copy 3 = .ok (.bipush 6, 2) := by decide +kernel
theorem d_Layout_copy_5 : decode b_Layout_copy 5 = .ok (.if_icmp .ge 57, 3) := by decide +kernel
theorem d_Layout_copy_8 : decode b_Layout_copy 8 = .ok (.aload_n 0, 1) := by decide +kernel
theorem d_Layout_copy_9 : decode b_Layout_copy 9 = .ok (.getfield 9, 3) := by decide +kernel
theorem d_Layout_copy_12 : decode b_Layout_copy 12 = .ok (.iload_n 2, 1) := by decide +kernel
theorem d_Layout_copy_13 : decode b_Layout_copy 13 = .ok (.aload_n 1, 1) := by decide +kernel
theorem d_Layout_copy_14 : decode b_Layout_copy 14 = .ok (.getfield 9, 3) := by decide +kernel
theorem d_Layout_copy_17 : decode b_Layout_copy 17 = .ok (.iload_n 2, 1) := by decide +kernel
theorem d_Layout_copy_18 : decode b_Layout_copy 18 = .ok (.iaload, 1) := by decide +kernel
theorem d_Layout_copy_19 : decode b_Layout_copy 19 = .ok (.iastore, 1) := by decide +kernel
theorem d_Layout_copy_20 : decode b_Layout_copy 20 = .ok (.aload_n 0, 1) := by decide +kernel
theorem d_Layout_copy_21 : decode b_Layout_copy 21 = .ok (.getfield 15, 3) := by decide +kernel
theorem d_Layout_copy_24 : decode b_Layout_copy 24 = .ok (.iload_n 2, 1) := by decide +kernel
theorem d_Layout_copy_25 : decode b_Layout_copy 25 = .ok (.aload_n 1, 1) := by decide +kernel
theorem d_Layout_copy_26 : decode b_Layout_copy 26 = .ok (.getfield 15, 3) := by decide +kernel
theorem d_Layout_copy_29 : decode b_Layout_copy 29 = .ok (.iload_n 2, 1) := by decide +kernel
theorem d_Layout_copy_30 : decode b_Layout_copy 30 = .ok (.iaload, 1) := by decide +kernel
theorem d_Layout_copy_31 : decode b_Layout_copy 31 = .ok (.iastore, 1) := by decide +kernel
theorem d_Layout_copy_32 : decode b_Layout_copy 32 = .ok (.aload_n 0, 1) := by decide +kernel
theorem d_Layout_copy_33 : decode b_Layout_copy 33 = .ok (.getfield 18, 3) := by decide +kernel
theorem d_Layout_copy_36 : decode b_Layout_copy 36 = .ok (.iload_n 2, 1) := by decide +kernel
theorem d_Layout_copy_37 : decode b_Layout_copy 37 = .ok (.aload_n 1, 1) := by decide +kernel
theorem d_Layout_copy_38 : decode b_Layout_copy 38 = .ok (.getfield 18, 3) := by decide +kernel
theorem d_Layout_copy_41 : decode b_Layout_copy 41 = .ok (.iload_n 2, 1) := by decide +kernel
theorem d_Layout_copy_42 : decode b_Layout_copy 42 = .ok (.iaload, 1) := by decide +kernel
theorem d_Layout_copy_43 : decode b_Layout_copy 43 = .ok (.iastore, 1) := by decide +kernel
theorem d_Layout_copy_44 : decode b_Layout_copy 44 = .ok (.aload_n 0, 1) := by decide +kernel
theorem d_Layout_copy_45 : decode b_Layout_copy 45 = .ok (.getfield 21, 3) := by decide +kernel
theorem d_Layout_copy_48 : decode b_Layout_copy 48 = .ok (.iload_n 2, 1) := by decide +kernel
theorem d_Layout_copy_49 : decode b_Layout_copy 49 = .ok (.aload_n 1, 1) := by decide +kernel
theorem d_Layout_copy_50 : decode b_Layout_copy 50 = .ok (.getfield 21, 3) := by decide +kernel
theorem d_Layout_copy_53 : decode b_Layout_copy 53 = .ok (.iload_n 2, 1) := by decide +kernel
theorem d_Layout_copy_54 : decode b_Layout_copy 54 = .ok (.iaload, 1) := by decide +kernel
theorem d_Layout_copy_55 : decode b_Layout_copy 55 = .ok (.iastore, 1) := by decide +kernel
theorem d_Layout_copy_56 : decode b_Layout_copy 56 = .ok (.iinc 2 1, 3) := by decide +kernel
theorem d_Layout_copy_59 : decode b_Layout_copy 59 = .ok (.goto (-57), 3) := by decide +kernel
theorem d_Layout_copy_62 : decode b_Layout_copy 62 = .ok (.return_, 1) := by decide +kernel
theorem d_Layout_bring_0 : decode b_Layout_bring 0 = .ok (.iload 4, 2) := by decide +kernel
theorem d_Layout_bring_2 : decode b_Layout_bring 2 = .ok (.aload_n 0, 1) := by decide +kernel
theorem d_Layout_bring_3 : decode b_Layout_bring 3 = .ok (.getfield 18, 3) := by decide +kernel
theorem d_Layout_bring_6 : decode b_Layout_bring 6 = .ok (.iload_n 1, 1) := by decide +kernel
theorem d_Layout_bring_7 : decode b_Layout_bring 7 = .ok (.iaload, 1) := by decide +kernel
theorem d_Layout_bring_8 : decode b_Layout_bring 8 = .ok (.isub, 1) := by decide +kernel
theorem d_Layout_bring_9 : decode b_Layout_bring 9 = .ok (.iconst 3, 1) := by decide +kernel
theorem d_Layout_bring_10 : decode b_Layout_bring 10 = .ok (.iand, 1) := by decide +kernel
theorem d_Layout_bring_11 : decode b_Layout_bring 11 = .ok (.istore 5, 2) := by decide +kernel
theorem d_Layout_bring_13 : decode b_Layout_bring 13 = .ok (.iload_n 2, 1) := by decide +kernel
theorem d_Layout_bring_14 : decode b_Layout_bring 14 = .ok (.aload_n 0, 1) := by decide +kernel
theorem d_Layout_bring_15 : decode b_Layout_bring 15 = .ok (.getfield 9, 3) := by decide +kernel
theorem d_Layout_bring_18 : decode b_Layout_bring 18 = .ok (.iload_n 1, 1) := by decide +kernel
theorem d_Layout_bring_19 : decode b_Layout_bring 19 = .ok (.iaload, 1) := by decide +kernel
theorem d_Layout_bring_20 : decode b_Layout_bring 20 = .ok (.aload_n 0, 1) := by decide +kernel
theorem d_Layout_bring_21 : decode b_Layout_bring 21 = .ok (.getfield 15, 3) := by decide +kernel
theorem d_Layout_bring_24 : decode b_Layout_bring 24 = .ok (.iload_n 1, 1) := by decide +kernel
theorem d_Layout_bring_25 : decode b_Layout_bring 25 = .ok (.iaload, 1) := by decide +kernel
theorem d_Layout_bring_26 : decode b_Layout_bring 26 = .ok (.iload 5, 2) := by decide +kernel
theorem d_Layout_bring_28 : decode b_Layout_bring 28 = .ok (.invokestatic 32, 3) := by decide +kernel
theorem d_Layout_bring_31 : decode b_Layout_bring 31 = .ok (.isub, 1) := by decide +kernel
theorem d_Layout_bring_32 : decode b_Layout_bring 32 = .ok (.istore 6, 2) := by decide +kernel
theorem d_Layout_bring_34 : decode b_Layout_bring 34 = .ok (.iload_n 3, 1) := by decide +kernel
theorem d_Layout_bring_35 : decode b_Layout_bring 35 = .ok (.aload_n 0, 1) := by decide +kernel
theorem d_Layout_bring_36 : decode b_Layout_bring 36 = .ok (.getfield 9, 3) := by decide +kernel
theorem d_Layout_bring_39 : decode b_Layout_bring 39 = .ok (.iload_n 1, 1) := by decide +kernel
theorem d_Layout_bring_40 : decode b_Layout_bring 40 = .ok (.iaload, 1) := by decide +kernel
theorem d_Layout_bring_41 : decode b_Layout_bring 41 = .ok (.aload_n 0, 1) := by decide +kernel
theorem d_Layout_bring_42 : decode b_Layout_bring 42 = .ok (.getfield 15, 3) := by decide +kernel
theorem d_Layout_bring_45 : decode b_Layout_bring 45 = .ok (.iload_n 1, 1) := by decide +kernel
theorem d_Layout_bring_46 : decode b_Layout_bring 46 = .ok (.iaload, 1) := by decide +kernel
theorem d_Layout_bring_47 : decode b_Layout_bring 47 = .ok (.iload 5, 2) := by decide +kernel
theorem d_Layout_bring_49 : decode b_Layout_bring 49 = .ok (.invokestatic 36, 3) := by decide +kernel
theorem d_Layout_bring_52 : decode b_Layout_bring 52 = .ok (.isub, 1) := by decide +kernel
theorem d_Layout_bring_53 : decode b_Layout_bring 53 = .ok (.istore 7, 2) := by decide +kernel
theorem d_Layout_bring_55 : decode b_Layout_bring 55 = .ok (.iconst 0, 1) := by decide +kernel
theorem d_Layout_bring_56 : decode b_Layout_bring 56 = .ok (.istore 8, 2) := by decide +kernel
theorem d_Layout_bring_58 : decode b_Layout_bring 58 = .ok (.iload 8, 2) := by decide +kernel
theorem d_Layout_bring_60 : decode b_Layout_bring 60 = .ok (.bipush 6, 2) := by decide +kernel
theorem d_Layout_bring_62 : decode b_Layout_bring 62 = .ok (.if_icmp .ge 100, 3) := by decide +kernel
theorem d_Layout_bring_65 : decode b_Layout_bring 65 = .ok (.aload_n 0, 1) := by decide +kernel
theorem d_Layout_bring_66 : decode b_Layout_bring 66 = .ok (.getfield 21, 3) := by decide +kernel
theorem d_Layout_bring_69 : decode b_Layout_bring 69 = .ok (.iload 8, 2) := by decide +kernel
theorem d_Layout_bring_71 : decode b_Layout_bring 71 = .ok (.iaload, 1) := by decide +kernel
theorem d_Layout_bring_72 : decode b_Layout_bring 72 = .ok (.aload_n 0, 1) := by decide +kernel
theorem d_Layout_bring_73 : decode b_Layout_bring 73 = .ok (.getfield 21, 3) := by decide +kernel
theorem d_Layout_bring_76 : decode b_Layout_bring 76 = .ok (.iload_n 1, 1) := by decide +kernel
theorem d_Layout_bring_77 : decode b_Layout_bring 77 = .ok (.iaload, 1) := by decide +kernel
theorem d_Layout_bring_78 : decode b_Layout_bring 78 = .ok (.if_icmp .ne 78, 3) := by decide +kernel
theorem d_Layout_bring_81 : decode b_Layout_bring 81 = .ok (.aload_n 0, 1) := by decide +kernel
theorem d_Layout_bring_82 : decode b_Layout_bring 82 = .ok (.getfield 9, 3) := by decide +kernel
theorem d_Layout_bring_85 : decode b_Layout_bring 85 = .ok (.iload 8, 2) := by decide +kernel
theorem d_Layout_bring_87 : decode b_Layout_bring 87 = .ok (.iaload, 1) := by decide +kernel
theorem d_Layout_bring_88 : decode b_Layout_bring 88 = .ok (.istore 9, 2) := by decide +kernel
theorem d_Layout_bring_90 : decode b_Layout_bring 90 = .ok (.aload_n 0, 1) := by decide +kernel
theorem d_Layout_bring_91 : decode b_Layout_bring 91 = .ok (.getfield 15, 3) := by decide +kernel
theorem d_Layout_bring_94 : decode b_Layout_bring 94 = .ok (.iload 8, 2) := by decide +kernel
theorem d_Layout_bring_96 : decode b_Layout_bring 96 = .ok (.iaload, 1) := by decide +kernel
theorem d_Layout_bring_97 : decode b_Layout_bring 97 = .ok (.istore 10, 2) := by decide +kernel
theorem d_Layout_bring_99 : decode b_Layout_bring 99 = .ok (.aload_n 0, 1) := by decide +kernel
theorem d_Layout_bring_100 : decode b_Layout_bring 100 = .ok (.getfield 9, 3) := by decide +kernel
theorem d_Layout_bring_103 : decode b_Layout_bring 103 = .ok (.iload 8, 2) := by decide +kernel
theorem d_Layout_bring_105 : decode b_Layout_bring 105 = .ok (.iload 9, 2) := by decide +kernel
theorem d_Layout_bring_107 : decode b_Layout_bring 107 = .ok (.iload 10, 2) := by decide +kernel
theorem d_Layout_bring_109 : decode b_Layout_bring 109 = .ok (.iload 5, 2) := by decide +kernel
theorem d_Layout_bring_111 : decode b_Layout_bring 111 = .ok (.invokestatic 32, 3) := by decide +kernel
theorem d_Layout_bring_114 : decode b_Layout_bring 114 = .ok (.iload 6, 2) := by decide +kernel
theorem d_Layout_bring_116 : decode b_Layout_bring 116 = .ok (.iadd, 1) := by decide +kernel
theorem d_Layout_bring_117 : decode b_Layout_bring 117 = .ok (.iastore, 1) := by decide +kernel
theorem d_Layout_bring_118 : decode b_Layout_bring 118 = .ok (.aload_n 0, 1) := by decide +kernel
theorem d_Layout_bring_119 : decode b_Layout_bring 119 = .ok (.getfield 15, 3) := by decide +kernel
theorem d_Layout_bring_122 : decode b_Layout_bring 122 = .ok (.iload 8, 2) := by decide +kernel
theorem d_Layout_bring_124 : decode b_Layout_bring 124 = .ok (.iload 9, 2) := by decide +kernel
theorem d_Layout_bring_126 : decode b_Layout_bring 126 = .ok (.iload 10, 2) := by decide +kernel
theorem d_Layout_bring_128 : decode b_Layout_bring 128 = .ok (.iload 5, 2) := by decide +kernel
theorem d_Layout_bring_130 : decode b_Layout_bring 130 = .ok (.invokestatic 36, 3) := by decide +kernel
theorem d_Layout_bring_133 : decode b_Layout_bring 133 = .ok (.iload 7, 2) := by decide +kernel
theorem d_Layout_bring_135 : decode b_Layout_bring 135 = .ok (.iadd, 1) := by decide +kernel
theorem d_Layout_bring_136 : decode b_Layout_bring 136 = .ok (.iastore, 1) := by decide +kernel
theorem d_Layout_bring_137 : decode b_Layout_bring 137 = .ok (.aload_n 0, 1) := by decide +kernel
theorem d_Layout_bring_138 : decode b_Layout_bring 138 = .ok (.getfield 18, 3) := by decide +kernel
theorem d_Layout_bring_141 : decode b_Layout_bring 141 = .ok (.iload 8, 2) := by decide +kernel
theorem d_Layout_bring_143 : decode b_Layout_bring 143 = .ok (.aload_n 0, 1) := by decide +kernel
theorem d_Layout_bring_144 : decode b_Layout_bring 144 = .ok (.getfield 18, 3) := by decide +kernel
theorem d_Layout_bring_147 : decode b_Layout_bring 147 = .ok (.iload 8, 2) := by decide +kernel
theorem d_Layout_bring_149 : decode b_Layout_bring 149 = .ok (.iaload, 1) := by decide +kernel
theorem d_Layout_bring_150 : decode b_Layout_bring 150 = .ok (.iload 5, 2) := by decide +kernel
theorem d_Layout_bring_152 : decode b_Layout_bring 152 = .ok (.iadd, 1) := by decide +kernel
theorem d_Layout_bring_153 : decode b_Layout_bring 153 = .ok (.iconst 3, 1) := by decide +kernel
theorem d_Layout_bring_154 : decode b_Layout_bring 154 = .ok (.iand, 1) := by decide +kernel
theorem d_Layout_bring_155 : decode b_Layout_bring 155 = .ok (.iastore, 1) := by decide +kernel
theorem d_Layout_bring_156 : decode b_Layout_bring 156 = .ok (.iinc 8 1, 3) := by decide +kernel
theorem d_Layout_bring_159 : decode b_Layout_bring 159 = .ok (.goto (-101), 3) := by decide +kernel
theorem d_Layout_bring_162 : decode b_Layout_bring 162 = .ok (.return_, 1) := by decide +kernel
theorem d_Layout_unite_0 : decode b_Layout_unite 0 = .ok (.aload_n 0, 1) := by decide +kernel
theorem d_Layout_unite_1 : decode b_Layout_unite 1 = .ok (.getfield 21, 3) := by decide +kernel
theorem d_Layout_unite_4 : decode b_Layout_unite 4 = .ok (.iload_n 1, 1) := by decide +kernel
theorem d_Layout_unite_5 : decode b_Layout_unite 5 = .ok (.iaload, 1) := by decide +kernel
theorem d_Layout_unite_6 : decode b_Layout_unite 6 = .ok (.aload_n 0, 1) := by decide +kernel
theorem d_Layout_unite_7 : decode b_Layout_unite 7 = .ok (.getfield 21, 3) := by decide +kernel
theorem d_Layout_unite_10 : decode b_Layout_unite 10 = .ok (.iload_n 2, 1) := by decide +kernel
theorem d_Layout_unite_11 : decode b_Layout_unite 11 = .ok (.iaload, 1) := by decide +kernel
theorem d_Layout_unite_12 : decode b_Layout_unite 12 = .ok (.invokestatic 39, 3) := by decide +kernel
theorem d_Layout_unite_15 : decode b_Layout_unite 15 = .ok (.istore_n 3, 1) := by decide +kernel
theorem d_Layout_unite_16 : decode b_Layout_unite 16 = .ok (.aload_n 0, 1) := by decide +kernel
theorem d_Layout_unite_17 : decode b_Layout_unite 17 = .ok (.getfield 21, 3) := by decide +kernel
theorem d_Layout_unite_20 : decode b_Layout_unite 20 = .ok (.iload_n 1, 1) := by decide +kernel
theorem d_Layout_unite_21 : decode b_Layout_unite 21 = .ok (.iaload, 1) := by decide +kernel
theorem d_Layout_unite_22 : decode b_Layout_unite 22 = .ok (.aload_n 0, 1) := by decide +kernel
theorem d_Layout_unite_23 : decode b_Layout_unite 23 = .ok (.getfield 21, 3) := by decide +kernel
theorem d_Layout_unite_26 : decode b_Layout_unite 26 = .ok (.iload_n 2, 1) := by decide +kernel
theorem d_Layout_unite_27 : decode b_Layout_unite 27 = .ok (.iaload, 1) := by decide +kernel
theorem d_Layout_unite_28 : decode b_Layout_unite 28 = .ok (.invokestatic 45, 3) := by decide +kernel
theorem d_Layout_unite_31 : decode b_Layout_unite 31 = .ok (.istore 4, 2) := by decide +kernel
theorem d_Layout_unite_33 : decode b_Layout_unite 33 = .ok (.iconst 0, 1) := by decide +kernel
theorem d_Layout_unite_34 : decode b_Layout_unite 34 = .ok (.istore 5, 2) := by decide +kernel
theorem d_Layout_unite_36 : decode b_Layout_unite 36 = .ok (.iload 5, 2) := by decide +kernel
theorem d_Layout_unite_38 : decode b_Layout_unite 38 = .ok (.bipush 6, 2) := by decide +kernel
theorem d_Layout_unite_40 : decode b_Layout_unite 40 = .ok (.if_icmp .ge 29, 3) := by decide +kernel
theorem d_Layout_unite_43 : decode b_Layout_unite 43 = .ok (.aload_n 0, 1) := by decide +kernel
theorem d_Layout_unite_44 : decode b_Layout_unite 44 = .ok (.getfield 21, 3) := by decide +kernel
theorem d_Layout_unite_47 : decode b_Layout_unite 47 = .ok (.iload 5, 2) := by decide +kernel
theorem d_Layout_unite_49 : decode b_Layout_unite 49 = .ok (.iaload, 1) := by decide +kernel
theorem d_Layout_unite_50 : decode b_Layout_unite 50 = .ok (.iload 4, 2) := by decide +kernel
theorem d_Layout_unite_52 : decode b_Layout_unite 52 = .ok (.if_icmp .ne 11, 3) := by decide +kernel
theorem d_Layout_unite_55 : decode b_Layout_unite 55 = .ok (.aload_n 0, 1) := by decide +kernel
theorem d_Layout_unite_56 : decode b_Layout_unite 56 = .ok (.getfield 21, 3) := by decide +kernel
theorem d_Layout_unite_59 : decode b_Layout_unite 59 = .ok (.iload 5, 2) := by decide +kernel
theorem d_Layout_unite_61 : decode b_Layout_unite 61 = .ok (.iload_n 3, 1) := by decide +kernel
theorem d_Layout_unite_62 : decode b_Layout_unite 62 = .ok (.iastore, 1) := by decide +kernel
theorem d_Layout_unite_63 : decode b_Layout_unite 63 = .ok (.iinc 5 1, 3) := by decide +kernel
theorem d_Layout_unite_66 : decode b_Layout_unite 66 = .ok (.goto (-30), 3) := by decide +kernel
theorem d_Layout_unite_69 : decode b_Layout_unite 69 = .ok (.return_, 1) := by decide +kernel
theorem d_Board_frame_0 : decode b_Board_frame 0 = .ok (.aload_n 0, 1) := by decide +kernel
theorem d_Board_frame_1 : decode b_Board_frame 1 = .ok (.aload_n 2, 1) := by decide +kernel
theorem d_Board_frame_2 : decode b_Board_frame 2 = .ok (.getfield 35, 3) := by decide +kernel
theorem d_Board_frame_5 : decode b_Board_frame 5 = .ok (.iload_n 3, 1) := by decide +kernel
theorem d_Board_frame_6 : decode b_Board_frame 6 = .ok (.iaload, 1) := by decide +kernel
theorem d_Board_frame_7 : decode b_Board_frame 7 = .ok (.putfield 38, 3) := by decide +kernel
theorem d_Board_frame_10 : decode b_Board_frame 10 = .ok (.aload_n 0, 1) := by decide +kernel
theorem d_Board_frame_11 : decode b_Board_frame 11 = .ok (.aload_n 2, 1) := by decide +kernel
theorem d_Board_frame_12 : decode b_Board_frame 12 = .ok (.getfield 41, 3) := by decide +kernel
theorem d_Board_frame_15 : decode b_Board_frame 15 = .ok (.iload_n 3, 1) := by decide +kernel
theorem d_Board_frame_16 : decode b_Board_frame 16 = .ok (.iaload, 1) := by decide +kernel
theorem d_Board_frame_17 : decode b_Board_frame 17 = .ok (.putfield 44, 3) := by decide +kernel
theorem d_Board_frame_20 : decode b_Board_frame 20 = .ok (.aload_n 0, 1) := by decide +kernel
theorem d_Board_frame_21 : decode b_Board_frame 21 = .ok (.getfield 38, 3) := by decide +kernel
theorem d_Board_frame_24 : decode b_Board_frame 24 = .ok (.istore 4, 2) := by decide +kernel
theorem d_Board_frame_26 : decode b_Board_frame 26 = .ok (.aload_n 0, 1) := by decide +kernel
theorem d_Board_frame_27 : decode b_Board_frame 27 = .ok (.getfield 44, 3) := by decide +kernel
theorem d_Board_frame_30 : decode b_Board_frame 30 = .ok (.istore 5, 2) := by decide +kernel
theorem d_Board_frame_32 : decode b_Board_frame 32 = .ok (.iconst 0, 1) := by decide +kernel
theorem d_Board_frame_33 : decode b_Board_frame 33 = .ok (.istore 6, 2) := by decide +kernel
theorem d_Board_frame_35 : decode b_Board_frame 35 = .ok (.iload 6, 2) := by decide +kernel
theorem d_Board_frame_37 : decode b_Board_frame 37 = .ok (.bipush 6, 2) := by decide +kernel
theorem d_Board_frame_39 : decode b_Board_frame 39 = .ok (.if_icmp .ge 113, 3) := by decide +kernel
theorem d_Board_frame_42 : decode b_Board_frame 42 = .ok (.iconst 0, 1) := by decide +kernel
theorem d_Board_frame_43 : decode b_Board_frame 43 = .ok (.istore 7, 2) := by decide +kernel
theorem d_Board_frame_45 : decode b_Board_frame 45 = .ok (.aload_n 2, 1) := by decide +kernel
theorem d_Board_frame_46 : decode b_Board_frame 46 = .ok (.getfield 26, 3) := by decide +kernel
theorem d_Board_frame_49 : decode b_Board_frame 49 = .ok (.iload 6, 2) := by decide +kernel
theorem d_Board_frame_51 : decode b_Board_frame 51 = .ok (.iaload, 1) := by decide +kernel
theorem d_Board_frame_52 : decode b_Board_frame 52 = .ok (.iload_n 3, 1) := by decide +kernel
theorem d_Board_frame_53 : decode b_Board_frame 53 = .ok (.if_icmp .ne 93, 3) := by decide +kernel
theorem d_Board_frame_56 : decode b_Board_frame 56 = .ok (.iload 7, 2) := by decide +kernel
theorem d_Board_frame_58 : decode b_Board_frame 58 = .ok (.aload_n 1, 1) := by decide +kernel
theorem d_Board_frame_59 : decode b_Board_frame 59 = .ok (.iload 6, 2) := by decide +kernel
theorem d_Board_frame_61 : decode b_Board_frame 61 = .ok (.aaload, 1) := by decide +kernel
theorem d_Board_frame_62 : decode b_Board_frame 62 = .ok (.getfield 47, 3) := by decide +kernel
theorem d_Board_frame_65 : decode b_Board_frame 65 = .ok (.if_icmp .ge 81, 3) := by decide +kernel
theorem d_Board_frame_68 : decode b_Board_frame 68 = .ok (.aload_n 2, 1) := by decide +kernel
theorem d_Board_frame_69 : decode b_Board_frame 69 = .ok (.aload_n 1, 1) := by decide +kernel
theorem d_Board_frame_70 : decode b_Board_frame 70 = .ok (.iload 6, 2) := by decide +kernel
theorem d_Board_frame_72 : decode b_Board_frame 72 = .ok (.aaload, 1) := by decide +kernel
theorem d_Board_frame_73 : decode b_Board_frame 73 = .ok (.iload 6, 2) := by decide +kernel
theorem d_Board_frame_75 : decode b_Board_frame 75 = .ok (.iload 7, 2) := by decide +kernel
theorem d_Board_frame_77 : decode b_Board_frame 77 = .ok (.invokevirtual 52, 3) := by decide +kernel
theorem d_Board_frame_80 : decode b_Board_frame 80 = .ok (.istore 8, 2) := by decide +kernel
theorem d_Board_frame_82 : decode b_Board_frame 82 = .ok (.aload_n 2, 1) := by decide +kernel
theorem d_Board_frame_83 : decode b_Board_frame 83 = .ok (.aload_n 1, 1) := by decide +kernel
theorem d_Board_frame_84 : decode b_Board_frame 84 = .ok (.iload 6, 2) := by decide +kernel
theorem d_Board_frame_86 : decode b_Board_frame 86 = .ok (.aaload, 1) := by decide +kernel
theorem d_Board_frame_87 : decode b_Board_frame 87 = .ok (.iload 6, 2) := by decide +kernel
theorem d_Board_frame_89 : decode b_Board_frame 89 = .ok (.iload 7, 2) := by decide +kernel
theorem d_Board_frame_91 : decode b_Board_frame 91 = .ok (.invokevirtual 56, 3) := by decide +kernel
theorem d_Board_frame_94 : decode b_Board_frame 94 = .ok (.istore 9, 2) := by decide +kernel
theorem d_Board_frame_96 : decode b_Board_frame 96 = .ok (.aload_n 0, 1) := by decide +kernel
theorem d_Board_frame_97 : decode b_Board_frame 97 = .ok (.aload_n 0, 1) := by decide +kernel
theorem d_Board_frame_98 : decode b_Board_frame 98 = .ok (.getfield 38, 3) := by decide +kernel
theorem d_Board_frame_101 : decode b_Board_frame 101 = .ok (.iload 8, 2) := by decide +kernel
theorem d_Board_frame_103 : decode b_Board_frame 103 = .ok (.invokestatic 59, 3) := by decide +kernel
theorem d_Board_frame_106 : decode b_Board_frame 106 = .ok (.putfield 38, 3) := by decide +kernel
theorem d_Board_frame_109 : decode b_Board_frame 109 = .ok (.iload 4, 2) := by decide +kernel
theorem d_Board_frame_111 : decode b_Board_frame 111 = .ok (.iload 8, 2) := by decide +kernel
theorem d_Board_frame_113 : decode b_Board_frame 113 = .ok (.invokestatic 65, 3) := by decide +kernel
theorem d_Board_frame_116 : decode b_Board_frame 116 = .ok (.istore 4, 2) := by decide +kernel
theorem d_Board_frame_118 : decode b_Board_frame 118 = .ok (.aload_n 0, 1) := by decide +kernel
theorem d_Board_frame_119 : decode b_Board_frame 119 = .ok (.aload_n 0, 1) := by decide +kernel
theorem d_Board_frame_120 : decode b_Board_frame 120 = .ok (.getfield 44, 3) := by decide +kernel
theorem d_Board_frame_123 : decode b_Board_frame 123 = .ok (.iload 9, 2) := by decide +kernel
theorem d_Board_frame_125 : decode b_Board_frame 125 = .ok (.invokestatic 59, 3) := by decide +kernel
theorem d_Board_frame_128 : decode b_Board_frame 128 = .ok (.putfield 44, 3) := by decide +kernel
theorem d_Board_frame_131 : decode b_Board_frame 131 = .ok (.iload 5, 2) := by decide +kernel
theorem d_Board_frame_133 : decode b_Board_frame 133 = .ok (.iload 9, 2) := by decide +kernel
theorem d_Board_frame_135 : decode b_Board_frame 135 = .ok (.invokestatic 65, 3) := by decide +kernel
theorem d_Board_frame_138 : decode b_Board_frame 138 = .ok (.istore 5, 2) := by decide +kernel
theorem d_Board_frame_140 : decode b_Board_frame 140 = .ok (.iinc 7 1, 3) := by decide +kernel
theorem d_Board_frame_143 : decode b_Board_frame 143 = .ok (.goto (-98), 3) := by decide +kernel
theorem d_Board_frame_146 : decode b_Board_frame 146 = .ok (.iinc 6 1, 3) := by decide +kernel
theorem d_Board_frame_149 : decode b_Board_frame 149 = .ok (.goto (-114), 3) := by decide +kernel
theorem d_Board_frame_152 : decode b_Board_frame 152 = .ok (.aload_n 0, 1) := by decide +kernel
theorem d_Board_frame_153 : decode b_Board_frame 153 = .ok (.dup, 1) := by decide +kernel
theorem d_Board_frame_154 : decode b_Board_frame 154 = .ok (.getfield 38, 3) := by decide +kernel
theorem d_Board_frame_157 : decode b_Board_frame 157 = .ok (.iconst 1, 1) := by decide +kernel
theorem d_Board_frame_158 : decode b_Board_frame 158 = .ok (.isub, 1) := by decide +kernel
theorem d_Board_frame_159 : decode b_Board_frame 159 = .ok (.putfield 38, 3) := by decide +kernel
theorem d_Board_frame_162 : decode b_Board_frame 162 = .ok (.aload_n 0, 1) := by decide +kernel
theorem d_Board_frame_163 : decode b_Board_frame 163 = .ok (.dup, 1) := by decide +kernel
theorem d_Board_frame_164 : decode b_Board_frame 164 = .ok (.getfield 44, 3) := by decide +kernel
theorem d_Board_frame_167 : decode b_Board_frame 167 = .ok (.iconst 1, 1) := by decide +kernel
theorem d_Board_frame_168 : decode b_Board_frame 168 = .ok (.isub, 1) := by decide +kernel
theorem d_Board_frame_169 : decode b_Board_frame 169 = .ok (.putfield 44, 3) := by decide +kernel
theorem d_Board_frame_172 : decode b_Board_frame 172 = .ok (.aload_n 0, 1) := by decide +kernel
theorem d_Board_frame_173 : decode b_Board_frame 173 = .ok (.iload 4, 2) := by decide +kernel
theorem d_Board_frame_175 : decode b_Board_frame 175 = .ok (.iconst 1, 1) := by decide +kernel
theorem d_Board_frame_176 : decode b_Board_frame 176 = .ok (.iadd, 1) := by decide +kernel
theorem d_Board_frame_177 : decode b_Board_frame 177 = .ok (.aload_n 0, 1) := by decide +kernel
theorem d_Board_frame_178 : decode b_Board_frame 178 = .ok (.getfield 38, 3) := by decide +kernel
theorem d_Board_frame_181 : decode b_Board_frame 181 = .ok (.isub, 1) := by decide +kernel
theorem d_Board_frame_182 : decode b_Board_frame 182 = .ok (.putfield 68, 3) := by decide +kernel
theorem d_Board_frame_185 : decode b_Board_frame 185 = .ok (.aload_n 0, 1) := by decide +kernel
theorem d_Board_frame_186 : decode b_Board_frame 186 = .ok (.aload_n 0, 1) := by decide +kernel
theorem d_Board_frame_187 : decode b_Board_frame 187 = .ok (.getfield 68, 3) := by decide +kernel
theorem d_Board_frame_190 : decode b_Board_frame 190 = .ok (.iload 5, 2) := by decide +kernel
theorem d_Board_frame_192 : decode b_Board_frame 192 = .ok (.iconst 1, 1) := by decide +kernel
theorem d_Board_frame_193 : decode b_Board_frame 193 = .ok (.iadd, 1) := by decide +kernel
theorem d_Board_frame_194 : decode b_Board_frame 194 = .ok (.aload_n 0, 1) := by decide +kernel
theorem d_Board_frame_195 : decode b_Board_frame 195 = .ok (.getfield 44, 3) := by decide +kernel
theorem d_Board_frame_198 : decode b_Board_frame 198 = .ok (.isub, 1) := by decide +kernel
theorem d_Board_frame_199 : decode b_Board_frame 199 = .ok (.imul, 1) := by decide +kernel
theorem d_Board_frame_200 : decode b_Board_frame 200 = .ok (.sipush 1936, 3) := by decide +kernel
theorem d_Board_frame_203 : decode b_Board_frame 203 = .ok (.invokestatic 59, 3) := by decide +kernel
theorem d_Board_frame_206 : decode b_Board_frame 206 = .ok (.putfield 22, 3) := by decide +kernel
theorem d_Board_frame_209 : decode b_Board_frame 209 = .ok (.return_, 1) := by decide +kernel
theorem d_Board_mark_0 : decode b_Board_mark 0 = .ok (.iload_n 2, 1) := by decide +kernel
theorem d_Board_mark_1 : decode b_Board_mark 1 = .ok (.aload_n 0, 1) := by decide +kernel
theorem d_Board_mark_2 : decode b_Board_mark 2 = .ok (.getfield 44, 3) := by decide +kernel
theorem d_Board_mark_5 : decode b_Board_mark 5 = .ok (.isub, 1) := by decide +kernel
theorem d_Board_mark_6 : decode b_Board_mark 6 = .ok (.aload_n 0, 1) := by decide +kernel
theorem d_Board_mark_7 : decode b_Board_mark 7 = .ok (.getfield 68, 3) := by decide +kernel
theorem d_Board_mark_10 : decode b_Board_mark 10 = .ok (.imul, 1) := by decide +kernel
theorem d_Board_mark_11 : decode b_Board_mark 11 = .ok (.iload_n 1, 1) := by decide +kernel
theorem d_Board_mark_12 : decode b_Board_mark 12 = .ok (.iadd, 1) := by decide +kernel
theorem d_Board_mark_13 : decode b_Board_mark 13 = .ok (.aload_n 0, 1) := by decide +kernel
theorem d_Board_mark_14 : decode b_Board_mark 14 = .ok (.getfield 38, 3) := by decide +kernel
theorem d_Board_mark_17 : decode b_Board_mark 17 = .ok (.isub, 1) := by decide +kernel
theorem d_Board_mark_18 : decode b_Board_mark 18 = .ok (.istore 4, 2) := by decide +kernel
theorem d_Board_mark_20 : decode b_Board_mark 20 = .ok (.iload 4, 2) := by decide +kernel
theorem d_Board_mark_22 : decode b_Board_mark 22 = .ok (.ifCond .lt 23, 3) := by decide +kernel
theorem d_Board_mark_25 : decode b_Board_mark 25 = .ok (.iload 4, 2) := by decide +kernel
theorem d_Board_mark_27 : decode b_Board_mark 27 = .ok (.aload_n 0, 1) := by decide +kernel
theorem d_Board_mark_28 : decode b_Board_mark 28 = .ok (.getfield 22, 3) := by decide +kernel
theorem d_Board_mark_31 : decode b_Board_mark 31 = .ok (.if_icmp .ge 14, 3) := by decide +kernel
theorem d_Board_mark_34 : decode b_Board_mark 34 = .ok (.aload_n 0, 1) := by decide +kernel
theorem d_Board_mark_35 : decode b_Board_mark 35 = .ok (.getfield 11, 3) := by decide +kernel
theorem d_Board_mark_38 : decode b_Board_mark 38 = .ok (.iload 4, 2) := by decide +kernel
theorem d_Board_mark_40 : decode b_Board_mark 40 = .ok (.dup2, 1) := by decide +kernel
theorem d_Board_mark_41 : decode b_Board_mark 41 = .ok (.iaload, 1) := by decide +kernel
theorem d_Board_mark_42 : decode b_Board_mark 42 = .ok (.iload_n 3, 1) := by decide +kernel
theorem d_Board_mark_43 : decode b_Board_mark 43 = .ok (.iadd, 1) := by decide +kernel
theorem d_Board_mark_44 : decode b_Board_mark 44 = .ok (.iastore, 1) := by decide +kernel
theorem d_Board_mark_45 : decode b_Board_mark 45 = .ok (.return_, 1) := by decide +kernel
theorem d_Board_markSides_0 : decode b_Board_markSides 0 = .ok (.iconst 0, 1) := by decide +kernel
theorem d_Board_markSides_1 : decode b_Board_markSides 1 = .ok (.istore 4, 2) := by decide +kernel
theorem d_Board_markSides_3 : decode b_Board_markSides 3 = .ok (.iload 4, 2) := by decide +kernel
theorem d_Board_markSides_5 : decode b_Board_markSides 5 = .ok (.aload_n 1, 1) := by decide +kernel
theorem d_Board_markSides_6 : decode b_Board_markSides 6 = .ok (.getfield 47, 3) := by decide +kernel
theorem d_Board_markSides_9 : decode b_Board_markSides 9 = .ok (.if_icmp .ge 82, 3) := by decide +kernel
theorem d_Board_markSides_12 : decode b_Board_markSides 12 = .ok (.aload_n 1, 1) := by decide +kernel
theorem d_Board_markSides_13 : decode b_Board_markSides 13 = .ok (.getfield 71, 3) := by decide +kernel
theorem d_Board_markSides_16 : decode b_Board_markSides 16 = .ok (.iload 4, 2) := by decide +kernel
theorem d_Board_markSides_18 : decode b_Board_markSides 18 = .ok (.iaload, 1) := by decide +kernel
theorem d_Board_markSides_19 : decode b_Board_markSides 19 = .ok (.aload_n 2, 1) := by decide +kernel
theorem d_Board_markSides_20 : decode b_Board_markSides 20 = .ok (.getfield 74, 3) := by decide +kernel
theorem d_Board_markSides_23 : decode b_Board_markSides 23 = .ok (.iload_n 3, 1) := by decide +kernel
theorem d_Board_markSides_24 : decode b_Board_markSides 24 = .ok (.iaload, 1) := by decide +kernel
theorem d_Board_markSides_25 : decode b_Board_markSides 25 = .ok (.iadd, 1) := by decide +kernel
theorem d_Board_markSides_26 : decode b_Board_markSides 26 = .ok (.iconst 3, 1) := by decide +kernel
theorem d_Board_markSides_27 : decode b_Board_markSides 27 = .ok (.iand, 1) := by decide +kernel
theorem d_Board_markSides_28 : decode b_Board_markSides 28 = .ok (.istore 5, 2) := by decide +kernel
theorem d_Board_markSides_30 : decode b_Board_markSides 30 = .ok (.aload_n 2, 1) := by decide +kernel
theorem d_Board_markSides_31 : decode b_Board_markSides 31 = .ok (.aload_n 1, 1) := by decide +kernel
theorem d_Board_markSides_32 : decode b_Board_markSides 32 = .ok (.iload_n 3, 1) := by decide +kernel
theorem d_Board_markSides_33 : decode b_Board_markSides 33 = .ok (.iload 4, 2) := by decide +kernel
theorem d_Board_markSides_35 : decode b_Board_markSides 35 = .ok (.invokevirtual 52, 3) := by decide +kernel
theorem d_Board_markSides_38 : decode b_Board_markSides 38 = .ok (.istore 6, 2) := by decide +kernel
theorem d_Board_markSides_40 : decode b_Board_markSides 40 = .ok (.aload_n 2, 1) := by decide +kernel
theorem d_Board_markSides_41 : decode b_Board_markSides 41 = .ok (.aload_n 1, 1) := by decide +kernel
theorem d_Board_markSides_42 : decode b_Board_markSides 42 = .ok (.iload_n 3, 1) := by decide +kernel
theorem d_Board_markSides_43 : decode b_Board_markSides 43 = .ok (.iload 4, 2) := by decide +kernel
theorem d_Board_markSides_45 : decode b_Board_markSides 45 = .ok (.invokevirtual 56, 3) := by decide +kernel
theorem d_Board_markSides_48 : decode b_Board_markSides 48 = .ok (.istore 7, 2) := by decide +kernel
theorem d_Board_markSides_50 : decode b_Board_markSides 50 = .ok (.iload 5, 2) := by decide +kernel
theorem d_Board_markSides_52 : decode b_Board_markSides 52 = .ok (.iconst 3, 1) := by decide +kernel
theorem d_Board_markSides_53 : decode b_Board_markSides 53 = .ok (.if_icmp .ne 17, 3) := by decide +kernel
theorem d_Board_markSides_56 : decode b_Board_markSides 56 = .ok (.aload_n 0, 1) := by decide +kernel
theorem d_Board_markSides_57 : decode b_Board_markSides 57 = .ok (.iload 6, 2) := by decide +kernel
theorem d_Board_markSides_59 : decode b_Board_markSides 59 = .ok (.iload 7, 2) := by decide +kernel
theorem d_Board_markSides_61 : decode b_Board_markSides 61 = .ok (.iconst 1, 1) := by decide +kernel
theorem d_Board_markSides_62 : decode b_Board_markSides 62 = .ok (.isub, 1) := by decide +kernel
theorem d_Board_markSides_63 : decode b_Board_markSides 63 = .ok (.iconst 1, 1) := by decide +kernel
theorem d_Board_markSides_64 : decode b_Board_markSides 64 = .ok (.invokevirtual 77, 3) := by decide +kernel
theorem d_Board_markSides_67 : decode b_Board_markSides 67 = .ok (.goto 18, 3) := by decide +kernel
theorem d_Board_markSides_70 : decode b_Board_markSides 70 = .ok (.iload 5, 2) := by decide +kernel
theorem d_Board_markSides_72 : decode b_Board_markSides 72 = .ok (.iconst 1, 1) := by decide +kernel
theorem d_Board_markSides_73 : decode b_Board_markSides 73 = .ok (.if_icmp .ne 12, 3) := by decide +kernel
theorem d_Board_markSides_76 : decode b_Board_markSides 76 = .ok (.aload_n 0, 1) := by decide +kernel
theorem d_Board_markSides_77 : decode b_Board_markSides 77 = .ok (.iload 6, 2) := by decide +kernel
theorem d_Board_markSides_79 : decode b_Board_markSides 79 = .ok (.iload 7, 2) := by decide +kernel
theorem d_Board_markSides_81 : decode b_Board_markSides 81 = .ok (.iconst (-1), 1) := by decide +kernel
theorem d_Board_markSides_82 : decode b_Board_markSides 82 = .ok (.invokevirtual 77, 3) := by decide +kernel
theorem d_Board_markSides_85 : decode b_Board_markSides 85 = .ok (.iinc 4 1, 3) := by decide +kernel
theorem d_Board_markSides_88 : decode b_Board_markSides 88 = .ok (.goto (-85), 3) := by decide +kernel
theorem d_Board_markSides_91 : decode b_Board_markSides 91 = .ok (.return_, 1) := by decide +kernel
