theorem dX5_spin_100 : decode cX5_spin 100 = .ok (.getfield 7, 3) := by decide +kernel
theorem dX5_spin_103 : decode cX5_spin 103 = .ok (.bipush 17, 2) := by decide +kernel
theorem dX5_spin_105 : decode cX5_spin 105 = .ok (.iaload, 1) := by decide +kernel
theorem dX5_spin_106 : decode cX5_spin 106 = .ok (.aload_n 0, 1) := by decide +kernel
theorem dX5_spin_107 : decode cX5_spin 107 = .ok (.getfield 7, 3) := by decide +kernel
theorem dX5_spin_110 : decode cX5_spin 110 = .ok (.bipush 18, 2) := by decide +kernel
theorem dX5_spin_112 : decode cX5_spin 112 = .ok (.iaload, 1) := by decide +kernel
theorem dX5_spin_113 : decode cX5_spin 113 = .ok (.if_icmp .ne 59, 3) := by decide +kernel
theorem dX5_spin_116 : decode cX5_spin 116 = .ok (.aload_n 0, 1) := by decide +kernel
theorem dX5_spin_117 : decode cX5_spin 117 = .ok (.getfield 7, 3) := by decide +kernel
theorem dX5_spin_120 : decode cX5_spin 120 = .ok (.bipush 17, 2) := by decide +kernel
theorem dX5_spin_122 : decode cX5_spin 122 = .ok (.iaload, 1) := by decide +kernel
theorem dX5_spin_123 : decode cX5_spin 123 = .ok (.aload_n 0, 1) := by decide +kernel
theorem dX5_spin_124 : decode cX5_spin 124 = .ok (.getfield 7, 3) := by decide +kernel
theorem dX5_spin_127 : decode cX5_spin 127 = .ok (.bipush 19, 2) := by decide +kernel
theorem dX5_spin_129 : decode cX5_spin 129 = .ok (.iaload, 1) := by decide +kernel
theorem dX5_spin_130 : decode cX5_spin 130 = .ok (.if_icmp .ne 42, 3) := by decide +kernel
theorem dX5_spin_133 : decode cX5_spin 133 = .ok (.aload_n 0, 1) := by decide +kernel
theorem dX5_spin_134 : decode cX5_spin 134 = .ok (.getfield 7, 3) := by decide +kernel
theorem dX5_spin_137 : decode cX5_spin 137 = .ok (.bipush 10, 2) := by decide +kernel
theorem dX5_spin_139 : decode cX5_spin 139 = .ok (.aload_n 0, 1) := by decide +kernel
theorem dX5_spin_140 : decode cX5_spin 140 = .ok (.getfield 7, 3) := by decide +kernel
theorem dX5_spin_143 : decode cX5_spin 143 = .ok (.bipush 14, 2) := by decide +kernel
theorem dX5_spin_145 : decode cX5_spin 145 = .ok (.iaload, 1) := by decide +kernel
theorem dX5_spin_146 : decode cX5_spin 146 = .ok (.iastore, 1) := by decide +kernel
theorem dX5_spin_147 : decode cX5_spin 147 = .ok (.aload_n 0, 1) := by decide +kernel
theorem dX5_spin_148 : decode cX5_spin 148 = .ok (.getfield 7, 3) := by decide +kernel
theorem dX5_spin_151 : decode cX5_spin 151 = .ok (.bipush 9, 2) := by decide +kernel
theorem dX5_spin_153 : decode cX5_spin 153 = .ok (.dup2, 1) := by decide +kernel
theorem dX5_spin_154 : decode cX5_spin 154 = .ok (.iaload, 1) := by decide +kernel
theorem dX5_spin_155 : decode cX5_spin 155 = .ok (.iconst 1, 1) := by decide +kernel
theorem dX5_spin_156 : decode cX5_spin 156 = .ok (.iadd, 1) := by decide +kernel
theorem dX5_spin_157 : decode cX5_spin 157 = .ok (.iastore, 1) := by decide +kernel
theorem dX5_spin_158 : decode cX5_spin 158 = .ok (.aload_n 0, 1) := by decide +kernel
theorem dX5_spin_159 : decode cX5_spin 159 = .ok (.getfield 7, 3) := by decide +kernel
theorem dX5_spin_162 : decode cX5_spin 162 = .ok (.bipush 11, 2) := by decide +kernel
theorem dX5_spin_164 : decode cX5_spin 164 = .ok (.aload_n 0, 1) := by decide +kernel
theorem dX5_spin_165 : decode cX5_spin 165 = .ok (.getfield 7, 3) := by decide +kernel
theorem dX5_spin_168 : decode cX5_spin 168 = .ok (.bipush 15, 2) := by decide +kernel
theorem dX5_spin_170 : decode cX5_spin 170 = .ok (.iaload, 1) := by decide +kernel
theorem dX5_spin_171 : decode cX5_spin 171 = .ok (.iastore, 1) := by decide +kernel
theorem dX5_spin_172 : decode cX5_spin 172 = .ok (.return_, 1) := by decide +kernel
theorem dX5_beside_0 : decode cX5_beside 0 = .ok (.iload_n 0, 1) := by decide +kernel
theorem dX5_beside_1 : decode cX5_beside 1 = .ok (.iload_n 1, 1) := by decide +kernel
theorem dX5_beside_2 : decode cX5_beside 2 = .ok (.iadd, 1) := by decide +kernel
theorem dX5_beside_3 : decode cX5_beside 3 = .ok (.invokestatic 61, 3) := by decide +kernel
theorem dX5_beside_6 : decode cX5_beside 6 = .ok (.ifCond .eq 9, 3) := by decide +kernel
theorem dX5_beside_9 : decode cX5_beside 9 = .ok (.iload_n 0, 1) := by decide +kernel
theorem dX5_beside_10 : decode cX5_beside 10 = .ok (.iload_n 1, 1) := by decide +kernel
theorem dX5_beside_11 : decode cX5_beside 11 = .ok (.iadd, 1) := by decide +kernel
theorem dX5_beside_12 : decode cX5_beside 12 = .ok (.goto 4, 3) := by decide +kernel
theorem dX5_beside_15 : decode cX5_beside 15 = .ok (.iload_n 0, 1) := by decide +kernel
theorem dX5_beside_16 : decode cX5_beside 16 = .ok (.ireturn, 1) := by decide +kernel
theorem dX5_fall_0 : decode cX5_fall 0 = .ok (.iload_n 1, 1) := by decide +kernel
theorem dX5_fall_1 : decode cX5_fall 1 = .ok (.istore_n 2, 1) := by decide +kernel
theorem dX5_fall_2 : decode cX5_fall 2 = .ok (.iconst 0, 1) := by decide +kernel
theorem dX5_fall_3 : decode cX5_fall 3 = .ok (.istore_n 3, 1) := by decide +kernel
theorem dX5_fall_4 : decode cX5_fall 4 = .ok (.iload_n 3, 1) := by decide +kernel
theorem dX5_fall_5 : decode cX5_fall 5 = .ok (.bipush 8, 2) := by decide +kernel
theorem dX5_fall_7 : decode cX5_fall 7 = .ok (.if_icmp .ge 60, 3) := by decide +kernel
theorem dX5_fall_10 : decode cX5_fall 10 = .ok (.bipush 7, 2) := by decide +kernel
theorem dX5_fall_12 : decode cX5_fall 12 = .ok (.iload_n 3, 1) := by decide +kernel
theorem dX5_fall_13 : decode cX5_fall 13 = .ok (.imul, 1) := by decide +kernel
theorem dX5_fall_14 : decode cX5_fall 14 = .ok (.iload_n 2, 1) := by decide +kernel
theorem dX5_fall_15 : decode cX5_fall 15 = .ok (.iadd, 1) := by decide +kernel
theorem dX5_fall_16 : decode cX5_fall 16 = .ok (.istore 4, 2) := by decide +kernel
theorem dX5_fall_18 : decode cX5_fall 18 = .ok (.aload_n 0, 1) := by decide +kernel
theorem dX5_fall_19 : decode cX5_fall 19 = .ok (.getfield 7, 3) := by decide +kernel
theorem dX5_fall_22 : decode cX5_fall 22 = .ok (.sipush 167, 3) := by decide +kernel
theorem dX5_fall_25 : decode cX5_fall 25 = .ok (.iload_n 3, 1) := by decide +kernel
theorem dX5_fall_26 : decode cX5_fall 26 = .ok (.iadd, 1) := by decide +kernel
theorem dX5_fall_27 : decode cX5_fall 27 = .ok (.iload 4, 2) := by decide +kernel
theorem dX5_fall_29 : decode cX5_fall 29 = .ok (.iastore, 1) := by decide +kernel
theorem dX5_fall_30 : decode cX5_fall 30 = .ok (.aload_n 0, 1) := by decide +kernel
theorem dX5_fall_31 : decode cX5_fall 31 = .ok (.iload 4, 2) := by decide +kernel
theorem dX5_fall_33 : decode cX5_fall 33 = .ok (.invokevirtual 53, 3) := by decide +kernel
theorem dX5_fall_36 : decode cX5_fall 36 = .ok (.istore 5, 2) := by decide +kernel
theorem dX5_fall_38 : decode cX5_fall 38 = .ok (.iload 5, 2) := by decide +kernel
theorem dX5_fall_40 : decode cX5_fall 40 = .ok (.ifCond .ne 14, 3) := by decide +kernel
theorem dX5_fall_43 : decode cX5_fall 43 = .ok (.iconst 2, 1) := by decide +kernel
theorem dX5_fall_44 : decode cX5_fall 44 = .ok (.aload_n 0, 1) := by decide +kernel
theorem dX5_fall_45 : decode cX5_fall 45 = .ok (.iconst 2, 1) := by decide +kernel
theorem dX5_fall_46 : decode cX5_fall 46 = .ok (.invokevirtual 82, 3) := by decide +kernel
theorem dX5_fall_49 : decode cX5_fall 49 = .ok (.imul, 1) := by decide +kernel
theorem dX5_fall_50 : decode cX5_fall 50 = .ok (.iconst 1, 1) := by decide +kernel
theorem dX5_fall_51 : decode cX5_fall 51 = .ok (.isub, 1) := by decide +kernel
theorem dX5_fall_52 : decode cX5_fall 52 = .ok (.istore 5, 2) := by decide +kernel
theorem dX5_fall_54 : decode cX5_fall 54 = .ok (.iload_n 2, 1) := by decide +kernel
theorem dX5_fall_55 : decode cX5_fall 55 = .ok (.iload 5, 2) := by decide +kernel
theorem dX5_fall_57 : decode cX5_fall 57 = .ok (.invokestatic 85, 3) := by decide +kernel
theorem dX5_fall_60 : decode cX5_fall 60 = .ok (.istore_n 2, 1) := by decide +kernel
theorem dX5_fall_61 : decode cX5_fall 61 = .ok (.iinc 3 1, 3) := by decide +kernel
theorem dX5_fall_64 : decode cX5_fall 64 = .ok (.goto (-60), 3) := by decide +kernel
theorem dX5_fall_67 : decode cX5_fall 67 = .ok (.iload_n 2, 1) := by decide +kernel
theorem dX5_fall_68 : decode cX5_fall 68 = .ok (.ireturn, 1) := by decide +kernel
theorem dX5_isOpen_0 : decode cX5_isOpen 0 = .ok (.aload_n 0, 1) := by decide +kernel
theorem dX5_isOpen_1 : decode cX5_isOpen 1 = .ok (.iload_n 1, 1) := by decide +kernel
theorem dX5_isOpen_2 : decode cX5_isOpen 2 = .ok (.iconst 0, 1) := by decide +kernel
theorem dX5_isOpen_3 : decode cX5_isOpen 3 = .ok (.invokevirtual 68, 3) := by decide +kernel
theorem dX5_isOpen_6 : decode cX5_isOpen 6 = .ok (.istore_n 2, 1) := by decide +kernel
theorem dX5_isOpen_7 : decode cX5_isOpen 7 = .ok (.iload_n 2, 1) := by decide +kernel
theorem dX5_isOpen_8 : decode cX5_isOpen 8 = .ok (.ifCond .eq 31, 3) := by decide +kernel
theorem dX5_isOpen_11 : decode cX5_isOpen 11 = .ok (.iload_n 2, 1) := by decide +kernel
theorem dX5_isOpen_12 : decode cX5_isOpen 12 = .ok (.iconst 1, 1) := by decide +kernel
theorem dX5_isOpen_13 : decode cX5_isOpen 13 = .ok (.if_icmp .ne 16, 3) := by decide +kernel
theorem dX5_isOpen_16 : decode cX5_isOpen 16 = .ok (.aload_n 0, 1) := by decide +kernel
theorem dX5_isOpen_17 : decode cX5_isOpen 17 = .ok (.getfield 7, 3) := by decide +kernel
theorem dX5_isOpen_20 : decode cX5_isOpen 20 = .ok (.bipush 10, 2) := by decide +kernel
theorem dX5_isOpen_22 : decode cX5_isOpen 22 = .ok (.iaload, 1) := by decide +kernel
theorem dX5_isOpen_23 : decode cX5_isOpen 23 = .ok (.ifCond .le 20, 3) := by decide +kernel
theorem dX5_isOpen_26 : decode cX5_isOpen 26 = .ok (.goto 13, 3) := by decide +kernel
theorem dX5_isOpen_29 : decode cX5_isOpen 29 = .ok (.aload_n 0, 1) := by decide +kernel
theorem dX5_isOpen_30 : decode cX5_isOpen 30 = .ok (.iload_n 1, 1) := by decide +kernel
theorem dX5_isOpen_31 : decode cX5_isOpen 31 = .ok (.iconst 2, 1) := by decide +kernel
theorem dX5_isOpen_32 : decode cX5_isOpen 32 = .ok (.invokevirtual 68, 3) := by decide +kernel
theorem dX5_isOpen_35 : decode cX5_isOpen 35 = .ok (.iconst 1, 1) := by decide +kernel
theorem dX5_isOpen_36 : decode cX5_isOpen 36 = .ok (.if_icmp .ne 7, 3) := by decide +kernel
theorem dX5_isOpen_39 : decode cX5_isOpen 39 = .ok (.iconst 1, 1) := by decide +kernel
theorem dX5_isOpen_40 : decode cX5_isOpen 40 = .ok (.goto 4, 3) := by decide +kernel
theorem dX5_isOpen_43 : decode cX5_isOpen 43 = .ok (.iconst 0, 1) := by decide +kernel
theorem dX5_isOpen_44 : decode cX5_isOpen 44 = .ok (.ireturn, 1) := by decide +kernel
theorem dX5_come_0 : decode cX5_come 0 = .ok (.aload_n 0, 1) := by decide +kernel
theorem dX5_come_1 : decode cX5_come 1 = .ok (.iload_n 1, 1) := by decide +kernel
theorem dX5_come_2 : decode cX5_come 2 = .ok (.invokevirtual 88, 3) := by decide +kernel
theorem dX5_come_5 : decode cX5_come 5 = .ok (.istore_n 2, 1) := by decide +kernel
theorem dX5_come_6 : decode cX5_come 6 = .ok (.aload_n 0, 1) := by decide +kernel
theorem dX5_come_7 : decode cX5_come 7 = .ok (.iload_n 1, 1) := by decide +kernel
theorem dX5_come_8 : decode cX5_come 8 = .ok (.iconst 0, 1) := by decide +kernel
theorem dX5_come_9 : decode cX5_come 9 = .ok (.invokevirtual 68, 3) := by decide +kernel
theorem dX5_come_12 : decode cX5_come 12 = .ok (.istore_n 3, 1) := by decide +kernel
theorem dX5_come_13 : decode cX5_come 13 = .ok (.iload_n 2, 1) := by decide +kernel
theorem dX5_come_14 : decode cX5_come 14 = .ok (.ifCond .eq 12, 3) := by decide +kernel
theorem dX5_come_17 : decode cX5_come 17 = .ok (.aload_n 0, 1) := by decide +kernel
theorem dX5_come_18 : decode cX5_come 18 = .ok (.iload_n 1, 1) := by decide +kernel
theorem dX5_come_19 : decode cX5_come 19 = .ok (.iconst 1, 1) := by decide +kernel
theorem dX5_come_20 : decode cX5_come 20 = .ok (.invokevirtual 68, 3) := by decide +kernel
theorem dX5_come_23 : decode cX5_come 23 = .ok (.goto 4, 3) := by decide +kernel
theorem dX5_come_26 : decode cX5_come 26 = .ok (.iconst 0, 1) := by decide +kernel
theorem dX5_come_27 : decode cX5_come 27 = .ok (.istore 4, 2) := by decide +kernel
theorem dX5_come_29 : decode cX5_come 29 = .ok (.iload_n 3, 1) := by decide +kernel
theorem dX5_come_30 : decode cX5_come 30 = .ok (.iconst 2, 1) := by decide +kernel
theorem dX5_come_31 : decode cX5_come 31 = .ok (.if_icmp .ne 18, 3) := by decide +kernel
theorem dX5_come_34 : decode cX5_come 34 = .ok (.aload_n 0, 1) := by decide +kernel
theorem dX5_come_35 : decode cX5_come 35 = .ok (.iload_n 1, 1) := by decide +kernel
theorem dX5_come_36 : decode cX5_come 36 = .ok (.iconst 2, 1) := by decide +kernel
theorem dX5_come_37 : decode cX5_come 37 = .ok (.iload_n 2, 1) := by decide +kernel
theorem dX5_come_38 : decode cX5_come 38 = .ok (.ifCond .eq 7, 3) := by decide +kernel
theorem dX5_come_41 : decode cX5_come 41 = .ok (.iconst 0, 1) := by decide +kernel
theorem dX5_come_42 : decode cX5_come 42 = .ok (.goto 4, 3) := by decide +kernel
theorem dX5_come_45 : decode cX5_come 45 = .ok (.iconst 1, 1) := by decide +kernel
theorem dX5_come_46 : decode cX5_come 46 = .ok (.invokevirtual 31, 3) := by decide +kernel
theorem dX5_come_49 : decode cX5_come 49 = .ok (.aload_n 0, 1) := by decide +kernel
theorem dX5_come_50 : decode cX5_come 50 = .ok (.getfield 7, 3) := by decide +kernel
theorem dX5_come_53 : decode cX5_come 53 = .ok (.bipush 10, 2) := by decide +kernel
theorem dX5_come_55 : decode cX5_come 55 = .ok (.dup2, 1) := by decide +kernel
theorem dX5_come_56 : decode cX5_come 56 = .ok (.iaload, 1) := by decide +kernel
theorem dX5_come_57 : decode cX5_come 57 = .ok (.iload_n 3, 1) := by decide +kernel
theorem dX5_come_58 : decode cX5_come 58 = .ok (.iconst 1, 1) := by decide +kernel
theorem dX5_come_59 : decode cX5_come 59 = .ok (.if_icmp .ne 11, 3) := by decide +kernel
theorem dX5_come_62 : decode cX5_come 62 = .ok (.iload_n 2, 1) := by decide +kernel
theorem dX5_come_63 : decode cX5_come 63 = .ok (.ifCond .eq 7, 3) := by decide +kernel
theorem dX5_come_66 : decode cX5_come 66 = .ok (.iconst 1, 1) := by decide +kernel
theorem dX5_come_67 : decode cX5_come 67 = .ok (.goto 4, 3) := by decide +kernel
theorem dX5_come_70 : decode cX5_come 70 = .ok (.iconst 0, 1) := by decide +kernel
theorem dX5_come_71 : decode cX5_come 71 = .ok (.isub, 1) := by decide +kernel
theorem dX5_come_72 : decode cX5_come 72 = .ok (.iastore, 1) := by decide +kernel
theorem dX5_come_73 : decode cX5_come 73 = .ok (.aload_n 0, 1) := by decide +kernel
theorem dX5_come_74 : decode cX5_come 74 = .ok (.getfield 7, 3) := by decide +kernel
theorem dX5_come_77 : decode cX5_come 77 = .ok (.iconst 5, 1) := by decide +kernel
theorem dX5_come_78 : decode cX5_come 78 = .ok (.dup2, 1) := by decide +kernel
theorem dX5_come_79 : decode cX5_come 79 = .ok (.iaload, 1) := by decide +kernel
theorem dX5_come_80 : decode cX5_come 80 = .ok (.iload_n 2, 1) := by decide +kernel
theorem dX5_come_81 : decode cX5_come 81 = .ok (.ifCond .eq 7, 3) := by decide +kernel
theorem dX5_come_84 : decode cX5_come 84 = .ok (.iconst 0, 1) := by decide +kernel
theorem dX5_come_85 : decode cX5_come 85 = .ok (.goto 4, 3) := by decide +kernel
theorem dX5_come_88 : decode cX5_come 88 = .ok (.iconst 1, 1) := by decide +kernel
theorem dX5_come_89 : decode cX5_come 89 = .ok (.iadd, 1) := by decide +kernel
theorem dX5_come_90 : decode cX5_come 90 = .ok (.iastore, 1) := by decide +kernel
theorem dX5_come_91 : decode cX5_come 91 = .ok (.aload_n 0, 1) := by decide +kernel
theorem dX5_come_92 : decode cX5_come 92 = .ok (.getfield 7, 3) := by decide +kernel
theorem dX5_come_95 : decode cX5_come 95 = .ok (.bipush 6, 2) := by decide +kernel
theorem dX5_come_97 : decode cX5_come 97 = .ok (.dup2, 1) := by decide +kernel
theorem dX5_come_98 : decode cX5_come 98 = .ok (.iaload, 1) := by decide +kernel
theorem dX5_come_99 : decode cX5_come 99 = .ok (.iload_n 2, 1) := by decide +kernel
theorem dX5_come_100 : decode cX5_come 100 = .ok (.ifCond .eq 12, 3) := by decide +kernel
theorem dX5_come_103 : decode cX5_come 103 = .ok (.iload 4, 2) := by decide +kernel
theorem dX5_come_105 : decode cX5_come 105 = .ok (.ifCond .ne 7, 3) := by decide +kernel
theorem dX5_come_108 : decode cX5_come 108 = .ok (.iconst 1, 1) := by decide +kernel
theorem dX5_come_109 : decode cX5_come 109 = .ok (.goto 4, 3) := by decide +kernel
theorem dX5_come_112 : decode cX5_come 112 = .ok (.iconst 0, 1) := by decide +kernel
theorem dX5_come_113 : decode cX5_come 113 = .ok (.iadd, 1) := by decide +kernel
theorem dX5_come_114 : decode cX5_come 114 = .ok (.iastore, 1) := by decide +kernel
theorem dX5_come_115 : decode cX5_come 115 = .ok (.aload_n 0, 1) := by decide +kernel
theorem dX5_come_116 : decode cX5_come 116 = .ok (.getfield 7, 3) := by decide +kernel
theorem dX5_come_119 : decode cX5_come 119 = .ok (.iconst 4, 1) := by decide +kernel
theorem dX5_come_120 : decode cX5_come 120 = .ok (.dup2, 1) := by decide +kernel
theorem dX5_come_121 : decode cX5_come 121 = .ok (.iaload, 1) := by decide +kernel
theorem dX5_come_122 : decode cX5_come 122 = .ok (.iload 4, 2) := by decide +kernel
theorem dX5_come_124 : decode cX5_come 124 = .ok (.iadd, 1) := by decide +kernel
theorem dX5_come_125 : decode cX5_come 125 = .ok (.iastore, 1) := by decide +kernel
theorem dX5_come_126 : decode cX5_come 126 = .ok (.aload_n 0, 1) := by decide +kernel
theorem dX5_come_127 : decode cX5_come 127 = .ok (.getfield 7, 3) := by decide +kernel
theorem dX5_come_130 : decode cX5_come 130 = .ok (.iconst 1, 1) := by decide +kernel
theorem dX5_come_131 : decode cX5_come 131 = .ok (.dup2, 1) := by decide +kernel
theorem dX5_come_132 : decode cX5_come 132 = .ok (.iaload, 1) := by decide +kernel
theorem dX5_come_133 : decode cX5_come 133 = .ok (.iload 4, 2) := by decide +kernel
theorem dX5_come_135 : decode cX5_come 135 = .ok (.iadd, 1) := by decide +kernel
theorem dX5_come_136 : decode cX5_come 136 = .ok (.iastore, 1) := by decide +kernel
theorem dX5_come_137 : decode cX5_come 137 = .ok (.aload_n 0, 1) := by decide +kernel
theorem dX5_come_138 : decode cX5_come 138 = .ok (.iload_n 1, 1) := by decide +kernel
theorem dX5_come_139 : decode cX5_come 139 = .ok (.iconst 3, 1) := by decide +kernel
theorem dX5_come_140 : decode cX5_come 140 = .ok (.aload_n 0, 1) := by decide +kernel
theorem dX5_come_141 : decode cX5_come 141 = .ok (.iload_n 1, 1) := by decide +kernel
theorem dX5_come_142 : decode cX5_come 142 = .ok (.iconst 3, 1) := by decide +kernel
theorem dX5_come_143 : decode cX5_come 143 = .ok (.invokevirtual 68, 3) := by decide +kernel
theorem dX5_come_146 : decode cX5_come 146 = .ok (.iconst 1, 1) := by decide +kernel
theorem dX5_come_147 : decode cX5_come 147 = .ok (.iadd, 1) := by decide +kernel
theorem dX5_come_148 : decode cX5_come 148 = .ok (.invokevirtual 31, 3) := by decide +kernel
theorem dX5_come_151 : decode cX5_come 151 = .ok (.aload_n 0, 1) := by decide +kernel
theorem dX5_come_152 : decode cX5_come 152 = .ok (.iload_n 1, 1) := by decide +kernel
theorem dX5_come_153 : decode cX5_come 153 = .ok (.iconst 4, 1) := by decide +kernel
theorem dX5_come_154 : decode cX5_come 154 = .ok (.aload_n 0, 1) := by decide +kernel
theorem dX5_come_155 : decode cX5_come 155 = .ok (.iload_n 1, 1) := by decide +kernel
theorem dX5_come_156 : decode cX5_come 156 = .ok (.iconst 4, 1) := by decide +kernel
theorem dX5_come_157 : decode cX5_come 157 = .ok (.invokevirtual 68, 3) := by decide +kernel
theorem dX5_come_160 : decode cX5_come 160 = .ok (.iload 4, 2) := by decide +kernel
theorem dX5_come_162 : decode cX5_come 162 = .ok (.iadd, 1) := by decide +kernel
theorem dX5_come_163 : decode cX5_come 163 = .ok (.invokevirtual 31, 3) := by decide +kernel
theorem dX5_come_166 : decode cX5_come 166 = .ok (.aload_n 0, 1) := by decide +kernel
theorem dX5_come_167 : decode cX5_come 167 = .ok (.getfield 7, 3) := by decide +kernel
theorem dX5_come_170 : decode cX5_come 170 = .ok (.bipush 12, 2) := by decide +kernel
theorem dX5_come_172 : decode cX5_come 172 = .ok (.iload_n 1, 1) := by decide +kernel
theorem dX5_come_173 : decode cX5_come 173 = .ok (.iastore, 1) := by decide +kernel
theorem dX5_come_174 : decode cX5_come 174 = .ok (.iload 4, 2) := by decide +kernel
theorem dX5_come_176 : decode cX5_come 176 = .ok (.ireturn, 1) := by decide +kernel
theorem dX5_doLaunch_0 : decode cX5_doLaunch 0 = .ok (.aload_n 0, 1) := by decide +kernel
theorem dX5_doLaunch_1 : decode cX5_doLaunch 1 = .ok (.getfield 7, 3) := by decide +kernel
theorem dX5_doLaunch_4 : decode cX5_doLaunch 4 = .ok (.iconst 1, 1) := by decide +kernel
theorem dX5_doLaunch_5 : decode cX5_doLaunch 5 = .ok (.dup2, 1) := by decide +kernel
theorem dX5_doLaunch_6 : decode cX5_doLaunch 6 = .ok (.iaload, 1) := by decide +kernel
theorem dX5_doLaunch_7 : decode cX5_doLaunch 7 = .ok (.iconst 1, 1) := by decide +kernel
theorem dX5_doLaunch_8 : decode cX5_doLaunch 8 = .ok (.isub, 1) := by decide +kernel
theorem dX5_doLaunch_9 : decode cX5_doLaunch 9 = .ok (.iastore, 1) := by decide +kernel
theorem dX5_doLaunch_10 : decode cX5_doLaunch 10 = .ok (.aload_n 0, 1) := by decide +kernel
theorem dX5_doLaunch_11 : decode cX5_doLaunch 11 = .ok (.getfield 7, 3) := by decide +kernel
theorem dX5_doLaunch_14 : decode cX5_doLaunch 14 = .ok (.iconst 3, 1) := by decide +kernel
theorem dX5_doLaunch_15 : decode cX5_doLaunch 15 = .ok (.dup2, 1) := by decide +kernel
theorem dX5_doLaunch_16 : decode cX5_doLaunch 16 = .ok (.iaload, 1) := by decide +kernel
theorem dX5_doLaunch_17 : decode cX5_doLaunch 17 = .ok (.iconst 1, 1) := by decide +kernel
theorem dX5_doLaunch_18 : decode cX5_doLaunch 18 = .ok (.iadd, 1) := by decide +kernel
theorem dX5_doLaunch_19 : decode cX5_doLaunch 19 = .ok (.iastore, 1) := by decide +kernel
theorem dX5_doLaunch_20 : decode cX5_doLaunch 20 = .ok (.aload_n 0, 1) := by decide +kernel
theorem dX5_doLaunch_21 : decode cX5_doLaunch 21 = .ok (.getfield 7, 3) := by decide +kernel
theorem dX5_doLaunch_24 : decode cX5_doLaunch 24 = .ok (.bipush 7, 2) := by decide +kernel
theorem dX5_doLaunch_26 : decode cX5_doLaunch 26 = .ok (.iaload, 1) := by decide +kernel
theorem dX5_doLaunch_27 : decode cX5_doLaunch 27 = .ok (.ifCond .le 17, 3) := by decide +kernel
theorem dX5_doLaunch_30 : decode cX5_doLaunch 30 = .ok (.aload_n 0, 1) := by decide +kernel
theorem dX5_doLaunch_31 : decode cX5_doLaunch 31 = .ok (.getfield 7, 3) := by decide +kernel
theorem dX5_doLaunch_34 : decode cX5_doLaunch 34 = .ok (.bipush 10, 2) := by decide +kernel
theorem dX5_doLaunch_36 : decode cX5_doLaunch 36 = .ok (.iaload, 1) := by decide +kernel
theorem dX5_doLaunch_37 : decode cX5_doLaunch 37 = .ok (.ifCond .ne 7, 3) := by decide +kernel
theorem dX5_doLaunch_40 : decode cX5_doLaunch 40 = .ok (.aload_n 0, 1) := by decide +kernel
theorem dX5_doLaunch_41 : decode cX5_doLaunch 41 = .ok (.invokevirtual 91, 3) := by decide +kernel
theorem dX5_doLaunch_44 : decode cX5_doLaunch 44 = .ok (.aload_n 0, 1) := by decide +kernel
theorem dX5_doLaunch_45 : decode cX5_doLaunch 45 = .ok (.iload_n 1, 1) := by decide +kernel
theorem dX5_doLaunch_46 : decode cX5_doLaunch 46 = .ok (.invokevirtual 94, 3) := by decide +kernel
theorem dX5_doLaunch_49 : decode cX5_doLaunch 49 = .ok (.istore_n 2, 1) := by decide +kernel
theorem dX5_doLaunch_50 : decode cX5_doLaunch 50 = .ok (.aload_n 0, 1) := by decide +kernel
theorem dX5_doLaunch_51 : decode cX5_doLaunch 51 = .ok (.iload_n 2, 1) := by decide +kernel
theorem dX5_doLaunch_52 : decode cX5_doLaunch 52 = .ok (.invokevirtual 97, 3) := by decide +kernel
theorem dX5_doLaunch_55 : decode cX5_doLaunch 55 = .ok (.istore_n 3, 1) := by decide +kernel
theorem dX5_doLaunch_56 : decode cX5_doLaunch 56 = .ok (.aload_n 0, 1) := by decide +kernel
theorem dX5_doLaunch_57 : decode cX5_doLaunch 57 = .ok (.getfield 7, 3) := by decide +kernel
theorem dX5_doLaunch_60 : decode cX5_doLaunch 60 = .ok (.bipush 7, 2) := by decide +kernel
theorem dX5_doLaunch_62 : decode cX5_doLaunch 62 = .ok (.dup2, 1) := by decide +kernel
theorem dX5_doLaunch_63 : decode cX5_doLaunch 63 = .ok (.iaload, 1) := by decide +kernel
theorem dX5_doLaunch_64 : decode cX5_doLaunch 64 = .ok (.iload_n 2, 1) := by decide +kernel
theorem dX5_doLaunch_65 : decode cX5_doLaunch 65 = .ok (.aload_n 0, 1) := by decide +kernel
theorem dX5_doLaunch_66 : decode cX5_doLaunch 66 = .ok (.getfield 7, 3) := by decide +kernel
theorem dX5_doLaunch_69 : decode cX5_doLaunch 69 = .ok (.bipush 13, 2) := by decide +kernel
theorem dX5_doLaunch_71 : decode cX5_doLaunch 71 = .ok (.iaload, 1) := by decide +kernel
theorem dX5_doLaunch_72 : decode cX5_doLaunch 72 = .ok (.if_icmp .ne 18, 3) := by decide +kernel
theorem dX5_doLaunch_75 : decode cX5_doLaunch 75 = .ok (.aload_n 0, 1) := by decide +kernel
theorem dX5_doLaunch_76 : decode cX5_doLaunch 76 = .ok (.getfield 7, 3) := by decide +kernel
theorem dX5_doLaunch_79 : decode cX5_doLaunch 79 = .ok (.bipush 7, 2) := by decide +kernel
theorem dX5_doLaunch_81 : decode cX5_doLaunch 81 = .ok (.iaload, 1) := by decide +kernel
theorem dX5_doLaunch_82 : decode cX5_doLaunch 82 = .ok (.iconst 4, 1) := by decide +kernel
theorem dX5_doLaunch_83 : decode cX5_doLaunch 83 = .ok (.if_icmp .ge 7, 3) := by decide +kernel
theorem dX5_doLaunch_86 : decode cX5_doLaunch 86 = .ok (.iconst 1, 1) := by decide +kernel
theorem dX5_doLaunch_87 : decode cX5_doLaunch 87 = .ok (.goto 4, 3) := by decide +kernel
theorem dX5_doLaunch_90 : decode cX5_doLaunch 90 = .ok (.iconst 0, 1) := by decide +kernel
theorem dX5_doLaunch_91 : decode cX5_doLaunch 91 = .ok (.iadd, 1) := by decide +kernel
theorem dX5_doLaunch_92 : decode cX5_doLaunch 92 = .ok (.iastore, 1) := by decide +kernel
theorem dX5_doLaunch_93 : decode cX5_doLaunch 93 = .ok (.iload_n 3, 1) := by decide +kernel
theorem dX5_doLaunch_94 : decode cX5_doLaunch 94 = .ok (.ireturn, 1) := by decide +kernel
theorem dX5_buy_0 : decode cX5_buy 0 = .ok (.aload_n 0, 1) := by decide +kernel
theorem dX5_buy_1 : decode cX5_buy 1 = .ok (.iload_n 1, 1) := by decide +kernel
theorem dX5_buy_2 : decode cX5_buy 2 = .ok (.iconst 1, 1) := by decide +kernel
theorem dX5_buy_3 : decode cX5_buy 3 = .ok (.bipush 99, 2) := by decide +kernel
theorem dX5_buy_5 : decode cX5_buy 5 = .ok (.invokestatic 39, 3) := by decide +kernel
theorem dX5_buy_8 : decode cX5_buy 8 = .ok (.ifCond .eq 7, 3) := by decide +kernel
theorem dX5_buy_11 : decode cX5_buy 11 = .ok (.iconst 0, 1) := by decide +kernel
theorem dX5_buy_12 : decode cX5_buy 12 = .ok (.goto 4, 3) := by decide +kernel
theorem dX5_buy_15 : decode cX5_buy 15 = .ok (.iconst 1, 1) := by decide +kernel
theorem dX5_buy_16 : decode cX5_buy 16 = .ok (.putfield 35, 3) := by decide +kernel
theorem dX5_buy_19 : decode cX5_buy 19 = .ok (.aload_n 0, 1) := by decide +kernel
theorem dX5_buy_20 : decode cX5_buy 20 = .ok (.getfield 35, 3) := by decide +kernel
theorem dX5_buy_23 : decode cX5_buy 23 = .ok (.ifCond .le 5, 3) := by decide +kernel
theorem dX5_buy_26 : decode cX5_buy 26 = .ok (.iconst 0, 1) := by decide +kernel
theorem dX5_buy_27 : decode cX5_buy 27 = .ok (.ireturn, 1) := by decide +kernel
theorem dX5_buy_28 : decode cX5_buy 28 = .ok (.aload_n 0, 1) := by decide +kernel
theorem dX5_buy_29 : decode cX5_buy 29 = .ok (.invokevirtual 50, 3) := by decide +kernel
theorem dX5_buy_32 : decode cX5_buy 32 = .ok (.aload_n 0, 1) := by decide +kernel
theorem dX5_buy_33 : decode cX5_buy 33 = .ok (.iload_n 1, 1) := by decide +kernel
theorem dX5_buy_34 : decode cX5_buy 34 = .ok (.invokevirtual 100, 3) := by decide +kernel
theorem dX5_buy_37 : decode cX5_buy 37 = .ok (.ireturn, 1) := by decide +kernel
theorem dX5_doBuy_0 : decode cX5_doBuy 0 = .ok (.aload_n 0, 1) := by decide +kernel
theorem dX5_doBuy_1 : decode cX5_doBuy 1 = .ok (.getfield 7, 3) := by decide +kernel
theorem dX5_doBuy_4 : decode cX5_doBuy 4 = .ok (.iconst 1, 1) := by decide +kernel
theorem dX5_doBuy_5 : decode cX5_doBuy 5 = .ok (.dup2, 1) := by decide +kernel
theorem dX5_doBuy_6 : decode cX5_doBuy 6 = .ok (.iaload, 1) := by decide +kernel
theorem dX5_doBuy_7 : decode cX5_doBuy 7 = .ok (.iload_n 1, 1) := by decide +kernel
theorem dX5_doBuy_8 : decode cX5_doBuy 8 = .ok (.iadd, 1) := by decide +kernel
theorem dX5_doBuy_9 : decode cX5_doBuy 9 = .ok (.iastore, 1) := by decide +kernel
theorem dX5_doBuy_10 : decode cX5_doBuy 10 = .ok (.aload_n 0, 1) := by decide +kernel
theorem dX5_doBuy_11 : decode cX5_doBuy 11 = .ok (.getfield 7, 3) := by decide +kernel
theorem dX5_doBuy_14 : decode cX5_doBuy 14 = .ok (.iconst 2, 1) := by decide +kernel
theorem dX5_doBuy_15 : decode cX5_doBuy 15 = .ok (.dup2, 1) := by decide +kernel
theorem dX5_doBuy_16 : decode cX5_doBuy 16 = .ok (.iaload, 1) := by decide +kernel
theorem dX5_doBuy_17 : decode cX5_doBuy 17 = .ok (.iload_n 1, 1) := by decide +kernel
theorem dX5_doBuy_18 : decode cX5_doBuy 18 = .ok (.iadd, 1) := by decide +kernel
theorem dX5_doBuy_19 : decode cX5_doBuy 19 = .ok (.iastore, 1) := by decide +kernel
theorem dX5_doBuy_20 : decode cX5_doBuy 20 = .ok (.aload_n 0, 1) := by decide +kernel
theorem dX5_doBuy_21 : decode cX5_doBuy 21 = .ok (.getfield 7, 3) := by decide +kernel
theorem dX5_doBuy_24 : decode cX5_doBuy 24 = .ok (.iconst 1, 1) := by decide +kernel
theorem dX5_doBuy_25 : decode cX5_doBuy 25 = .ok (.iaload, 1) := by decide +kernel
theorem dX5_doBuy_26 : decode cX5_doBuy 26 = .ok (.ireturn, 1) := by decide +kernel
theorem dX5_launch_0 : decode cX5_launch 0 = .ok (.aload_n 0, 1) := by decide +kernel
theorem dX5_launch_1 : decode cX5_launch 1 = .ok (.iload_n 1, 1) := by decide +kernel
theorem dX5_launch_2 : decode cX5_launch 2 = .ok (.invokestatic 61, 3) := by decide +kernel
theorem dX5_launch_5 : decode cX5_launch 5 = .ok (.ifCond .ne 7, 3) := by decide +kernel
theorem dX5_launch_8 : decode cX5_launch 8 = .ok (.iconst 1, 1) := by decide +kernel
theorem dX5_launch_9 : decode cX5_launch 9 = .ok (.goto 17, 3) := by decide +kernel
theorem dX5_launch_12 : decode cX5_launch 12 = .ok (.aload_n 0, 1) := by decide +kernel
theorem dX5_launch_13 : decode cX5_launch 13 = .ok (.getfield 7, 3) := by decide +kernel
theorem dX5_launch_16 : decode cX5_launch 16 = .ok (.iconst 1, 1) := by decide +kernel
theorem dX5_launch_17 : decode cX5_launch 17 = .ok (.iaload, 1) := by decide +kernel
theorem dX5_launch_18 : decode cX5_launch 18 = .ok (.ifCond .ne 7, 3) := by decide +kernel
theorem dX5_launch_21 : decode cX5_launch 21 = .ok (.iconst 2, 1) := by decide +kernel
theorem dX5_launch_22 : decode cX5_launch 22 = .ok (.goto 4, 3) := by decide +kernel
theorem dX5_launch_25 : decode cX5_launch 25 = .ok (.iconst 0, 1) := by decide +kernel
theorem dX5_launch_26 : decode cX5_launch 26 = .ok (.putfield 35, 3) := by decide +kernel
theorem dX5_launch_29 : decode cX5_launch 29 = .ok (.aload_n 0, 1) := by decide +kernel
theorem dX5_launch_30 : decode cX5_launch 30 = .ok (.getfield 35, 3) := by decide +kernel
theorem dX5_launch_33 : decode cX5_launch 33 = .ok (.ifCond .le 5, 3) := by decide +kernel
theorem dX5_launch_36 : decode cX5_launch 36 = .ok (.iconst 0, 1) := by decide +kernel
theorem dX5_launch_37 : decode cX5_launch 37 = .ok (.ireturn, 1) := by decide +kernel
theorem dX5_launch_38 : decode cX5_launch 38 = .ok (.aload_n 0, 1) := by decide +kernel
theorem dX5_launch_39 : decode cX5_launch 39 = .ok (.invokevirtual 50, 3) := by decide +kernel
theorem dX5_launch_42 : decode cX5_launch 42 = .ok (.aload_n 0, 1) := by decide +kernel
theorem dX5_launch_43 : decode cX5_launch 43 = .ok (.iload_n 1, 1) := by decide +kernel
theorem dX5_launch_44 : decode cX5_launch 44 = .ok (.invokevirtual 103, 3) := by decide +kernel
theorem dX5_launch_47 : decode cX5_launch 47 = .ok (.pop, 1) := by decide +kernel
theorem dX5_launch_48 : decode cX5_launch 48 = .ok (.aload_n 0, 1) := by decide +kernel
theorem dX5_launch_49 : decode cX5_launch 49 = .ok (.getfield 7, 3) := by decide +kernel
theorem dX5_launch_52 : decode cX5_launch 52 = .ok (.bipush 12, 2) := by decide +kernel
theorem dX5_launch_54 : decode cX5_launch 54 = .ok (.iaload, 1) := by decide +kernel
theorem dX5_launch_55 : decode cX5_launch 55 = .ok (.ireturn, 1) := by decide +kernel
theorem dX5_doPlay_0 : decode cX5_doPlay 0 = .ok (.iconst 0, 1) := by decide +kernel
theorem dX5_doPlay_1 : decode cX5_doPlay 1 = .ok (.istore_n 3, 1) := by decide +kernel
theorem dX5_doPlay_2 : decode cX5_doPlay 2 = .ok (.iconst 0, 1) := by decide +kernel
theorem dX5_doPlay_3 : decode cX5_doPlay 3 = .ok (.istore 4, 2) := by decide +kernel
theorem dX5_doPlay_5 : decode cX5_doPlay 5 = .ok (.iload 4, 2) := by decide +kernel
theorem dX5_doPlay_7 : decode cX5_doPlay 7 = .ok (.iload_n 2, 1) := by decide +kernel
theorem dX5_doPlay_8 : decode cX5_doPlay 8 = .ok (.if_icmp .ge 26, 3) := by decide +kernel
theorem dX5_doPlay_11 : decode cX5_doPlay 11 = .ok (.aload_n 0, 1) := by decide +kernel
theorem dX5_doPlay_12 : decode cX5_doPlay 12 = .ok (.getfield 7, 3) := by decide +kernel
theorem dX5_doPlay_15 : decode cX5_doPlay 15 = .ok (.iconst 1, 1) := by decide +kernel
theorem dX5_doPlay_16 : decode cX5_doPlay 16 = .ok (.iaload, 1) := by decide +kernel
theorem dX5_doPlay_17 : decode cX5_doPlay 17 = .ok (.ifCond .le 17, 3) := by decide +kernel
theorem dX5_doPlay_20 : decode cX5_doPlay 20 = .ok (.iload_n 3, 1) := by decide +kernel
theorem dX5_doPlay_21 : decode cX5_doPlay 21 = .ok (.aload_n 0, 1) := by decide +kernel
theorem dX5_doPlay_22 : decode cX5_doPlay 22 = .ok (.iload_n 1, 1) := by decide +kernel
theorem dX5_doPlay_23 : decode cX5_doPlay 23 = .ok (.invokevirtual 103, 3) := by decide +kernel
theorem dX5_doPlay_26 : decode cX5_doPlay 26 = .ok (.iadd, 1) := by decide +kernel
theorem dX5_doPlay_27 : decode cX5_doPlay 27 = .ok (.istore_n 3, 1) := by decide +kernel
theorem dX5_doPlay_28 : decode cX5_doPlay 28 = .ok (.iinc 4 1, 3) := by decide +kernel
theorem dX5_doPlay_31 : decode cX5_doPlay 31 = .ok (.goto (-26), 3) := by decide +kernel
theorem dX5_doPlay_34 : decode cX5_doPlay 34 = .ok (.iload_n 3, 1) := by decide +kernel
theorem dX5_doPlay_35 : decode cX5_doPlay 35 = .ok (.ireturn, 1) := by decide +kernel
theorem dX5_play_0 : decode cX5_play 0 = .ok (.aload_n 0, 1) := by decide +kernel
theorem dX5_play_1 : decode cX5_play 1 = .ok (.iload_n 1, 1) := by decide +kernel
theorem dX5_play_2 : decode cX5_play 2 = .ok (.invokestatic 61, 3) := by decide +kernel
theorem dX5_play_5 : decode cX5_play 5 = .ok (.ifCond .ne 7, 3) := by decide +kernel
theorem dX5_play_8 : decode cX5_play 8 = .ok (.iconst 1, 1) := by decide +kernel
theorem dX5_play_9 : decode cX5_play 9 = .ok (.goto 18, 3) := by decide +kernel
theorem dX5_play_12 : decode cX5_play 12 = .ok (.iload_n 2, 1) := by decide +kernel
theorem dX5_play_13 : decode cX5_play 13 = .ok (.iconst 1, 1) := by decide +kernel
theorem dX5_play_14 : decode cX5_play 14 = .ok (.bipush 30, 2) := by decide +kernel
theorem dX5_play_16 : decode cX5_play 16 = .ok (.invokestatic 39, 3) := by decide +kernel
theorem dX5_play_19 : decode cX5_play 19 = .ok (.ifCond .eq 7, 3) := by decide +kernel
theorem dX5_play_22 : decode cX5_play 22 = .ok (.iconst 0, 1) := by decide +kernel
theorem dX5_play_23 : decode cX5_play 23 = .ok (.goto 4, 3) := by decide +kernel
theorem dX5_play_26 : decode cX5_play 26 = .ok (.iconst 2, 1) := by decide +kernel
theorem dX5_play_27 : decode cX5_play 27 = .ok (.putfield 35, 3) := by decide +kernel
theorem dX5_play_30 : decode cX5_play 30 = .ok (.aload_n 0, 1) := by decide +kernel
theorem dX5_play_31 : decode cX5_play 31 = .ok (.getfield 35, 3) := by decide +kernel
theorem dX5_play_34 : decode cX5_play 34 = .ok (.ifCond .le 5, 3) := by decide +kernel
theorem dX5_play_37 : decode cX5_play 37 = .ok (.iconst 0, 1) := by decide +kernel
theorem dX5_play_38 : decode cX5_play 38 = .ok (.ireturn, 1) := by decide +kernel
theorem dX5_play_39 : decode cX5_play 39 = .ok (.aload_n 0, 1) := by decide +kernel
theorem dX5_play_40 : decode cX5_play 40 = .ok (.invokevirtual 50, 3) := by decide +kernel
theorem dX5_play_43 : decode cX5_play 43 = .ok (.aload_n 0, 1) := by decide +kernel
theorem dX5_play_44 : decode cX5_play 44 = .ok (.iload_n 1, 1) := by decide +kernel
theorem dX5_play_45 : decode cX5_play 45 = .ok (.iload_n 2, 1) := by decide +kernel
theorem dX5_play_46 : decode cX5_play 46 = .ok (.invokevirtual 106, 3) := by decide +kernel
theorem dX5_play_49 : decode cX5_play 49 = .ok (.ireturn, 1) := by decide +kernel
theorem dX5_append_0 : decode cX5_append 0 = .ok (.aload_n 0, 1) := by decide +kernel
theorem dX5_append_1 : decode cX5_append 1 = .ok (.iload_n 1, 1) := by decide +kernel
theorem dX5_append_2 : decode cX5_append 2 = .ok (.bipush 33, 2) := by decide +kernel
theorem dX5_append_4 : decode cX5_append 4 = .ok (.bipush 126, 2) := by decide +kernel
theorem dX5_append_6 : decode cX5_append 6 = .ok (.invokestatic 39, 3) := by decide +kernel
theorem dX5_append_9 : decode cX5_append 9 = .ok (.ifCond .ne 7, 3) := by decide +kernel
theorem dX5_append_12 : decode cX5_append 12 = .ok (.iconst 1, 1) := by decide +kernel
theorem dX5_append_13 : decode cX5_append 13 = .ok (.goto 17, 3) := by decide +kernel
theorem dX5_append_16 : decode cX5_append 16 = .ok (.aload_n 0, 1) := by decide +kernel
theorem dX5_append_17 : decode cX5_append 17 = .ok (.getfield 109, 3) := by decide +kernel
theorem dX5_append_20 : decode cX5_append 20 = .ok (.bipush 60, 2) := by decide +kernel
theorem dX5_append_22 : decode cX5_append 22 = .ok (.if_icmp .ne 7, 3) := by decide +kernel
theorem dX5_append_25 : decode cX5_append 25 = .ok (.iconst 2, 1) := by decide +kernel
theorem dX5_append_26 : decode cX5_append 26 = .ok (.goto 4, 3) := by decide +kernel
theorem dX5_append_29 : decode cX5_append 29 = .ok (.iconst 0, 1) := by decide +kernel
theorem dX5_append_30 : decode cX5_append 30 = .ok (.putfield 35, 3) := by decide +kernel
theorem dX5_append_33 : decode cX5_append 33 = .ok (.aload_n 0, 1) := by decide +kernel
theorem dX5_append_34 : decode cX5_append 34 = .ok (.getfield 35, 3) := by decide +kernel
theorem dX5_append_37 : decode cX5_append 37 = .ok (.ifCond .le 5, 3) := by decide +kernel
theorem dX5_append_40 : decode cX5_append 40 = .ok (.iconst 0, 1) := by decide +kernel
theorem dX5_append_41 : decode cX5_append 41 = .ok (.ireturn, 1) := by decide +kernel
theorem dX5_append_42 : decode cX5_append 42 = .ok (.aload_n 0, 1) := by decide +kernel
theorem dX5_append_43 : decode cX5_append 43 = .ok (.getfield 22, 3) := by decide +kernel
theorem dX5_append_46 : decode cX5_append 46 = .ok (.aload_n 0, 1) := by decide +kernel
theorem dX5_append_47 : decode cX5_append 47 = .ok (.getfield 109, 3) := by decide +kernel
theorem dX5_append_50 : decode cX5_append 50 = .ok (.iload_n 1, 1) := by decide +kernel
theorem dX5_append_51 : decode cX5_append 51 = .ok (.iastore, 1) := by decide +kernel
theorem dX5_append_52 : decode cX5_append 52 = .ok (.aload_n 0, 1) := by decide +kernel
theorem dX5_append_53 : decode cX5_append 53 = .ok (.dup, 1) := by decide +kernel
theorem dX5_append_54 : decode cX5_append 54 = .ok (.getfield 109, 3) := by decide +kernel
theorem dX5_append_57 : decode cX5_append 57 = .ok (.iconst 1, 1) := by decide +kernel
theorem dX5_append_58 : decode cX5_append 58 = .ok (.iadd, 1) := by decide +kernel
theorem dX5_append_59 : decode cX5_append 59 = .ok (.putfield 109, 3) := by decide +kernel
theorem dX5_append_62 : decode cX5_append 62 = .ok (.aload_n 0, 1) := by decide +kernel
theorem dX5_append_63 : decode cX5_append 63 = .ok (.getfield 109, 3) := by decide +kernel
theorem dX5_append_66 : decode cX5_append 66 = .ok (.ireturn, 1) := by decide +kernel
theorem dX5_clearBuffer_0 : decode cX5_clearBuffer 0 = .ok (.aload_n 0, 1) := by decide +kernel
theorem dX5_clearBuffer_1 : decode cX5_clearBuffer 1 = .ok (.iconst 0, 1) := by decide +kernel
theorem dX5_clearBuffer_2 : decode cX5_clearBuffer 2 = .ok (.putfield 35, 3) := by decide +kernel
theorem dX5_clearBuffer_5 : decode cX5_clearBuffer 5 = .ok (.aload_n 0, 1) := by decide +kernel
theorem dX5_clearBuffer_6 : decode cX5_clearBuffer 6 = .ok (.getfield 109, 3) := by decide +kernel
theorem dX5_clearBuffer_9 : decode cX5_clearBuffer 9 = .ok (.istore_n 1, 1) := by decide +kernel
theorem dX5_clearBuffer_10 : decode cX5_clearBuffer 10 = .ok (.aload_n 0, 1) := by decide +kernel
theorem dX5_clearBuffer_11 : decode cX5_clearBuffer 11 = .ok (.iconst 0, 1) := by decide +kernel
theorem dX5_clearBuffer_12 : decode cX5_clearBuffer 12 = .ok (.putfield 109, 3) := by decide +kernel
theorem dX5_clearBuffer_15 : decode cX5_clearBuffer 15 = .ok (.iload_n 1, 1) := by decide +kernel
theorem dX5_clearBuffer_16 : decode cX5_clearBuffer 16 = .ok (.ireturn, 1) := by decide +kernel
theorem dX5_at_0 : decode cX5_at 0 = .ok (.iload_n 1, 1) := by decide +kernel
theorem dX5_at_1 : decode cX5_at 1 = .ok (.aload_n 0, 1) := by decide +kernel
theorem dX5_at_2 : decode cX5_at 2 = .ok (.getfield 109, 3) := by decide +kernel
theorem dX5_at_5 : decode cX5_at 5 = .ok (.if_icmp .ge 12, 3) := by decide +kernel
theorem dX5_at_8 : decode cX5_at 8 = .ok (.aload_n 0, 1) := by decide +kernel
theorem dX5_at_9 : decode cX5_at 9 = .ok (.getfield 22, 3) := by decide +kernel
theorem dX5_at_12 : decode cX5_at 12 = .ok (.iload_n 1, 1) := by decide +kernel
theorem dX5_at_13 : decode cX5_at 13 = .ok (.iaload, 1) := by decide +kernel
theorem dX5_at_14 : decode cX5_at 14 = .ok (.goto 4, 3) := by decide +kernel
theorem dX5_at_17 : decode cX5_at 17 = .ok (.iconst 0, 1) := by decide +kernel
theorem dX5_at_18 : decode cX5_at 18 = .ok (.ireturn, 1) := by decide +kernel
theorem dX5_readNumber_0 : decode cX5_readNumber 0 = .ok (.iload_n 1, 1) := by decide +kernel
theorem dX5_readNumber_1 : decode cX5_readNumber 1 = .ok (.istore_n 3, 1) := by decide +kernel
theorem dX5_readNumber_2 : decode cX5_readNumber 2 = .ok (.aload_n 0, 1) := by decide +kernel
theorem dX5_readNumber_3 : decode cX5_readNumber 3 = .ok (.iconst 0, 1) := by decide +kernel
theorem dX5_readNumber_4 : decode cX5_readNumber 4 = .ok (.putfield 112, 3) := by decide +kernel
theorem dX5_readNumber_7 : decode cX5_readNumber 7 = .ok (.aload_n 0, 1) := by decide +kernel
theorem dX5_readNumber_8 : decode cX5_readNumber 8 = .ok (.iload_n 3, 1) := by decide +kernel
theorem dX5_readNumber_9 : decode cX5_readNumber 9 = .ok (.invokevirtual 115, 3) := by decide +kernel
theorem dX5_readNumber_12 : decode cX5_readNumber 12 = .ok (.aload_n 0, 1) := by decide +kernel
theorem dX5_readNumber_13 : decode cX5_readNumber 13 = .ok (.getfield 112, 3) := by decide +kernel
theorem dX5_readNumber_16 : decode cX5_readNumber 16 = .ok (.ifCond .ne 8, 3) := by decide +kernel
theorem dX5_readNumber_19 : decode cX5_readNumber 19 = .ok (.bipush 49, 2) := by decide +kernel
theorem dX5_readNumber_21 : decode cX5_readNumber 21 = .ok (.goto 5, 3) := by decide +kernel
theorem dX5_readNumber_24 : decode cX5_readNumber 24 = .ok (.bipush 48, 2) := by decide +kernel
theorem dX5_readNumber_26 : decode cX5_readNumber 26 = .ok (.bipush 57, 2) := by decide +kernel
theorem dX5_readNumber_28 : decode cX5_readNumber 28 = .ok (.invokestatic 39, 3) := by decide +kernel
theorem dX5_readNumber_31 : decode cX5_readNumber 31 = .ok (.ifCond .eq 49, 3) := by decide +kernel
theorem dX5_readNumber_34 : decode cX5_readNumber 34 = .ok (.bipush 10, 2) := by decide +kernel
theorem dX5_readNumber_36 : decode cX5_readNumber 36 = .ok (.aload_n 0, 1) := by decide +kernel
theorem dX5_readNumber_37 : decode cX5_readNumber 37 = .ok (.getfield 112, 3) := by decide +kernel
theorem dX5_readNumber_40 : decode cX5_readNumber 40 = .ok (.imul, 1) := by decide +kernel
theorem dX5_readNumber_41 : decode cX5_readNumber 41 = .ok (.aload_n 0, 1) := by decide +kernel
theorem dX5_readNumber_42 : decode cX5_readNumber 42 = .ok (.iload_n 3, 1) := by decide +kernel
theorem dX5_readNumber_43 : decode cX5_readNumber 43 = .ok (.invokevirtual 115, 3) := by decide +kernel
theorem dX5_readNumber_46 : decode cX5_readNumber 46 = .ok (.iadd, 1) := by decide +kernel
theorem dX5_readNumber_47 : decode cX5_readNumber 47 = .ok (.bipush 48, 2) := by decide +kernel
theorem dX5_readNumber_49 : decode cX5_readNumber 49 = .ok (.isub, 1) := by decide +kernel
theorem dX5_readNumber_50 : decode cX5_readNumber 50 = .ok (.iload_n 2, 1) := by decide +kernel
theorem dX5_readNumber_51 : decode cX5_readNumber 51 = .ok (.if_icmp .gt 29, 3) := by decide +kernel
theorem dX5_readNumber_54 : decode cX5_readNumber 54 = .ok (.aload_n 0, 1) := by decide +kernel
theorem dX5_readNumber_55 : decode cX5_readNumber 55 = .ok (.bipush 10, 2) := by decide +kernel
theorem dX5_readNumber_57 : decode cX5_readNumber 57 = .ok (.aload_n 0, 1) := by decide +kernel
theorem dX5_readNumber_58 : decode cX5_readNumber 58 = .ok (.getfield 112, 3) := by decide +kernel
theorem dX5_readNumber_61 : decode cX5_readNumber 61 = .ok (.imul, 1) := by decide +kernel
theorem dX5_readNumber_62 : decode cX5_readNumber 62 = .ok (.aload_n 0, 1) := by decide +kernel
theorem dX5_readNumber_63 : decode cX5_readNumber 63 = .ok (.iload_n 3, 1) := by decide +kernel
theorem dX5_readNumber_64 : decode cX5_readNumber 64 = .ok (.invokevirtual 115, 3) := by decide +kernel
theorem dX5_readNumber_67 : decode cX5_readNumber 67 = .ok (.iadd, 1) := by decide +kernel
theorem dX5_readNumber_68 : decode cX5_readNumber 68 = .ok (.bipush 48, 2) := by decide +kernel
theorem dX5_readNumber_70 : decode cX5_readNumber 70 = .ok (.isub, 1) := by decide +kernel
theorem dX5_readNumber_71 : decode cX5_readNumber 71 = .ok (.putfield 112, 3) := by decide +kernel
theorem dX5_readNumber_74 : decode cX5_readNumber 74 = .ok (.iinc 3 1, 3) := by decide +kernel
theorem dX5_readNumber_77 : decode cX5_readNumber 77 = .ok (.goto (-70), 3) := by decide +kernel
theorem dX5_readNumber_80 : decode cX5_readNumber 80 = .ok (.aload_n 0, 1) := by decide +kernel
theorem dX5_readNumber_81 : decode cX5_readNumber 81 = .ok (.getfield 112, 3) := by decide +kernel
theorem dX5_readNumber_84 : decode cX5_readNumber 84 = .ok (.ifCond .ne 9, 3) := by decide +kernel
theorem dX5_readNumber_87 : decode cX5_readNumber 87 = .ok (.iconst (-1), 1) := by decide +kernel
theorem dX5_readNumber_88 : decode cX5_readNumber 88 = .ok (.iload_n 3, 1) := by decide +kernel
theorem dX5_readNumber_89 : decode cX5_readNumber 89 = .ok (.isub, 1) := by decide +kernel
theorem dX5_readNumber_90 : decode cX5_readNumber 90 = .ok (.goto 4, 3) := by decide +kernel
theorem dX5_readNumber_93 : decode cX5_readNumber 93 = .ok (.iload_n 3, 1) := by decide +kernel
theorem dX5_readNumber_94 : decode cX5_readNumber 94 = .ok (.ireturn, 1) := by decide +kernel
theorem dX5_readPart_0 : decode cX5_readPart 0 = .ok (.aload_n 0, 1) := by decide +kernel
theorem dX5_readPart_1 : decode cX5_readPart 1 = .ok (.aload_n 0, 1) := by decide +kernel
theorem dX5_readPart_2 : decode cX5_readPart 2 = .ok (.iload_n 1, 1) := by decide +kernel
theorem dX5_readPart_3 : decode cX5_readPart 3 = .ok (.invokevirtual 115, 3) := by decide +kernel
theorem dX5_readPart_6 : decode cX5_readPart 6 = .ok (.putfield 118, 3) := by decide +kernel
theorem dX5_readPart_9 : decode cX5_readPart 9 = .ok (.aload_n 0, 1) := by decide +kernel
theorem dX5_readPart_10 : decode cX5_readPart 10 = .ok (.getfield 118, 3) := by decide +kernel
theorem dX5_readPart_13 : decode cX5_readPart 13 = .ok (.bipush 36, 2) := by decide +kernel
theorem dX5_readPart_15 : decode cX5_readPart 15 = .ok (.if_icmp .ne 13, 3) := by decide +kernel
theorem dX5_readPart_18 : decode cX5_readPart 18 = .ok (.aload_n 0, 1) := by decide +kernel
theorem dX5_readPart_19 : decode cX5_readPart 19 = .ok (.iload_n 1, 1) := by decide +kernel
theorem dX5_readPart_20 : decode cX5_readPart 20 = .ok (.iconst 1, 1) := by decide +kernel
theorem dX5_readPart_21 : decode cX5_readPart 21 = .ok (.iadd, 1) := by decide +kernel
theorem dX5_readPart_22 : decode cX5_readPart 22 = .ok (.bipush 99, 2) := by decide +kernel
theorem dX5_readPart_24 : decode cX5_readPart 24 = .ok (.invokevirtual 121, 3) := by decide +kernel
theorem dX5_readPart_27 : decode cX5_readPart 27 = .ok (.ireturn, 1) := by decide +kernel
theorem dX5_readPart_28 : decode cX5_readPart 28 = .ok (.aload_n 0, 1) := by decide +kernel
theorem dX5_readPart_29 : decode cX5_readPart 29 = .ok (.aload_n 0, 1) := by decide +kernel
theorem dX5_readPart_30 : decode cX5_readPart 30 = .ok (.iload_n 1, 1) := by decide +kernel
theorem dX5_readPart_31 : decode cX5_readPart 31 = .ok (.iconst 1, 1) := by decide +kernel
theorem dX5_readPart_32 : decode cX5_readPart 32 = .ok (.iadd, 1) := by decide +kernel
theorem dX5_readPart_33 : decode cX5_readPart 33 = .ok (.invokevirtual 115, 3) := by decide +kernel
theorem dX5_readPart_36 : decode cX5_readPart 36 = .ok (.bipush 48, 2) := by decide +kernel
theorem dX5_readPart_38 : decode cX5_readPart 38 = .ok (.isub, 1) := by decide +kernel
theorem dX5_readPart_39 : decode cX5_readPart 39 = .ok (.putfield 124, 3) := by decide +kernel
theorem dX5_readPart_42 : decode cX5_readPart 42 = .ok (.aload_n 0, 1) := by decide +kernel
theorem dX5_readPart_43 : decode cX5_readPart 43 = .ok (.getfield 118, 3) := by decide +kernel
theorem dX5_readPart_46 : decode cX5_readPart 46 = .ok (.bipush 108, 2) := by decide +kernel
theorem dX5_readPart_48 : decode cX5_readPart 48 = .ok (.if_icmp .ne 47, 3) := by decide +kernel
theorem dX5_readPart_51 : decode cX5_readPart 51 = .ok (.aload_n 0, 1) := by decide +kernel
theorem dX5_readPart_52 : decode cX5_readPart 52 = .ok (.getfield 124, 3) := by decide +kernel
theorem dX5_readPart_55 : decode cX5_readPart 55 = .ok (.invokestatic 61, 3) := by decide +kernel
theorem dX5_readPart_58 : decode cX5_readPart 58 = .ok (.ifCond .ne 8, 3) := by decide +kernel
theorem dX5_readPart_61 : decode cX5_readPart 61 = .ok (.bipush (-2), 2) := by decide +kernel
theorem dX5_readPart_63 : decode cX5_readPart 63 = .ok (.iload_n 1, 1) := by decide +kernel
theorem dX5_readPart_64 : decode cX5_readPart 64 = .ok (.isub, 1) := by decide +kernel
theorem dX5_readPart_65 : decode cX5_readPart 65 = .ok (.ireturn, 1) := by decide +kernel
theorem dX5_readPart_66 : decode cX5_readPart 66 = .ok (.aload_n 0, 1) := by decide +kernel
theorem dX5_readPart_67 : decode cX5_readPart 67 = .ok (.iload_n 1, 1) := by decide +kernel
theorem dX5_readPart_68 : decode cX5_readPart 68 = .ok (.iconst 2, 1) := by decide +kernel
theorem dX5_readPart_69 : decode cX5_readPart 69 = .ok (.iadd, 1) := by decide +kernel
theorem dX5_readPart_70 : decode cX5_readPart 70 = .ok (.invokevirtual 115, 3) := by decide +kernel
theorem dX5_readPart_73 : decode cX5_readPart 73 = .ok (.bipush 120, 2) := by decide +kernel
theorem dX5_readPart_75 : decode cX5_readPart 75 = .ok (.if_icmp .ne 15, 3) := by decide +kernel
theorem dX5_readPart_78 : decode cX5_readPart 78 = .ok (.aload_n 0, 1) := by decide +kernel
theorem dX5_readPart_79 : decode cX5_readPart 79 = .ok (.iload_n 1, 1) := by decide +kernel
theorem dX5_readPart_80 : decode cX5_readPart 80 = .ok (.iconst 3, 1) := by decide +kernel
theorem dX5_readPart_81 : decode cX5_readPart 81 = .ok (.iadd, 1) := by decide +kernel
theorem dX5_readPart_82 : decode cX5_readPart 82 = .ok (.bipush 30, 2) := by decide +kernel
theorem dX5_readPart_84 : decode cX5_readPart 84 = .ok (.invokevirtual 121, 3) := by decide +kernel
theorem dX5_readPart_87 : decode cX5_readPart 87 = .ok (.goto 7, 3) := by decide +kernel
theorem dX5_readPart_90 : decode cX5_readPart 90 = .ok (.bipush (-3), 2) := by decide +kernel
theorem dX5_readPart_92 : decode cX5_readPart 92 = .ok (.iload_n 1, 1) := by decide +kernel
theorem dX5_readPart_93 : decode cX5_readPart 93 = .ok (.isub, 1) := by decide +kernel
theorem dX5_readPart_94 : decode cX5_readPart 94 = .ok (.ireturn, 1) := by decide +kernel
theorem dX5_readPart_95 : decode cX5_readPart 95 = .ok (.aload_n 0, 1) := by decide +kernel
theorem dX5_readPart_96 : decode cX5_readPart 96 = .ok (.getfield 118, 3) := by decide +kernel
theorem dX5_readPart_99 : decode cX5_readPart 99 = .ok (.bipush 98, 2) := by decide +kernel
theorem dX5_readPart_101 : decode cX5_readPart 101 = .ok (.if_icmp .eq 7, 3) := by decide +kernel
theorem dX5_readPart_104 : decode cX5_readPart 104 = .ok (.iconst (-1), 1) := by decide +kernel
theorem dX5_readPart_105 : decode cX5_readPart 105 = .ok (.iload_n 1, 1) := by decide +kernel
theorem dX5_readPart_106 : decode cX5_readPart 106 = .ok (.isub, 1) := by decide +kernel
theorem dX5_readPart_107 : decode cX5_readPart 107 = .ok (.ireturn, 1) := by decide +kernel
theorem dX5_readPart_108 : decode cX5_readPart 108 = .ok (.aload_n 0, 1) := by decide +kernel
theorem dX5_readPart_109 : decode cX5_readPart 109 = .ok (.getfield 124, 3) := by decide +kernel
theorem dX5_readPart_112 : decode cX5_readPart 112 = .ok (.invokestatic 57, 3) := by decide +kernel
theorem dX5_readPart_115 : decode cX5_readPart 115 = .ok (.ifCond .ne 8, 3) := by decide +kernel
theorem dX5_readPart_118 : decode cX5_readPart 118 = .ok (.bipush (-2), 2) := by decide +kernel
theorem dX5_readPart_120 : decode cX5_readPart 120 = .ok (.iload_n 1, 1) := by decide +kernel
theorem dX5_readPart_121 : decode cX5_readPart 121 = .ok (.isub, 1) := by decide +kernel
theorem dX5_readPart_122 : decode cX5_readPart 122 = .ok (.ireturn, 1) := by decide +kernel
theorem dX5_readPart_123 : decode cX5_readPart 123 = .ok (.aload_n 0, 1) := by decide +kernel
theorem dX5_readPart_124 : decode cX5_readPart 124 = .ok (.aload_n 0, 1) := by decide +kernel
theorem dX5_readPart_125 : decode cX5_readPart 125 = .ok (.iload_n 1, 1) := by decide +kernel
theorem dX5_readPart_126 : decode cX5_readPart 126 = .ok (.iconst 2, 1) := by decide +kernel
theorem dX5_readPart_127 : decode cX5_readPart 127 = .ok (.iadd, 1) := by decide +kernel
theorem dX5_readPart_128 : decode cX5_readPart 128 = .ok (.invokevirtual 115, 3) := by decide +kernel
theorem dX5_readPart_131 : decode cX5_readPart 131 = .ok (.bipush 48, 2) := by decide +kernel
theorem dX5_readPart_133 : decode cX5_readPart 133 = .ok (.isub, 1) := by decide +kernel
theorem dX5_readPart_134 : decode cX5_readPart 134 = .ok (.putfield 112, 3) := by decide +kernel
theorem dX5_readPart_137 : decode cX5_readPart 137 = .ok (.aload_n 0, 1) := by decide +kernel
theorem dX5_readPart_138 : decode cX5_readPart 138 = .ok (.getfield 112, 3) := by decide +kernel
theorem dX5_readPart_141 : decode cX5_readPart 141 = .ok (.invokestatic 61, 3) := by decide +kernel
theorem dX5_readPart_144 : decode cX5_readPart 144 = .ok (.ifCond .ne 8, 3) := by decide +kernel
theorem dX5_readPart_147 : decode cX5_readPart 147 = .ok (.bipush (-3), 2) := by decide +kernel
theorem dX5_readPart_149 : decode cX5_readPart 149 = .ok (.iload_n 1, 1) := by decide +kernel
theorem dX5_readPart_150 : decode cX5_readPart 150 = .ok (.isub, 1) := by decide +kernel
theorem dX5_readPart_151 : decode cX5_readPart 151 = .ok (.ireturn, 1) := by decide +kernel
theorem dX5_readPart_152 : decode cX5_readPart 152 = .ok (.aload_n 0, 1) := by decide +kernel
theorem dX5_readPart_153 : decode cX5_readPart 153 = .ok (.aload_n 0, 1) := by decide +kernel
theorem dX5_readPart_154 : decode cX5_readPart 154 = .ok (.iload_n 1, 1) := by decide +kernel
theorem dX5_readPart_155 : decode cX5_readPart 155 = .ok (.iconst 3, 1) := by decide +kernel
theorem dX5_readPart_156 : decode cX5_readPart 156 = .ok (.iadd, 1) := by decide +kernel
theorem dX5_readPart_157 : decode cX5_readPart 157 = .ok (.invokevirtual 115, 3) := by decide +kernel
theorem dX5_readPart_160 : decode cX5_readPart 160 = .ok (.putfield 127, 3) := by decide +kernel
theorem dX5_readPart_163 : decode cX5_readPart 163 = .ok (.aload_n 0, 1) := by decide +kernel
theorem dX5_readPart_164 : decode cX5_readPart 164 = .ok (.getfield 127, 3) := by decide +kernel
theorem dX5_readPart_167 : decode cX5_readPart 167 = .ok (.bipush 60, 2) := by decide +kernel
theorem dX5_readPart_169 : decode cX5_readPart 169 = .ok (.if_icmp .eq 21, 3) := by decide +kernel
theorem dX5_readPart_172 : decode cX5_readPart 172 = .ok (.aload_n 0, 1) := by decide +kernel
theorem dX5_readPart_173 : decode cX5_readPart 173 = .ok (.getfield 127, 3) := by decide +kernel
theorem dX5_readPart_176 : decode cX5_readPart 176 = .ok (.bipush 124, 2) := by decide +kernel
theorem dX5_readPart_178 : decode cX5_readPart 178 = .ok (.if_icmp .eq 12, 3) := by decide +kernel
theorem dX5_readPart_181 : decode cX5_readPart 181 = .ok (.aload_n 0, 1) := by decide +kernel
theorem dX5_readPart_182 : decode cX5_readPart 182 = .ok (.getfield 127, 3) := by decide +kernel
theorem dX5_readPart_185 : decode cX5_readPart 185 = .ok (.bipush 62, 2) := by decide +kernel
theorem dX5_readPart_187 : decode cX5_readPart 187 = .ok (.if_icmp .ne 9, 3) := by decide +kernel
theorem dX5_readPart_190 : decode cX5_readPart 190 = .ok (.iload_n 1, 1) := by decide +kernel
theorem dX5_readPart_191 : decode cX5_readPart 191 = .ok (.iconst 4, 1) := by decide +kernel
theorem dX5_readPart_192 : decode cX5_readPart 192 = .ok (.iadd, 1) := by decide +kernel
theorem dX5_readPart_193 : decode cX5_readPart 193 = .ok (.goto 7, 3) := by decide +kernel
theorem dX5_readPart_196 : decode cX5_readPart 196 = .ok (.bipush (-4), 2) := by decide +kernel
theorem dX5_readPart_198 : decode cX5_readPart 198 = .ok (.iload_n 1, 1) := by decide +kernel
theorem dX5_readPart_199 : decode cX5_readPart 199 = .ok (.isub, 1) := by decide +kernel
theorem dX5_readPart_200 : decode cX5_readPart 200 = .ok (.ireturn, 1) := by decide +kernel
theorem dX5_findError_0 : decode cX5_findError 0 = .ok (.iconst 0, 1) := by decide +kernel
theorem dX5_findError_1 : decode cX5_findError 1 = .ok (.istore_n 1, 1) := by decide +kernel
theorem dX5_findError_2 : decode cX5_findError 2 = .ok (.aload_n 0, 1) := by decide +kernel
theorem dX5_findError_3 : decode cX5_findError 3 = .ok (.iload_n 1, 1) := by decide +kernel
theorem dX5_findError_4 : decode cX5_findError 4 = .ok (.invokevirtual 130, 3) := by decide +kernel
theorem dX5_findError_7 : decode cX5_findError 7 = .ok (.istore_n 1, 1) := by decide +kernel
theorem dX5_findError_8 : decode cX5_findError 8 = .ok (.iload_n 1, 1) := by decide +kernel
theorem dX5_findError_9 : decode cX5_findError 9 = .ok (.ifCond .ge 7, 3) := by decide +kernel
theorem dX5_findError_12 : decode cX5_findError 12 = .ok (.iconst (-1), 1) := by decide +kernel
theorem dX5_findError_13 : decode cX5_findError 13 = .ok (.iload_n 1, 1) := by decide +kernel
theorem dX5_findError_14 : decode cX5_findError 14 = .ok (.isub, 1) := by decide +kernel
theorem dX5_findError_15 : decode cX5_findError 15 = .ok (.ireturn, 1) := by decide +kernel
theorem dX5_findError_16 : decode cX5_findError 16 = .ok (.iload_n 1, 1) := by decide +kernel
theorem dX5_findError_17 : decode cX5_findError 17 = .ok (.aload_n 0, 1) := by decide +kernel
theorem dX5_findError_18 : decode cX5_findError 18 = .ok (.getfield 109, 3) := by decide +kernel
theorem dX5_findError_21 : decode cX5_findError 21 = .ok (.if_icmp .ne 5, 3) := by decide +kernel
theorem dX5_findError_24 : decode cX5_findError 24 = .ok (.iconst (-1), 1) := by decide +kernel
theorem dX5_findError_25 : decode cX5_findError 25 = .ok (.ireturn, 1) := by decide +kernel
theorem dX5_findError_26 : decode cX5_findError 26 = .ok (.aload_n 0, 1) := by decide +kernel
theorem dX5_findError_27 : decode cX5_findError 27 = .ok (.getfield 22, 3) := by decide +kernel
theorem dX5_findError_30 : decode cX5_findError 30 = .ok (.iload_n 1, 1) := by decide +kernel
theorem dX5_findError_31 : decode cX5_findError 31 = .ok (.iaload, 1) := by decide +kernel
theorem dX5_findError_32 : decode cX5_findError 32 = .ok (.bipush 59, 2) := by decide +kernel
theorem dX5_findError_34 : decode cX5_findError 34 = .ok (.if_icmp .eq 5, 3) := by decide +kernel
theorem dX5_findError_37 : decode cX5_findError 37 = .ok (.iload_n 1, 1) := by decide +kernel
theorem dX5_findError_38 : decode cX5_findError 38 = .ok (.ireturn, 1) := by decide +kernel
theorem dX5_findError_39 : decode cX5_findError 39 = .ok (.iinc 1 1, 3) := by decide +kernel
theorem dX5_findError_42 : decode cX5_findError 42 = .ok (.goto (-40), 3) := by decide +kernel
theorem dX5_firstError_0 : decode cX5_firstError 0 = .ok (.aload_n 0, 1) := by decide +kernel
theorem dX5_firstError_1 : decode cX5_firstError 1 = .ok (.iconst 0, 1) := by decide +kernel
theorem dX5_firstError_2 : decode cX5_firstError 2 = .ok (.putfield 35, 3) := by decide +kernel
theorem dX5_firstError_5 : decode cX5_firstError 5 = .ok (.aload_n 0, 1) := by decide +kernel
theorem dX5_firstError_6 : decode cX5_firstError 6 = .ok (.invokevirtual 133, 3) := by decide +kernel
theorem dX5_firstError_9 : decode cX5_firstError 9 = .ok (.istore_n 1, 1) := by decide +kernel
theorem dX5_firstError_10 : decode cX5_firstError 10 = .ok (.iload_n 1, 1) := by decide +kernel
theorem dX5_firstError_11 : decode cX5_firstError 11 = .ok (.ifCond .ge 10, 3) := by decide +kernel
theorem dX5_firstError_14 : decode cX5_firstError 14 = .ok (.aload_n 0, 1) := by decide +kernel
theorem dX5_firstError_15 : decode cX5_firstError 15 = .ok (.getfield 109, 3) := by decide +kernel
theorem dX5_firstError_18 : decode cX5_firstError 18 = .ok (.goto 4, 3) := by decide +kernel
theorem dX5_firstError_21 : decode cX5_firstError 21 = .ok (.iload_n 1, 1) := by decide +kernel
theorem dX5_firstError_22 : decode cX5_firstError 22 = .ok (.ireturn, 1) := by decide +kernel
theorem dX5_doPart_0 : decode cX5_doPart 0 = .ok (.aload_n 0, 1) := by decide +kernel
theorem dX5_doPart_1 : decode cX5_doPart 1 = .ok (.getfield 118, 3) := by decide +kernel
theorem dX5_doPart_4 : decode cX5_doPart 4 = .ok (.bipush 108, 2) := by decide +kernel
theorem dX5_doPart_6 : decode cX5_doPart 6 = .ok (.if_icmp .ne 16, 3) := by decide +kernel
theorem dX5_doPart_9 : decode cX5_doPart 9 = .ok (.aload_n 0, 1) := by decide +kernel
theorem dX5_doPart_10 : decode cX5_doPart 10 = .ok (.aload_n 0, 1) := by decide +kernel
theorem dX5_doPart_11 : decode cX5_doPart 11 = .ok (.getfield 124, 3) := by decide +kernel
theorem dX5_doPart_14 : decode cX5_doPart 14 = .ok (.aload_n 0, 1) := by decide +kernel
theorem dX5_doPart_15 : decode cX5_doPart 15 = .ok (.getfield 112, 3) := by decide +kernel
theorem dX5_doPart_18 : decode cX5_doPart 18 = .ok (.invokevirtual 106, 3) := by decide +kernel
theorem dX5_doPart_21 : decode cX5_doPart 21 = .ok (.ireturn, 1) := by decide +kernel
theorem dX5_doPart_22 : decode cX5_doPart 22 = .ok (.aload_n 0, 1) := by decide +kernel
theorem dX5_doPart_23 : decode cX5_doPart 23 = .ok (.getfield 118, 3) := by decide +kernel
theorem dX5_doPart_26 : decode cX5_doPart 26 = .ok (.bipush 36, 2) := by decide +kernel
theorem dX5_doPart_28 : decode cX5_doPart 28 = .ok (.if_icmp .ne 15, 3) := by decide +kernel
theorem dX5_doPart_31 : decode cX5_doPart 31 = .ok (.aload_n 0, 1) := by decide +kernel
theorem dX5_doPart_32 : decode cX5_doPart 32 = .ok (.aload_n 0, 1) := by decide +kernel
theorem dX5_doPart_33 : decode cX5_doPart 33 = .ok (.getfield 112, 3) := by decide +kernel
theorem dX5_doPart_36 : decode cX5_doPart 36 = .ok (.invokevirtual 100, 3) := by decide +kernel
theorem dX5_doPart_39 : decode cX5_doPart 39 = .ok (.pop, 1) := by decide +kernel
theorem dX5_doPart_40 : decode cX5_doPart 40 = .ok (.goto 43, 3) := by decide +kernel
theorem dX5_doPart_43 : decode cX5_doPart 43 = .ok (.aload_n 0, 1) := by decide +kernel
theorem dX5_doPart_44 : decode cX5_doPart 44 = .ok (.aload_n 0, 1) := by decide +kernel
theorem dX5_doPart_45 : decode cX5_doPart 45 = .ok (.getfield 124, 3) := by decide +kernel
theorem dX5_doPart_48 : decode cX5_doPart 48 = .ok (.aload_n 0, 1) := by decide +kernel
theorem dX5_doPart_49 : decode cX5_doPart 49 = .ok (.getfield 112, 3) := by decide +kernel
theorem dX5_doPart_52 : decode cX5_doPart 52 = .ok (.aload_n 0, 1) := by decide +kernel
theorem dX5_doPart_53 : decode cX5_doPart 53 = .ok (.getfield 127, 3) := by decide +kernel
theorem dX5_doPart_56 : decode cX5_doPart 56 = .ok (.bipush 60, 2) := by decide +kernel
theorem dX5_doPart_58 : decode cX5_doPart 58 = .ok (.if_icmp .ne 7, 3) := by decide +kernel
theorem dX5_doPart_61 : decode cX5_doPart 61 = .ok (.iconst (-1), 1) := by decide +kernel
theorem dX5_doPart_62 : decode cX5_doPart 62 = .ok (.goto 17, 3) := by decide +kernel
theorem dX5_doPart_65 : decode cX5_doPart 65 = .ok (.aload_n 0, 1) := by decide +kernel
theorem dX5_doPart_66 : decode cX5_doPart 66 = .ok (.getfield 127, 3) := by decide +kernel
theorem dX5_doPart_69 : decode cX5_doPart 69 = .ok (.bipush 62, 2) := by decide +kernel
theorem dX5_doPart_71 : decode cX5_doPart 71 = .ok (.if_icmp .ne 7, 3) := by decide +kernel
theorem dX5_doPart_74 : decode cX5_doPart 74 = .ok (.iconst 1, 1) := by decide +kernel
theorem dX5_doPart_75 : decode cX5_doPart 75 = .ok (.goto 4, 3) := by decide +kernel
theorem dX5_doPart_78 : decode cX5_doPart 78 = .ok (.iconst 0, 1) := by decide +kernel
theorem dX5_doPart_79 : decode cX5_doPart 79 = .ok (.invokevirtual 64, 3) := by decide +kernel
theorem dX5_doPart_82 : decode cX5_doPart 82 = .ok (.pop, 1) := by decide +kernel
theorem dX5_doPart_83 : decode cX5_doPart 83 = .ok (.iconst 0, 1) := by decide +kernel
theorem dX5_doPart_84 : decode cX5_doPart 84 = .ok (.ireturn, 1) := by decide +kernel
theorem dX5_work_0 : decode cX5_work 0 = .ok (.aload_n 0, 1) := by decide +kernel
theorem dX5_work_1 : decode cX5_work 1 = .ok (.aload_n 0, 1) := by decide +kernel
theorem dX5_work_2 : decode cX5_work 2 = .ok (.invokevirtual 133, 3) := by decide +kernel
theorem dX5_work_5 : decode cX5_work 5 = .ok (.ifCond .ge 7, 3) := by decide +kernel
theorem dX5_work_8 : decode cX5_work 8 = .ok (.iconst 0, 1) := by decide +kernel
theorem dX5_work_9 : decode cX5_work 9 = .ok (.goto 4, 3) := by decide +kernel
theorem dX5_work_12 : decode cX5_work 12 = .ok (.iconst 1, 1) := by decide +kernel
theorem dX5_work_13 : decode cX5_work 13 = .ok (.putfield 35, 3) := by decide +kernel
theorem dX5_work_16 : decode cX5_work 16 = .ok (.aload_n 0, 1) := by decide +kernel
theorem dX5_work_17 : decode cX5_work 17 = .ok (.getfield 35, 3) := by decide +kernel
theorem dX5_work_20 : decode cX5_work 20 = .ok (.ifCond .le 5, 3) := by decide +kernel
theorem dX5_work_23 : decode cX5_work 23 = .ok (.iconst 0, 1) := by decide +kernel
theorem dX5_work_24 : decode cX5_work 24 = .ok (.ireturn, 1) := by decide +kernel
theorem dX5_work_25 : decode cX5_work 25 = .ok (.aload_n 0, 1) := by decide +kernel
theorem dX5_work_26 : decode cX5_work 26 = .ok (.invokevirtual 50, 3) := by decide +kernel
theorem dX5_work_29 : decode cX5_work 29 = .ok (.iconst 0, 1) := by decide +kernel
theorem dX5_work_30 : decode cX5_work 30 = .ok (.istore_n 1, 1) := by decide +kernel
theorem dX5_work_31 : decode cX5_work 31 = .ok (.iconst 0, 1) := by decide +kernel
theorem dX5_work_32 : decode cX5_work 32 = .ok (.istore_n 2, 1) := by decide +kernel
theorem dX5_work_33 : decode cX5_work 33 = .ok (.iload_n 2, 1) := by decide +kernel
theorem dX5_work_34 : decode cX5_work 34 = .ok (.aload_n 0, 1) := by decide +kernel
theorem dX5_work_35 : decode cX5_work 35 = .ok (.getfield 109, 3) := by decide +kernel
theorem dX5_work_38 : decode cX5_work 38 = .ok (.if_icmp .ge 21, 3) := by decide +kernel
theorem dX5_work_41 : decode cX5_work 41 = .ok (.aload_n 0, 1) := by decide +kernel
theorem dX5_work_42 : decode cX5_work 42 = .ok (.iload_n 2, 1) := by decide +kernel
theorem dX5_work_43 : decode cX5_work 43 = .ok (.invokevirtual 130, 3) := by decide +kernel
theorem dX5_work_46 : decode cX5_work 46 = .ok (.iconst 1, 1) := by decide +kernel
theorem dX5_work_47 : decode cX5_work 47 = .ok (.iadd, 1) := by decide +kernel
theorem dX5_work_48 : decode cX5_work 48 = .ok (.istore_n 2, 1) := by decide +kernel
theorem dX5_work_49 : decode cX5_work 49 = .ok (.iload_n 1, 1) := by decide +kernel
theorem dX5_work_50 : decode cX5_work 50 = .ok (.aload_n 0, 1) := by decide +kernel
theorem dX5_work_51 : decode cX5_work 51 = .ok (.invokevirtual 137, 3) := by decide +kernel
theorem dX5_work_54 : decode cX5_work 54 = .ok (.iadd, 1) := by decide +kernel
theorem dX5_work_55 : decode cX5_work 55 = .ok (.istore_n 1, 1) := by decide +kernel
theorem dX5_work_56 : decode cX5_work 56 = .ok (.goto (-23), 3) := by decide +kernel
theorem dX5_work_59 : decode cX5_work 59 = .ok (.aload_n 0, 1) := by decide +kernel
theorem dX5_work_60 : decode cX5_work 60 = .ok (.iconst 0, 1) := by decide +kernel
theorem dX5_work_61 : decode cX5_work 61 = .ok (.putfield 109, 3) := by decide +kernel
theorem dX5_work_64 : decode cX5_work 64 = .ok (.iload_n 1, 1) := by decide +kernel
theorem dX5_work_65 : decode cX5_work 65 = .ok (.ireturn, 1) := by decide +kernel
theorem dX5_pin_0 : decode cX5_pin 0 = .ok (.aload_n 0, 1) := by decide +kernel
theorem dX5_pin_1 : decode cX5_pin 1 = .ok (.iload_n 1, 1) := by decide +kernel
theorem dX5_pin_2 : decode cX5_pin 2 = .ok (.invokestatic 57, 3) := by decide +kernel
theorem dX5_pin_5 : decode cX5_pin 5 = .ok (.ifCond .eq 14, 3) := by decide +kernel
theorem dX5_pin_8 : decode cX5_pin 8 = .ok (.iload_n 2, 1) := by decide +kernel
theorem dX5_pin_9 : decode cX5_pin 9 = .ok (.invokestatic 61, 3) := by decide +kernel
theorem dX5_pin_12 : decode cX5_pin 12 = .ok (.ifCond .eq 7, 3) := by decide +kernel
theorem dX5_pin_15 : decode cX5_pin 15 = .ok (.iconst 0, 1) := by decide +kernel
theorem dX5_pin_16 : decode cX5_pin 16 = .ok (.goto 4, 3) := by decide +kernel
theorem dX5_pin_19 : decode cX5_pin 19 = .ok (.iconst 1, 1) := by decide +kernel
theorem dX5_pin_20 : decode cX5_pin 20 = .ok (.putfield 35, 3) := by decide +kernel
theorem dX5_pin_23 : decode cX5_pin 23 = .ok (.aload_n 0, 1) := by decide +kernel
theorem dX5_pin_24 : decode cX5_pin 24 = .ok (.getfield 35, 3) := by decide +kernel
theorem dX5_pin_27 : decode cX5_pin 27 = .ok (.ifCond .le 7, 3) := by decide +kernel
theorem dX5_pin_30 : decode cX5_pin 30 = .ok (.iconst 0, 1) := by decide +kernel
theorem dX5_pin_31 : decode cX5_pin 31 = .ok (.goto 15, 3) := by decide +kernel
theorem dX5_pin_34 : decode cX5_pin 34 = .ok (.aload_n 0, 1) := by decide +kernel
theorem dX5_pin_35 : decode cX5_pin 35 = .ok (.bipush 7, 2) := by decide +kernel
theorem dX5_pin_37 : decode cX5_pin 37 = .ok (.iload_n 1, 1) := by decide +kernel
theorem dX5_pin_38 : decode cX5_pin 38 = .ok (.imul, 1) := by decide +kernel
theorem dX5_pin_39 : decode cX5_pin 39 = .ok (.iload_n 2, 1) := by decide +kernel
theorem dX5_pin_40 : decode cX5_pin 40 = .ok (.iadd, 1) := by decide +kernel
theorem dX5_pin_41 : decode cX5_pin 41 = .ok (.invokevirtual 53, 3) := by decide +kernel
theorem dX5_pin_44 : decode cX5_pin 44 = .ok (.iconst 1, 1) := by decide +kernel
theorem dX5_pin_45 : decode cX5_pin 45 = .ok (.iadd, 1) := by decide +kernel
theorem dX5_pin_46 : decode cX5_pin 46 = .ok (.ireturn, 1) := by decide +kernel
theorem dX5_bentPins_0 : decode cX5_bentPins 0 = .ok (.iconst 0, 1) := by decide +kernel
theorem dX5_bentPins_1 : decode cX5_bentPins 1 = .ok (.istore_n 1, 1) := by decide +kernel
theorem dX5_bentPins_2 : decode cX5_bentPins 2 = .ok (.iconst 0, 1) := by decide +kernel
theorem dX5_bentPins_3 : decode cX5_bentPins 3 = .ok (.istore_n 2, 1) := by decide +kernel
theorem dX5_bentPins_4 : decode cX5_bentPins 4 = .ok (.iload_n 2, 1) := by decide +kernel
theorem dX5_bentPins_5 : decode cX5_bentPins 5 = .ok (.bipush 56, 2) := by decide +kernel
theorem dX5_bentPins_7 : decode cX5_bentPins 7 = .ok (.if_icmp .ge 25, 3) := by decide +kernel
theorem dX5_bentPins_10 : decode cX5_bentPins 10 = .ok (.iload_n 1, 1) := by decide +kernel
theorem dX5_bentPins_11 : decode cX5_bentPins 11 = .ok (.aload_n 0, 1) := by decide +kernel
theorem dX5_bentPins_12 : decode cX5_bentPins 12 = .ok (.iload_n 2, 1) := by decide +kernel
theorem dX5_bentPins_13 : decode cX5_bentPins 13 = .ok (.invokevirtual 53, 3) := by decide +kernel
theorem dX5_bentPins_16 : decode cX5_bentPins 16 = .ok (.ifCond .eq 7, 3) := by decide +kernel
theorem dX5_bentPins_19 : decode cX5_bentPins 19 = .ok (.iconst 1, 1) := by decide +kernel
theorem dX5_bentPins_20 : decode cX5_bentPins 20 = .ok (.goto 4, 3) := by decide +kernel
theorem dX5_bentPins_23 : decode cX5_bentPins 23 = .ok (.iconst 0, 1) := by decide +kernel
theorem dX5_bentPins_24 : decode cX5_bentPins 24 = .ok (.iadd, 1) := by decide +kernel
theorem dX5_bentPins_25 : decode cX5_bentPins 25 = .ok (.istore_n 1, 1) := by decide +kernel
theorem dX5_bentPins_26 : decode cX5_bentPins 26 = .ok (.iinc 2 1, 3) := by decide +kernel
theorem dX5_bentPins_29 : decode cX5_bentPins 29 = .ok (.goto (-25), 3) := by decide +kernel
theorem dX5_bentPins_32 : decode cX5_bentPins 32 = .ok (.iload_n 1, 1) := by decide +kernel
theorem dX5_bentPins_33 : decode cX5_bentPins 33 = .ok (.ireturn, 1) := by decide +kernel
theorem dX5_bentAt_0 : decode cX5_bentAt 0 = .ok (.iconst (-1), 1) := by decide +kernel
theorem dX5_bentAt_1 : decode cX5_bentAt 1 = .ok (.istore_n 2, 1) := by decide +kernel
theorem dX5_bentAt_2 : decode cX5_bentAt 2 = .ok (.iconst 0, 1) := by decide +kernel
theorem dX5_bentAt_3 : decode cX5_bentAt 3 = .ok (.istore_n 3, 1) := by decide +kernel
theorem dX5_bentAt_4 : decode cX5_bentAt 4 = .ok (.iload_n 3, 1) := by decide +kernel
theorem dX5_bentAt_5 : decode cX5_bentAt 5 = .ok (.bipush 56, 2) := by decide +kernel
theorem dX5_bentAt_7 : decode cX5_bentAt 7 = .ok (.if_icmp .ge 89, 3) := by decide +kernel
theorem dX5_bentAt_10 : decode cX5_bentAt 10 = .ok (.iconst 0, 1) := by decide +kernel
theorem dX5_bentAt_11 : decode cX5_bentAt 11 = .ok (.istore 4, 2) := by decide +kernel
theorem dX5_bentAt_13 : decode cX5_bentAt 13 = .ok (.iconst 0, 1) := by decide +kernel
theorem dX5_bentAt_14 : decode cX5_bentAt 14 = .ok (.istore 5, 2) := by decide +kernel
theorem dX5_bentAt_16 : decode cX5_bentAt 16 = .ok (.iload 5, 2) := by decide +kernel
theorem dX5_bentAt_18 : decode cX5_bentAt 18 = .ok (.bipush 56, 2) := by decide +kernel
theorem dX5_bentAt_20 : decode cX5_bentAt 20 = .ok (.if_icmp .ge 50, 3) := by decide +kernel
theorem dX5_bentAt_23 : decode cX5_bentAt 23 = .ok (.iload 4, 2) := by decide +kernel
theorem dX5_bentAt_25 : decode cX5_bentAt 25 = .ok (.aload_n 0, 1) := by decide +kernel
theorem dX5_bentAt_26 : decode cX5_bentAt 26 = .ok (.iload 5, 2) := by decide +kernel
theorem dX5_bentAt_28 : decode cX5_bentAt 28 = .ok (.invokevirtual 53, 3) := by decide +kernel
theorem dX5_bentAt_31 : decode cX5_bentAt 31 = .ok (.ifCond .eq 29, 3) := by decide +kernel
theorem dX5_bentAt_34 : decode cX5_bentAt 34 = .ok (.aload_n 0, 1) := by decide +kernel
theorem dX5_bentAt_35 : decode cX5_bentAt 35 = .ok (.getfield 7, 3) := by decide +kernel
theorem dX5_bentAt_38 : decode cX5_bentAt 38 = .ok (.bipush 76, 2) := by decide +kernel
theorem dX5_bentAt_40 : decode cX5_bentAt 40 = .ok (.iload 5, 2) := by decide +kernel
theorem dX5_bentAt_42 : decode cX5_bentAt 42 = .ok (.iadd, 1) := by decide +kernel
theorem dX5_bentAt_43 : decode cX5_bentAt 43 = .ok (.iaload, 1) := by decide +kernel
theorem dX5_bentAt_44 : decode cX5_bentAt 44 = .ok (.aload_n 0, 1) := by decide +kernel
theorem dX5_bentAt_45 : decode cX5_bentAt 45 = .ok (.getfield 7, 3) := by decide +kernel
theorem dX5_bentAt_48 : decode cX5_bentAt 48 = .ok (.bipush 76, 2) := by decide +kernel
theorem dX5_bentAt_50 : decode cX5_bentAt 50 = .ok (.iload_n 3, 1) := by decide +kernel
theorem dX5_bentAt_51 : decode cX5_bentAt 51 = .ok (.iadd, 1) := by decide +kernel
theorem dX5_bentAt_52 : decode cX5_bentAt 52 = .ok (.iaload, 1) := by decide +kernel
theorem dX5_bentAt_53 : decode cX5_bentAt 53 = .ok (.if_icmp .ge 7, 3) := by decide +kernel
theorem dX5_bentAt_56 : decode cX5_bentAt 56 = .ok (.iconst 1, 1) := by decide +kernel
theorem dX5_bentAt_57 : decode cX5_bentAt 57 = .ok (.goto 4, 3) := by decide +kernel
theorem dX5_bentAt_60 : decode cX5_bentAt 60 = .ok (.iconst 0, 1) := by decide +kernel
theorem dX5_bentAt_61 : decode cX5_bentAt 61 = .ok (.iadd, 1) := by decide +kernel
theorem dX5_bentAt_62 : decode cX5_bentAt 62 = .ok (.istore 4, 2) := by decide +kernel
theorem dX5_bentAt_64 : decode cX5_bentAt 64 = .ok (.iinc 5 1, 3) := by decide +kernel
theorem dX5_bentAt_67 : decode cX5_bentAt 67 = .ok (.goto (-51), 3) := by decide +kernel
theorem dX5_bentAt_70 : decode cX5_bentAt 70 = .ok (.aload_n 0, 1) := by decide +kernel
theorem dX5_bentAt_71 : decode cX5_bentAt 71 = .ok (.iload_n 3, 1) := by decide +kernel
theorem dX5_bentAt_72 : decode cX5_bentAt 72 = .ok (.invokevirtual 53, 3) := by decide +kernel
theorem dX5_bentAt_75 : decode cX5_bentAt 75 = .ok (.ifCond .eq 13, 3) := by decide +kernel
theorem dX5_bentAt_78 : decode cX5_bentAt 78 = .ok (.iload 4, 2) := by decide +kernel
theorem dX5_bentAt_80 : decode cX5_bentAt 80 = .ok (.iload_n 1, 1) := by decide +kernel
theorem dX5_bentAt_81 : decode cX5_bentAt 81 = .ok (.if_icmp .ne 7, 3) := by decide +kernel
theorem dX5_bentAt_84 : decode cX5_bentAt 84 = .ok (.iload_n 3, 1) := by decide +kernel
theorem dX5_bentAt_85 : decode cX5_bentAt 85 = .ok (.goto 4, 3) := by decide +kernel
theorem dX5_bentAt_88 : decode cX5_bentAt 88 = .ok (.iload_n 2, 1) := by decide +kernel
theorem dX5_bentAt_89 : decode cX5_bentAt 89 = .ok (.istore_n 2, 1) := by decide +kernel
theorem dX5_bentAt_90 : decode cX5_bentAt 90 = .ok (.iinc 3 1, 3) := by decide +kernel
theorem dX5_bentAt_93 : decode cX5_bentAt 93 = .ok (.goto (-89), 3) := by decide +kernel
theorem dX5_bentAt_96 : decode cX5_bentAt 96 = .ok (.iload_n 2, 1) := by decide +kernel
theorem dX5_bentAt_97 : decode cX5_bentAt 97 = .ok (.ireturn, 1) := by decide +kernel
theorem dX5_bent_0 : decode cX5_bent 0 = .ok (.aload_n 0, 1) := by decide +kernel
theorem dX5_bent_1 : decode cX5_bent 1 = .ok (.iload_n 1, 1) := by decide +kernel
theorem dX5_bent_2 : decode cX5_bent 2 = .ok (.ifCond .ge 7, 3) := by decide +kernel
theorem dX5_bent_5 : decode cX5_bent 5 = .ok (.iconst 1, 1) := by decide +kernel
theorem dX5_bent_6 : decode cX5_bent 6 = .ok (.goto 4, 3) := by decide +kernel
theorem dX5_bent_9 : decode cX5_bent 9 = .ok (.iconst 0, 1) := by decide +kernel
theorem dX5_bent_10 : decode cX5_bent 10 = .ok (.putfield 35, 3) := by decide +kernel
theorem dX5_bent_13 : decode cX5_bent 13 = .ok (.aload_n 0, 1) := by decide +kernel
theorem dX5_bent_14 : decode cX5_bent 14 = .ok (.getfield 35, 3) := by decide +kernel
theorem dX5_bent_17 : decode cX5_bent 17 = .ok (.ifCond .le 7, 3) := by decide +kernel
theorem dX5_bent_20 : decode cX5_bent 20 = .ok (.iconst 0, 1) := by decide +kernel
theorem dX5_bent_21 : decode cX5_bent 21 = .ok (.goto 8, 3) := by decide +kernel
theorem dX5_bent_24 : decode cX5_bent 24 = .ok (.aload_n 0, 1) := by decide +kernel
theorem dX5_bent_25 : decode cX5_bent 25 = .ok (.iload_n 1, 1) := by decide +kernel
theorem dX5_bent_26 : decode cX5_bent 26 = .ok (.invokevirtual 140, 3) := by decide +kernel
theorem dX5_bent_29 : decode cX5_bent 29 = .ok (.ireturn, 1) := by decide +kernel
theorem dX5_touched_0 : decode cX5_touched 0 = .ok (.aload_n 0, 1) := by decide +kernel
theorem dX5_touched_1 : decode cX5_touched 1 = .ok (.iload_n 1, 1) := by decide +kernel
theorem dX5_touched_2 : decode cX5_touched 2 = .ok (.invokestatic 57, 3) := by decide +kernel
theorem dX5_touched_5 : decode cX5_touched 5 = .ok (.ifCond .eq 7, 3) := by decide +kernel
theorem dX5_touched_8 : decode cX5_touched 8 = .ok (.iconst 0, 1) := by decide +kernel
theorem dX5_touched_9 : decode cX5_touched 9 = .ok (.goto 4, 3) := by decide +kernel
theorem dX5_touched_12 : decode cX5_touched 12 = .ok (.iconst 1, 1) := by decide +kernel
theorem dX5_touched_13 : decode cX5_touched 13 = .ok (.putfield 35, 3) := by decide +kernel
theorem dX5_touched_16 : decode cX5_touched 16 = .ok (.aload_n 0, 1) := by decide +kernel
theorem dX5_touched_17 : decode cX5_touched 17 = .ok (.getfield 35, 3) := by decide +kernel
theorem dX5_touched_20 : decode cX5_touched 20 = .ok (.ifCond .le 7, 3) := by decide +kernel
theorem dX5_touched_23 : decode cX5_touched 23 = .ok (.iconst 0, 1) := by decide +kernel
theorem dX5_touched_24 : decode cX5_touched 24 = .ok (.goto 13, 3) := by decide +kernel
theorem dX5_touched_27 : decode cX5_touched 27 = .ok (.aload_n 0, 1) := by decide +kernel
theorem dX5_touched_28 : decode cX5_touched 28 = .ok (.getfield 7, 3) := by decide +kernel
theorem dX5_touched_31 : decode cX5_touched 31 = .ok (.sipush 167, 3) := by decide +kernel
theorem dX5_touched_34 : decode cX5_touched 34 = .ok (.iload_n 1, 1) := by decide +kernel
theorem dX5_touched_35 : decode cX5_touched 35 = .ok (.iadd, 1) := by decide +kernel
theorem dX5_touched_36 : decode cX5_touched 36 = .ok (.iaload, 1) := by decide +kernel
theorem dX5_touched_37 : decode cX5_touched 37 = .ok (.ireturn, 1) := by decide +kernel
theorem dX5_pocketNow_0 : decode cX5_pocketNow 0 = .ok (.iload_n 2, 1) := by decide +kernel
theorem dX5_pocketNow_1 : decode cX5_pocketNow 1 = .ok (.iconst 2, 1) := by decide +kernel
theorem dX5_pocketNow_2 : decode cX5_pocketNow 2 = .ok (.if_icmp .ne 19, 3) := by decide +kernel
theorem dX5_pocketNow_5 : decode cX5_pocketNow 5 = .ok (.aload_n 0, 1) := by decide +kernel
theorem dX5_pocketNow_6 : decode cX5_pocketNow 6 = .ok (.iload_n 1, 1) := by decide +kernel
theorem dX5_pocketNow_7 : decode cX5_pocketNow 7 = .ok (.invokevirtual 88, 3) := by decide +kernel
theorem dX5_pocketNow_10 : decode cX5_pocketNow 10 = .ok (.ifCond .eq 7, 3) := by decide +kernel
theorem dX5_pocketNow_13 : decode cX5_pocketNow 13 = .ok (.iconst 1, 1) := by decide +kernel
theorem dX5_pocketNow_14 : decode cX5_pocketNow 14 = .ok (.goto 13, 3) := by decide +kernel
theorem dX5_pocketNow_17 : decode cX5_pocketNow 17 = .ok (.iconst 0, 1) := by decide +kernel
theorem dX5_pocketNow_18 : decode cX5_pocketNow 18 = .ok (.goto 9, 3) := by decide +kernel
theorem dX5_pocketNow_21 : decode cX5_pocketNow 21 = .ok (.aload_n 0, 1) := by decide +kernel
theorem dX5_pocketNow_22 : decode cX5_pocketNow 22 = .ok (.iload_n 1, 1) := by decide +kernel
theorem dX5_pocketNow_23 : decode cX5_pocketNow 23 = .ok (.iload_n 2, 1) := by decide +kernel
theorem dX5_pocketNow_24 : decode cX5_pocketNow 24 = .ok (.invokevirtual 68, 3) := by decide +kernel
theorem dX5_pocketNow_27 : decode cX5_pocketNow 27 = .ok (.ireturn, 1) := by decide +kernel
theorem dX5_pocketOf_0 : decode cX5_pocketOf 0 = .ok (.aload_n 0, 1) := by decide +kernel
theorem dX5_pocketOf_1 : decode cX5_pocketOf 1 = .ok (.iload_n 1, 1) := by decide +kernel
theorem dX5_pocketOf_2 : decode cX5_pocketOf 2 = .ok (.invokestatic 61, 3) := by decide +kernel
theorem dX5_pocketOf_5 : decode cX5_pocketOf 5 = .ok (.ifCond .ne 7, 3) := by decide +kernel
theorem dX5_pocketOf_8 : decode cX5_pocketOf 8 = .ok (.iconst 1, 1) := by decide +kernel
theorem dX5_pocketOf_9 : decode cX5_pocketOf 9 = .ok (.goto 17, 3) := by decide +kernel
theorem dX5_pocketOf_12 : decode cX5_pocketOf 12 = .ok (.iload_n 2, 1) := by decide +kernel
theorem dX5_pocketOf_13 : decode cX5_pocketOf 13 = .ok (.iconst 0, 1) := by decide +kernel
theorem dX5_pocketOf_14 : decode cX5_pocketOf 14 = .ok (.iconst 4, 1) := by decide +kernel
theorem dX5_pocketOf_15 : decode cX5_pocketOf 15 = .ok (.invokestatic 39, 3) := by decide +kernel
theorem dX5_pocketOf_18 : decode cX5_pocketOf 18 = .ok (.ifCond .eq 7, 3) := by decide +kernel
theorem dX5_pocketOf_21 : decode cX5_pocketOf 21 = .ok (.iconst 0, 1) := by decide +kernel
theorem dX5_pocketOf_22 : decode cX5_pocketOf 22 = .ok (.goto 4, 3) := by decide +kernel
theorem dX5_pocketOf_25 : decode cX5_pocketOf 25 = .ok (.iconst 2, 1) := by decide +kernel
theorem dX5_pocketOf_26 : decode cX5_pocketOf 26 = .ok (.putfield 35, 3) := by decide +kernel
theorem dX5_pocketOf_29 : decode cX5_pocketOf 29 = .ok (.aload_n 0, 1) := by decide +kernel
theorem dX5_pocketOf_30 : decode cX5_pocketOf 30 = .ok (.getfield 35, 3) := by decide +kernel
theorem dX5_pocketOf_33 : decode cX5_pocketOf 33 = .ok (.ifCond .le 7, 3) := by decide +kernel
theorem dX5_pocketOf_36 : decode cX5_pocketOf 36 = .ok (.iconst 0, 1) := by decide +kernel
theorem dX5_pocketOf_37 : decode cX5_pocketOf 37 = .ok (.goto 9, 3) := by decide +kernel
theorem dX5_pocketOf_40 : decode cX5_pocketOf 40 = .ok (.aload_n 0, 1) := by decide +kernel
theorem dX5_pocketOf_41 : decode cX5_pocketOf 41 = .ok (.iload_n 1, 1) := by decide +kernel
theorem dX5_pocketOf_42 : decode cX5_pocketOf 42 = .ok (.iload_n 2, 1) := by decide +kernel
theorem dX5_pocketOf_43 : decode cX5_pocketOf 43 = .ok (.invokevirtual 143, 3) := by decide +kernel
theorem dX5_pocketOf_46 : decode cX5_pocketOf 46 = .ok (.ireturn, 1) := by decide +kernel
theorem dX5_reel_0 : decode cX5_reel 0 = .ok (.aload_n 0, 1) := by decide +kernel
theorem dX5_reel_1 : decode cX5_reel 1 = .ok (.iload_n 1, 1) := by decide +kernel
theorem dX5_reel_2 : decode cX5_reel 2 = .ok (.iconst 0, 1) := by decide +kernel
theorem dX5_reel_3 : decode cX5_reel 3 = .ok (.iconst 2, 1) := by decide +kernel
theorem dX5_reel_4 : decode cX5_reel 4 = .ok (.invokestatic 39, 3) := by decide +kernel
theorem dX5_reel_7 : decode cX5_reel 7 = .ok (.ifCond .eq 7, 3) := by decide +kernel
theorem dX5_reel_10 : decode cX5_reel 10 = .ok (.iconst 0, 1) := by decide +kernel
theorem dX5_reel_11 : decode cX5_reel 11 = .ok (.goto 4, 3) := by decide +kernel
theorem dX5_reel_14 : decode cX5_reel 14 = .ok (.iconst 1, 1) := by decide +kernel
theorem dX5_reel_15 : decode cX5_reel 15 = .ok (.putfield 35, 3) := by decide +kernel
theorem dX5_reel_18 : decode cX5_reel 18 = .ok (.aload_n 0, 1) := by decide +kernel
theorem dX5_reel_19 : decode cX5_reel 19 = .ok (.getfield 35, 3) := by decide +kernel
theorem dX5_reel_22 : decode cX5_reel 22 = .ok (.ifCond .le 7, 3) := by decide +kernel
theorem dX5_reel_25 : decode cX5_reel 25 = .ok (.iconst 0, 1) := by decide +kernel
theorem dX5_reel_26 : decode cX5_reel 26 = .ok (.goto 12, 3) := by decide +kernel
theorem dX5_reel_29 : decode cX5_reel 29 = .ok (.aload_n 0, 1) := by decide +kernel
theorem dX5_reel_30 : decode cX5_reel 30 = .ok (.getfield 7, 3) := by decide +kernel
theorem dX5_reel_33 : decode cX5_reel 33 = .ok (.bipush 17, 2) := by decide +kernel
theorem dX5_reel_35 : decode cX5_reel 35 = .ok (.iload_n 1, 1) := by decide +kernel
theorem dX5_reel_36 : decode cX5_reel 36 = .ok (.iadd, 1) := by decide +kernel
theorem dX5_reel_37 : decode cX5_reel 37 = .ok (.iaload, 1) := by decide +kernel
theorem dX5_reel_38 : decode cX5_reel 38 = .ok (.ireturn, 1) := by decide +kernel
theorem dX5_countNow_0 : decode cX5_countNow 0 = .ok (.iload_n 1, 1) := by decide +kernel
theorem dX5_countNow_1 : decode cX5_countNow 1 = .ok (.tableswitch 117 0 16 #[83, 83, 83, 83, 83, 83, 83, 83, 83, 83, 83, 83, 83, 92, 99, 99, 112], 83) := by decide +kernel
theorem dX5_countNow_84 : decode cX5_countNow 84 = .ok (.aload_n 0, 1) := by decide +kernel
theorem dX5_countNow_85 : decode cX5_countNow 85 = .ok (.getfield 7, 3) := by decide +kernel
theorem dX5_countNow_88 : decode cX5_countNow 88 = .ok (.iconst 1, 1) := by decide +kernel
theorem dX5_countNow_89 : decode cX5_countNow 89 = .ok (.iload_n 1, 1) := by decide +kernel
theorem dX5_countNow_90 : decode cX5_countNow 90 = .ok (.iadd, 1) := by decide +kernel
theorem dX5_countNow_91 : decode cX5_countNow 91 = .ok (.iaload, 1) := by decide +kernel
theorem dX5_countNow_92 : decode cX5_countNow 92 = .ok (.ireturn, 1) := by decide +kernel
theorem dX5_countNow_93 : decode cX5_countNow 93 = .ok (.aload_n 0, 1) := by decide +kernel
theorem dX5_countNow_94 : decode cX5_countNow 94 = .ok (.getfield 7, 3) := by decide +kernel
theorem dX5_countNow_97 : decode cX5_countNow 97 = .ok (.iconst 0, 1) := by decide +kernel
theorem dX5_countNow_98 : decode cX5_countNow 98 = .ok (.iaload, 1) := by decide +kernel
theorem dX5_countNow_99 : decode cX5_countNow 99 = .ok (.ireturn, 1) := by decide +kernel
theorem dX5_countNow_100 : decode cX5_countNow 100 = .ok (.aload_n 0, 1) := by decide +kernel
theorem dX5_countNow_101 : decode cX5_countNow 101 = .ok (.getfield 7, 3) := by decide +kernel
theorem dX5_countNow_104 : decode cX5_countNow 104 = .ok (.bipush 14, 2) := by decide +kernel
theorem dX5_countNow_106 : decode cX5_countNow 106 = .ok (.iload_n 1, 1) := by decide +kernel
theorem dX5_countNow_107 : decode cX5_countNow 107 = .ok (.iadd, 1) := by decide +kernel
theorem dX5_countNow_108 : decode cX5_countNow 108 = .ok (.bipush 14, 2) := by decide +kernel
theorem dX5_countNow_110 : decode cX5_countNow 110 = .ok (.isub, 1) := by decide +kernel
theorem dX5_countNow_111 : decode cX5_countNow 111 = .ok (.iaload, 1) := by decide +kernel
theorem dX5_countNow_112 : decode cX5_countNow 112 = .ok (.ireturn, 1) := by decide +kernel
theorem dX5_countNow_113 : decode cX5_countNow 113 = .ok (.aload_n 0, 1) := by decide +kernel
theorem dX5_countNow_114 : decode cX5_countNow 114 = .ok (.invokevirtual 146, 3) := by decide +kernel
theorem dX5_countNow_117 : decode cX5_countNow 117 = .ok (.ireturn, 1) := by decide +kernel
theorem dX5_countNow_118 : decode cX5_countNow 118 = .ok (.aload_n 0, 1) := by decide +kernel
theorem dX5_countNow_119 : decode cX5_countNow 119 = .ok (.getfield 43, 3) := by decide +kernel
theorem dX5_countNow_122 : decode cX5_countNow 122 = .ok (.ireturn, 1) := by decide +kernel
theorem dX5_count_0 : decode cX5_count 0 = .ok (.aload_n 0, 1) := by decide +kernel
theorem dX5_count_1 : decode cX5_count 1 = .ok (.iload_n 1, 1) := by decide +kernel
theorem dX5_count_2 : decode cX5_count 2 = .ok (.iconst 0, 1) := by decide +kernel
theorem dX5_count_3 : decode cX5_count 3 = .ok (.bipush 17, 2) := by decide +kernel
theorem dX5_count_5 : decode cX5_count 5 = .ok (.invokestatic 39, 3) := by decide +kernel
theorem dX5_count_8 : decode cX5_count 8 = .ok (.ifCond .eq 7, 3) := by decide +kernel
theorem dX5_count_11 : decode cX5_count 11 = .ok (.iconst 0, 1) := by decide +kernel
theorem dX5_count_12 : decode cX5_count 12 = .ok (.goto 4, 3) := by decide +kernel
theorem dX5_count_15 : decode cX5_count 15 = .ok (.iconst 1, 1) := by decide +kernel
theorem dX5_count_16 : decode cX5_count 16 = .ok (.putfield 35, 3) := by decide +kernel
theorem dX5_count_19 : decode cX5_count 19 = .ok (.aload_n 0, 1) := by decide +kernel
theorem dX5_count_20 : decode cX5_count 20 = .ok (.getfield 35, 3) := by decide +kernel
theorem dX5_count_23 : decode cX5_count 23 = .ok (.ifCond .le 7, 3) := by decide +kernel
theorem dX5_count_26 : decode cX5_count 26 = .ok (.iconst 0, 1) := by decide +kernel
theorem dX5_count_27 : decode cX5_count 27 = .ok (.goto 8, 3) := by decide +kernel
theorem dX5_count_30 : decode cX5_count 30 = .ok (.aload_n 0, 1) := by decide +kernel
theorem dX5_count_31 : decode cX5_count 31 = .ok (.iload_n 1, 1) := by decide +kernel
theorem dX5_count_32 : decode cX5_count 32 = .ok (.invokevirtual 149, 3) := by decide +kernel
theorem dX5_count_35 : decode cX5_count 35 = .ok (.ireturn, 1) := by decide +kernel
theorem dX5_findWays_0 : decode cX5_findWays 0 = .ok (.iconst 0, 1) := by decide +kernel
theorem dX5_findWays_1 : decode cX5_findWays 1 = .ok (.istore_n 2, 1) := by decide +kernel
theorem dX5_findWays_2 : decode cX5_findWays 2 = .ok (.iload_n 2, 1) := by decide +kernel
theorem dX5_findWays_3 : decode cX5_findWays 3 = .ok (.bipush 7, 2) := by decide +kernel
theorem dX5_findWays_5 : decode cX5_findWays 5 = .ok (.if_icmp .ge 25, 3) := by decide +kernel
theorem dX5_findWays_8 : decode cX5_findWays 8 = .ok (.aload_n 0, 1) := by decide +kernel
theorem dX5_findWays_9 : decode cX5_findWays 9 = .ok (.getfield 25, 3) := by decide +kernel
theorem dX5_findWays_12 : decode cX5_findWays 12 = .ok (.iload_n 2, 1) := by decide +kernel
theorem dX5_findWays_13 : decode cX5_findWays 13 = .ok (.iload_n 2, 1) := by decide +kernel
theorem dX5_findWays_14 : decode cX5_findWays 14 = .ok (.iload_n 1, 1) := by decide +kernel
theorem dX5_findWays_15 : decode cX5_findWays 15 = .ok (.if_icmp .ne 7, 3) := by decide +kernel
theorem dX5_findWays_18 : decode cX5_findWays 18 = .ok (.iconst 1, 1) := by decide +kernel
theorem dX5_findWays_19 : decode cX5_findWays 19 = .ok (.goto 4, 3) := by decide +kernel
theorem dX5_findWays_22 : decode cX5_findWays 22 = .ok (.iconst 0, 1) := by decide +kernel
theorem dX5_findWays_23 : decode cX5_findWays 23 = .ok (.iastore, 1) := by decide +kernel
theorem dX5_findWays_24 : decode cX5_findWays 24 = .ok (.iinc 2 1, 3) := by decide +kernel
theorem dX5_findWays_27 : decode cX5_findWays 27 = .ok (.goto (-25), 3) := by decide +kernel
theorem dX5_findWays_30 : decode cX5_findWays 30 = .ok (.iconst 0, 1) := by decide +kernel
theorem dX5_findWays_31 : decode cX5_findWays 31 = .ok (.istore_n 2, 1) := by decide +kernel
theorem dX5_findWays_32 : decode cX5_findWays 32 = .ok (.iload_n 2, 1) := by decide +kernel
theorem dX5_findWays_33 : decode cX5_findWays 33 = .ok (.bipush 8, 2) := by decide +kernel
theorem dX5_findWays_35 : decode cX5_findWays 35 = .ok (.if_icmp .ge 130, 3) := by decide +kernel
theorem dX5_findWays_38 : decode cX5_findWays 38 = .ok (.iconst 0, 1) := by decide +kernel
theorem dX5_findWays_39 : decode cX5_findWays 39 = .ok (.istore_n 3, 1) := by decide +kernel
theorem dX5_findWays_40 : decode cX5_findWays 40 = .ok (.iload_n 3, 1) := by decide +kernel
theorem dX5_findWays_41 : decode cX5_findWays 41 = .ok (.bipush 7, 2) := by decide +kernel
theorem dX5_findWays_43 : decode cX5_findWays 43 = .ok (.if_icmp .ge 16, 3) := by decide +kernel
theorem dX5_findWays_46 : decode cX5_findWays 46 = .ok (.aload_n 0, 1) := by decide +kernel
theorem dX5_findWays_47 : decode cX5_findWays 47 = .ok (.getfield 28, 3) := by decide +kernel
theorem dX5_findWays_50 : decode cX5_findWays 50 = .ok (.iload_n 3, 1) := by decide +kernel
theorem dX5_findWays_51 : decode cX5_findWays 51 = .ok (.iconst 0, 1) := by decide +kernel
theorem dX5_findWays_52 : decode cX5_findWays 52 = .ok (.iastore, 1) := by decide +kernel
theorem dX5_findWays_53 : decode cX5_findWays 53 = .ok (.iinc 3 1, 3) := by decide +kernel
theorem dX5_findWays_56 : decode cX5_findWays 56 = .ok (.goto (-16), 3) := by decide +kernel
theorem dX5_findWays_59 : decode cX5_findWays 59 = .ok (.iconst 0, 1) := by decide +kernel
theorem dX5_findWays_60 : decode cX5_findWays 60 = .ok (.istore_n 3, 1) := by decide +kernel
theorem dX5_findWays_61 : decode cX5_findWays 61 = .ok (.iload_n 3, 1) := by decide +kernel
theorem dX5_findWays_62 : decode cX5_findWays 62 = .ok (.bipush 7, 2) := by decide +kernel
theorem dX5_findWays_64 : decode cX5_findWays 64 = .ok (.if_icmp .ge 69, 3) := by decide +kernel
theorem dX5_findWays_67 : decode cX5_findWays 67 = .ok (.aload_n 0, 1) := by decide +kernel
theorem dX5_findWays_68 : decode cX5_findWays 68 = .ok (.bipush 7, 2) := by decide +kernel
theorem dX5_findWays_70 : decode cX5_findWays 70 = .ok (.iload_n 2, 1) := by decide +kernel
theorem dX5_findWays_71 : decode cX5_findWays 71 = .ok (.imul, 1) := by decide +kernel
theorem dX5_findWays_72 : decode cX5_findWays 72 = .ok (.iload_n 3, 1) := by decide +kernel
theorem dX5_findWays_73 : decode cX5_findWays 73 = .ok (.iadd, 1) := by decide +kernel
theorem dX5_findWays_74 : decode cX5_findWays 74 = .ok (.invokevirtual 53, 3) := by decide +kernel
theorem dX5_findWays_77 : decode cX5_findWays 77 = .ok (.istore 4, 2) := by decide +kernel
theorem dX5_findWays_79 : decode cX5_findWays 79 = .ok (.iload 4, 2) := by decide +kernel
theorem dX5_findWays_81 : decode cX5_findWays 81 = .ok (.ifCond .gt 22, 3) := by decide +kernel
theorem dX5_findWays_84 : decode cX5_findWays 84 = .ok (.aload_n 0, 1) := by decide +kernel
theorem dX5_findWays_85 : decode cX5_findWays 85 = .ok (.getfield 28, 3) := by decide +kernel
theorem dX5_findWays_88 : decode cX5_findWays 88 = .ok (.iload_n 3, 1) := by decide +kernel
theorem dX5_findWays_89 : decode cX5_findWays 89 = .ok (.iconst (-1), 1) := by decide +kernel
theorem dX5_findWays_90 : decode cX5_findWays 90 = .ok (.invokestatic 85, 3) := by decide +kernel
theorem dX5_findWays_93 : decode cX5_findWays 93 = .ok (.dup2, 1) := by decide +kernel
theorem dX5_findWays_94 : decode cX5_findWays 94 = .ok (.iaload, 1) := by decide +kernel
theorem dX5_findWays_95 : decode cX5_findWays 95 = .ok (.aload_n 0, 1) := by decide +kernel
theorem dX5_findWays_96 : decode cX5_findWays 96 = .ok (.getfield 25, 3) := by decide +kernel
theorem dX5_findWays_99 : decode cX5_findWays 99 = .ok (.iload_n 3, 1) := by decide +kernel
theorem dX5_findWays_100 : decode cX5_findWays 100 = .ok (.iaload, 1) := by decide +kernel
theorem dX5_findWays_101 : decode cX5_findWays 101 = .ok (.iadd, 1) := by decide +kernel
theorem dX5_findWays_102 : decode cX5_findWays 102 = .ok (.iastore, 1) := by decide +kernel
theorem dX5_findWays_103 : decode cX5_findWays 103 = .ok (.iload 4, 2) := by decide +kernel
theorem dX5_findWays_105 : decode cX5_findWays 105 = .ok (.ifCond .lt 22, 3) := by decide +kernel
theorem dX5_findWays_108 : decode cX5_findWays 108 = .ok (.aload_n 0, 1) := by decide +kernel
theorem dX5_findWays_109 : decode cX5_findWays 109 = .ok (.getfield 28, 3) := by decide +kernel
theorem dX5_findWays_112 : decode cX5_findWays 112 = .ok (.iload_n 3, 1) := by decide +kernel
theorem dX5_findWays_113 : decode cX5_findWays 113 = .ok (.iconst 1, 1) := by decide +kernel
theorem dX5_findWays_114 : decode cX5_findWays 114 = .ok (.invokestatic 85, 3) := by decide +kernel
theorem dX5_findWays_117 : decode cX5_findWays 117 = .ok (.dup2, 1) := by decide +kernel
theorem dX5_findWays_118 : decode cX5_findWays 118 = .ok (.iaload, 1) := by decide +kernel
theorem dX5_findWays_119 : decode cX5_findWays 119 = .ok (.aload_n 0, 1) := by decide +kernel
theorem dX5_findWays_120 : decode cX5_findWays 120 = .ok (.getfield 25, 3) := by decide +kernel
theorem dX5_findWays_123 : decode cX5_findWays 123 = .ok (.iload_n 3, 1) := by decide +kernel
theorem dX5_findWays_124 : decode cX5_findWays 124 = .ok (.iaload, 1) := by decide +kernel
theorem dX5_findWays_125 : decode cX5_findWays 125 = .ok (.iadd, 1) := by decide +kernel
theorem dX5_findWays_126 : decode cX5_findWays 126 = .ok (.iastore, 1) := by decide +kernel
theorem dX5_findWays_127 : decode cX5_findWays 127 = .ok (.iinc 3 1, 3) := by decide +kernel
theorem dX5_findWays_130 : decode cX5_findWays 130 = .ok (.goto (-69), 3) := by decide +kernel
theorem dX5_findWays_133 : decode cX5_findWays 133 = .ok (.iconst 0, 1) := by decide +kernel
theorem dX5_findWays_134 : decode cX5_findWays 134 = .ok (.istore_n 3, 1) := by decide +kernel
theorem dX5_findWays_135 : decode cX5_findWays 135 = .ok (.iload_n 3, 1) := by decide +kernel
theorem dX5_findWays_136 : decode cX5_findWays 136 = .ok (.bipush 7, 2) := by decide +kernel
theorem dX5_findWays_138 : decode cX5_findWays 138 = .ok (.if_icmp .ge 21, 3) := by decide +kernel
theorem dX5_findWays_141 : decode cX5_findWays 141 = .ok (.aload_n 0, 1) := by decide +kernel
theorem dX5_findWays_142 : decode cX5_findWays 142 = .ok (.getfield 25, 3) := by decide +kernel
theorem dX5_findWays_145 : decode cX5_findWays 145 = .ok (.iload_n 3, 1) := by decide +kernel
theorem dX5_findWays_146 : decode cX5_findWays 146 = .ok (.aload_n 0, 1) := by decide +kernel
theorem dX5_findWays_147 : decode cX5_findWays 147 = .ok (.getfield 28, 3) := by decide +kernel
theorem dX5_findWays_150 : decode cX5_findWays 150 = .ok (.iload_n 3, 1) := by decide +kernel
theorem dX5_findWays_151 : decode cX5_findWays 151 = .ok (.iaload, 1) := by decide +kernel
theorem dX5_findWays_152 : decode cX5_findWays 152 = .ok (.iastore, 1) := by decide +kernel
theorem dX5_findWays_153 : decode cX5_findWays 153 = .ok (.iinc 3 1, 3) := by decide +kernel
theorem dX5_findWays_156 : decode cX5_findWays 156 = .ok (.goto (-21), 3) := by decide +kernel
theorem dX5_findWays_159 : decode cX5_findWays 159 = .ok (.iinc 2 1, 3) := by decide +kernel
theorem dX5_findWays_162 : decode cX5_findWays 162 = .ok (.goto (-130), 3) := by decide +kernel
theorem dX5_findWays_165 : decode cX5_findWays 165 = .ok (.return_, 1) := by decide +kernel
theorem dX5_waysTo_0 : decode cX5_waysTo 0 = .ok (.aload_n 0, 1) := by decide +kernel
theorem dX5_waysTo_1 : decode cX5_waysTo 1 = .ok (.iload_n 1, 1) := by decide +kernel
theorem dX5_waysTo_2 : decode cX5_waysTo 2 = .ok (.invokevirtual 152, 3) := by decide +kernel
theorem dX5_waysTo_5 : decode cX5_waysTo 5 = .ok (.aload_n 0, 1) := by decide +kernel
theorem dX5_waysTo_6 : decode cX5_waysTo 6 = .ok (.getfield 25, 3) := by decide +kernel
theorem dX5_waysTo_9 : decode cX5_waysTo 9 = .ok (.iload_n 2, 1) := by decide +kernel
theorem dX5_waysTo_10 : decode cX5_waysTo 10 = .ok (.iaload, 1) := by decide +kernel
theorem dX5_waysTo_11 : decode cX5_waysTo 11 = .ok (.ireturn, 1) := by decide +kernel
theorem dX5_ways_0 : decode cX5_ways 0 = .ok (.aload_n 0, 1) := by decide +kernel
theorem dX5_ways_1 : decode cX5_ways 1 = .ok (.iload_n 1, 1) := by decide +kernel
theorem dX5_ways_2 : decode cX5_ways 2 = .ok (.invokestatic 61, 3) := by decide +kernel
theorem dX5_ways_5 : decode cX5_ways 5 = .ok (.ifCond .eq 14, 3) := by decide +kernel
theorem dX5_ways_8 : decode cX5_ways 8 = .ok (.iload_n 2, 1) := by decide +kernel
theorem dX5_ways_9 : decode cX5_ways 9 = .ok (.invokestatic 61, 3) := by decide +kernel
theorem dX5_ways_12 : decode cX5_ways 12 = .ok (.ifCond .eq 7, 3) := by decide +kernel
theorem dX5_ways_15 : decode cX5_ways 15 = .ok (.iconst 0, 1) := by decide +kernel
theorem dX5_ways_16 : decode cX5_ways 16 = .ok (.goto 4, 3) := by decide +kernel
theorem dX5_ways_19 : decode cX5_ways 19 = .ok (.iconst 1, 1) := by decide +kernel
theorem dX5_ways_20 : decode cX5_ways 20 = .ok (.putfield 35, 3) := by decide +kernel
theorem dX5_ways_23 : decode cX5_ways 23 = .ok (.aload_n 0, 1) := by decide +kernel
theorem dX5_ways_24 : decode cX5_ways 24 = .ok (.getfield 35, 3) := by decide +kernel
theorem dX5_ways_27 : decode cX5_ways 27 = .ok (.ifCond .le 7, 3) := by decide +kernel
theorem dX5_ways_30 : decode cX5_ways 30 = .ok (.iconst 0, 1) := by decide +kernel
theorem dX5_ways_31 : decode cX5_ways 31 = .ok (.goto 9, 3) := by decide +kernel
theorem dX5_ways_34 : decode cX5_ways 34 = .ok (.aload_n 0, 1) := by decide +kernel
theorem dX5_ways_35 : decode cX5_ways 35 = .ok (.iload_n 1, 1) := by decide +kernel
theorem dX5_ways_36 : decode cX5_ways 36 = .ok (.iload_n 2, 1) := by decide +kernel
theorem dX5_ways_37 : decode cX5_ways 37 = .ok (.invokevirtual 156, 3) := by decide +kernel
theorem dX5_ways_40 : decode cX5_ways 40 = .ok (.ireturn, 1) := by decide +kernel
theorem dX5_walked_0 : decode cX5_walked 0 = .ok (.aload_n 0, 1) := by decide +kernel
theorem dX5_walked_1 : decode cX5_walked 1 = .ok (.iload_n 1, 1) := by decide +kernel
theorem dX5_walked_2 : decode cX5_walked 2 = .ok (.iload_n 2, 1) := by decide +kernel
theorem dX5_walked_3 : decode cX5_walked 3 = .ok (.invokevirtual 159, 3) := by decide +kernel
theorem dX5_walked_6 : decode cX5_walked 6 = .ok (.ireturn, 1) := by decide +kernel
theorem dX5_launched_0 : decode cX5_launched 0 = .ok (.aload_n 0, 1) := by decide +kernel
theorem dX5_launched_1 : decode cX5_launched 1 = .ok (.invokevirtual 162, 3) := by decide +kernel
theorem dX5_launched_4 : decode cX5_launched 4 = .ok (.aload_n 0, 1) := by decide +kernel
theorem dX5_launched_5 : decode cX5_launched 5 = .ok (.iload_n 1, 1) := by decide +kernel
theorem dX5_launched_6 : decode cX5_launched 6 = .ok (.invokevirtual 103, 3) := by decide +kernel
theorem dX5_launched_9 : decode cX5_launched 9 = .ok (.istore_n 3, 1) := by decide +kernel
theorem dX5_launched_10 : decode cX5_launched 10 = .ok (.iload_n 2, 1) := by decide +kernel
theorem dX5_launched_11 : decode cX5_launched 11 = .ok (.ifCond .ne 13, 3) := by decide +kernel
theorem dX5_launched_14 : decode cX5_launched 14 = .ok (.aload_n 0, 1) := by decide +kernel
theorem dX5_launched_15 : decode cX5_launched 15 = .ok (.getfield 7, 3) := by decide +kernel
theorem dX5_launched_18 : decode cX5_launched 18 = .ok (.bipush 12, 2) := by decide +kernel
theorem dX5_launched_20 : decode cX5_launched 20 = .ok (.iaload, 1) := by decide +kernel
theorem dX5_launched_21 : decode cX5_launched 21 = .ok (.goto 34, 3) := by decide +kernel
theorem dX5_launched_24 : decode cX5_launched 24 = .ok (.iload_n 2, 1) := by decide +kernel
theorem dX5_launched_25 : decode cX5_launched 25 = .ok (.iconst 1, 1) := by decide +kernel
theorem dX5_launched_26 : decode cX5_launched 26 = .ok (.if_icmp .ne 7, 3) := by decide +kernel
theorem dX5_launched_29 : decode cX5_launched 29 = .ok (.iload_n 3, 1) := by decide +kernel
theorem dX5_launched_30 : decode cX5_launched 30 = .ok (.goto 25, 3) := by decide +kernel
theorem dX5_launched_33 : decode cX5_launched 33 = .ok (.iload_n 2, 1) := by decide +kernel
theorem dX5_launched_34 : decode cX5_launched 34 = .ok (.iconst 2, 1) := by decide +kernel
theorem dX5_launched_35 : decode cX5_launched 35 = .ok (.if_icmp .ne 13, 3) := by decide +kernel
theorem dX5_launched_38 : decode cX5_launched 38 = .ok (.aload_n 0, 1) := by decide +kernel
theorem dX5_launched_39 : decode cX5_launched 39 = .ok (.getfield 7, 3) := by decide +kernel
theorem dX5_launched_42 : decode cX5_launched 42 = .ok (.bipush 7, 2) := by decide +kernel
theorem dX5_launched_44 : decode cX5_launched 44 = .ok (.iaload, 1) := by decide +kernel
theorem dX5_launched_45 : decode cX5_launched 45 = .ok (.goto 10, 3) := by decide +kernel
theorem dX5_launched_48 : decode cX5_launched 48 = .ok (.aload_n 0, 1) := by decide +kernel
theorem dX5_launched_49 : decode cX5_launched 49 = .ok (.getfield 7, 3) := by decide +kernel
theorem dX5_launched_52 : decode cX5_launched 52 = .ok (.bipush 10, 2) := by decide +kernel
theorem dX5_launched_54 : decode cX5_launched 54 = .ok (.iaload, 1) := by decide +kernel
theorem dX5_launched_55 : decode cX5_launched 55 = .ok (.istore 4, 2) := by decide +kernel
theorem dX5_launched_57 : decode cX5_launched 57 = .ok (.aload_n 0, 1) := by decide +kernel
theorem dX5_launched_58 : decode cX5_launched 58 = .ok (.invokevirtual 165, 3) := by decide +kernel
theorem dX5_launched_61 : decode cX5_launched 61 = .ok (.iload 4, 2) := by decide +kernel
theorem dX5_launched_63 : decode cX5_launched 63 = .ok (.ireturn, 1) := by decide +kernel
theorem dX5_ifLaunched_0 : decode cX5_ifLaunched 0 = .ok (.aload_n 0, 1) := by decide +kernel
theorem dX5_ifLaunched_1 : decode cX5_ifLaunched 1 = .ok (.iload_n 1, 1) := by decide +kernel
theorem dX5_ifLaunched_2 : decode cX5_ifLaunched 2 = .ok (.invokestatic 61, 3) := by decide +kernel
theorem dX5_ifLaunched_5 : decode cX5_ifLaunched 5 = .ok (.ifCond .ne 7, 3) := by decide +kernel
theorem dX5_ifLaunched_8 : decode cX5_ifLaunched 8 = .ok (.iconst 1, 1) := by decide +kernel
theorem dX5_ifLaunched_9 : decode cX5_ifLaunched 9 = .ok (.goto 17, 3) := by decide +kernel
theorem dX5_ifLaunched_12 : decode cX5_ifLaunched 12 = .ok (.iload_n 2, 1) := by decide +kernel
theorem dX5_ifLaunched_13 : decode cX5_ifLaunched 13 = .ok (.iconst 0, 1) := by decide +kernel
theorem dX5_ifLaunched_14 : decode cX5_ifLaunched 14 = .ok (.iconst 3, 1) := by decide +kernel
theorem dX5_ifLaunched_15 : decode cX5_ifLaunched 15 = .ok (.invokestatic 39, 3) := by decide +kernel
theorem dX5_ifLaunched_18 : decode cX5_ifLaunched 18 = .ok (.ifCond .eq 7, 3) := by decide +kernel
theorem dX5_ifLaunched_21 : decode cX5_ifLaunched 21 = .ok (.iconst 0, 1) := by decide +kernel
theorem dX5_ifLaunched_22 : decode cX5_ifLaunched 22 = .ok (.goto 4, 3) := by decide +kernel
theorem dX5_ifLaunched_25 : decode cX5_ifLaunched 25 = .ok (.iconst 2, 1) := by decide +kernel
theorem dX5_ifLaunched_26 : decode cX5_ifLaunched 26 = .ok (.putfield 35, 3) := by decide +kernel
theorem dX5_ifLaunched_29 : decode cX5_ifLaunched 29 = .ok (.aload_n 0, 1) := by decide +kernel
theorem dX5_ifLaunched_30 : decode cX5_ifLaunched 30 = .ok (.getfield 35, 3) := by decide +kernel
theorem dX5_ifLaunched_33 : decode cX5_ifLaunched 33 = .ok (.ifCond .le 7, 3) := by decide +kernel
theorem dX5_ifLaunched_36 : decode cX5_ifLaunched 36 = .ok (.iconst 0, 1) := by decide +kernel
theorem dX5_ifLaunched_37 : decode cX5_ifLaunched 37 = .ok (.goto 9, 3) := by decide +kernel
theorem dX5_ifLaunched_40 : decode cX5_ifLaunched 40 = .ok (.aload_n 0, 1) := by decide +kernel
theorem dX5_ifLaunched_41 : decode cX5_ifLaunched 41 = .ok (.iload_n 1, 1) := by decide +kernel
theorem dX5_ifLaunched_42 : decode cX5_ifLaunched 42 = .ok (.iload_n 2, 1) := by decide +kernel
theorem dX5_ifLaunched_43 : decode cX5_ifLaunched 43 = .ok (.invokevirtual 168, 3) := by decide +kernel
theorem dX5_ifLaunched_46 : decode cX5_ifLaunched 46 = .ok (.ireturn, 1) := by decide +kernel
theorem dX5_findBestColumn_0 : decode cX5_findBestColumn 0 = .ok (.iconst (-1), 1) := by decide +kernel
theorem dX5_findBestColumn_1 : decode cX5_findBestColumn 1 = .ok (.istore_n 1, 1) := by decide +kernel
theorem dX5_findBestColumn_2 : decode cX5_findBestColumn 2 = .ok (.iconst (-1), 1) := by decide +kernel
theorem dX5_findBestColumn_3 : decode cX5_findBestColumn 3 = .ok (.istore_n 2, 1) := by decide +kernel
theorem dX5_findBestColumn_4 : decode cX5_findBestColumn 4 = .ok (.iconst 0, 1) := by decide +kernel
theorem dX5_findBestColumn_5 : decode cX5_findBestColumn 5 = .ok (.istore_n 3, 1) := by decide +kernel
theorem dX5_findBestColumn_6 : decode cX5_findBestColumn 6 = .ok (.iload_n 3, 1) := by decide +kernel
theorem dX5_findBestColumn_7 : decode cX5_findBestColumn 7 = .ok (.bipush 7, 2) := by decide +kernel
theorem dX5_findBestColumn_9 : decode cX5_findBestColumn 9 = .ok (.if_icmp .ge 117, 3) := by decide +kernel
theorem dX5_findBestColumn_12 : decode cX5_findBestColumn 12 = .ok (.aload_n 0, 1) := by decide +kernel
theorem dX5_findBestColumn_13 : decode cX5_findBestColumn 13 = .ok (.iload_n 3, 1) := by decide +kernel
theorem dX5_findBestColumn_14 : decode cX5_findBestColumn 14 = .ok (.invokevirtual 152, 3) := by decide +kernel
theorem dX5_findBestColumn_17 : decode cX5_findBestColumn 17 = .ok (.iconst 0, 1) := by decide +kernel
theorem dX5_findBestColumn_18 : decode cX5_findBestColumn 18 = .ok (.istore 4, 2) := by decide +kernel
theorem dX5_findBestColumn_20 : decode cX5_findBestColumn 20 = .ok (.iconst 0, 1) := by decide +kernel
theorem dX5_findBestColumn_21 : decode cX5_findBestColumn 21 = .ok (.istore 5, 2) := by decide +kernel
theorem dX5_findBestColumn_23 : decode cX5_findBestColumn 23 = .ok (.iconst 0, 1) := by decide +kernel
theorem dX5_findBestColumn_24 : decode cX5_findBestColumn 24 = .ok (.istore 6, 2) := by decide +kernel
theorem dX5_findBestColumn_26 : decode cX5_findBestColumn 26 = .ok (.iload 6, 2) := by decide +kernel
theorem dX5_findBestColumn_28 : decode cX5_findBestColumn 28 = .ok (.bipush 7, 2) := by decide +kernel
theorem dX5_findBestColumn_30 : decode cX5_findBestColumn 30 = .ok (.if_icmp .ge 54, 3) := by decide +kernel
theorem dX5_findBestColumn_33 : decode cX5_findBestColumn 33 = .ok (.iload 4, 2) := by decide +kernel
theorem dX5_findBestColumn_35 : decode cX5_findBestColumn 35 = .ok (.aload_n 0, 1) := by decide +kernel
theorem dX5_findBestColumn_36 : decode cX5_findBestColumn 36 = .ok (.iload 6, 2) := by decide +kernel
theorem dX5_findBestColumn_38 : decode cX5_findBestColumn 38 = .ok (.invokevirtual 88, 3) := by decide +kernel
theorem dX5_findBestColumn_41 : decode cX5_findBestColumn 41 = .ok (.ifCond .eq 21, 3) := by decide +kernel
theorem dX5_findBestColumn_44 : decode cX5_findBestColumn 44 = .ok (.aload_n 0, 1) := by decide +kernel
theorem dX5_findBestColumn_45 : decode cX5_findBestColumn 45 = .ok (.getfield 25, 3) := by decide +kernel
theorem dX5_findBestColumn_48 : decode cX5_findBestColumn 48 = .ok (.iload 6, 2) := by decide +kernel
theorem dX5_findBestColumn_50 : decode cX5_findBestColumn 50 = .ok (.iaload, 1) := by decide +kernel
theorem dX5_findBestColumn_51 : decode cX5_findBestColumn 51 = .ok (.aload_n 0, 1) := by decide +kernel
theorem dX5_findBestColumn_52 : decode cX5_findBestColumn 52 = .ok (.iload 6, 2) := by decide +kernel
theorem dX5_findBestColumn_54 : decode cX5_findBestColumn 54 = .ok (.iconst 1, 1) := by decide +kernel
theorem dX5_findBestColumn_55 : decode cX5_findBestColumn 55 = .ok (.invokevirtual 68, 3) := by decide +kernel
theorem dX5_findBestColumn_58 : decode cX5_findBestColumn 58 = .ok (.imul, 1) := by decide +kernel
theorem dX5_findBestColumn_59 : decode cX5_findBestColumn 59 = .ok (.goto 4, 3) := by decide +kernel
theorem dX5_findBestColumn_62 : decode cX5_findBestColumn 62 = .ok (.iconst 0, 1) := by decide +kernel
theorem dX5_findBestColumn_63 : decode cX5_findBestColumn 63 = .ok (.iadd, 1) := by decide +kernel
theorem dX5_findBestColumn_64 : decode cX5_findBestColumn 64 = .ok (.istore 4, 2) := by decide +kernel
theorem dX5_findBestColumn_66 : decode cX5_findBestColumn 66 = .ok (.iload 5, 2) := by decide +kernel
theorem dX5_findBestColumn_68 : decode cX5_findBestColumn 68 = .ok (.aload_n 0, 1) := by decide +kernel
theorem dX5_findBestColumn_69 : decode cX5_findBestColumn 69 = .ok (.getfield 25, 3) := by decide +kernel
theorem dX5_findBestColumn_72 : decode cX5_findBestColumn 72 = .ok (.iload 6, 2) := by decide +kernel
theorem dX5_findBestColumn_74 : decode cX5_findBestColumn 74 = .ok (.iaload, 1) := by decide +kernel
theorem dX5_findBestColumn_75 : decode cX5_findBestColumn 75 = .ok (.iadd, 1) := by decide +kernel
theorem dX5_findBestColumn_76 : decode cX5_findBestColumn 76 = .ok (.istore 5, 2) := by decide +kernel
theorem dX5_findBestColumn_78 : decode cX5_findBestColumn 78 = .ok (.iinc 6 1, 3) := by decide +kernel
theorem dX5_findBestColumn_81 : decode cX5_findBestColumn 81 = .ok (.goto (-55), 3) := by decide +kernel
theorem dX5_findBestColumn_84 : decode cX5_findBestColumn 84 = .ok (.iload 4, 2) := by decide +kernel
theorem dX5_findBestColumn_86 : decode cX5_findBestColumn 86 = .ok (.sipush 1000, 3) := by decide +kernel
theorem dX5_findBestColumn_89 : decode cX5_findBestColumn 89 = .ok (.imul, 1) := by decide +kernel
theorem dX5_findBestColumn_90 : decode cX5_findBestColumn 90 = .ok (.iload 5, 2) := by decide +kernel
theorem dX5_findBestColumn_92 : decode cX5_findBestColumn 92 = .ok (.idiv, 1) := by decide +kernel
theorem dX5_findBestColumn_93 : decode cX5_findBestColumn 93 = .ok (.istore 6, 2) := by decide +kernel
theorem dX5_findBestColumn_95 : decode cX5_findBestColumn 95 = .ok (.iload 6, 2) := by decide +kernel
theorem dX5_findBestColumn_97 : decode cX5_findBestColumn 97 = .ok (.iload_n 2, 1) := by decide +kernel
theorem dX5_findBestColumn_98 : decode cX5_findBestColumn 98 = .ok (.if_icmp .le 7, 3) := by decide +kernel
theorem dX5_findBestColumn_101 : decode cX5_findBestColumn 101 = .ok (.iload_n 3, 1) := by decide +kernel
theorem dX5_findBestColumn_102 : decode cX5_findBestColumn 102 = .ok (.goto 4, 3) := by decide +kernel
theorem dX5_findBestColumn_105 : decode cX5_findBestColumn 105 = .ok (.iload_n 1, 1) := by decide +kernel
theorem dX5_findBestColumn_106 : decode cX5_findBestColumn 106 = .ok (.istore_n 1, 1) := by decide +kernel
theorem dX5_findBestColumn_107 : decode cX5_findBestColumn 107 = .ok (.iload 6, 2) := by decide +kernel
theorem dX5_findBestColumn_109 : decode cX5_findBestColumn 109 = .ok (.iload_n 2, 1) := by decide +kernel
theorem dX5_findBestColumn_110 : decode cX5_findBestColumn 110 = .ok (.if_icmp .le 8, 3) := by decide +kernel
theorem dX5_findBestColumn_113 : decode cX5_findBestColumn 113 = .ok (.iload 6, 2) := by decide +kernel
theorem dX5_findBestColumn_115 : decode cX5_findBestColumn 115 = .ok (.goto 4, 3) := by decide +kernel
theorem dX5_findBestColumn_118 : decode cX5_findBestColumn 118 = .ok (.iload_n 2, 1) := by decide +kernel
theorem dX5_findBestColumn_119 : decode cX5_findBestColumn 119 = .ok (.istore_n 2, 1) := by decide +kernel
theorem dX5_findBestColumn_120 : decode cX5_findBestColumn 120 = .ok (.iinc 3 1, 3) := by decide +kernel
theorem dX5_findBestColumn_123 : decode cX5_findBestColumn 123 = .ok (.goto (-117), 3) := by decide +kernel
theorem dX5_findBestColumn_126 : decode cX5_findBestColumn 126 = .ok (.iload_n 1, 1) := by decide +kernel
theorem dX5_findBestColumn_127 : decode cX5_findBestColumn 127 = .ok (.ireturn, 1) := by decide +kernel
theorem dX5_bestColumn_0 : decode cX5_bestColumn 0 = .ok (.aload_n 0, 1) := by decide +kernel
theorem dX5_bestColumn_1 : decode cX5_bestColumn 1 = .ok (.iconst 0, 1) := by decide +kernel
theorem dX5_bestColumn_2 : decode cX5_bestColumn 2 = .ok (.putfield 35, 3) := by decide +kernel
theorem dX5_bestColumn_5 : decode cX5_bestColumn 5 = .ok (.aload_n 0, 1) := by decide +kernel
theorem dX5_bestColumn_6 : decode cX5_bestColumn 6 = .ok (.invokevirtual 171, 3) := by decide +kernel
theorem dX5_bestColumn_9 : decode cX5_bestColumn 9 = .ok (.ireturn, 1) := by decide +kernel
theorem dX5_launchesToOpen_0 : decode cX5_launchesToOpen 0 = .ok (.aload_n 0, 1) := by decide +kernel
theorem dX5_launchesToOpen_1 : decode cX5_launchesToOpen 1 = .ok (.invokevirtual 162, 3) := by decide +kernel
theorem dX5_launchesToOpen_4 : decode cX5_launchesToOpen 4 = .ok (.iconst 0, 1) := by decide +kernel
theorem dX5_launchesToOpen_5 : decode cX5_launchesToOpen 5 = .ok (.istore_n 2, 1) := by decide +kernel
theorem dX5_launchesToOpen_6 : decode cX5_launchesToOpen 6 = .ok (.aload_n 0, 1) := by decide +kernel
theorem dX5_launchesToOpen_7 : decode cX5_launchesToOpen 7 = .ok (.getfield 7, 3) := by decide +kernel
theorem dX5_launchesToOpen_10 : decode cX5_launchesToOpen 10 = .ok (.bipush 10, 2) := by decide +kernel
theorem dX5_launchesToOpen_12 : decode cX5_launchesToOpen 12 = .ok (.iaload, 1) := by decide +kernel
theorem dX5_launchesToOpen_13 : decode cX5_launchesToOpen 13 = .ok (.ifCond .ne 22, 3) := by decide +kernel
theorem dX5_launchesToOpen_16 : decode cX5_launchesToOpen 16 = .ok (.iload_n 2, 1) := by decide +kernel
theorem dX5_launchesToOpen_17 : decode cX5_launchesToOpen 17 = .ok (.sipush 200, 3) := by decide +kernel
theorem dX5_launchesToOpen_20 : decode cX5_launchesToOpen 20 = .ok (.if_icmp .gt 15, 3) := by decide +kernel
theorem dX5_launchesToOpen_23 : decode cX5_launchesToOpen 23 = .ok (.aload_n 0, 1) := by decide +kernel
theorem dX5_launchesToOpen_24 : decode cX5_launchesToOpen 24 = .ok (.iload_n 1, 1) := by decide +kernel
theorem dX5_launchesToOpen_25 : decode cX5_launchesToOpen 25 = .ok (.invokevirtual 103, 3) := by decide +kernel
theorem dX5_launchesToOpen_28 : decode cX5_launchesToOpen 28 = .ok (.pop, 1) := by decide +kernel
theorem dX5_launchesToOpen_29 : decode cX5_launchesToOpen 29 = .ok (.iinc 2 1, 3) := by decide +kernel
theorem dX5_launchesToOpen_32 : decode cX5_launchesToOpen 32 = .ok (.goto (-26), 3) := by decide +kernel
theorem dX5_launchesToOpen_35 : decode cX5_launchesToOpen 35 = .ok (.aload_n 0, 1) := by decide +kernel
theorem dX5_launchesToOpen_36 : decode cX5_launchesToOpen 36 = .ok (.invokevirtual 165, 3) := by decide +kernel
theorem dX5_launchesToOpen_39 : decode cX5_launchesToOpen 39 = .ok (.iload_n 2, 1) := by decide +kernel
theorem dX5_launchesToOpen_40 : decode cX5_launchesToOpen 40 = .ok (.sipush 200, 3) := by decide +kernel
theorem dX5_launchesToOpen_43 : decode cX5_launchesToOpen 43 = .ok (.if_icmp .gt 7, 3) := by decide +kernel
theorem dX5_launchesToOpen_46 : decode cX5_launchesToOpen 46 = .ok (.iload_n 2, 1) := by decide +kernel
theorem dX5_launchesToOpen_47 : decode cX5_launchesToOpen 47 = .ok (.goto 4, 3) := by decide +kernel
theorem dX5_launchesToOpen_50 : decode cX5_launchesToOpen 50 = .ok (.iconst (-1), 1) := by decide +kernel
theorem dX5_launchesToOpen_51 : decode cX5_launchesToOpen 51 = .ok (.ireturn, 1) := by decide +kernel
theorem dX5_untilOpen_0 : decode cX5_untilOpen 0 = .ok (.aload_n 0, 1) := by decide +kernel
theorem dX5_untilOpen_1 : decode cX5_untilOpen 1 = .ok (.iload_n 1, 1) := by decide +kernel
theorem dX5_untilOpen_2 : decode cX5_untilOpen 2 = .ok (.invokestatic 61, 3) := by decide +kernel
theorem dX5_untilOpen_5 : decode cX5_untilOpen 5 = .ok (.ifCond .eq 7, 3) := by decide +kernel
theorem dX5_untilOpen_8 : decode cX5_untilOpen 8 = .ok (.iconst 0, 1) := by decide +kernel
theorem dX5_untilOpen_9 : decode cX5_untilOpen 9 = .ok (.goto 4, 3) := by decide +kernel
theorem dX5_untilOpen_12 : decode cX5_untilOpen 12 = .ok (.iconst 1, 1) := by decide +kernel
theorem dX5_untilOpen_13 : decode cX5_untilOpen 13 = .ok (.putfield 35, 3) := by decide +kernel
theorem dX5_untilOpen_16 : decode cX5_untilOpen 16 = .ok (.aload_n 0, 1) := by decide +kernel
theorem dX5_untilOpen_17 : decode cX5_untilOpen 17 = .ok (.getfield 35, 3) := by decide +kernel
theorem dX5_untilOpen_20 : decode cX5_untilOpen 20 = .ok (.ifCond .le 7, 3) := by decide +kernel
theorem dX5_untilOpen_23 : decode cX5_untilOpen 23 = .ok (.iconst 0, 1) := by decide +kernel
theorem dX5_untilOpen_24 : decode cX5_untilOpen 24 = .ok (.goto 8, 3) := by decide +kernel
theorem dX5_untilOpen_27 : decode cX5_untilOpen 27 = .ok (.aload_n 0, 1) := by decide +kernel
theorem dX5_untilOpen_28 : decode cX5_untilOpen 28 = .ok (.iload_n 1, 1) := by decide +kernel
theorem dX5_untilOpen_29 : decode cX5_untilOpen 29 = .ok (.invokevirtual 174, 3) := by decide +kernel
theorem dX5_untilOpen_32 : decode cX5_untilOpen 32 = .ok (.ireturn, 1) := by decide +kernel
theorem dX5_share_0 : decode cX5_share 0 = .ok (.aload_n 0, 1) := by decide +kernel
theorem dX5_share_1 : decode cX5_share 1 = .ok (.getfield 7, 3) := by decide +kernel
theorem dX5_share_4 : decode cX5_share 4 = .ok (.iconst 3, 1) := by decide +kernel
theorem dX5_share_5 : decode cX5_share 5 = .ok (.iaload, 1) := by decide +kernel
theorem dX5_share_6 : decode cX5_share 6 = .ok (.ifCond .ne 7, 3) := by decide +kernel
theorem dX5_share_9 : decode cX5_share 9 = .ok (.dconst 0, 1) := by decide +kernel
theorem dX5_share_10 : decode cX5_share 10 = .ok (.goto 18, 3) := by decide +kernel
theorem dX5_share_13 : decode cX5_share 13 = .ok (.aload_n 0, 1) := by decide +kernel
theorem dX5_share_14 : decode cX5_share 14 = .ok (.getfield 7, 3) := by decide +kernel
theorem dX5_share_17 : decode cX5_share 17 = .ok (.iconst 4, 1) := by decide +kernel
theorem dX5_share_18 : decode cX5_share 18 = .ok (.iaload, 1) := by decide +kernel
theorem dX5_share_19 : decode cX5_share 19 = .ok (.i2d, 1) := by decide +kernel
theorem dX5_share_20 : decode cX5_share 20 = .ok (.aload_n 0, 1) := by decide +kernel
theorem dX5_share_21 : decode cX5_share 21 = .ok (.getfield 7, 3) := by decide +kernel
theorem dX5_share_24 : decode cX5_share 24 = .ok (.iconst 3, 1) := by decide +kernel
theorem dX5_share_25 : decode cX5_share 25 = .ok (.iaload, 1) := by decide +kernel
theorem dX5_share_26 : decode cX5_share 26 = .ok (.i2d, 1) := by decide +kernel
theorem dX5_share_27 : decode cX5_share 27 = .ok (.ddiv, 1) := by decide +kernel
theorem dX5_share_28 : decode cX5_share 28 = .ok (.dreturn, 1) := by decide +kernel
theorem dX5_payback_0 : decode cX5_payback 0 = .ok (.aload_n 0, 1) := by decide +kernel
theorem dX5_payback_1 : decode cX5_payback 1 = .ok (.iconst 0, 1) := by decide +kernel
theorem dX5_payback_2 : decode cX5_payback 2 = .ok (.putfield 35, 3) := by decide +kernel
theorem dX5_payback_5 : decode cX5_payback 5 = .ok (.aload_n 0, 1) := by decide +kernel
theorem dX5_payback_6 : decode cX5_payback 6 = .ok (.invokevirtual 177, 3) := by decide +kernel
theorem dX5_payback_9 : decode cX5_payback 9 = .ok (.dreturn, 1) := by decide +kernel
theorem dX5_digest_0 : decode cX5_digest 0 = .ok (.aload_n 0, 1) := by decide +kernel
theorem dX5_digest_1 : decode cX5_digest 1 = .ok (.iconst 0, 1) := by decide +kernel
theorem dX5_digest_2 : decode cX5_digest 2 = .ok (.putfield 35, 3) := by decide +kernel
theorem dX5_digest_5 : decode cX5_digest 5 = .ok (.ldc2_w 181, 3) := by decide +kernel
theorem dX5_digest_8 : decode cX5_digest 8 = .ok (.lstore_n 1, 1) := by decide +kernel
theorem dX5_digest_9 : decode cX5_digest 9 = .ok (.iconst 0, 1) := by decide +kernel
theorem dX5_digest_10 : decode cX5_digest 10 = .ok (.istore_n 3, 1) := by decide +kernel
theorem dX5_digest_11 : decode cX5_digest 11 = .ok (.iload_n 3, 1) := by decide +kernel
theorem dX5_digest_12 : decode cX5_digest 12 = .ok (.bipush 18, 2) := by decide +kernel
theorem dX5_digest_14 : decode cX5_digest 14 = .ok (.if_icmp .ge 22, 3) := by decide +kernel
theorem dX5_digest_17 : decode cX5_digest 17 = .ok (.ldc2_w 183, 3) := by decide +kernel
theorem dX5_digest_20 : decode cX5_digest 20 = .ok (.lload_n 1, 1) := by decide +kernel
theorem dX5_digest_21 : decode cX5_digest 21 = .ok (.lmul, 1) := by decide +kernel
theorem dX5_digest_22 : decode cX5_digest 22 = .ok (.aload_n 0, 1) := by decide +kernel
theorem dX5_digest_23 : decode cX5_digest 23 = .ok (.iload_n 3, 1) := by decide +kernel
theorem dX5_digest_24 : decode cX5_digest 24 = .ok (.invokevirtual 149, 3) := by decide +kernel
theorem dX5_digest_27 : decode cX5_digest 27 = .ok (.i2l, 1) := by decide +kernel
theorem dX5_digest_28 : decode cX5_digest 28 = .ok (.ladd, 1) := by decide +kernel
theorem dX5_digest_29 : decode cX5_digest 29 = .ok (.lstore_n 1, 1) := by decide +kernel
theorem dX5_digest_30 : decode cX5_digest 30 = .ok (.iinc 3 1, 3) := by decide +kernel
theorem dX5_digest_33 : decode cX5_digest 33 = .ok (.goto (-22), 3) := by decide +kernel
theorem dX5_digest_36 : decode cX5_digest 36 = .ok (.iconst 0, 1) := by decide +kernel
theorem dX5_digest_37 : decode cX5_digest 37 = .ok (.istore_n 3, 1) := by decide +kernel
theorem dX5_digest_38 : decode cX5_digest 38 = .ok (.iload_n 3, 1) := by decide +kernel
theorem dX5_digest_39 : decode cX5_digest 39 = .ok (.bipush 56, 2) := by decide +kernel
theorem dX5_digest_41 : decode cX5_digest 41 = .ok (.if_icmp .ge 24, 3) := by decide +kernel
theorem dX5_digest_44 : decode cX5_digest 44 = .ok (.ldc2_w 183, 3) := by decide +kernel
theorem dX5_digest_47 : decode cX5_digest 47 = .ok (.lload_n 1, 1) := by decide +kernel
theorem dX5_digest_48 : decode cX5_digest 48 = .ok (.lmul, 1) := by decide +kernel
theorem dX5_digest_49 : decode cX5_digest 49 = .ok (.aload_n 0, 1) := by decide +kernel
theorem dX5_digest_50 : decode cX5_digest 50 = .ok (.iload_n 3, 1) := by decide +kernel
theorem dX5_digest_51 : decode cX5_digest 51 = .ok (.invokevirtual 53, 3) := by decide +kernel
theorem dX5_digest_54 : decode cX5_digest 54 = .ok (.i2l, 1) := by decide +kernel
theorem dX5_digest_55 : decode cX5_digest 55 = .ok (.ladd, 1) := by decide +kernel
theorem dX5_digest_56 : decode cX5_digest 56 = .ok (.lconst 1, 1) := by decide +kernel
theorem dX5_digest_57 : decode cX5_digest 57 = .ok (.ladd, 1) := by decide +kernel
theorem dX5_digest_58 : decode cX5_digest 58 = .ok (.lstore_n 1, 1) := by decide +kernel
theorem dX5_digest_59 : decode cX5_digest 59 = .ok (.iinc 3 1, 3) := by decide +kernel
theorem dX5_digest_62 : decode cX5_digest 62 = .ok (.goto (-24), 3) := by decide +kernel
theorem dX5_digest_65 : decode cX5_digest 65 = .ok (.aload_n 0, 1) := by decide +kernel
theorem dX5_digest_66 : decode cX5_digest 66 = .ok (.invokevirtual 146, 3) := by decide +kernel
theorem dX5_digest_69 : decode cX5_digest 69 = .ok (.istore_n 3, 1) := by decide +kernel
theorem dX5_digest_70 : decode cX5_digest 70 = .ok (.iconst 0, 1) := by decide +kernel
theorem dX5_digest_71 : decode cX5_digest 71 = .ok (.istore 4, 2) := by decide +kernel
theorem dX5_digest_73 : decode cX5_digest 73 = .ok (.iload 4, 2) := by decide +kernel
theorem dX5_digest_75 : decode cX5_digest 75 = .ok (.iload_n 3, 1) := by decide +kernel
theorem dX5_digest_76 : decode cX5_digest 76 = .ok (.if_icmp .ge 23, 3) := by decide +kernel
theorem dX5_digest_79 : decode cX5_digest 79 = .ok (.ldc2_w 183, 3) := by decide +kernel
theorem dX5_digest_82 : decode cX5_digest 82 = .ok (.lload_n 1, 1) := by decide +kernel
theorem dX5_digest_83 : decode cX5_digest 83 = .ok (.lmul, 1) := by decide +kernel
theorem dX5_digest_84 : decode cX5_digest 84 = .ok (.aload_n 0, 1) := by decide +kernel
theorem dX5_digest_85 : decode cX5_digest 85 = .ok (.iload 4, 2) := by decide +kernel
theorem dX5_digest_87 : decode cX5_digest 87 = .ok (.invokevirtual 140, 3) := by decide +kernel
theorem dX5_digest_90 : decode cX5_digest 90 = .ok (.i2l, 1) := by decide +kernel
theorem dX5_digest_91 : decode cX5_digest 91 = .ok (.ladd, 1) := by decide +kernel
theorem dX5_digest_92 : decode cX5_digest 92 = .ok (.lstore_n 1, 1) := by decide +kernel
theorem dX5_digest_93 : decode cX5_digest 93 = .ok (.iinc 4 1, 3) := by decide +kernel
theorem dX5_digest_96 : decode cX5_digest 96 = .ok (.goto (-23), 3) := by decide +kernel
theorem dX5_digest_99 : decode cX5_digest 99 = .ok (.iconst 0, 1) := by decide +kernel
theorem dX5_digest_100 : decode cX5_digest 100 = .ok (.istore 4, 2) := by decide +kernel
theorem dX5_digest_102 : decode cX5_digest 102 = .ok (.iload 4, 2) := by decide +kernel
theorem dX5_digest_104 : decode cX5_digest 104 = .ok (.bipush 8, 2) := by decide +kernel
theorem dX5_digest_106 : decode cX5_digest 106 = .ok (.if_icmp .ge 28, 3) := by decide +kernel
theorem dX5_digest_109 : decode cX5_digest 109 = .ok (.ldc2_w 183, 3) := by decide +kernel
theorem dX5_digest_112 : decode cX5_digest 112 = .ok (.lload_n 1, 1) := by decide +kernel
theorem dX5_digest_113 : decode cX5_digest 113 = .ok (.lmul, 1) := by decide +kernel
theorem dX5_digest_114 : decode cX5_digest 114 = .ok (.aload_n 0, 1) := by decide +kernel
theorem dX5_digest_115 : decode cX5_digest 115 = .ok (.getfield 7, 3) := by decide +kernel
theorem dX5_digest_118 : decode cX5_digest 118 = .ok (.sipush 167, 3) := by decide +kernel
theorem dX5_digest_121 : decode cX5_digest 121 = .ok (.iload 4, 2) := by decide +kernel
theorem dX5_digest_123 : decode cX5_digest 123 = .ok (.iadd, 1) := by decide +kernel
theorem dX5_digest_124 : decode cX5_digest 124 = .ok (.iaload, 1) := by decide +kernel
theorem dX5_digest_125 : decode cX5_digest 125 = .ok (.i2l, 1) := by decide +kernel
theorem dX5_digest_126 : decode cX5_digest 126 = .ok (.ladd, 1) := by decide +kernel
theorem dX5_digest_127 : decode cX5_digest 127 = .ok (.lstore_n 1, 1) := by decide +kernel
theorem dX5_digest_128 : decode cX5_digest 128 = .ok (.iinc 4 1, 3) := by decide +kernel
theorem dX5_digest_131 : decode cX5_digest 131 = .ok (.goto (-29), 3) := by decide +kernel
theorem dX5_digest_134 : decode cX5_digest 134 = .ok (.iconst 0, 1) := by decide +kernel
theorem dX5_digest_135 : decode cX5_digest 135 = .ok (.istore 4, 2) := by decide +kernel
theorem dX5_digest_137 : decode cX5_digest 137 = .ok (.iload 4, 2) := by decide +kernel
theorem dX5_digest_139 : decode cX5_digest 139 = .ok (.bipush 7, 2) := by decide +kernel
theorem dX5_digest_141 : decode cX5_digest 141 = .ok (.if_icmp .ge 40, 3) := by decide +kernel
theorem dX5_digest_144 : decode cX5_digest 144 = .ok (.iconst 0, 1) := by decide +kernel
theorem dX5_digest_145 : decode cX5_digest 145 = .ok (.istore 5, 2) := by decide +kernel
theorem dX5_digest_147 : decode cX5_digest 147 = .ok (.iload 5, 2) := by decide +kernel
theorem dX5_digest_149 : decode cX5_digest 149 = .ok (.iconst 5, 1) := by decide +kernel
theorem dX5_digest_150 : decode cX5_digest 150 = .ok (.if_icmp .ge 25, 3) := by decide +kernel
theorem dX5_digest_153 : decode cX5_digest 153 = .ok (.ldc2_w 183, 3) := by decide +kernel
theorem dX5_digest_156 : decode cX5_digest 156 = .ok (.lload_n 1, 1) := by decide +kernel
theorem dX5_digest_157 : decode cX5_digest 157 = .ok (.lmul, 1) := by decide +kernel
theorem dX5_digest_158 : decode cX5_digest 158 = .ok (.aload_n 0, 1) := by decide +kernel
theorem dX5_digest_159 : decode cX5_digest 159 = .ok (.iload 4, 2) := by decide +kernel
theorem dX5_digest_161 : decode cX5_digest 161 = .ok (.iload 5, 2) := by decide +kernel
theorem dX5_digest_163 : decode cX5_digest 163 = .ok (.invokevirtual 143, 3) := by decide +kernel
theorem dX5_digest_166 : decode cX5_digest 166 = .ok (.i2l, 1) := by decide +kernel
theorem dX5_digest_167 : decode cX5_digest 167 = .ok (.ladd, 1) := by decide +kernel
theorem dX5_digest_168 : decode cX5_digest 168 = .ok (.lstore_n 1, 1) := by decide +kernel
theorem dX5_digest_169 : decode cX5_digest 169 = .ok (.iinc 5 1, 3) := by decide +kernel
theorem dX5_digest_172 : decode cX5_digest 172 = .ok (.goto (-25), 3) := by decide +kernel
theorem dX5_digest_175 : decode cX5_digest 175 = .ok (.iinc 4 1, 3) := by decide +kernel
theorem dX5_digest_178 : decode cX5_digest 178 = .ok (.goto (-41), 3) := by decide +kernel
theorem dX5_digest_181 : decode cX5_digest 181 = .ok (.iconst 0, 1) := by decide +kernel
theorem dX5_digest_182 : decode cX5_digest 182 = .ok (.istore 4, 2) := by decide +kernel
theorem dX5_digest_184 : decode cX5_digest 184 = .ok (.iload 4, 2) := by decide +kernel
theorem dX5_digest_186 : decode cX5_digest 186 = .ok (.iconst 3, 1) := by decide +kernel
theorem dX5_digest_187 : decode cX5_digest 187 = .ok (.if_icmp .ge 27, 3) := by decide +kernel
theorem dX5_digest_190 : decode cX5_digest 190 = .ok (.ldc2_w 183, 3) := by decide +kernel
theorem dX5_digest_193 : decode cX5_digest 193 = .ok (.lload_n 1, 1) := by decide +kernel
theorem dX5_digest_194 : decode cX5_digest 194 = .ok (.lmul, 1) := by decide +kernel
theorem dX5_digest_195 : decode cX5_digest 195 = .ok (.aload_n 0, 1) := by decide +kernel
theorem dX5_digest_196 : decode cX5_digest 196 = .ok (.getfield 7, 3) := by decide +kernel
theorem dX5_digest_199 : decode cX5_digest 199 = .ok (.bipush 17, 2) := by decide +kernel
theorem dX5_digest_201 : decode cX5_digest 201 = .ok (.iload 4, 2) := by decide +kernel
theorem dX5_digest_203 : decode cX5_digest 203 = .ok (.iadd, 1) := by decide +kernel
theorem dX5_digest_204 : decode cX5_digest 204 = .ok (.iaload, 1) := by decide +kernel
theorem dX5_digest_205 : decode cX5_digest 205 = .ok (.i2l, 1) := by decide +kernel
theorem dX5_digest_206 : decode cX5_digest 206 = .ok (.ladd, 1) := by decide +kernel
theorem dX5_digest_207 : decode cX5_digest 207 = .ok (.lstore_n 1, 1) := by decide +kernel
theorem dX5_digest_208 : decode cX5_digest 208 = .ok (.iinc 4 1, 3) := by decide +kernel
theorem dX5_digest_211 : decode cX5_digest 211 = .ok (.goto (-27), 3) := by decide +kernel
theorem dX5_digest_214 : decode cX5_digest 214 = .ok (.iconst 0, 1) := by decide +kernel
theorem dX5_digest_215 : decode cX5_digest 215 = .ok (.istore 4, 2) := by decide +kernel
theorem dX5_digest_217 : decode cX5_digest 217 = .ok (.iload 4, 2) := by decide +kernel
theorem dX5_digest_219 : decode cX5_digest 219 = .ok (.bipush 7, 2) := by decide +kernel
theorem dX5_digest_221 : decode cX5_digest 221 = .ok (.if_icmp .ge 100, 3) := by decide +kernel
theorem dX5_digest_224 : decode cX5_digest 224 = .ok (.iconst 0, 1) := by decide +kernel
theorem dX5_digest_225 : decode cX5_digest 225 = .ok (.istore 5, 2) := by decide +kernel
theorem dX5_digest_227 : decode cX5_digest 227 = .ok (.iload 5, 2) := by decide +kernel
theorem dX5_digest_229 : decode cX5_digest 229 = .ok (.bipush 7, 2) := by decide +kernel
theorem dX5_digest_231 : decode cX5_digest 231 = .ok (.if_icmp .ge 39, 3) := by decide +kernel
theorem dX5_digest_234 : decode cX5_digest 234 = .ok (.ldc2_w 183, 3) := by decide +kernel
theorem dX5_digest_237 : decode cX5_digest 237 = .ok (.ldc2_w 183, 3) := by decide +kernel
theorem dX5_digest_240 : decode cX5_digest 240 = .ok (.lload_n 1, 1) := by decide +kernel
theorem dX5_digest_241 : decode cX5_digest 241 = .ok (.lmul, 1) := by decide +kernel
theorem dX5_digest_242 : decode cX5_digest 242 = .ok (.aload_n 0, 1) := by decide +kernel
theorem dX5_digest_243 : decode cX5_digest 243 = .ok (.iload 4, 2) := by decide +kernel
theorem dX5_digest_245 : decode cX5_digest 245 = .ok (.iload 5, 2) := by decide +kernel
theorem dX5_digest_247 : decode cX5_digest 247 = .ok (.invokevirtual 156, 3) := by decide +kernel
theorem dX5_digest_250 : decode cX5_digest 250 = .ok (.i2l, 1) := by decide +kernel
theorem dX5_digest_251 : decode cX5_digest 251 = .ok (.ladd, 1) := by decide +kernel
theorem dX5_digest_252 : decode cX5_digest 252 = .ok (.lmul, 1) := by decide +kernel
theorem dX5_digest_253 : decode cX5_digest 253 = .ok (.aload_n 0, 1) := by decide +kernel
theorem dX5_digest_254 : decode cX5_digest 254 = .ok (.iload 4, 2) := by decide +kernel
theorem dX5_digest_256 : decode cX5_digest 256 = .ok (.iload 5, 2) := by decide +kernel
theorem dX5_digest_258 : decode cX5_digest 258 = .ok (.invokevirtual 156, 3) := by decide +kernel
theorem dX5_digest_261 : decode cX5_digest 261 = .ok (.i2l, 1) := by decide +kernel
theorem dX5_digest_262 : decode cX5_digest 262 = .ok (.ladd, 1) := by decide +kernel
theorem dX5_digest_263 : decode cX5_digest 263 = .ok (.lstore_n 1, 1) := by decide +kernel
theorem dX5_digest_264 : decode cX5_digest 264 = .ok (.iinc 5 1, 3) := by decide +kernel
theorem dX5_digest_267 : decode cX5_digest 267 = .ok (.goto (-40), 3) := by decide +kernel
theorem dX5_digest_270 : decode cX5_digest 270 = .ok (.iconst 0, 1) := by decide +kernel
theorem dX5_digest_271 : decode cX5_digest 271 = .ok (.istore 5, 2) := by decide +kernel
theorem dX5_digest_273 : decode cX5_digest 273 = .ok (.iload 5, 2) := by decide +kernel
theorem dX5_digest_275 : decode cX5_digest 275 = .ok (.iconst 4, 1) := by decide +kernel
theorem dX5_digest_276 : decode cX5_digest 276 = .ok (.if_icmp .ge 25, 3) := by decide +kernel
theorem dX5_digest_279 : decode cX5_digest 279 = .ok (.ldc2_w 183, 3) := by decide +kernel
theorem dX5_digest_282 : decode cX5_digest 282 = .ok (.lload_n 1, 1) := by decide +kernel
theorem dX5_digest_283 : decode cX5_digest 283 = .ok (.lmul, 1) := by decide +kernel
theorem dX5_digest_284 : decode cX5_digest 284 = .ok (.aload_n 0, 1) := by decide +kernel
theorem dX5_digest_285 : decode cX5_digest 285 = .ok (.iload 4, 2) := by decide +kernel
theorem dX5_digest_287 : decode cX5_digest 287 = .ok (.iload 5, 2) := by decide +kernel
theorem dX5_digest_289 : decode cX5_digest 289 = .ok (.invokevirtual 168, 3) := by decide +kernel
theorem dX5_digest_292 : decode cX5_digest 292 = .ok (.i2l, 1) := by decide +kernel
theorem dX5_digest_293 : decode cX5_digest 293 = .ok (.ladd, 1) := by decide +kernel
theorem dX5_digest_294 : decode cX5_digest 294 = .ok (.lstore_n 1, 1) := by decide +kernel
theorem dX5_digest_295 : decode cX5_digest 295 = .ok (.iinc 5 1, 3) := by decide +kernel
theorem dX5_digest_298 : decode cX5_digest 298 = .ok (.goto (-25), 3) := by decide +kernel
theorem dX5_digest_301 : decode cX5_digest 301 = .ok (.ldc2_w 183, 3) := by decide +kernel
theorem dX5_digest_304 : decode cX5_digest 304 = .ok (.lload_n 1, 1) := by decide +kernel
theorem dX5_digest_305 : decode cX5_digest 305 = .ok (.lmul, 1) := by decide +kernel
theorem dX5_digest_306 : decode cX5_digest 306 = .ok (.aload_n 0, 1) := by decide +kernel
theorem dX5_digest_307 : decode cX5_digest 307 = .ok (.iload 4, 2) := by decide +kernel
theorem dX5_digest_309 : decode cX5_digest 309 = .ok (.invokevirtual 174, 3) := by decide +kernel
theorem dX5_digest_312 : decode cX5_digest 312 = .ok (.i2l, 1) := by decide +kernel
theorem dX5_digest_313 : decode cX5_digest 313 = .ok (.ladd, 1) := by decide +kernel
theorem dX5_digest_314 : decode cX5_digest 314 = .ok (.lstore_n 1, 1) := by decide +kernel
theorem dX5_digest_315 : decode cX5_digest 315 = .ok (.iinc 4 1, 3) := by decide +kernel
theorem dX5_digest_318 : decode cX5_digest 318 = .ok (.goto (-101), 3) := by decide +kernel
theorem dX5_digest_321 : decode cX5_digest 321 = .ok (.ldc2_w 183, 3) := by decide +kernel
theorem dX5_digest_324 : decode cX5_digest 324 = .ok (.lload_n 1, 1) := by decide +kernel
theorem dX5_digest_325 : decode cX5_digest 325 = .ok (.lmul, 1) := by decide +kernel
theorem dX5_digest_326 : decode cX5_digest 326 = .ok (.aload_n 0, 1) := by decide +kernel
theorem dX5_digest_327 : decode cX5_digest 327 = .ok (.invokevirtual 171, 3) := by decide +kernel
theorem dX5_digest_330 : decode cX5_digest 330 = .ok (.i2l, 1) := by decide +kernel
theorem dX5_digest_331 : decode cX5_digest 331 = .ok (.ladd, 1) := by decide +kernel
theorem dX5_digest_332 : decode cX5_digest 332 = .ok (.lstore_n 1, 1) := by decide +kernel
theorem dX5_digest_333 : decode cX5_digest 333 = .ok (.ldc2_w 183, 3) := by decide +kernel
theorem dX5_digest_336 : decode cX5_digest 336 = .ok (.lload_n 1, 1) := by decide +kernel
theorem dX5_digest_337 : decode cX5_digest 337 = .ok (.lmul, 1) := by decide +kernel
theorem dX5_digest_338 : decode cX5_digest 338 = .ok (.aload_n 0, 1) := by decide +kernel
theorem dX5_digest_339 : decode cX5_digest 339 = .ok (.invokevirtual 177, 3) := by decide +kernel
theorem dX5_digest_342 : decode cX5_digest 342 = .ok (.invokestatic 185, 3) := by decide +kernel
theorem dX5_digest_345 : decode cX5_digest 345 = .ok (.ladd, 1) := by decide +kernel
theorem dX5_digest_346 : decode cX5_digest 346 = .ok (.lstore_n 1, 1) := by decide +kernel
theorem dX5_digest_347 : decode cX5_digest 347 = .ok (.ldc2_w 183, 3) := by decide +kernel
theorem dX5_digest_350 : decode cX5_digest 350 = .ok (.lload_n 1, 1) := by decide +kernel
theorem dX5_digest_351 : decode cX5_digest 351 = .ok (.lmul, 1) := by decide +kernel
theorem dX5_digest_352 : decode cX5_digest 352 = .ok (.aload_n 0, 1) := by decide +kernel
theorem dX5_digest_353 : decode cX5_digest 353 = .ok (.getfield 109, 3) := by decide +kernel
theorem dX5_digest_356 : decode cX5_digest 356 = .ok (.i2l, 1) := by decide +kernel
theorem dX5_digest_357 : decode cX5_digest 357 = .ok (.ladd, 1) := by decide +kernel
theorem dX5_digest_358 : decode cX5_digest 358 = .ok (.lstore_n 1, 1) := by decide +kernel
theorem dX5_digest_359 : decode cX5_digest 359 = .ok (.iconst 0, 1) := by decide +kernel
theorem dX5_digest_360 : decode cX5_digest 360 = .ok (.istore 4, 2) := by decide +kernel
theorem dX5_digest_362 : decode cX5_digest 362 = .ok (.iload 4, 2) := by decide +kernel
theorem dX5_digest_364 : decode cX5_digest 364 = .ok (.aload_n 0, 1) := by decide +kernel
theorem dX5_digest_365 : decode cX5_digest 365 = .ok (.getfield 109, 3) := by decide +kernel
theorem dX5_digest_368 : decode cX5_digest 368 = .ok (.if_icmp .ge 24, 3) := by decide +kernel
theorem dX5_digest_371 : decode cX5_digest 371 = .ok (.ldc2_w 183, 3) := by decide +kernel
theorem dX5_digest_374 : decode cX5_digest 374 = .ok (.lload_n 1, 1) := by decide +kernel
theorem dX5_digest_375 : decode cX5_digest 375 = .ok (.lmul, 1) := by decide +kernel
theorem dX5_digest_376 : decode cX5_digest 376 = .ok (.aload_n 0, 1) := by decide +kernel
theorem dX5_digest_377 : decode cX5_digest 377 = .ok (.getfield 22, 3) := by decide +kernel
theorem dX5_digest_380 : decode cX5_digest 380 = .ok (.iload 4, 2) := by decide +kernel
theorem dX5_digest_382 : decode cX5_digest 382 = .ok (.iaload, 1) := by decide +kernel
theorem dX5_digest_383 : decode cX5_digest 383 = .ok (.i2l, 1) := by decide +kernel
theorem dX5_digest_384 : decode cX5_digest 384 = .ok (.ladd, 1) := by decide +kernel
theorem dX5_digest_385 : decode cX5_digest 385 = .ok (.lstore_n 1, 1) := by decide +kernel
theorem dX5_digest_386 : decode cX5_digest 386 = .ok (.iinc 4 1, 3) := by decide +kernel
theorem dX5_digest_389 : decode cX5_digest 389 = .ok (.goto (-27), 3) := by decide +kernel
theorem dX5_digest_392 : decode cX5_digest 392 = .ok (.lload_n 1, 1) := by decide +kernel
theorem dX5_digest_393 : decode cX5_digest 393 = .ok (.lreturn, 1) := by decide +kernel
theorem dJxe99ae_isNaN_b9ae7_0 : decode cJxe99ae_isNaN_b9ae7 0 = .ok (.dload_n 0, 1) := by decide +kernel
theorem dJxe99ae_isNaN_b9ae7_1 : decode cJxe99ae_isNaN_b9ae7 1 = .ok (.dload_n 0, 1) := by decide +kernel
theorem dJxe99ae_isNaN_b9ae7_2 : decode cJxe99ae_isNaN_b9ae7 2 = .ok (.dcmp .l, 1) := by decide +kernel
theorem dJxe99ae_isNaN_b9ae7_3 : decode cJxe99ae_isNaN_b9ae7 3 = .ok (.ifCond .eq 7, 3) := by decide +kernel
theorem dJxe99ae_isNaN_b9ae7_6 : decode cJxe99ae_isNaN_b9ae7 6 = .ok (.iconst 1, 1) := by decide +kernel
theorem dJxe99ae_isNaN_b9ae7_7 : decode cJxe99ae_isNaN_b9ae7 7 = .ok (.goto 4, 3) := by decide +kernel
theorem dJxe99ae_isNaN_b9ae7_10 : decode cJxe99ae_isNaN_b9ae7 10 = .ok (.iconst 0, 1) := by decide +kernel
theorem dJxe99ae_isNaN_b9ae7_11 : decode cJxe99ae_isNaN_b9ae7 11 = .ok (.ireturn, 1) := by decide +kernel
theorem dJxe99ae_doubleToLongBits_ccdee_0 : decode cJxe99ae_doubleToLongBits_ccdee 0 = .ok (.dload_n 0, 1) := by decide +kernel
theorem dJxe99ae_doubleToLongBits_ccdee_1 : decode cJxe99ae_doubleToLongBits_ccdee 1 = .ok (.invokestatic 122, 3) := by decide +kernel
theorem dJxe99ae_doubleToLongBits_ccdee_4 : decode cJxe99ae_doubleToLongBits_ccdee 4 = .ok (.ifCond .ne 8, 3) := by decide +kernel
theorem dJxe99ae_doubleToLongBits_ccdee_7 : decode cJxe99ae_doubleToLongBits_ccdee 7 = .ok (.dload_n 0, 1) := by decide +kernel
theorem dJxe99ae_doubleToLongBits_ccdee_8 : decode cJxe99ae_doubleToLongBits_ccdee 8 = .ok (.invokestatic 134, 3) := by decide +kernel
theorem dJxe99ae_doubleToLongBits_ccdee_11 : decode cJxe99ae_doubleToLongBits_ccdee 11 = .ok (.lreturn, 1) := by decide +kernel
theorem dJxe99ae_doubleToLongBits_ccdee_12 : decode cJxe99ae_doubleToLongBits_ccdee 12 = .ok (.ldc2_w 137, 3) := by decide +kernel
theorem dJxe99ae_doubleToLongBits_ccdee_15 : decode cJxe99ae_doubleToLongBits_ccdee 15 = .ok (.lreturn, 1) := by decide +kernel
theorem dJ7_fill_53178_0 : decode cJ7_fill_53178 0 = .ok (.iconst 0, 1) := by decide +kernel
theorem dJ7_fill_53178_1 : decode cJ7_fill_53178 1 = .ok (.istore_n 2, 1) := by decide +kernel
theorem dJ7_fill_53178_2 : decode cJ7_fill_53178 2 = .ok (.aload_n 0, 1) := by decide +kernel
theorem dJ7_fill_53178_3 : decode cJ7_fill_53178 3 = .ok (.arraylength, 1) := by decide +kernel
theorem dJ7_fill_53178_4 : decode cJ7_fill_53178 4 = .ok (.istore_n 3, 1) := by decide +kernel
theorem dJ7_fill_53178_5 : decode cJ7_fill_53178 5 = .ok (.iload_n 2, 1) := by decide +kernel
theorem dJ7_fill_53178_6 : decode cJ7_fill_53178 6 = .ok (.iload_n 3, 1) := by decide +kernel
theorem dJ7_fill_53178_7 : decode cJ7_fill_53178 7 = .ok (.if_icmp .ge 13, 3) := by decide +kernel
theorem dJ7_fill_53178_10 : decode cJ7_fill_53178 10 = .ok (.aload_n 0, 1) := by decide +kernel
theorem dJ7_fill_53178_11 : decode cJ7_fill_53178 11 = .ok (.iload_n 2, 1) := by decide +kernel
theorem dJ7_fill_53178_12 : decode cJ7_fill_53178 12 = .ok (.iload_n 1, 1) := by decide +kernel
theorem dJ7_fill_53178_13 : decode cJ7_fill_53178 13 = .ok (.iastore, 1) := by decide +kernel
theorem dJ7_fill_53178_14 : decode cJ7_fill_53178 14 = .ok (.iinc 2 1, 3) := by decide +kernel
theorem dJ7_fill_53178_17 : decode cJ7_fill_53178 17 = .ok (.goto (-12), 3) := by decide +kernel
theorem dJ7_fill_53178_20 : decode cJ7_fill_53178 20 = .ok (.return_, 1) := by decide +kernel
theorem dL_bend_0 : decode cL_bend 0 = .ok (.aload 4, 2) := by decide +kernel
theorem dL_bend_2 : decode cL_bend 2 = .ok (.iconst 0, 1) := by decide +kernel
theorem dL_bend_3 : decode cL_bend 3 = .ok (.aload_n 0, 1) := by decide +kernel
theorem dL_bend_4 : decode cL_bend 4 = .ok (.iload_n 1, 1) := by decide +kernel
theorem dL_bend_5 : decode cL_bend 5 = .ok (.iload_n 2, 1) := by decide +kernel
theorem dL_bend_6 : decode cL_bend 6 = .ok (.iload_n 3, 1) := by decide +kernel
theorem dL_bend_7 : decode cL_bend 7 = .ok (.invokevirtual 7, 3) := by decide +kernel
theorem dL_bend_10 : decode cL_bend 10 = .ok (.i2l, 1) := by decide +kernel
theorem dL_bend_11 : decode cL_bend 11 = .ok (.lastore, 1) := by decide +kernel
theorem dL_bend_12 : decode cL_bend 12 = .ok (.goto 11, 3) := by decide +kernel
theorem dL_bend_15 : decode cL_bend 15 = .ok (.astore 5, 2) := by decide +kernel
theorem dL_bend_17 : decode cL_bend 17 = .ok (.iconst 1, 1) := by decide +kernel
theorem dL_bend_18 : decode cL_bend 18 = .ok (.ireturn, 1) := by decide +kernel
theorem dL_bend_19 : decode cL_bend 19 = .ok (.astore 5, 2) := by decide +kernel
theorem dL_bend_21 : decode cL_bend 21 = .ok (.iconst 2, 1) := by decide +kernel
theorem dL_bend_22 : decode cL_bend 22 = .ok (.ireturn, 1) := by decide +kernel
theorem dL_bend_23 : decode cL_bend 23 = .ok (.iconst 0, 1) := by decide +kernel
theorem dL_bend_24 : decode cL_bend 24 = .ok (.ireturn, 1) := by decide +kernel
theorem dL_pocket_0 : decode cL_pocket 0 = .ok (.aload 4, 2) := by decide +kernel
theorem dL_pocket_2 : decode cL_pocket 2 = .ok (.iconst 0, 1) := by decide +kernel
theorem dL_pocket_3 : decode cL_pocket 3 = .ok (.aload_n 0, 1) := by decide +kernel
theorem dL_pocket_4 : decode cL_pocket 4 = .ok (.iload_n 1, 1) := by decide +kernel
theorem dL_pocket_5 : decode cL_pocket 5 = .ok (.iload_n 2, 1) := by decide +kernel
theorem dL_pocket_6 : decode cL_pocket 6 = .ok (.iload_n 3, 1) := by decide +kernel
theorem dL_pocket_7 : decode cL_pocket 7 = .ok (.invokevirtual 17, 3) := by decide +kernel
theorem dL_pocket_10 : decode cL_pocket 10 = .ok (.i2l, 1) := by decide +kernel
theorem dL_pocket_11 : decode cL_pocket 11 = .ok (.lastore, 1) := by decide +kernel
theorem dL_pocket_12 : decode cL_pocket 12 = .ok (.goto 11, 3) := by decide +kernel
theorem dL_pocket_15 : decode cL_pocket 15 = .ok (.astore 5, 2) := by decide +kernel
theorem dL_pocket_17 : decode cL_pocket 17 = .ok (.iconst 1, 1) := by decide +kernel
theorem dL_pocket_18 : decode cL_pocket 18 = .ok (.ireturn, 1) := by decide +kernel
theorem dL_pocket_19 : decode cL_pocket 19 = .ok (.astore 5, 2) := by decide +kernel
theorem dL_pocket_21 : decode cL_pocket 21 = .ok (.iconst 2, 1) := by decide +kernel
theorem dL_pocket_22 : decode cL_pocket 22 = .ok (.ireturn, 1) := by decide +kernel
theorem dL_pocket_23 : decode cL_pocket 23 = .ok (.iconst 0, 1) := by decide +kernel
theorem dL_pocket_24 : decode cL_pocket 24 = .ok (.ireturn, 1) := by decide +kernel
theorem dL_start_0 : decode cL_start 0 = .ok (.aload_n 2, 1) := by decide +kernel
theorem dL_start_1 : decode cL_start 1 = .ok (.iconst 0, 1) := by decide +kernel
theorem dL_start_2 : decode cL_start 2 = .ok (.aload_n 0, 1) := by decide +kernel
theorem dL_start_3 : decode cL_start 3 = .ok (.iload_n 1, 1) := by decide +kernel
theorem dL_start_4 : decode cL_start 4 = .ok (.invokevirtual 20, 3) := by decide +kernel
theorem dL_start_7 : decode cL_start 7 = .ok (.i2l, 1) := by decide +kernel
theorem dL_start_8 : decode cL_start 8 = .ok (.lastore, 1) := by decide +kernel
theorem dL_start_9 : decode cL_start 9 = .ok (.goto 6, 3) := by decide +kernel
theorem dL_start_12 : decode cL_start 12 = .ok (.astore_n 3, 1) := by decide +kernel
theorem dL_start_13 : decode cL_start 13 = .ok (.iconst 1, 1) := by decide +kernel
theorem dL_start_14 : decode cL_start 14 = .ok (.ireturn, 1) := by decide +kernel
theorem dL_start_15 : decode cL_start 15 = .ok (.iconst 0, 1) := by decide +kernel
theorem dL_start_16 : decode cL_start 16 = .ok (.ireturn, 1) := by decide +kernel
theorem dL_set_0 : decode cL_set 0 = .ok (.aload_n 3, 1) := by decide +kernel
theorem dL_set_1 : decode cL_set 1 = .ok (.iconst 0, 1) := by decide +kernel
theorem dL_set_2 : decode cL_set 2 = .ok (.aload_n 0, 1) := by decide +kernel
theorem dL_set_3 : decode cL_set 3 = .ok (.iload_n 1, 1) := by decide +kernel
theorem dL_set_4 : decode cL_set 4 = .ok (.iload_n 2, 1) := by decide +kernel
theorem dL_set_5 : decode cL_set 5 = .ok (.invokevirtual 24, 3) := by decide +kernel
theorem dL_set_8 : decode cL_set 8 = .ok (.i2l, 1) := by decide +kernel
theorem dL_set_9 : decode cL_set 9 = .ok (.lastore, 1) := by decide +kernel
theorem dL_set_10 : decode cL_set 10 = .ok (.goto 11, 3) := by decide +kernel
theorem dL_set_13 : decode cL_set 13 = .ok (.astore 4, 2) := by decide +kernel
theorem dL_set_15 : decode cL_set 15 = .ok (.iconst 1, 1) := by decide +kernel
theorem dL_set_16 : decode cL_set 16 = .ok (.ireturn, 1) := by decide +kernel
theorem dL_set_17 : decode cL_set 17 = .ok (.astore 4, 2) := by decide +kernel
theorem dL_set_19 : decode cL_set 19 = .ok (.iconst 2, 1) := by decide +kernel
theorem dL_set_20 : decode cL_set 20 = .ok (.ireturn, 1) := by decide +kernel
theorem dL_set_21 : decode cL_set 21 = .ok (.iconst 0, 1) := by decide +kernel
theorem dL_set_22 : decode cL_set 22 = .ok (.ireturn, 1) := by decide +kernel
theorem dL_shuffle_0 : decode cL_shuffle 0 = .ok (.aload_n 2, 1) := by decide +kernel
theorem dL_shuffle_1 : decode cL_shuffle 1 = .ok (.iconst 0, 1) := by decide +kernel
theorem dL_shuffle_2 : decode cL_shuffle 2 = .ok (.aload_n 0, 1) := by decide +kernel
theorem dL_shuffle_3 : decode cL_shuffle 3 = .ok (.iload_n 1, 1) := by decide +kernel
theorem dL_shuffle_4 : decode cL_shuffle 4 = .ok (.invokevirtual 28, 3) := by decide +kernel
theorem dL_shuffle_7 : decode cL_shuffle 7 = .ok (.i2l, 1) := by decide +kernel
theorem dL_shuffle_8 : decode cL_shuffle 8 = .ok (.lastore, 1) := by decide +kernel
theorem dL_shuffle_9 : decode cL_shuffle 9 = .ok (.goto 6, 3) := by decide +kernel
theorem dL_shuffle_12 : decode cL_shuffle 12 = .ok (.astore_n 3, 1) := by decide +kernel
theorem dL_shuffle_13 : decode cL_shuffle 13 = .ok (.iconst 1, 1) := by decide +kernel
theorem dL_shuffle_14 : decode cL_shuffle 14 = .ok (.ireturn, 1) := by decide +kernel
theorem dL_shuffle_15 : decode cL_shuffle 15 = .ok (.iconst 0, 1) := by decide +kernel
theorem dL_shuffle_16 : decode cL_shuffle 16 = .ok (.ireturn, 1) := by decide +kernel
theorem dL_buy_0 : decode cL_buy 0 = .ok (.aload_n 2, 1) := by decide +kernel
theorem dL_buy_1 : decode cL_buy 1 = .ok (.iconst 0, 1) := by decide +kernel
theorem dL_buy_2 : decode cL_buy 2 = .ok (.aload_n 0, 1) := by decide +kernel
theorem dL_buy_3 : decode cL_buy 3 = .ok (.iload_n 1, 1) := by decide +kernel
theorem dL_buy_4 : decode cL_buy 4 = .ok (.invokevirtual 31, 3) := by decide +kernel
theorem dL_buy_7 : decode cL_buy 7 = .ok (.i2l, 1) := by decide +kernel
theorem dL_buy_8 : decode cL_buy 8 = .ok (.lastore, 1) := by decide +kernel
theorem dL_buy_9 : decode cL_buy 9 = .ok (.goto 6, 3) := by decide +kernel
theorem dL_buy_12 : decode cL_buy 12 = .ok (.astore_n 3, 1) := by decide +kernel
theorem dL_buy_13 : decode cL_buy 13 = .ok (.iconst 1, 1) := by decide +kernel
theorem dL_buy_14 : decode cL_buy 14 = .ok (.ireturn, 1) := by decide +kernel
theorem dL_buy_15 : decode cL_buy 15 = .ok (.iconst 0, 1) := by decide +kernel
theorem dL_buy_16 : decode cL_buy 16 = .ok (.ireturn, 1) := by decide +kernel
theorem dL_launch_0 : decode cL_launch 0 = .ok (.aload_n 2, 1) := by decide +kernel
theorem dL_launch_1 : decode cL_launch 1 = .ok (.iconst 0, 1) := by decide +kernel
theorem dL_launch_2 : decode cL_launch 2 = .ok (.aload_n 0, 1) := by decide +kernel
theorem dL_launch_3 : decode cL_launch 3 = .ok (.iload_n 1, 1) := by decide +kernel
theorem dL_launch_4 : decode cL_launch 4 = .ok (.invokevirtual 34, 3) := by decide +kernel
theorem dL_launch_7 : decode cL_launch 7 = .ok (.i2l, 1) := by decide +kernel
theorem dL_launch_8 : decode cL_launch 8 = .ok (.lastore, 1) := by decide +kernel
theorem dL_launch_9 : decode cL_launch 9 = .ok (.goto 9, 3) := by decide +kernel
theorem dL_launch_12 : decode cL_launch 12 = .ok (.astore_n 3, 1) := by decide +kernel
theorem dL_launch_13 : decode cL_launch 13 = .ok (.iconst 1, 1) := by decide +kernel
theorem dL_launch_14 : decode cL_launch 14 = .ok (.ireturn, 1) := by decide +kernel
theorem dL_launch_15 : decode cL_launch 15 = .ok (.astore_n 3, 1) := by decide +kernel
theorem dL_launch_16 : decode cL_launch 16 = .ok (.iconst 2, 1) := by decide +kernel
theorem dL_launch_17 : decode cL_launch 17 = .ok (.ireturn, 1) := by decide +kernel
theorem dL_launch_18 : decode cL_launch 18 = .ok (.iconst 0, 1) := by decide +kernel
theorem dL_launch_19 : decode cL_launch 19 = .ok (.ireturn, 1) := by decide +kernel
theorem dL_play_0 : decode cL_play 0 = .ok (.aload_n 3, 1) := by decide +kernel
theorem dL_play_1 : decode cL_play 1 = .ok (.iconst 0, 1) := by decide +kernel
theorem dL_play_2 : decode cL_play 2 = .ok (.aload_n 0, 1) := by decide +kernel
theorem dL_play_3 : decode cL_play 3 = .ok (.iload_n 1, 1) := by decide +kernel
theorem dL_play_4 : decode cL_play 4 = .ok (.iload_n 2, 1) := by decide +kernel
theorem dL_play_5 : decode cL_play 5 = .ok (.invokevirtual 39, 3) := by decide +kernel
theorem dL_play_8 : decode cL_play 8 = .ok (.i2l, 1) := by decide +kernel
theorem dL_play_9 : decode cL_play 9 = .ok (.lastore, 1) := by decide +kernel
theorem dL_play_10 : decode cL_play 10 = .ok (.goto 11, 3) := by decide +kernel
theorem dL_play_13 : decode cL_play 13 = .ok (.astore 4, 2) := by decide +kernel
theorem dL_play_15 : decode cL_play 15 = .ok (.iconst 1, 1) := by decide +kernel
theorem dL_play_16 : decode cL_play 16 = .ok (.ireturn, 1) := by decide +kernel
theorem dL_play_17 : decode cL_play 17 = .ok (.astore 4, 2) := by decide +kernel
theorem dL_play_19 : decode cL_play 19 = .ok (.iconst 2, 1) := by decide +kernel
theorem dL_play_20 : decode cL_play 20 = .ok (.ireturn, 1) := by decide +kernel
theorem dL_play_21 : decode cL_play 21 = .ok (.iconst 0, 1) := by decide +kernel
theorem dL_play_22 : decode cL_play 22 = .ok (.ireturn, 1) := by decide +kernel
theorem dL_append_0 : decode cL_append 0 = .ok (.aload_n 2, 1) := by decide +kernel
theorem dL_append_1 : decode cL_append 1 = .ok (.iconst 0, 1) := by decide +kernel
theorem dL_append_2 : decode cL_append 2 = .ok (.aload_n 0, 1) := by decide +kernel
theorem dL_append_3 : decode cL_append 3 = .ok (.iload_n 1, 1) := by decide +kernel
theorem dL_append_4 : decode cL_append 4 = .ok (.invokevirtual 42, 3) := by decide +kernel
theorem dL_append_7 : decode cL_append 7 = .ok (.i2l, 1) := by decide +kernel
theorem dL_append_8 : decode cL_append 8 = .ok (.lastore, 1) := by decide +kernel
theorem dL_append_9 : decode cL_append 9 = .ok (.goto 9, 3) := by decide +kernel
theorem dL_append_12 : decode cL_append 12 = .ok (.astore_n 3, 1) := by decide +kernel
theorem dL_append_13 : decode cL_append 13 = .ok (.iconst 1, 1) := by decide +kernel
theorem dL_append_14 : decode cL_append 14 = .ok (.ireturn, 1) := by decide +kernel
theorem dL_append_15 : decode cL_append 15 = .ok (.astore_n 3, 1) := by decide +kernel
theorem dL_append_16 : decode cL_append 16 = .ok (.iconst 2, 1) := by decide +kernel
theorem dL_append_17 : decode cL_append 17 = .ok (.ireturn, 1) := by decide +kernel
theorem dL_append_18 : decode cL_append 18 = .ok (.iconst 0, 1) := by decide +kernel
theorem dL_append_19 : decode cL_append 19 = .ok (.ireturn, 1) := by decide +kernel
theorem dL_work_0 : decode cL_work 0 = .ok (.aload_n 1, 1) := by decide +kernel
theorem dL_work_1 : decode cL_work 1 = .ok (.iconst 0, 1) := by decide +kernel
theorem dL_work_2 : decode cL_work 2 = .ok (.aload_n 0, 1) := by decide +kernel
theorem dL_work_3 : decode cL_work 3 = .ok (.invokevirtual 45, 3) := by decide +kernel
theorem dL_work_6 : decode cL_work 6 = .ok (.i2l, 1) := by decide +kernel
theorem dL_work_7 : decode cL_work 7 = .ok (.lastore, 1) := by decide +kernel
theorem dL_work_8 : decode cL_work 8 = .ok (.goto 6, 3) := by decide +kernel
theorem dL_work_11 : decode cL_work 11 = .ok (.astore_n 2, 1) := by decide +kernel
theorem dL_work_12 : decode cL_work 12 = .ok (.iconst 1, 1) := by decide +kernel
theorem dL_work_13 : decode cL_work 13 = .ok (.ireturn, 1) := by decide +kernel
theorem dL_work_14 : decode cL_work 14 = .ok (.iconst 0, 1) := by decide +kernel
theorem dL_work_15 : decode cL_work 15 = .ok (.ireturn, 1) := by decide +kernel
theorem dL_undo_0 : decode cL_undo 0 = .ok (.aload_n 1, 1) := by decide +kernel
theorem dL_undo_1 : decode cL_undo 1 = .ok (.iconst 0, 1) := by decide +kernel
theorem dL_undo_2 : decode cL_undo 2 = .ok (.aload_n 0, 1) := by decide +kernel
theorem dL_undo_3 : decode cL_undo 3 = .ok (.invokevirtual 49, 3) := by decide +kernel
theorem dL_undo_6 : decode cL_undo 6 = .ok (.i2l, 1) := by decide +kernel
theorem dL_undo_7 : decode cL_undo 7 = .ok (.lastore, 1) := by decide +kernel
theorem dL_undo_8 : decode cL_undo 8 = .ok (.goto 6, 3) := by decide +kernel
theorem dL_undo_11 : decode cL_undo 11 = .ok (.astore_n 2, 1) := by decide +kernel
theorem dL_undo_12 : decode cL_undo 12 = .ok (.iconst 1, 1) := by decide +kernel
theorem dL_undo_13 : decode cL_undo 13 = .ok (.ireturn, 1) := by decide +kernel
theorem dL_undo_14 : decode cL_undo 14 = .ok (.iconst 0, 1) := by decide +kernel
theorem dL_undo_15 : decode cL_undo 15 = .ok (.ireturn, 1) := by decide +kernel
theorem dL_restore_0 : decode cL_restore 0 = .ok (.aload_n 1, 1) := by decide +kernel
theorem dL_restore_1 : decode cL_restore 1 = .ok (.iconst 0, 1) := by decide +kernel
theorem dL_restore_2 : decode cL_restore 2 = .ok (.aload_n 0, 1) := by decide +kernel
theorem dL_restore_3 : decode cL_restore 3 = .ok (.invokevirtual 52, 3) := by decide +kernel
theorem dL_restore_6 : decode cL_restore 6 = .ok (.i2l, 1) := by decide +kernel
theorem dL_restore_7 : decode cL_restore 7 = .ok (.lastore, 1) := by decide +kernel
theorem dL_restore_8 : decode cL_restore 8 = .ok (.goto 6, 3) := by decide +kernel
theorem dL_restore_11 : decode cL_restore 11 = .ok (.astore_n 2, 1) := by decide +kernel
theorem dL_restore_12 : decode cL_restore 12 = .ok (.iconst 1, 1) := by decide +kernel
theorem dL_restore_13 : decode cL_restore 13 = .ok (.ireturn, 1) := by decide +kernel
theorem dL_restore_14 : decode cL_restore 14 = .ok (.iconst 0, 1) := by decide +kernel
theorem dL_restore_15 : decode cL_restore 15 = .ok (.ireturn, 1) := by decide +kernel
theorem dL_pin_0 : decode cL_pin 0 = .ok (.aload_n 3, 1) := by decide +kernel
theorem dL_pin_1 : decode cL_pin 1 = .ok (.iconst 0, 1) := by decide +kernel
theorem dL_pin_2 : decode cL_pin 2 = .ok (.aload_n 0, 1) := by decide +kernel
theorem dL_pin_3 : decode cL_pin 3 = .ok (.iload_n 1, 1) := by decide +kernel
theorem dL_pin_4 : decode cL_pin 4 = .ok (.iload_n 2, 1) := by decide +kernel
theorem dL_pin_5 : decode cL_pin 5 = .ok (.invokevirtual 55, 3) := by decide +kernel
theorem dL_pin_8 : decode cL_pin 8 = .ok (.i2l, 1) := by decide +kernel
theorem dL_pin_9 : decode cL_pin 9 = .ok (.lastore, 1) := by decide +kernel
theorem dL_pin_10 : decode cL_pin 10 = .ok (.goto 7, 3) := by decide +kernel
theorem dL_pin_13 : decode cL_pin 13 = .ok (.astore 4, 2) := by decide +kernel
theorem dL_pin_15 : decode cL_pin 15 = .ok (.iconst 1, 1) := by decide +kernel
theorem dL_pin_16 : decode cL_pin 16 = .ok (.ireturn, 1) := by decide +kernel
theorem dL_pin_17 : decode cL_pin 17 = .ok (.iconst 0, 1) := by decide +kernel
theorem dL_pin_18 : decode cL_pin 18 = .ok (.ireturn, 1) := by decide +kernel
theorem dL_bent_0 : decode cL_bent 0 = .ok (.aload_n 2, 1) := by decide +kernel
theorem dL_bent_1 : decode cL_bent 1 = .ok (.iconst 0, 1) := by decide +kernel
theorem dL_bent_2 : decode cL_bent 2 = .ok (.aload_n 0, 1) := by decide +kernel
theorem dL_bent_3 : decode cL_bent 3 = .ok (.iload_n 1, 1) := by decide +kernel
theorem dL_bent_4 : decode cL_bent 4 = .ok (.invokevirtual 58, 3) := by decide +kernel
theorem dL_bent_7 : decode cL_bent 7 = .ok (.i2l, 1) := by decide +kernel
theorem dL_bent_8 : decode cL_bent 8 = .ok (.lastore, 1) := by decide +kernel
theorem dL_bent_9 : decode cL_bent 9 = .ok (.goto 6, 3) := by decide +kernel
theorem dL_bent_12 : decode cL_bent 12 = .ok (.astore_n 3, 1) := by decide +kernel
theorem dL_bent_13 : decode cL_bent 13 = .ok (.iconst 1, 1) := by decide +kernel
theorem dL_bent_14 : decode cL_bent 14 = .ok (.ireturn, 1) := by decide +kernel
theorem dL_bent_15 : decode cL_bent 15 = .ok (.iconst 0, 1) := by decide +kernel
theorem dL_bent_16 : decode cL_bent 16 = .ok (.ireturn, 1) := by decide +kernel
theorem dL_touched_0 : decode cL_touched 0 = .ok (.aload_n 2, 1) := by decide +kernel
theorem dL_touched_1 : decode cL_touched 1 = .ok (.iconst 0, 1) := by decide +kernel
theorem dL_touched_2 : decode cL_touched 2 = .ok (.aload_n 0, 1) := by decide +kernel
theorem dL_touched_3 : decode cL_touched 3 = .ok (.iload_n 1, 1) := by decide +kernel
theorem dL_touched_4 : decode cL_touched 4 = .ok (.invokevirtual 61, 3) := by decide +kernel
theorem dL_touched_7 : decode cL_touched 7 = .ok (.i2l, 1) := by decide +kernel
theorem dL_touched_8 : decode cL_touched 8 = .ok (.lastore, 1) := by decide +kernel
theorem dL_touched_9 : decode cL_touched 9 = .ok (.goto 6, 3) := by decide +kernel
theorem dL_touched_12 : decode cL_touched 12 = .ok (.astore_n 3, 1) := by decide +kernel
theorem dL_touched_13 : decode cL_touched 13 = .ok (.iconst 1, 1) := by decide +kernel
theorem dL_touched_14 : decode cL_touched 14 = .ok (.ireturn, 1) := by decide +kernel
theorem dL_touched_15 : decode cL_touched 15 = .ok (.iconst 0, 1) := by decide +kernel
theorem dL_touched_16 : decode cL_touched 16 = .ok (.ireturn, 1) := by decide +kernel
theorem dL_pocketOf_0 : decode cL_pocketOf 0 = .ok (.aload_n 3, 1) := by decide +kernel
theorem dL_pocketOf_1 : decode cL_pocketOf 1 = .ok (.iconst 0, 1) := by decide +kernel
theorem dL_pocketOf_2 : decode cL_pocketOf 2 = .ok (.aload_n 0, 1) := by decide +kernel
theorem dL_pocketOf_3 : decode cL_pocketOf 3 = .ok (.iload_n 1, 1) := by decide +kernel
theorem dL_pocketOf_4 : decode cL_pocketOf 4 = .ok (.iload_n 2, 1) := by decide +kernel
theorem dL_pocketOf_5 : decode cL_pocketOf 5 = .ok (.invokevirtual 64, 3) := by decide +kernel
theorem dL_pocketOf_8 : decode cL_pocketOf 8 = .ok (.i2l, 1) := by decide +kernel
theorem dL_pocketOf_9 : decode cL_pocketOf 9 = .ok (.lastore, 1) := by decide +kernel
theorem dL_pocketOf_10 : decode cL_pocketOf 10 = .ok (.goto 11, 3) := by decide +kernel
theorem dL_pocketOf_13 : decode cL_pocketOf 13 = .ok (.astore 4, 2) := by decide +kernel
theorem dL_pocketOf_15 : decode cL_pocketOf 15 = .ok (.iconst 1, 1) := by decide +kernel
theorem dL_pocketOf_16 : decode cL_pocketOf 16 = .ok (.ireturn, 1) := by decide +kernel
theorem dL_pocketOf_17 : decode cL_pocketOf 17 = .ok (.astore 4, 2) := by decide +kernel
theorem dL_pocketOf_19 : decode cL_pocketOf 19 = .ok (.iconst 2, 1) := by decide +kernel
theorem dL_pocketOf_20 : decode cL_pocketOf 20 = .ok (.ireturn, 1) := by decide +kernel
theorem dL_pocketOf_21 : decode cL_pocketOf 21 = .ok (.iconst 0, 1) := by decide +kernel
theorem dL_pocketOf_22 : decode cL_pocketOf 22 = .ok (.ireturn, 1) := by decide +kernel
theorem dL_reel_0 : decode cL_reel 0 = .ok (.aload_n 2, 1) := by decide +kernel
theorem dL_reel_1 : decode cL_reel 1 = .ok (.iconst 0, 1) := by decide +kernel
theorem dL_reel_2 : decode cL_reel 2 = .ok (.aload_n 0, 1) := by decide +kernel
theorem dL_reel_3 : decode cL_reel 3 = .ok (.iload_n 1, 1) := by decide +kernel
theorem dL_reel_4 : decode cL_reel 4 = .ok (.invokevirtual 67, 3) := by decide +kernel
theorem dL_reel_7 : decode cL_reel 7 = .ok (.i2l, 1) := by decide +kernel
theorem dL_reel_8 : decode cL_reel 8 = .ok (.lastore, 1) := by decide +kernel
theorem dL_reel_9 : decode cL_reel 9 = .ok (.goto 6, 3) := by decide +kernel
theorem dL_reel_12 : decode cL_reel 12 = .ok (.astore_n 3, 1) := by decide +kernel
theorem dL_reel_13 : decode cL_reel 13 = .ok (.iconst 1, 1) := by decide +kernel
theorem dL_reel_14 : decode cL_reel 14 = .ok (.ireturn, 1) := by decide +kernel
theorem dL_reel_15 : decode cL_reel 15 = .ok (.iconst 0, 1) := by decide +kernel
theorem dL_reel_16 : decode cL_reel 16 = .ok (.ireturn, 1) := by decide +kernel
theorem dL_count_0 : decode cL_count 0 = .ok (.aload_n 2, 1) := by decide +kernel
theorem dL_count_1 : decode cL_count 1 = .ok (.iconst 0, 1) := by decide +kernel
theorem dL_count_2 : decode cL_count 2 = .ok (.aload_n 0, 1) := by decide +kernel
theorem dL_count_3 : decode cL_count 3 = .ok (.iload_n 1, 1) := by decide +kernel
theorem dL_count_4 : decode cL_count 4 = .ok (.invokevirtual 70, 3) := by decide +kernel
theorem dL_count_7 : decode cL_count 7 = .ok (.i2l, 1) := by decide +kernel
theorem dL_count_8 : decode cL_count 8 = .ok (.lastore, 1) := by decide +kernel
theorem dL_count_9 : decode cL_count 9 = .ok (.goto 6, 3) := by decide +kernel
theorem dL_count_12 : decode cL_count 12 = .ok (.astore_n 3, 1) := by decide +kernel
theorem dL_count_13 : decode cL_count 13 = .ok (.iconst 1, 1) := by decide +kernel
theorem dL_count_14 : decode cL_count 14 = .ok (.ireturn, 1) := by decide +kernel
theorem dL_count_15 : decode cL_count 15 = .ok (.iconst 0, 1) := by decide +kernel
theorem dL_count_16 : decode cL_count 16 = .ok (.ireturn, 1) := by decide +kernel
theorem dL_ways_0 : decode cL_ways 0 = .ok (.aload_n 3, 1) := by decide +kernel
theorem dL_ways_1 : decode cL_ways 1 = .ok (.iconst 0, 1) := by decide +kernel
theorem dL_ways_2 : decode cL_ways 2 = .ok (.aload_n 0, 1) := by decide +kernel
theorem dL_ways_3 : decode cL_ways 3 = .ok (.iload_n 1, 1) := by decide +kernel
theorem dL_ways_4 : decode cL_ways 4 = .ok (.iload_n 2, 1) := by decide +kernel
theorem dL_ways_5 : decode cL_ways 5 = .ok (.invokevirtual 73, 3) := by decide +kernel
theorem dL_ways_8 : decode cL_ways 8 = .ok (.i2l, 1) := by decide +kernel
theorem dL_ways_9 : decode cL_ways 9 = .ok (.lastore, 1) := by decide +kernel
theorem dL_ways_10 : decode cL_ways 10 = .ok (.goto 7, 3) := by decide +kernel
theorem dL_ways_13 : decode cL_ways 13 = .ok (.astore 4, 2) := by decide +kernel
theorem dL_ways_15 : decode cL_ways 15 = .ok (.iconst 1, 1) := by decide +kernel
theorem dL_ways_16 : decode cL_ways 16 = .ok (.ireturn, 1) := by decide +kernel
theorem dL_ways_17 : decode cL_ways 17 = .ok (.iconst 0, 1) := by decide +kernel
theorem dL_ways_18 : decode cL_ways 18 = .ok (.ireturn, 1) := by decide +kernel
theorem dL_walked_0 : decode cL_walked 0 = .ok (.aload_n 3, 1) := by decide +kernel
theorem dL_walked_1 : decode cL_walked 1 = .ok (.iconst 0, 1) := by decide +kernel
theorem dL_walked_2 : decode cL_walked 2 = .ok (.aload_n 0, 1) := by decide +kernel
theorem dL_walked_3 : decode cL_walked 3 = .ok (.iload_n 1, 1) := by decide +kernel
theorem dL_walked_4 : decode cL_walked 4 = .ok (.iload_n 2, 1) := by decide +kernel
theorem dL_walked_5 : decode cL_walked 5 = .ok (.invokevirtual 76, 3) := by decide +kernel
theorem dL_walked_8 : decode cL_walked 8 = .ok (.i2l, 1) := by decide +kernel
theorem dL_walked_9 : decode cL_walked 9 = .ok (.lastore, 1) := by decide +kernel
theorem dL_walked_10 : decode cL_walked 10 = .ok (.goto 7, 3) := by decide +kernel
theorem dL_walked_13 : decode cL_walked 13 = .ok (.astore 4, 2) := by decide +kernel
theorem dL_walked_15 : decode cL_walked 15 = .ok (.iconst 1, 1) := by decide +kernel
theorem dL_walked_16 : decode cL_walked 16 = .ok (.ireturn, 1) := by decide +kernel
theorem dL_walked_17 : decode cL_walked 17 = .ok (.iconst 0, 1) := by decide +kernel
theorem dL_walked_18 : decode cL_walked 18 = .ok (.ireturn, 1) := by decide +kernel
theorem dL_ifLaunched_0 : decode cL_ifLaunched 0 = .ok (.aload_n 3, 1) := by decide +kernel
theorem dL_ifLaunched_1 : decode cL_ifLaunched 1 = .ok (.iconst 0, 1) := by decide +kernel
theorem dL_ifLaunched_2 : decode cL_ifLaunched 2 = .ok (.aload_n 0, 1) := by decide +kernel
theorem dL_ifLaunched_3 : decode cL_ifLaunched 3 = .ok (.iload_n 1, 1) := by decide +kernel
theorem dL_ifLaunched_4 : decode cL_ifLaunched 4 = .ok (.iload_n 2, 1) := by decide +kernel
theorem dL_ifLaunched_5 : decode cL_ifLaunched 5 = .ok (.invokevirtual 79, 3) := by decide +kernel
theorem dL_ifLaunched_8 : decode cL_ifLaunched 8 = .ok (.i2l, 1) := by decide +kernel
theorem dL_ifLaunched_9 : decode cL_ifLaunched 9 = .ok (.lastore, 1) := by decide +kernel
theorem dL_ifLaunched_10 : decode cL_ifLaunched 10 = .ok (.goto 11, 3) := by decide +kernel
theorem dL_ifLaunched_13 : decode cL_ifLaunched 13 = .ok (.astore 4, 2) := by decide +kernel
theorem dL_ifLaunched_15 : decode cL_ifLaunched 15 = .ok (.iconst 1, 1) := by decide +kernel
theorem dL_ifLaunched_16 : decode cL_ifLaunched 16 = .ok (.ireturn, 1) := by decide +kernel
theorem dL_ifLaunched_17 : decode cL_ifLaunched 17 = .ok (.astore 4, 2) := by decide +kernel
theorem dL_ifLaunched_19 : decode cL_ifLaunched 19 = .ok (.iconst 2, 1) := by decide +kernel
theorem dL_ifLaunched_20 : decode cL_ifLaunched 20 = .ok (.ireturn, 1) := by decide +kernel
theorem dL_ifLaunched_21 : decode cL_ifLaunched 21 = .ok (.iconst 0, 1) := by decide +kernel
theorem dL_ifLaunched_22 : decode cL_ifLaunched 22 = .ok (.ireturn, 1) := by decide +kernel
theorem dL_untilOpen_0 : decode cL_untilOpen 0 = .ok (.aload_n 2, 1) := by decide +kernel
theorem dL_untilOpen_1 : decode cL_untilOpen 1 = .ok (.iconst 0, 1) := by decide +kernel
theorem dL_untilOpen_2 : decode cL_untilOpen 2 = .ok (.aload_n 0, 1) := by decide +kernel
theorem dL_untilOpen_3 : decode cL_untilOpen 3 = .ok (.iload_n 1, 1) := by decide +kernel
theorem dL_untilOpen_4 : decode cL_untilOpen 4 = .ok (.invokevirtual 82, 3) := by decide +kernel
theorem dL_untilOpen_7 : decode cL_untilOpen 7 = .ok (.i2l, 1) := by decide +kernel
theorem dL_untilOpen_8 : decode cL_untilOpen 8 = .ok (.lastore, 1) := by decide +kernel
theorem dL_untilOpen_9 : decode cL_untilOpen 9 = .ok (.goto 6, 3) := by decide +kernel
theorem dL_untilOpen_12 : decode cL_untilOpen 12 = .ok (.astore_n 3, 1) := by decide +kernel
theorem dL_untilOpen_13 : decode cL_untilOpen 13 = .ok (.iconst 1, 1) := by decide +kernel
theorem dL_untilOpen_14 : decode cL_untilOpen 14 = .ok (.ireturn, 1) := by decide +kernel
theorem dL_untilOpen_15 : decode cL_untilOpen 15 = .ok (.iconst 0, 1) := by decide +kernel
theorem dL_untilOpen_16 : decode cL_untilOpen 16 = .ok (.ireturn, 1) := by decide +kernel
theorem dL_law_0 : decode cL_law 0 = .ok (.new 8, 3) := by decide +kernel
theorem dL_law_3 : decode cL_law 3 = .ok (.dup, 1) := by decide +kernel
theorem dL_law_4 : decode cL_law 4 = .ok (.invokespecial 85, 3) := by decide +kernel
theorem dL_law_7 : decode cL_law 7 = .ok (.astore_n 1, 1) := by decide +kernel
theorem dL_law_8 : decode cL_law 8 = .ok (.new 86, 3) := by decide +kernel
theorem dL_law_11 : decode cL_law 11 = .ok (.dup, 1) := by decide +kernel
theorem dL_law_12 : decode cL_law 12 = .ok (.invokespecial 88, 3) := by decide +kernel
theorem dL_law_15 : decode cL_law 15 = .ok (.astore_n 2, 1) := by decide +kernel
theorem dL_law_16 : decode cL_law 16 = .ok (.iconst 1, 1) := by decide +kernel
theorem dL_law_17 : decode cL_law 17 = .ok (.newarray .long, 2) := by decide +kernel
theorem dL_law_19 : decode cL_law 19 = .ok (.astore_n 3, 1) := by decide +kernel
theorem dL_law_20 : decode cL_law 20 = .ok (.iconst 0, 1) := by decide +kernel
theorem dL_law_21 : decode cL_law 21 = .ok (.istore 4, 2) := by decide +kernel
theorem dL_law_23 : decode cL_law 23 = .ok (.iload 4, 2) := by decide +kernel
theorem dL_law_25 : decode cL_law 25 = .ok (.aload_n 0, 1) := by decide +kernel
theorem dL_law_26 : decode cL_law 26 = .ok (.arraylength, 1) := by decide +kernel
theorem dL_law_27 : decode cL_law 27 = .ok (.iconst 4, 1) := by decide +kernel
theorem dL_law_28 : decode cL_law 28 = .ok (.isub, 1) := by decide +kernel
theorem dL_law_29 : decode cL_law 29 = .ok (.if_icmp .gt 1576, 3) := by decide +kernel
theorem dL_law_32 : decode cL_law 32 = .ok (.aload_n 0, 1) := by decide +kernel
theorem dL_law_33 : decode cL_law 33 = .ok (.iload 4, 2) := by decide +kernel
theorem dL_law_35 : decode cL_law 35 = .ok (.iaload, 1) := by decide +kernel
theorem dL_law_36 : decode cL_law 36 = .ok (.bipush 31, 2) := by decide +kernel
theorem dL_law_38 : decode cL_law 38 = .ok (.iand, 1) := by decide +kernel
theorem dL_law_39 : decode cL_law 39 = .ok (.tableswitch 1560 0 27 #[125, 205, 285, 341, 409, 465, 521, 577, 645, 701, 714, 727, 771, 815, 828, 872, 940, 996, 1052, 1120, 1176, 1232, 1300, 1368, 1436, 1449, 1505, 1546], 125) := by decide +kernel
theorem dL_law_164 : decode cL_law 164 = .ok (.aload_n 1, 1) := by decide +kernel
theorem dL_law_165 : decode cL_law 165 = .ok (.aload_n 0, 1) := by decide +kernel
theorem dL_law_166 : decode cL_law 166 = .ok (.iload 4, 2) := by decide +kernel
theorem dL_law_168 : decode cL_law 168 = .ok (.iconst 1, 1) := by decide +kernel
theorem dL_law_169 : decode cL_law 169 = .ok (.iadd, 1) := by decide +kernel
theorem dL_law_170 : decode cL_law 170 = .ok (.iaload, 1) := by decide +kernel
theorem dL_law_171 : decode cL_law 171 = .ok (.aload_n 0, 1) := by decide +kernel
theorem dL_law_172 : decode cL_law 172 = .ok (.iload 4, 2) := by decide +kernel
theorem dL_law_174 : decode cL_law 174 = .ok (.iconst 2, 1) := by decide +kernel
theorem dL_law_175 : decode cL_law 175 = .ok (.iadd, 1) := by decide +kernel
theorem dL_law_176 : decode cL_law 176 = .ok (.iaload, 1) := by decide +kernel
theorem dL_law_177 : decode cL_law 177 = .ok (.aload_n 0, 1) := by decide +kernel
theorem dL_law_178 : decode cL_law 178 = .ok (.iload 4, 2) := by decide +kernel
theorem dL_law_180 : decode cL_law 180 = .ok (.iconst 3, 1) := by decide +kernel
theorem dL_law_181 : decode cL_law 181 = .ok (.iadd, 1) := by decide +kernel
theorem dL_law_182 : decode cL_law 182 = .ok (.iaload, 1) := by decide +kernel
theorem dL_law_183 : decode cL_law 183 = .ok (.aload_n 3, 1) := by decide +kernel
theorem dL_law_184 : decode cL_law 184 = .ok (.invokestatic 89, 3) := by decide +kernel
theorem dL_law_187 : decode cL_law 187 = .ok (.istore 5, 2) := by decide +kernel
theorem dL_law_189 : decode cL_law 189 = .ok (.aload_n 2, 1) := by decide +kernel
theorem dL_law_190 : decode cL_law 190 = .ok (.aload_n 0, 1) := by decide +kernel
theorem dL_law_191 : decode cL_law 191 = .ok (.iload 4, 2) := by decide +kernel
theorem dL_law_193 : decode cL_law 193 = .ok (.iconst 1, 1) := by decide +kernel
theorem dL_law_194 : decode cL_law 194 = .ok (.iadd, 1) := by decide +kernel
theorem dL_law_195 : decode cL_law 195 = .ok (.iaload, 1) := by decide +kernel
theorem dL_law_196 : decode cL_law 196 = .ok (.aload_n 0, 1) := by decide +kernel
theorem dL_law_197 : decode cL_law 197 = .ok (.iload 4, 2) := by decide +kernel
theorem dL_law_199 : decode cL_law 199 = .ok (.iconst 2, 1) := by decide +kernel
theorem dL_law_200 : decode cL_law 200 = .ok (.iadd, 1) := by decide +kernel
theorem dL_law_201 : decode cL_law 201 = .ok (.iaload, 1) := by decide +kernel
theorem dL_law_202 : decode cL_law 202 = .ok (.aload_n 0, 1) := by decide +kernel
theorem dL_law_203 : decode cL_law 203 = .ok (.iload 4, 2) := by decide +kernel
theorem dL_law_205 : decode cL_law 205 = .ok (.iconst 3, 1) := by decide +kernel
theorem dL_law_206 : decode cL_law 206 = .ok (.iadd, 1) := by decide +kernel
theorem dL_law_207 : decode cL_law 207 = .ok (.iaload, 1) := by decide +kernel
theorem dL_law_208 : decode cL_law 208 = .ok (.invokevirtual 94, 3) := by decide +kernel
theorem dL_law_211 : decode cL_law 211 = .ok (.istore 6, 2) := by decide +kernel
theorem dL_law_213 : decode cL_law 213 = .ok (.aload_n 2, 1) := by decide +kernel
theorem dL_law_214 : decode cL_law 214 = .ok (.invokevirtual 95, 3) := by decide +kernel
theorem dL_law_217 : decode cL_law 217 = .ok (.iload 5, 2) := by decide +kernel
theorem dL_law_219 : decode cL_law 219 = .ok (.if_icmp .eq 5, 3) := by decide +kernel
theorem dL_law_222 : decode cL_law 222 = .ok (.iconst 0, 1) := by decide +kernel
theorem dL_law_223 : decode cL_law 223 = .ok (.ireturn, 1) := by decide +kernel
theorem dL_law_224 : decode cL_law 224 = .ok (.iload 5, 2) := by decide +kernel
theorem dL_law_226 : decode cL_law 226 = .ok (.ifCond .ne 15, 3) := by decide +kernel
theorem dL_law_229 : decode cL_law 229 = .ok (.aload_n 3, 1) := by decide +kernel
theorem dL_law_230 : decode cL_law 230 = .ok (.iconst 0, 1) := by decide +kernel
theorem dL_law_231 : decode cL_law 231 = .ok (.laload, 1) := by decide +kernel
theorem dL_law_232 : decode cL_law 232 = .ok (.iload 6, 2) := by decide +kernel
theorem dL_law_234 : decode cL_law 234 = .ok (.i2l, 1) := by decide +kernel
theorem dL_law_235 : decode cL_law 235 = .ok (.lcmp, 1) := by decide +kernel
theorem dL_law_236 : decode cL_law 236 = .ok (.ifCond .eq 5, 3) := by decide +kernel
theorem dL_law_239 : decode cL_law 239 = .ok (.iconst 0, 1) := by decide +kernel
theorem dL_law_240 : decode cL_law 240 = .ok (.ireturn, 1) := by decide +kernel
theorem dL_law_241 : decode cL_law 241 = .ok (.goto 1358, 3) := by decide +kernel
theorem dL_law_244 : decode cL_law 244 = .ok (.aload_n 1, 1) := by decide +kernel
theorem dL_law_245 : decode cL_law 245 = .ok (.aload_n 0, 1) := by decide +kernel
theorem dL_law_246 : decode cL_law 246 = .ok (.iload 4, 2) := by decide +kernel
theorem dL_law_248 : decode cL_law 248 = .ok (.iconst 1, 1) := by decide +kernel
theorem dL_law_249 : decode cL_law 249 = .ok (.iadd, 1) := by decide +kernel
theorem dL_law_250 : decode cL_law 250 = .ok (.iaload, 1) := by decide +kernel
theorem dL_law_251 : decode cL_law 251 = .ok (.aload_n 0, 1) := by decide +kernel
theorem dL_law_252 : decode cL_law 252 = .ok (.iload 4, 2) := by decide +kernel
theorem dL_law_254 : decode cL_law 254 = .ok (.iconst 2, 1) := by decide +kernel
theorem dL_law_255 : decode cL_law 255 = .ok (.iadd, 1) := by decide +kernel
theorem dL_law_256 : decode cL_law 256 = .ok (.iaload, 1) := by decide +kernel
theorem dL_law_257 : decode cL_law 257 = .ok (.aload_n 0, 1) := by decide +kernel
theorem dL_law_258 : decode cL_law 258 = .ok (.iload 4, 2) := by decide +kernel
theorem dL_law_260 : decode cL_law 260 = .ok (.iconst 3, 1) := by decide +kernel
theorem dL_law_261 : decode cL_law 261 = .ok (.iadd, 1) := by decide +kernel
theorem dL_law_262 : decode cL_law 262 = .ok (.iaload, 1) := by decide +kernel
theorem dL_law_263 : decode cL_law 263 = .ok (.aload_n 3, 1) := by decide +kernel
theorem dL_law_264 : decode cL_law 264 = .ok (.invokestatic 98, 3) := by decide +kernel
theorem dL_law_267 : decode cL_law 267 = .ok (.istore 5, 2) := by decide +kernel
theorem dL_law_269 : decode cL_law 269 = .ok (.aload_n 2, 1) := by decide +kernel
theorem dL_law_270 : decode cL_law 270 = .ok (.aload_n 0, 1) := by decide +kernel
theorem dL_law_271 : decode cL_law 271 = .ok (.iload 4, 2) := by decide +kernel
theorem dL_law_273 : decode cL_law 273 = .ok (.iconst 1, 1) := by decide +kernel
theorem dL_law_274 : decode cL_law 274 = .ok (.iadd, 1) := by decide +kernel
theorem dL_law_275 : decode cL_law 275 = .ok (.iaload, 1) := by decide +kernel
theorem dL_law_276 : decode cL_law 276 = .ok (.aload_n 0, 1) := by decide +kernel
theorem dL_law_277 : decode cL_law 277 = .ok (.iload 4, 2) := by decide +kernel
theorem dL_law_279 : decode cL_law 279 = .ok (.iconst 2, 1) := by decide +kernel
theorem dL_law_280 : decode cL_law 280 = .ok (.iadd, 1) := by decide +kernel
theorem dL_law_281 : decode cL_law 281 = .ok (.iaload, 1) := by decide +kernel
theorem dL_law_282 : decode cL_law 282 = .ok (.aload_n 0, 1) := by decide +kernel
theorem dL_law_283 : decode cL_law 283 = .ok (.iload 4, 2) := by decide +kernel
theorem dL_law_285 : decode cL_law 285 = .ok (.iconst 3, 1) := by decide +kernel
theorem dL_law_286 : decode cL_law 286 = .ok (.iadd, 1) := by decide +kernel
theorem dL_law_287 : decode cL_law 287 = .ok (.iaload, 1) := by decide +kernel
theorem dL_law_288 : decode cL_law 288 = .ok (.invokevirtual 100, 3) := by decide +kernel
theorem dL_law_291 : decode cL_law 291 = .ok (.istore 6, 2) := by decide +kernel
theorem dL_law_293 : decode cL_law 293 = .ok (.aload_n 2, 1) := by decide +kernel
theorem dL_law_294 : decode cL_law 294 = .ok (.invokevirtual 95, 3) := by decide +kernel
theorem dL_law_297 : decode cL_law 297 = .ok (.iload 5, 2) := by decide +kernel
theorem dL_law_299 : decode cL_law 299 = .ok (.if_icmp .eq 5, 3) := by decide +kernel
theorem dL_law_302 : decode cL_law 302 = .ok (.iconst 0, 1) := by decide +kernel
theorem dL_law_303 : decode cL_law 303 = .ok (.ireturn, 1) := by decide +kernel
theorem dL_law_304 : decode cL_law 304 = .ok (.iload 5, 2) := by decide +kernel
theorem dL_law_306 : decode cL_law 306 = .ok (.ifCond .ne 15, 3) := by decide +kernel
theorem dL_law_309 : decode cL_law 309 = .ok (.aload_n 3, 1) := by decide +kernel
theorem dL_law_310 : decode cL_law 310 = .ok (.iconst 0, 1) := by decide +kernel
theorem dL_law_311 : decode cL_law 311 = .ok (.laload, 1) := by decide +kernel
theorem dL_law_312 : decode cL_law 312 = .ok (.iload 6, 2) := by decide +kernel
theorem dL_law_314 : decode cL_law 314 = .ok (.i2l, 1) := by decide +kernel
theorem dL_law_315 : decode cL_law 315 = .ok (.lcmp, 1) := by decide +kernel
theorem dL_law_316 : decode cL_law 316 = .ok (.ifCond .eq 5, 3) := by decide +kernel
theorem dL_law_319 : decode cL_law 319 = .ok (.iconst 0, 1) := by decide +kernel
theorem dL_law_320 : decode cL_law 320 = .ok (.ireturn, 1) := by decide +kernel
theorem dL_law_321 : decode cL_law 321 = .ok (.goto 1278, 3) := by decide +kernel
theorem dL_law_324 : decode cL_law 324 = .ok (.aload_n 1, 1) := by decide +kernel
theorem dL_law_325 : decode cL_law 325 = .ok (.aload_n 0, 1) := by decide +kernel
theorem dL_law_326 : decode cL_law 326 = .ok (.iload 4, 2) := by decide +kernel
theorem dL_law_328 : decode cL_law 328 = .ok (.iconst 1, 1) := by decide +kernel
theorem dL_law_329 : decode cL_law 329 = .ok (.iadd, 1) := by decide +kernel
theorem dL_law_330 : decode cL_law 330 = .ok (.iaload, 1) := by decide +kernel
theorem dL_law_331 : decode cL_law 331 = .ok (.aload_n 3, 1) := by decide +kernel
theorem dL_law_332 : decode cL_law 332 = .ok (.invokestatic 101, 3) := by decide +kernel
theorem dL_law_335 : decode cL_law 335 = .ok (.istore 5, 2) := by decide +kernel
theorem dL_law_337 : decode cL_law 337 = .ok (.aload_n 2, 1) := by decide +kernel
theorem dL_law_338 : decode cL_law 338 = .ok (.aload_n 0, 1) := by decide +kernel
theorem dL_law_339 : decode cL_law 339 = .ok (.iload 4, 2) := by decide +kernel
theorem dL_law_341 : decode cL_law 341 = .ok (.iconst 1, 1) := by decide +kernel
theorem dL_law_342 : decode cL_law 342 = .ok (.iadd, 1) := by decide +kernel
theorem dL_law_343 : decode cL_law 343 = .ok (.iaload, 1) := by decide +kernel
theorem dL_law_344 : decode cL_law 344 = .ok (.invokevirtual 104, 3) := by decide +kernel
theorem dL_law_347 : decode cL_law 347 = .ok (.istore 6, 2) := by decide +kernel
theorem dL_law_349 : decode cL_law 349 = .ok (.aload_n 2, 1) := by decide +kernel
theorem dL_law_350 : decode cL_law 350 = .ok (.invokevirtual 95, 3) := by decide +kernel
theorem dL_law_353 : decode cL_law 353 = .ok (.iload 5, 2) := by decide +kernel
theorem dL_law_355 : decode cL_law 355 = .ok (.if_icmp .eq 5, 3) := by decide +kernel
theorem dL_law_358 : decode cL_law 358 = .ok (.iconst 0, 1) := by decide +kernel
theorem dL_law_359 : decode cL_law 359 = .ok (.ireturn, 1) := by decide +kernel
theorem dL_law_360 : decode cL_law 360 = .ok (.iload 5, 2) := by decide +kernel
theorem dL_law_362 : decode cL_law 362 = .ok (.ifCond .ne 15, 3) := by decide +kernel
theorem dL_law_365 : decode cL_law 365 = .ok (.aload_n 3, 1) := by decide +kernel
theorem dL_law_366 : decode cL_law 366 = .ok (.iconst 0, 1) := by decide +kernel
theorem dL_law_367 : decode cL_law 367 = .ok (.laload, 1) := by decide +kernel
theorem dL_law_368 : decode cL_law 368 = .ok (.iload 6, 2) := by decide +kernel
theorem dL_law_370 : decode cL_law 370 = .ok (.i2l, 1) := by decide +kernel
theorem dL_law_371 : decode cL_law 371 = .ok (.lcmp, 1) := by decide +kernel
theorem dL_law_372 : decode cL_law 372 = .ok (.ifCond .eq 5, 3) := by decide +kernel
theorem dL_law_375 : decode cL_law 375 = .ok (.iconst 0, 1) := by decide +kernel
theorem dL_law_376 : decode cL_law 376 = .ok (.ireturn, 1) := by decide +kernel
theorem dL_law_377 : decode cL_law 377 = .ok (.goto 1222, 3) := by decide +kernel
theorem dL_law_380 : decode cL_law 380 = .ok (.aload_n 1, 1) := by decide +kernel
theorem dL_law_381 : decode cL_law 381 = .ok (.aload_n 0, 1) := by decide +kernel
theorem dL_law_382 : decode cL_law 382 = .ok (.iload 4, 2) := by decide +kernel
theorem dL_law_384 : decode cL_law 384 = .ok (.iconst 1, 1) := by decide +kernel
theorem dL_law_385 : decode cL_law 385 = .ok (.iadd, 1) := by decide +kernel
theorem dL_law_386 : decode cL_law 386 = .ok (.iaload, 1) := by decide +kernel
theorem dL_law_387 : decode cL_law 387 = .ok (.aload_n 0, 1) := by decide +kernel
theorem dL_law_388 : decode cL_law 388 = .ok (.iload 4, 2) := by decide +kernel
theorem dL_law_390 : decode cL_law 390 = .ok (.iconst 2, 1) := by decide +kernel
theorem dL_law_391 : decode cL_law 391 = .ok (.iadd, 1) := by decide +kernel
theorem dL_law_392 : decode cL_law 392 = .ok (.iaload, 1) := by decide +kernel
theorem dL_law_393 : decode cL_law 393 = .ok (.aload_n 3, 1) := by decide +kernel
theorem dL_law_394 : decode cL_law 394 = .ok (.invokestatic 105, 3) := by decide +kernel
theorem dL_law_397 : decode cL_law 397 = .ok (.istore 5, 2) := by decide +kernel
theorem dL_law_399 : decode cL_law 399 = .ok (.aload_n 2, 1) := by decide +kernel
theorem dL_law_400 : decode cL_law 400 = .ok (.aload_n 0, 1) := by decide +kernel
theorem dL_law_401 : decode cL_law 401 = .ok (.iload 4, 2) := by decide +kernel
theorem dL_law_403 : decode cL_law 403 = .ok (.iconst 1, 1) := by decide +kernel
theorem dL_law_404 : decode cL_law 404 = .ok (.iadd, 1) := by decide +kernel
theorem dL_law_405 : decode cL_law 405 = .ok (.iaload, 1) := by decide +kernel
theorem dL_law_406 : decode cL_law 406 = .ok (.aload_n 0, 1) := by decide +kernel
theorem dL_law_407 : decode cL_law 407 = .ok (.iload 4, 2) := by decide +kernel
theorem dL_law_409 : decode cL_law 409 = .ok (.iconst 2, 1) := by decide +kernel
theorem dL_law_410 : decode cL_law 410 = .ok (.iadd, 1) := by decide +kernel
theorem dL_law_411 : decode cL_law 411 = .ok (.iaload, 1) := by decide +kernel
theorem dL_law_412 : decode cL_law 412 = .ok (.invokevirtual 108, 3) := by decide +kernel
theorem dL_law_415 : decode cL_law 415 = .ok (.istore 6, 2) := by decide +kernel
theorem dL_law_417 : decode cL_law 417 = .ok (.aload_n 2, 1) := by decide +kernel
theorem dL_law_418 : decode cL_law 418 = .ok (.invokevirtual 95, 3) := by decide +kernel
theorem dL_law_421 : decode cL_law 421 = .ok (.iload 5, 2) := by decide +kernel
theorem dL_law_423 : decode cL_law 423 = .ok (.if_icmp .eq 5, 3) := by decide +kernel
theorem dL_law_426 : decode cL_law 426 = .ok (.iconst 0, 1) := by decide +kernel
theorem dL_law_427 : decode cL_law 427 = .ok (.ireturn, 1) := by decide +kernel
theorem dL_law_428 : decode cL_law 428 = .ok (.iload 5, 2) := by decide +kernel
theorem dL_law_430 : decode cL_law 430 = .ok (.ifCond .ne 15, 3) := by decide +kernel
theorem dL_law_433 : decode cL_law 433 = .ok (.aload_n 3, 1) := by decide +kernel
theorem dL_law_434 : decode cL_law 434 = .ok (.iconst 0, 1) := by decide +kernel
theorem dL_law_435 : decode cL_law 435 = .ok (.laload, 1) := by decide +kernel
theorem dL_law_436 : decode cL_law 436 = .ok (.iload 6, 2) := by decide +kernel
theorem dL_law_438 : decode cL_law 438 = .ok (.i2l, 1) := by decide +kernel
theorem dL_law_439 : decode cL_law 439 = .ok (.lcmp, 1) := by decide +kernel
theorem dL_law_440 : decode cL_law 440 = .ok (.ifCond .eq 5, 3) := by decide +kernel
theorem dL_law_443 : decode cL_law 443 = .ok (.iconst 0, 1) := by decide +kernel
theorem dL_law_444 : decode cL_law 444 = .ok (.ireturn, 1) := by decide +kernel
theorem dL_law_445 : decode cL_law 445 = .ok (.goto 1154, 3) := by decide +kernel
theorem dL_law_448 : decode cL_law 448 = .ok (.aload_n 1, 1) := by decide +kernel
theorem dL_law_449 : decode cL_law 449 = .ok (.aload_n 0, 1) := by decide +kernel
theorem dL_law_450 : decode cL_law 450 = .ok (.iload 4, 2) := by decide +kernel
theorem dL_law_452 : decode cL_law 452 = .ok (.iconst 1, 1) := by decide +kernel
theorem dL_law_453 : decode cL_law 453 = .ok (.iadd, 1) := by decide +kernel
theorem dL_law_454 : decode cL_law 454 = .ok (.iaload, 1) := by decide +kernel
theorem dL_law_455 : decode cL_law 455 = .ok (.aload_n 3, 1) := by decide +kernel
theorem dL_law_456 : decode cL_law 456 = .ok (.invokestatic 109, 3) := by decide +kernel
theorem dL_law_459 : decode cL_law 459 = .ok (.istore 5, 2) := by decide +kernel
theorem dL_law_461 : decode cL_law 461 = .ok (.aload_n 2, 1) := by decide +kernel
theorem dL_law_462 : decode cL_law 462 = .ok (.aload_n 0, 1) := by decide +kernel
theorem dL_law_463 : decode cL_law 463 = .ok (.iload 4, 2) := by decide +kernel
theorem dL_law_465 : decode cL_law 465 = .ok (.iconst 1, 1) := by decide +kernel
theorem dL_law_466 : decode cL_law 466 = .ok (.iadd, 1) := by decide +kernel
theorem dL_law_467 : decode cL_law 467 = .ok (.iaload, 1) := by decide +kernel
theorem dL_law_468 : decode cL_law 468 = .ok (.invokevirtual 111, 3) := by decide +kernel
theorem dL_law_471 : decode cL_law 471 = .ok (.istore 6, 2) := by decide +kernel
theorem dL_law_473 : decode cL_law 473 = .ok (.aload_n 2, 1) := by decide +kernel
theorem dL_law_474 : decode cL_law 474 = .ok (.invokevirtual 95, 3) := by decide +kernel
theorem dL_law_477 : decode cL_law 477 = .ok (.iload 5, 2) := by decide +kernel
theorem dL_law_479 : decode cL_law 479 = .ok (.if_icmp .eq 5, 3) := by decide +kernel
theorem dL_law_482 : decode cL_law 482 = .ok (.iconst 0, 1) := by decide +kernel
theorem dL_law_483 : decode cL_law 483 = .ok (.ireturn, 1) := by decide +kernel
theorem dL_law_484 : decode cL_law 484 = .ok (.iload 5, 2) := by decide +kernel
theorem dL_law_486 : decode cL_law 486 = .ok (.ifCond .ne 15, 3) := by decide +kernel
theorem dL_law_489 : decode cL_law 489 = .ok (.aload_n 3, 1) := by decide +kernel
theorem dL_law_490 : decode cL_law 490 = .ok (.iconst 0, 1) := by decide +kernel
theorem dL_law_491 : decode cL_law 491 = .ok (.laload, 1) := by decide +kernel
theorem dL_law_492 : decode cL_law 492 = .ok (.iload 6, 2) := by decide +kernel
theorem dL_law_494 : decode cL_law 494 = .ok (.i2l, 1) := by decide +kernel
theorem dL_law_495 : decode cL_law 495 = .ok (.lcmp, 1) := by decide +kernel
theorem dL_law_496 : decode cL_law 496 = .ok (.ifCond .eq 5, 3) := by decide +kernel
theorem dL_law_499 : decode cL_law 499 = .ok (.iconst 0, 1) := by decide +kernel
theorem dL_law_500 : decode cL_law 500 = .ok (.ireturn, 1) := by decide +kernel
theorem dL_law_501 : decode cL_law 501 = .ok (.goto 1098, 3) := by decide +kernel
theorem dL_law_504 : decode cL_law 504 = .ok (.aload_n 1, 1) := by decide +kernel
theorem dL_law_505 : decode cL_law 505 = .ok (.aload_n 0, 1) := by decide +kernel
theorem dL_law_506 : decode cL_law 506 = .ok (.iload 4, 2) := by decide +kernel
theorem dL_law_508 : decode cL_law 508 = .ok (.iconst 1, 1) := by decide +kernel
theorem dL_law_509 : decode cL_law 509 = .ok (.iadd, 1) := by decide +kernel
theorem dL_law_510 : decode cL_law 510 = .ok (.iaload, 1) := by decide +kernel
theorem dL_law_511 : decode cL_law 511 = .ok (.aload_n 3, 1) := by decide +kernel
theorem dL_law_512 : decode cL_law 512 = .ok (.invokestatic 112, 3) := by decide +kernel
theorem dL_law_515 : decode cL_law 515 = .ok (.istore 5, 2) := by decide +kernel
theorem dL_law_517 : decode cL_law 517 = .ok (.aload_n 2, 1) := by decide +kernel
theorem dL_law_518 : decode cL_law 518 = .ok (.aload_n 0, 1) := by decide +kernel
theorem dL_law_519 : decode cL_law 519 = .ok (.iload 4, 2) := by decide +kernel
theorem dL_law_521 : decode cL_law 521 = .ok (.iconst 1, 1) := by decide +kernel
theorem dL_law_522 : decode cL_law 522 = .ok (.iadd, 1) := by decide +kernel
theorem dL_law_523 : decode cL_law 523 = .ok (.iaload, 1) := by decide +kernel
theorem dL_law_524 : decode cL_law 524 = .ok (.invokevirtual 114, 3) := by decide +kernel
theorem dL_law_527 : decode cL_law 527 = .ok (.istore 6, 2) := by decide +kernel
theorem dL_law_529 : decode cL_law 529 = .ok (.aload_n 2, 1) := by decide +kernel
theorem dL_law_530 : decode cL_law 530 = .ok (.invokevirtual 95, 3) := by decide +kernel
theorem dL_law_533 : decode cL_law 533 = .ok (.iload 5, 2) := by decide +kernel
theorem dL_law_535 : decode cL_law 535 = .ok (.if_icmp .eq 5, 3) := by decide +kernel
theorem dL_law_538 : decode cL_law 538 = .ok (.iconst 0, 1) := by decide +kernel
theorem dL_law_539 : decode cL_law 539 = .ok (.ireturn, 1) := by decide +kernel
theorem dL_law_540 : decode cL_law 540 = .ok (.iload 5, 2) := by decide +kernel
theorem dL_law_542 : decode cL_law 542 = .ok (.ifCond .ne 15, 3) := by decide +kernel
theorem dL_law_545 : decode cL_law 545 = .ok (.aload_n 3, 1) := by decide +kernel
theorem dL_law_546 : decode cL_law 546 = .ok (.iconst 0, 1) := by decide +kernel
theorem dL_law_547 : decode cL_law 547 = .ok (.laload, 1) := by decide +kernel
theorem dL_law_548 : decode cL_law 548 = .ok (.iload 6, 2) := by decide +kernel
theorem dL_law_550 : decode cL_law 550 = .ok (.i2l, 1) := by decide +kernel
theorem dL_law_551 : decode cL_law 551 = .ok (.lcmp, 1) := by decide +kernel
theorem dL_law_552 : decode cL_law 552 = .ok (.ifCond .eq 5, 3) := by decide +kernel
theorem dL_law_555 : decode cL_law 555 = .ok (.iconst 0, 1) := by decide +kernel
theorem dL_law_556 : decode cL_law 556 = .ok (.ireturn, 1) := by decide +kernel
theorem dL_law_557 : decode cL_law 557 = .ok (.goto 1042, 3) := by decide +kernel
theorem dL_law_560 : decode cL_law 560 = .ok (.aload_n 1, 1) := by decide +kernel
theorem dL_law_561 : decode cL_law 561 = .ok (.aload_n 0, 1) := by decide +kernel
theorem dL_law_562 : decode cL_law 562 = .ok (.iload 4, 2) := by decide +kernel
theorem dL_law_564 : decode cL_law 564 = .ok (.iconst 1, 1) := by decide +kernel
theorem dL_law_565 : decode cL_law 565 = .ok (.iadd, 1) := by decide +kernel
theorem dL_law_566 : decode cL_law 566 = .ok (.iaload, 1) := by decide +kernel
theorem dL_law_567 : decode cL_law 567 = .ok (.aload_n 3, 1) := by decide +kernel
theorem dL_law_568 : decode cL_law 568 = .ok (.invokestatic 115, 3) := by decide +kernel
theorem dL_law_571 : decode cL_law 571 = .ok (.istore 5, 2) := by decide +kernel
theorem dL_law_573 : decode cL_law 573 = .ok (.aload_n 2, 1) := by decide +kernel
theorem dL_law_574 : decode cL_law 574 = .ok (.aload_n 0, 1) := by decide +kernel
theorem dL_law_575 : decode cL_law 575 = .ok (.iload 4, 2) := by decide +kernel
theorem dL_law_577 : decode cL_law 577 = .ok (.iconst 1, 1) := by decide +kernel
theorem dL_law_578 : decode cL_law 578 = .ok (.iadd, 1) := by decide +kernel
theorem dL_law_579 : decode cL_law 579 = .ok (.iaload, 1) := by decide +kernel
theorem dL_law_580 : decode cL_law 580 = .ok (.invokevirtual 117, 3) := by decide +kernel
theorem dL_law_583 : decode cL_law 583 = .ok (.istore 6, 2) := by decide +kernel
theorem dL_law_585 : decode cL_law 585 = .ok (.aload_n 2, 1) := by decide +kernel
theorem dL_law_586 : decode cL_law 586 = .ok (.invokevirtual 95, 3) := by decide +kernel
theorem dL_law_589 : decode cL_law 589 = .ok (.iload 5, 2) := by decide +kernel
theorem dL_law_591 : decode cL_law 591 = .ok (.if_icmp .eq 5, 3) := by decide +kernel
theorem dL_law_594 : decode cL_law 594 = .ok (.iconst 0, 1) := by decide +kernel
theorem dL_law_595 : decode cL_law 595 = .ok (.ireturn, 1) := by decide +kernel
theorem dL_law_596 : decode cL_law 596 = .ok (.iload 5, 2) := by decide +kernel
theorem dL_law_598 : decode cL_law 598 = .ok (.ifCond .ne 15, 3) := by decide +kernel
theorem dL_law_601 : decode cL_law 601 = .ok (.aload_n 3, 1) := by decide +kernel
theorem dL_law_602 : decode cL_law 602 = .ok (.iconst 0, 1) := by decide +kernel
theorem dL_law_603 : decode cL_law 603 = .ok (.laload, 1) := by decide +kernel
theorem dL_law_604 : decode cL_law 604 = .ok (.iload 6, 2) := by decide +kernel
theorem dL_law_606 : decode cL_law 606 = .ok (.i2l, 1) := by decide +kernel
theorem dL_law_607 : decode cL_law 607 = .ok (.lcmp, 1) := by decide +kernel
theorem dL_law_608 : decode cL_law 608 = .ok (.ifCond .eq 5, 3) := by decide +kernel
theorem dL_law_611 : decode cL_law 611 = .ok (.iconst 0, 1) := by decide +kernel
theorem dL_law_612 : decode cL_law 612 = .ok (.ireturn, 1) := by decide +kernel
theorem dL_law_613 : decode cL_law 613 = .ok (.goto 986, 3) := by decide +kernel
theorem dL_law_616 : decode cL_law 616 = .ok (.aload_n 1, 1) := by decide +kernel
theorem dL_law_617 : decode cL_law 617 = .ok (.aload_n 0, 1) := by decide +kernel
theorem dL_law_618 : decode cL_law 618 = .ok (.iload 4, 2) := by decide +kernel
theorem dL_law_620 : decode cL_law 620 = .ok (.iconst 1, 1) := by decide +kernel
theorem dL_law_621 : decode cL_law 621 = .ok (.iadd, 1) := by decide +kernel
theorem dL_law_622 : decode cL_law 622 = .ok (.iaload, 1) := by decide +kernel
theorem dL_law_623 : decode cL_law 623 = .ok (.aload_n 0, 1) := by decide +kernel
theorem dL_law_624 : decode cL_law 624 = .ok (.iload 4, 2) := by decide +kernel
theorem dL_law_626 : decode cL_law 626 = .ok (.iconst 2, 1) := by decide +kernel
theorem dL_law_627 : decode cL_law 627 = .ok (.iadd, 1) := by decide +kernel
theorem dL_law_628 : decode cL_law 628 = .ok (.iaload, 1) := by decide +kernel
theorem dL_law_629 : decode cL_law 629 = .ok (.aload_n 3, 1) := by decide +kernel
theorem dL_law_630 : decode cL_law 630 = .ok (.invokestatic 118, 3) := by decide +kernel
theorem dL_law_633 : decode cL_law 633 = .ok (.istore 5, 2) := by decide +kernel
theorem dL_law_635 : decode cL_law 635 = .ok (.aload_n 2, 1) := by decide +kernel
theorem dL_law_636 : decode cL_law 636 = .ok (.aload_n 0, 1) := by decide +kernel
theorem dL_law_637 : decode cL_law 637 = .ok (.iload 4, 2) := by decide +kernel
theorem dL_law_639 : decode cL_law 639 = .ok (.iconst 1, 1) := by decide +kernel
theorem dL_law_640 : decode cL_law 640 = .ok (.iadd, 1) := by decide +kernel
theorem dL_law_641 : decode cL_law 641 = .ok (.iaload, 1) := by decide +kernel
theorem dL_law_642 : decode cL_law 642 = .ok (.aload_n 0, 1) := by decide +kernel
theorem dL_law_643 : decode cL_law 643 = .ok (.iload 4, 2) := by decide +kernel
theorem dL_law_645 : decode cL_law 645 = .ok (.iconst 2, 1) := by decide +kernel
theorem dL_law_646 : decode cL_law 646 = .ok (.iadd, 1) := by decide +kernel
theorem dL_law_647 : decode cL_law 647 = .ok (.iaload, 1) := by decide +kernel
theorem dL_law_648 : decode cL_law 648 = .ok (.invokevirtual 120, 3) := by decide +kernel
theorem dL_law_651 : decode cL_law 651 = .ok (.istore 6, 2) := by decide +kernel
theorem dL_law_653 : decode cL_law 653 = .ok (.aload_n 2, 1) := by decide +kernel
theorem dL_law_654 : decode cL_law 654 = .ok (.invokevirtual 95, 3) := by decide +kernel
theorem dL_law_657 : decode cL_law 657 = .ok (.iload 5, 2) := by decide +kernel
theorem dL_law_659 : decode cL_law 659 = .ok (.if_icmp .eq 5, 3) := by decide +kernel
theorem dL_law_662 : decode cL_law 662 = .ok (.iconst 0, 1) := by decide +kernel
theorem dL_law_663 : decode cL_law 663 = .ok (.ireturn, 1) := by decide +kernel
theorem dL_law_664 : decode cL_law 664 = .ok (.iload 5, 2) := by decide +kernel
theorem dL_law_666 : decode cL_law 666 = .ok (.ifCond .ne 15, 3) := by decide +kernel
theorem dL_law_669 : decode cL_law 669 = .ok (.aload_n 3, 1) := by decide +kernel
theorem dL_law_670 : decode cL_law 670 = .ok (.iconst 0, 1) := by decide +kernel
theorem dL_law_671 : decode cL_law 671 = .ok (.laload, 1) := by decide +kernel
theorem dL_law_672 : decode cL_law 672 = .ok (.iload 6, 2) := by decide +kernel
theorem dL_law_674 : decode cL_law 674 = .ok (.i2l, 1) := by decide +kernel
theorem dL_law_675 : decode cL_law 675 = .ok (.lcmp, 1) := by decide +kernel
theorem dL_law_676 : decode cL_law 676 = .ok (.ifCond .eq 5, 3) := by decide +kernel
theorem dL_law_679 : decode cL_law 679 = .ok (.iconst 0, 1) := by decide +kernel
theorem dL_law_680 : decode cL_law 680 = .ok (.ireturn, 1) := by decide +kernel
theorem dL_law_681 : decode cL_law 681 = .ok (.goto 918, 3) := by decide +kernel
theorem dL_law_684 : decode cL_law 684 = .ok (.aload_n 1, 1) := by decide +kernel
theorem dL_law_685 : decode cL_law 685 = .ok (.aload_n 0, 1) := by decide +kernel
theorem dL_law_686 : decode cL_law 686 = .ok (.iload 4, 2) := by decide +kernel
theorem dL_law_688 : decode cL_law 688 = .ok (.iconst 1, 1) := by decide +kernel
theorem dL_law_689 : decode cL_law 689 = .ok (.iadd, 1) := by decide +kernel
theorem dL_law_690 : decode cL_law 690 = .ok (.iaload, 1) := by decide +kernel
theorem dL_law_691 : decode cL_law 691 = .ok (.aload_n 3, 1) := by decide +kernel
theorem dL_law_692 : decode cL_law 692 = .ok (.invokestatic 121, 3) := by decide +kernel
theorem dL_law_695 : decode cL_law 695 = .ok (.istore 5, 2) := by decide +kernel
theorem dL_law_697 : decode cL_law 697 = .ok (.aload_n 2, 1) := by decide +kernel
theorem dL_law_698 : decode cL_law 698 = .ok (.aload_n 0, 1) := by decide +kernel
theorem dL_law_699 : decode cL_law 699 = .ok (.iload 4, 2) := by decide +kernel
theorem dL_law_701 : decode cL_law 701 = .ok (.iconst 1, 1) := by decide +kernel
theorem dL_law_702 : decode cL_law 702 = .ok (.iadd, 1) := by decide +kernel
theorem dL_law_703 : decode cL_law 703 = .ok (.iaload, 1) := by decide +kernel
theorem dL_law_704 : decode cL_law 704 = .ok (.invokevirtual 123, 3) := by decide +kernel
theorem dL_law_707 : decode cL_law 707 = .ok (.istore 6, 2) := by decide +kernel
theorem dL_law_709 : decode cL_law 709 = .ok (.aload_n 2, 1) := by decide +kernel
theorem dL_law_710 : decode cL_law 710 = .ok (.invokevirtual 95, 3) := by decide +kernel
theorem dL_law_713 : decode cL_law 713 = .ok (.iload 5, 2) := by decide +kernel
theorem dL_law_715 : decode cL_law 715 = .ok (.if_icmp .eq 5, 3) := by decide +kernel
theorem dL_law_718 : decode cL_law 718 = .ok (.iconst 0, 1) := by decide +kernel
theorem dL_law_719 : decode cL_law 719 = .ok (.ireturn, 1) := by decide +kernel
theorem dL_law_720 : decode cL_law 720 = .ok (.iload 5, 2) := by decide +kernel
theorem dL_law_722 : decode cL_law 722 = .ok (.ifCond .ne 15, 3) := by decide +kernel
theorem dL_law_725 : decode cL_law 725 = .ok (.aload_n 3, 1) := by decide +kernel
theorem dL_law_726 : decode cL_law 726 = .ok (.iconst 0, 1) := by decide +kernel
theorem dL_law_727 : decode cL_law 727 = .ok (.laload, 1) := by decide +kernel
theorem dL_law_728 : decode cL_law 728 = .ok (.iload 6, 2) := by decide +kernel
theorem dL_law_730 : decode cL_law 730 = .ok (.i2l, 1) := by decide +kernel
theorem dL_law_731 : decode cL_law 731 = .ok (.lcmp, 1) := by decide +kernel
theorem dL_law_732 : decode cL_law 732 = .ok (.ifCond .eq 5, 3) := by decide +kernel
theorem dL_law_735 : decode cL_law 735 = .ok (.iconst 0, 1) := by decide +kernel
theorem dL_law_736 : decode cL_law 736 = .ok (.ireturn, 1) := by decide +kernel
theorem dL_law_737 : decode cL_law 737 = .ok (.goto 862, 3) := by decide +kernel
theorem dL_law_740 : decode cL_law 740 = .ok (.aload_n 1, 1) := by decide +kernel
theorem dL_law_741 : decode cL_law 741 = .ok (.invokevirtual 124, 3) := by decide +kernel
theorem dL_law_744 : decode cL_law 744 = .ok (.aload_n 2, 1) := by decide +kernel
theorem dL_law_745 : decode cL_law 745 = .ok (.invokevirtual 127, 3) := by decide +kernel
theorem dL_law_748 : decode cL_law 748 = .ok (.if_icmp .eq 851, 3) := by decide +kernel
theorem dL_law_751 : decode cL_law 751 = .ok (.iconst 0, 1) := by decide +kernel
theorem dL_law_752 : decode cL_law 752 = .ok (.ireturn, 1) := by decide +kernel
theorem dL_law_753 : decode cL_law 753 = .ok (.aload_n 1, 1) := by decide +kernel
theorem dL_law_754 : decode cL_law 754 = .ok (.invokevirtual 128, 3) := by decide +kernel
theorem dL_law_757 : decode cL_law 757 = .ok (.aload_n 2, 1) := by decide +kernel
theorem dL_law_758 : decode cL_law 758 = .ok (.invokevirtual 131, 3) := by decide +kernel
theorem dL_law_761 : decode cL_law 761 = .ok (.if_icmp .eq 838, 3) := by decide +kernel
theorem dL_law_764 : decode cL_law 764 = .ok (.iconst 0, 1) := by decide +kernel
theorem dL_law_765 : decode cL_law 765 = .ok (.ireturn, 1) := by decide +kernel
theorem dL_law_766 : decode cL_law 766 = .ok (.aload_n 1, 1) := by decide +kernel
theorem dL_law_767 : decode cL_law 767 = .ok (.aload_n 3, 1) := by decide +kernel
theorem dL_law_768 : decode cL_law 768 = .ok (.invokestatic 132, 3) := by decide +kernel
theorem dL_law_771 : decode cL_law 771 = .ok (.istore 5, 2) := by decide +kernel
theorem dL_law_773 : decode cL_law 773 = .ok (.aload_n 2, 1) := by decide +kernel
theorem dL_law_774 : decode cL_law 774 = .ok (.invokevirtual 135, 3) := by decide +kernel
theorem dL_law_777 : decode cL_law 777 = .ok (.istore 6, 2) := by decide +kernel
theorem dL_law_779 : decode cL_law 779 = .ok (.aload_n 2, 1) := by decide +kernel
theorem dL_law_780 : decode cL_law 780 = .ok (.invokevirtual 95, 3) := by decide +kernel
theorem dL_law_783 : decode cL_law 783 = .ok (.iload 5, 2) := by decide +kernel
theorem dL_law_785 : decode cL_law 785 = .ok (.if_icmp .eq 5, 3) := by decide +kernel
theorem dL_law_788 : decode cL_law 788 = .ok (.iconst 0, 1) := by decide +kernel
theorem dL_law_789 : decode cL_law 789 = .ok (.ireturn, 1) := by decide +kernel
theorem dL_law_790 : decode cL_law 790 = .ok (.iload 5, 2) := by decide +kernel
theorem dL_law_792 : decode cL_law 792 = .ok (.ifCond .ne 15, 3) := by decide +kernel
theorem dL_law_795 : decode cL_law 795 = .ok (.aload_n 3, 1) := by decide +kernel
theorem dL_law_796 : decode cL_law 796 = .ok (.iconst 0, 1) := by decide +kernel
theorem dL_law_797 : decode cL_law 797 = .ok (.laload, 1) := by decide +kernel
theorem dL_law_798 : decode cL_law 798 = .ok (.iload 6, 2) := by decide +kernel
theorem dL_law_800 : decode cL_law 800 = .ok (.i2l, 1) := by decide +kernel
theorem dL_law_801 : decode cL_law 801 = .ok (.lcmp, 1) := by decide +kernel
theorem dL_law_802 : decode cL_law 802 = .ok (.ifCond .eq 5, 3) := by decide +kernel
theorem dL_law_805 : decode cL_law 805 = .ok (.iconst 0, 1) := by decide +kernel
theorem dL_law_806 : decode cL_law 806 = .ok (.ireturn, 1) := by decide +kernel
theorem dL_law_807 : decode cL_law 807 = .ok (.goto 792, 3) := by decide +kernel
theorem dL_law_810 : decode cL_law 810 = .ok (.aload_n 1, 1) := by decide +kernel
theorem dL_law_811 : decode cL_law 811 = .ok (.aload_n 3, 1) := by decide +kernel
theorem dL_law_812 : decode cL_law 812 = .ok (.invokestatic 136, 3) := by decide +kernel
theorem dL_law_815 : decode cL_law 815 = .ok (.istore 5, 2) := by decide +kernel
theorem dL_law_817 : decode cL_law 817 = .ok (.aload_n 2, 1) := by decide +kernel
theorem dL_law_818 : decode cL_law 818 = .ok (.invokevirtual 138, 3) := by decide +kernel
theorem dL_law_821 : decode cL_law 821 = .ok (.istore 6, 2) := by decide +kernel
theorem dL_law_823 : decode cL_law 823 = .ok (.aload_n 2, 1) := by decide +kernel
theorem dL_law_824 : decode cL_law 824 = .ok (.invokevirtual 95, 3) := by decide +kernel
theorem dL_law_827 : decode cL_law 827 = .ok (.iload 5, 2) := by decide +kernel
theorem dL_law_829 : decode cL_law 829 = .ok (.if_icmp .eq 5, 3) := by decide +kernel
theorem dL_law_832 : decode cL_law 832 = .ok (.iconst 0, 1) := by decide +kernel
theorem dL_law_833 : decode cL_law 833 = .ok (.ireturn, 1) := by decide +kernel
theorem dL_law_834 : decode cL_law 834 = .ok (.iload 5, 2) := by decide +kernel
theorem dL_law_836 : decode cL_law 836 = .ok (.ifCond .ne 15, 3) := by decide +kernel
theorem dL_law_839 : decode cL_law 839 = .ok (.aload_n 3, 1) := by decide +kernel
theorem dL_law_840 : decode cL_law 840 = .ok (.iconst 0, 1) := by decide +kernel
theorem dL_law_841 : decode cL_law 841 = .ok (.laload, 1) := by decide +kernel
theorem dL_law_842 : decode cL_law 842 = .ok (.iload 6, 2) := by decide +kernel
theorem dL_law_844 : decode cL_law 844 = .ok (.i2l, 1) := by decide +kernel
theorem dL_law_845 : decode cL_law 845 = .ok (.lcmp, 1) := by decide +kernel
theorem dL_law_846 : decode cL_law 846 = .ok (.ifCond .eq 5, 3) := by decide +kernel
theorem dL_law_849 : decode cL_law 849 = .ok (.iconst 0, 1) := by decide +kernel
theorem dL_law_850 : decode cL_law 850 = .ok (.ireturn, 1) := by decide +kernel
theorem dL_law_851 : decode cL_law 851 = .ok (.goto 748, 3) := by decide +kernel
theorem dL_law_854 : decode cL_law 854 = .ok (.aload_n 1, 1) := by decide +kernel
theorem dL_law_855 : decode cL_law 855 = .ok (.invokevirtual 139, 3) := by decide +kernel
theorem dL_law_858 : decode cL_law 858 = .ok (.aload_n 2, 1) := by decide +kernel
theorem dL_law_859 : decode cL_law 859 = .ok (.invokevirtual 142, 3) := by decide +kernel
theorem dL_law_862 : decode cL_law 862 = .ok (.if_icmp .eq 737, 3) := by decide +kernel
theorem dL_law_865 : decode cL_law 865 = .ok (.iconst 0, 1) := by decide +kernel
theorem dL_law_866 : decode cL_law 866 = .ok (.ireturn, 1) := by decide +kernel
theorem dL_law_867 : decode cL_law 867 = .ok (.aload_n 1, 1) := by decide +kernel
theorem dL_law_868 : decode cL_law 868 = .ok (.aload_n 3, 1) := by decide +kernel
theorem dL_law_869 : decode cL_law 869 = .ok (.invokestatic 143, 3) := by decide +kernel
theorem dL_law_872 : decode cL_law 872 = .ok (.istore 5, 2) := by decide +kernel
theorem dL_law_874 : decode cL_law 874 = .ok (.aload_n 2, 1) := by decide +kernel
theorem dL_law_875 : decode cL_law 875 = .ok (.invokevirtual 145, 3) := by decide +kernel
theorem dL_law_878 : decode cL_law 878 = .ok (.istore 6, 2) := by decide +kernel
theorem dL_law_880 : decode cL_law 880 = .ok (.aload_n 2, 1) := by decide +kernel
theorem dL_law_881 : decode cL_law 881 = .ok (.invokevirtual 95, 3) := by decide +kernel
theorem dL_law_884 : decode cL_law 884 = .ok (.iload 5, 2) := by decide +kernel
theorem dL_law_886 : decode cL_law 886 = .ok (.if_icmp .eq 5, 3) := by decide +kernel
theorem dL_law_889 : decode cL_law 889 = .ok (.iconst 0, 1) := by decide +kernel
theorem dL_law_890 : decode cL_law 890 = .ok (.ireturn, 1) := by decide +kernel
theorem dL_law_891 : decode cL_law 891 = .ok (.iload 5, 2) := by decide +kernel
theorem dL_law_893 : decode cL_law 893 = .ok (.ifCond .ne 15, 3) := by decide +kernel
theorem dL_law_896 : decode cL_law 896 = .ok (.aload_n 3, 1) := by decide +kernel
theorem dL_law_897 : decode cL_law 897 = .ok (.iconst 0, 1) := by decide +kernel
theorem dL_law_898 : decode cL_law 898 = .ok (.laload, 1) := by decide +kernel
theorem dL_law_899 : decode cL_law 899 = .ok (.iload 6, 2) := by decide +kernel
theorem dL_law_901 : decode cL_law 901 = .ok (.i2l, 1) := by decide +kernel
theorem dL_law_902 : decode cL_law 902 = .ok (.lcmp, 1) := by decide +kernel
theorem dL_law_903 : decode cL_law 903 = .ok (.ifCond .eq 5, 3) := by decide +kernel
theorem dL_law_906 : decode cL_law 906 = .ok (.iconst 0, 1) := by decide +kernel
theorem dL_law_907 : decode cL_law 907 = .ok (.ireturn, 1) := by decide +kernel
theorem dL_law_908 : decode cL_law 908 = .ok (.goto 691, 3) := by decide +kernel
theorem dL_law_911 : decode cL_law 911 = .ok (.aload_n 1, 1) := by decide +kernel
theorem dL_law_912 : decode cL_law 912 = .ok (.aload_n 0, 1) := by decide +kernel
theorem dL_law_913 : decode cL_law 913 = .ok (.iload 4, 2) := by decide +kernel
theorem dL_law_915 : decode cL_law 915 = .ok (.iconst 1, 1) := by decide +kernel
theorem dL_law_916 : decode cL_law 916 = .ok (.iadd, 1) := by decide +kernel
theorem dL_law_917 : decode cL_law 917 = .ok (.iaload, 1) := by decide +kernel
theorem dL_law_918 : decode cL_law 918 = .ok (.aload_n 0, 1) := by decide +kernel
theorem dL_law_919 : decode cL_law 919 = .ok (.iload 4, 2) := by decide +kernel
theorem dL_law_921 : decode cL_law 921 = .ok (.iconst 2, 1) := by decide +kernel
theorem dL_law_922 : decode cL_law 922 = .ok (.iadd, 1) := by decide +kernel
theorem dL_law_923 : decode cL_law 923 = .ok (.iaload, 1) := by decide +kernel
theorem dL_law_924 : decode cL_law 924 = .ok (.aload_n 3, 1) := by decide +kernel
theorem dL_law_925 : decode cL_law 925 = .ok (.invokestatic 146, 3) := by decide +kernel
theorem dL_law_928 : decode cL_law 928 = .ok (.istore 5, 2) := by decide +kernel
theorem dL_law_930 : decode cL_law 930 = .ok (.aload_n 2, 1) := by decide +kernel
theorem dL_law_931 : decode cL_law 931 = .ok (.aload_n 0, 1) := by decide +kernel
theorem dL_law_932 : decode cL_law 932 = .ok (.iload 4, 2) := by decide +kernel
theorem dL_law_934 : decode cL_law 934 = .ok (.iconst 1, 1) := by decide +kernel
theorem dL_law_935 : decode cL_law 935 = .ok (.iadd, 1) := by decide +kernel
theorem dL_law_936 : decode cL_law 936 = .ok (.iaload, 1) := by decide +kernel
theorem dL_law_937 : decode cL_law 937 = .ok (.aload_n 0, 1) := by decide +kernel
theorem dL_law_938 : decode cL_law 938 = .ok (.iload 4, 2) := by decide +kernel
theorem dL_law_940 : decode cL_law 940 = .ok (.iconst 2, 1) := by decide +kernel
theorem dL_law_941 : decode cL_law 941 = .ok (.iadd, 1) := by decide +kernel
theorem dL_law_942 : decode cL_law 942 = .ok (.iaload, 1) := by decide +kernel
theorem dL_law_943 : decode cL_law 943 = .ok (.invokevirtual 148, 3) := by decide +kernel
theorem dL_law_946 : decode cL_law 946 = .ok (.istore 6, 2) := by decide +kernel
theorem dL_law_948 : decode cL_law 948 = .ok (.aload_n 2, 1) := by decide +kernel
theorem dL_law_949 : decode cL_law 949 = .ok (.invokevirtual 95, 3) := by decide +kernel
theorem dL_law_952 : decode cL_law 952 = .ok (.iload 5, 2) := by decide +kernel
theorem dL_law_954 : decode cL_law 954 = .ok (.if_icmp .eq 5, 3) := by decide +kernel
theorem dL_law_957 : decode cL_law 957 = .ok (.iconst 0, 1) := by decide +kernel
theorem dL_law_958 : decode cL_law 958 = .ok (.ireturn, 1) := by decide +kernel
theorem dL_law_959 : decode cL_law 959 = .ok (.iload 5, 2) := by decide +kernel
theorem dL_law_961 : decode cL_law 961 = .ok (.ifCond .ne 15, 3) := by decide +kernel
theorem dL_law_964 : decode cL_law 964 = .ok (.aload_n 3, 1) := by decide +kernel
theorem dL_law_965 : decode cL_law 965 = .ok (.iconst 0, 1) := by decide +kernel
theorem dL_law_966 : decode cL_law 966 = .ok (.laload, 1) := by decide +kernel
theorem dL_law_967 : decode cL_law 967 = .ok (.iload 6, 2) := by decide +kernel
theorem dL_law_969 : decode cL_law 969 = .ok (.i2l, 1) := by decide +kernel
theorem dL_law_970 : decode cL_law 970 = .ok (.lcmp, 1) := by decide +kernel
theorem dL_law_971 : decode cL_law 971 = .ok (.ifCond .eq 5, 3) := by decide +kernel
theorem dL_law_974 : decode cL_law 974 = .ok (.iconst 0, 1) := by decide +kernel
theorem dL_law_975 : decode cL_law 975 = .ok (.ireturn, 1) := by decide +kernel
theorem dL_law_976 : decode cL_law 976 = .ok (.goto 623, 3) := by decide +kernel
theorem dL_law_979 : decode cL_law 979 = .ok (.aload_n 1, 1) := by decide +kernel
theorem dL_law_980 : decode cL_law 980 = .ok (.aload_n 0, 1) := by decide +kernel
theorem dL_law_981 : decode cL_law 981 = .ok (.iload 4, 2) := by decide +kernel
theorem dL_law_983 : decode cL_law 983 = .ok (.iconst 1, 1) := by decide +kernel
theorem dL_law_984 : decode cL_law 984 = .ok (.iadd, 1) := by decide +kernel
theorem dL_law_985 : decode cL_law 985 = .ok (.iaload, 1) := by decide +kernel
theorem dL_law_986 : decode cL_law 986 = .ok (.aload_n 3, 1) := by decide +kernel
theorem dL_law_987 : decode cL_law 987 = .ok (.invokestatic 149, 3) := by decide +kernel
theorem dL_law_990 : decode cL_law 990 = .ok (.istore 5, 2) := by decide +kernel
theorem dL_law_992 : decode cL_law 992 = .ok (.aload_n 2, 1) := by decide +kernel
theorem dL_law_993 : decode cL_law 993 = .ok (.aload_n 0, 1) := by decide +kernel
theorem dL_law_994 : decode cL_law 994 = .ok (.iload 4, 2) := by decide +kernel
theorem dL_law_996 : decode cL_law 996 = .ok (.iconst 1, 1) := by decide +kernel
theorem dL_law_997 : decode cL_law 997 = .ok (.iadd, 1) := by decide +kernel
theorem dL_law_998 : decode cL_law 998 = .ok (.iaload, 1) := by decide +kernel
theorem dL_law_999 : decode cL_law 999 = .ok (.invokevirtual 151, 3) := by decide +kernel
theorem dL_law_1002 : decode cL_law 1002 = .ok (.istore 6, 2) := by decide +kernel
theorem dL_law_1004 : decode cL_law 1004 = .ok (.aload_n 2, 1) := by decide +kernel
theorem dL_law_1005 : decode cL_law 1005 = .ok (.invokevirtual 95, 3) := by decide +kernel
theorem dL_law_1008 : decode cL_law 1008 = .ok (.iload 5, 2) := by decide +kernel
theorem dL_law_1010 : decode cL_law 1010 = .ok (.if_icmp .eq 5, 3) := by decide +kernel
theorem dL_law_1013 : decode cL_law 1013 = .ok (.iconst 0, 1) := by decide +kernel
theorem dL_law_1014 : decode cL_law 1014 = .ok (.ireturn, 1) := by decide +kernel
theorem dL_law_1015 : decode cL_law 1015 = .ok (.iload 5, 2) := by decide +kernel
theorem dL_law_1017 : decode cL_law 1017 = .ok (.ifCond .ne 15, 3) := by decide +kernel
theorem dL_law_1020 : decode cL_law 1020 = .ok (.aload_n 3, 1) := by decide +kernel
theorem dL_law_1021 : decode cL_law 1021 = .ok (.iconst 0, 1) := by decide +kernel
theorem dL_law_1022 : decode cL_law 1022 = .ok (.laload, 1) := by decide +kernel
theorem dL_law_1023 : decode cL_law 1023 = .ok (.iload 6, 2) := by decide +kernel
theorem dL_law_1025 : decode cL_law 1025 = .ok (.i2l, 1) := by decide +kernel
theorem dL_law_1026 : decode cL_law 1026 = .ok (.lcmp, 1) := by decide +kernel
theorem dL_law_1027 : decode cL_law 1027 = .ok (.ifCond .eq 5, 3) := by decide +kernel
theorem dL_law_1030 : decode cL_law 1030 = .ok (.iconst 0, 1) := by decide +kernel
theorem dL_law_1031 : decode cL_law 1031 = .ok (.ireturn, 1) := by decide +kernel
theorem dL_law_1032 : decode cL_law 1032 = .ok (.goto 567, 3) := by decide +kernel
theorem dL_law_1035 : decode cL_law 1035 = .ok (.aload_n 1, 1) := by decide +kernel
theorem dL_law_1036 : decode cL_law 1036 = .ok (.aload_n 0, 1) := by decide +kernel
theorem dL_law_1037 : decode cL_law 1037 = .ok (.iload 4, 2) := by decide +kernel
theorem dL_law_1039 : decode cL_law 1039 = .ok (.iconst 1, 1) := by decide +kernel
theorem dL_law_1040 : decode cL_law 1040 = .ok (.iadd, 1) := by decide +kernel
theorem dL_law_1041 : decode cL_law 1041 = .ok (.iaload, 1) := by decide +kernel
theorem dL_law_1042 : decode cL_law 1042 = .ok (.aload_n 3, 1) := by decide +kernel
theorem dL_law_1043 : decode cL_law 1043 = .ok (.invokestatic 152, 3) := by decide +kernel
theorem dL_law_1046 : decode cL_law 1046 = .ok (.istore 5, 2) := by decide +kernel
theorem dL_law_1048 : decode cL_law 1048 = .ok (.aload_n 2, 1) := by decide +kernel
theorem dL_law_1049 : decode cL_law 1049 = .ok (.aload_n 0, 1) := by decide +kernel
theorem dL_law_1050 : decode cL_law 1050 = .ok (.iload 4, 2) := by decide +kernel
theorem dL_law_1052 : decode cL_law 1052 = .ok (.iconst 1, 1) := by decide +kernel
theorem dL_law_1053 : decode cL_law 1053 = .ok (.iadd, 1) := by decide +kernel
theorem dL_law_1054 : decode cL_law 1054 = .ok (.iaload, 1) := by decide +kernel
theorem dL_law_1055 : decode cL_law 1055 = .ok (.invokevirtual 154, 3) := by decide +kernel
theorem dL_law_1058 : decode cL_law 1058 = .ok (.istore 6, 2) := by decide +kernel
theorem dL_law_1060 : decode cL_law 1060 = .ok (.aload_n 2, 1) := by decide +kernel
theorem dL_law_1061 : decode cL_law 1061 = .ok (.invokevirtual 95, 3) := by decide +kernel
theorem dL_law_1064 : decode cL_law 1064 = .ok (.iload 5, 2) := by decide +kernel
theorem dL_law_1066 : decode cL_law 1066 = .ok (.if_icmp .eq 5, 3) := by decide +kernel
theorem dL_law_1069 : decode cL_law 1069 = .ok (.iconst 0, 1) := by decide +kernel
theorem dL_law_1070 : decode cL_law 1070 = .ok (.ireturn, 1) := by decide +kernel
theorem dL_law_1071 : decode cL_law 1071 = .ok (.iload 5, 2) := by decide +kernel
theorem dL_law_1073 : decode cL_law 1073 = .ok (.ifCond .ne 15, 3) := by decide +kernel
theorem dL_law_1076 : decode cL_law 1076 = .ok (.aload_n 3, 1) := by decide +kernel
theorem dL_law_1077 : decode cL_law 1077 = .ok (.iconst 0, 1) := by decide +kernel
theorem dL_law_1078 : decode cL_law 1078 = .ok (.laload, 1) := by decide +kernel
theorem dL_law_1079 : decode cL_law 1079 = .ok (.iload 6, 2) := by decide +kernel
theorem dL_law_1081 : decode cL_law 1081 = .ok (.i2l, 1) := by decide +kernel
theorem dL_law_1082 : decode cL_law 1082 = .ok (.lcmp, 1) := by decide +kernel
theorem dL_law_1083 : decode cL_law 1083 = .ok (.ifCond .eq 5, 3) := by decide +kernel
theorem dL_law_1086 : decode cL_law 1086 = .ok (.iconst 0, 1) := by decide +kernel
theorem dL_law_1087 : decode cL_law 1087 = .ok (.ireturn, 1) := by decide +kernel
theorem dL_law_1088 : decode cL_law 1088 = .ok (.goto 511, 3) := by decide +kernel
theorem dL_law_1091 : decode cL_law 1091 = .ok (.aload_n 1, 1) := by decide +kernel
theorem dL_law_1092 : decode cL_law 1092 = .ok (.aload_n 0, 1) := by decide +kernel
theorem dL_law_1093 : decode cL_law 1093 = .ok (.iload 4, 2) := by decide +kernel
theorem dL_law_1095 : decode cL_law 1095 = .ok (.iconst 1, 1) := by decide +kernel
theorem dL_law_1096 : decode cL_law 1096 = .ok (.iadd, 1) := by decide +kernel
theorem dL_law_1097 : decode cL_law 1097 = .ok (.iaload, 1) := by decide +kernel
theorem dL_law_1098 : decode cL_law 1098 = .ok (.aload_n 0, 1) := by decide +kernel
theorem dL_law_1099 : decode cL_law 1099 = .ok (.iload 4, 2) := by decide +kernel
theorem dL_law_1101 : decode cL_law 1101 = .ok (.iconst 2, 1) := by decide +kernel
theorem dL_law_1102 : decode cL_law 1102 = .ok (.iadd, 1) := by decide +kernel
theorem dL_law_1103 : decode cL_law 1103 = .ok (.iaload, 1) := by decide +kernel
theorem dL_law_1104 : decode cL_law 1104 = .ok (.aload_n 3, 1) := by decide +kernel
theorem dL_law_1105 : decode cL_law 1105 = .ok (.invokestatic 155, 3) := by decide +kernel
theorem dL_law_1108 : decode cL_law 1108 = .ok (.istore 5, 2) := by decide +kernel
theorem dL_law_1110 : decode cL_law 1110 = .ok (.aload_n 2, 1) := by decide +kernel
theorem dL_law_1111 : decode cL_law 1111 = .ok (.aload_n 0, 1) := by decide +kernel
theorem dL_law_1112 : decode cL_law 1112 = .ok (.iload 4, 2) := by decide +kernel
theorem dL_law_1114 : decode cL_law 1114 = .ok (.iconst 1, 1) := by decide +kernel
theorem dL_law_1115 : decode cL_law 1115 = .ok (.iadd, 1) := by decide +kernel
theorem dL_law_1116 : decode cL_law 1116 = .ok (.iaload, 1) := by decide +kernel
theorem dL_law_1117 : decode cL_law 1117 = .ok (.aload_n 0, 1) := by decide +kernel
theorem dL_law_1118 : decode cL_law 1118 = .ok (.iload 4, 2) := by decide +kernel
theorem dL_law_1120 : decode cL_law 1120 = .ok (.iconst 2, 1) := by decide +kernel
theorem dL_law_1121 : decode cL_law 1121 = .ok (.iadd, 1) := by decide +kernel
theorem dL_law_1122 : decode cL_law 1122 = .ok (.iaload, 1) := by decide +kernel
theorem dL_law_1123 : decode cL_law 1123 = .ok (.invokevirtual 157, 3) := by decide +kernel
theorem dL_law_1126 : decode cL_law 1126 = .ok (.istore 6, 2) := by decide +kernel
theorem dL_law_1128 : decode cL_law 1128 = .ok (.aload_n 2, 1) := by decide +kernel
theorem dL_law_1129 : decode cL_law 1129 = .ok (.invokevirtual 95, 3) := by decide +kernel
theorem dL_law_1132 : decode cL_law 1132 = .ok (.iload 5, 2) := by decide +kernel
theorem dL_law_1134 : decode cL_law 1134 = .ok (.if_icmp .eq 5, 3) := by decide +kernel
theorem dL_law_1137 : decode cL_law 1137 = .ok (.iconst 0, 1) := by decide +kernel
theorem dL_law_1138 : decode cL_law 1138 = .ok (.ireturn, 1) := by decide +kernel
theorem dL_law_1139 : decode cL_law 1139 = .ok (.iload 5, 2) := by decide +kernel
theorem dL_law_1141 : decode cL_law 1141 = .ok (.ifCond .ne 15, 3) := by decide +kernel
theorem dL_law_1144 : decode cL_law 1144 = .ok (.aload_n 3, 1) := by decide +kernel
theorem dL_law_1145 : decode cL_law 1145 = .ok (.iconst 0, 1) := by decide +kernel
theorem dL_law_1146 : decode cL_law 1146 = .ok (.laload, 1) := by decide +kernel
theorem dL_law_1147 : decode cL_law 1147 = .ok (.iload 6, 2) := by decide +kernel
theorem dL_law_1149 : decode cL_law 1149 = .ok (.i2l, 1) := by decide +kernel
theorem dL_law_1150 : decode cL_law 1150 = .ok (.lcmp, 1) := by decide +kernel
theorem dL_law_1151 : decode cL_law 1151 = .ok (.ifCond .eq 5, 3) := by decide +kernel
theorem dL_law_1154 : decode cL_law 1154 = .ok (.iconst 0, 1) := by decide +kernel
theorem dL_law_1155 : decode cL_law 1155 = .ok (.ireturn, 1) := by decide +kernel
theorem dL_law_1156 : decode cL_law 1156 = .ok (.goto 443, 3) := by decide +kernel
theorem dL_law_1159 : decode cL_law 1159 = .ok (.aload_n 1, 1) := by decide +kernel
theorem dL_law_1160 : decode cL_law 1160 = .ok (.aload_n 0, 1) := by decide +kernel
theorem dL_law_1161 : decode cL_law 1161 = .ok (.iload 4, 2) := by decide +kernel
theorem dL_law_1163 : decode cL_law 1163 = .ok (.iconst 1, 1) := by decide +kernel
theorem dL_law_1164 : decode cL_law 1164 = .ok (.iadd, 1) := by decide +kernel
theorem dL_law_1165 : decode cL_law 1165 = .ok (.iaload, 1) := by decide +kernel
theorem dL_law_1166 : decode cL_law 1166 = .ok (.aload_n 3, 1) := by decide +kernel
theorem dL_law_1167 : decode cL_law 1167 = .ok (.invokestatic 158, 3) := by decide +kernel
theorem dL_law_1170 : decode cL_law 1170 = .ok (.istore 5, 2) := by decide +kernel
theorem dL_law_1172 : decode cL_law 1172 = .ok (.aload_n 2, 1) := by decide +kernel
theorem dL_law_1173 : decode cL_law 1173 = .ok (.aload_n 0, 1) := by decide +kernel
theorem dL_law_1174 : decode cL_law 1174 = .ok (.iload 4, 2) := by decide +kernel
theorem dL_law_1176 : decode cL_law 1176 = .ok (.iconst 1, 1) := by decide +kernel
theorem dL_law_1177 : decode cL_law 1177 = .ok (.iadd, 1) := by decide +kernel
theorem dL_law_1178 : decode cL_law 1178 = .ok (.iaload, 1) := by decide +kernel
theorem dL_law_1179 : decode cL_law 1179 = .ok (.invokevirtual 160, 3) := by decide +kernel
theorem dL_law_1182 : decode cL_law 1182 = .ok (.istore 6, 2) := by decide +kernel
theorem dL_law_1184 : decode cL_law 1184 = .ok (.aload_n 2, 1) := by decide +kernel
theorem dL_law_1185 : decode cL_law 1185 = .ok (.invokevirtual 95, 3) := by decide +kernel
theorem dL_law_1188 : decode cL_law 1188 = .ok (.iload 5, 2) := by decide +kernel
theorem dL_law_1190 : decode cL_law 1190 = .ok (.if_icmp .eq 5, 3) := by decide +kernel
theorem dL_law_1193 : decode cL_law 1193 = .ok (.iconst 0, 1) := by decide +kernel
theorem dL_law_1194 : decode cL_law 1194 = .ok (.ireturn, 1) := by decide +kernel
theorem dL_law_1195 : decode cL_law 1195 = .ok (.iload 5, 2) := by decide +kernel
theorem dL_law_1197 : decode cL_law 1197 = .ok (.ifCond .ne 15, 3) := by decide +kernel
theorem dL_law_1200 : decode cL_law 1200 = .ok (.aload_n 3, 1) := by decide +kernel
theorem dL_law_1201 : decode cL_law 1201 = .ok (.iconst 0, 1) := by decide +kernel
theorem dL_law_1202 : decode cL_law 1202 = .ok (.laload, 1) := by decide +kernel
theorem dL_law_1203 : decode cL_law 1203 = .ok (.iload 6, 2) := by decide +kernel
theorem dL_law_1205 : decode cL_law 1205 = .ok (.i2l, 1) := by decide +kernel
theorem dL_law_1206 : decode cL_law 1206 = .ok (.lcmp, 1) := by decide +kernel
theorem dL_law_1207 : decode cL_law 1207 = .ok (.ifCond .eq 5, 3) := by decide +kernel
theorem dL_law_1210 : decode cL_law 1210 = .ok (.iconst 0, 1) := by decide +kernel
theorem dL_law_1211 : decode cL_law 1211 = .ok (.ireturn, 1) := by decide +kernel
theorem dL_law_1212 : decode cL_law 1212 = .ok (.goto 387, 3) := by decide +kernel
theorem dL_law_1215 : decode cL_law 1215 = .ok (.aload_n 1, 1) := by decide +kernel
theorem dL_law_1216 : decode cL_law 1216 = .ok (.aload_n 0, 1) := by decide +kernel
theorem dL_law_1217 : decode cL_law 1217 = .ok (.iload 4, 2) := by decide +kernel
theorem dL_law_1219 : decode cL_law 1219 = .ok (.iconst 1, 1) := by decide +kernel
theorem dL_law_1220 : decode cL_law 1220 = .ok (.iadd, 1) := by decide +kernel
theorem dL_law_1221 : decode cL_law 1221 = .ok (.iaload, 1) := by decide +kernel
theorem dL_law_1222 : decode cL_law 1222 = .ok (.aload_n 3, 1) := by decide +kernel
theorem dL_law_1223 : decode cL_law 1223 = .ok (.invokestatic 161, 3) := by decide +kernel
theorem dL_law_1226 : decode cL_law 1226 = .ok (.istore 5, 2) := by decide +kernel
theorem dL_law_1228 : decode cL_law 1228 = .ok (.aload_n 2, 1) := by decide +kernel
theorem dL_law_1229 : decode cL_law 1229 = .ok (.aload_n 0, 1) := by decide +kernel
theorem dL_law_1230 : decode cL_law 1230 = .ok (.iload 4, 2) := by decide +kernel
theorem dL_law_1232 : decode cL_law 1232 = .ok (.iconst 1, 1) := by decide +kernel
theorem dL_law_1233 : decode cL_law 1233 = .ok (.iadd, 1) := by decide +kernel
theorem dL_law_1234 : decode cL_law 1234 = .ok (.iaload, 1) := by decide +kernel
theorem dL_law_1235 : decode cL_law 1235 = .ok (.invokevirtual 163, 3) := by decide +kernel
theorem dL_law_1238 : decode cL_law 1238 = .ok (.istore 6, 2) := by decide +kernel
theorem dL_law_1240 : decode cL_law 1240 = .ok (.aload_n 2, 1) := by decide +kernel
theorem dL_law_1241 : decode cL_law 1241 = .ok (.invokevirtual 95, 3) := by decide +kernel
theorem dL_law_1244 : decode cL_law 1244 = .ok (.iload 5, 2) := by decide +kernel
theorem dL_law_1246 : decode cL_law 1246 = .ok (.if_icmp .eq 5, 3) := by decide +kernel
theorem dL_law_1249 : decode cL_law 1249 = .ok (.iconst 0, 1) := by decide +kernel
theorem dL_law_1250 : decode cL_law 1250 = .ok (.ireturn, 1) := by decide +kernel
theorem dL_law_1251 : decode cL_law 1251 = .ok (.iload 5, 2) := by decide +kernel
theorem dL_law_1253 : decode cL_law 1253 = .ok (.ifCond .ne 15, 3) := by decide +kernel
theorem dL_law_1256 : decode cL_law 1256 = .ok (.aload_n 3, 1) := by decide +kernel
theorem dL_law_1257 : decode cL_law 1257 = .ok (.iconst 0, 1) := by decide +kernel
theorem dL_law_1258 : decode cL_law 1258 = .ok (.laload, 1) := by decide +kernel
theorem dL_law_1259 : decode cL_law 1259 = .ok (.iload 6, 2) := by decide +kernel
theorem dL_law_1261 : decode cL_law 1261 = .ok (.i2l, 1) := by decide +kernel
theorem dL_law_1262 : decode cL_law 1262 = .ok (.lcmp, 1) := by decide +kernel
theorem dL_law_1263 : decode cL_law 1263 = .ok (.ifCond .eq 5, 3) := by decide +kernel
theorem dL_law_1266 : decode cL_law 1266 = .ok (.iconst 0, 1) := by decide +kernel
theorem dL_law_1267 : decode cL_law 1267 = .ok (.ireturn, 1) := by decide +kernel
theorem dL_law_1268 : decode cL_law 1268 = .ok (.goto 331, 3) := by decide +kernel
theorem dL_law_1271 : decode cL_law 1271 = .ok (.aload_n 1, 1) := by decide +kernel
theorem dL_law_1272 : decode cL_law 1272 = .ok (.aload_n 0, 1) := by decide +kernel
theorem dL_law_1273 : decode cL_law 1273 = .ok (.iload 4, 2) := by decide +kernel
theorem dL_law_1275 : decode cL_law 1275 = .ok (.iconst 1, 1) := by decide +kernel
theorem dL_law_1276 : decode cL_law 1276 = .ok (.iadd, 1) := by decide +kernel
theorem dL_law_1277 : decode cL_law 1277 = .ok (.iaload, 1) := by decide +kernel
theorem dL_law_1278 : decode cL_law 1278 = .ok (.aload_n 0, 1) := by decide +kernel
theorem dL_law_1279 : decode cL_law 1279 = .ok (.iload 4, 2) := by decide +kernel
theorem dL_law_1281 : decode cL_law 1281 = .ok (.iconst 2, 1) := by decide +kernel
theorem dL_law_1282 : decode cL_law 1282 = .ok (.iadd, 1) := by decide +kernel
theorem dL_law_1283 : decode cL_law 1283 = .ok (.iaload, 1) := by decide +kernel
theorem dL_law_1284 : decode cL_law 1284 = .ok (.aload_n 3, 1) := by decide +kernel
theorem dL_law_1285 : decode cL_law 1285 = .ok (.invokestatic 164, 3) := by decide +kernel
theorem dL_law_1288 : decode cL_law 1288 = .ok (.istore 5, 2) := by decide +kernel
theorem dL_law_1290 : decode cL_law 1290 = .ok (.aload_n 2, 1) := by decide +kernel
theorem dL_law_1291 : decode cL_law 1291 = .ok (.aload_n 0, 1) := by decide +kernel
theorem dL_law_1292 : decode cL_law 1292 = .ok (.iload 4, 2) := by decide +kernel
theorem dL_law_1294 : decode cL_law 1294 = .ok (.iconst 1, 1) := by decide +kernel
theorem dL_law_1295 : decode cL_law 1295 = .ok (.iadd, 1) := by decide +kernel
theorem dL_law_1296 : decode cL_law 1296 = .ok (.iaload, 1) := by decide +kernel
theorem dL_law_1297 : decode cL_law 1297 = .ok (.aload_n 0, 1) := by decide +kernel
theorem dL_law_1298 : decode cL_law 1298 = .ok (.iload 4, 2) := by decide +kernel
theorem dL_law_1300 : decode cL_law 1300 = .ok (.iconst 2, 1) := by decide +kernel
theorem dL_law_1301 : decode cL_law 1301 = .ok (.iadd, 1) := by decide +kernel
theorem dL_law_1302 : decode cL_law 1302 = .ok (.iaload, 1) := by decide +kernel
theorem dL_law_1303 : decode cL_law 1303 = .ok (.invokevirtual 166, 3) := by decide +kernel
theorem dL_law_1306 : decode cL_law 1306 = .ok (.istore 6, 2) := by decide +kernel
theorem dL_law_1308 : decode cL_law 1308 = .ok (.aload_n 2, 1) := by decide +kernel
theorem dL_law_1309 : decode cL_law 1309 = .ok (.invokevirtual 95, 3) := by decide +kernel
theorem dL_law_1312 : decode cL_law 1312 = .ok (.iload 5, 2) := by decide +kernel
theorem dL_law_1314 : decode cL_law 1314 = .ok (.if_icmp .eq 5, 3) := by decide +kernel
theorem dL_law_1317 : decode cL_law 1317 = .ok (.iconst 0, 1) := by decide +kernel
theorem dL_law_1318 : decode cL_law 1318 = .ok (.ireturn, 1) := by decide +kernel
theorem dL_law_1319 : decode cL_law 1319 = .ok (.iload 5, 2) := by decide +kernel
theorem dL_law_1321 : decode cL_law 1321 = .ok (.ifCond .ne 15, 3) := by decide +kernel
theorem dL_law_1324 : decode cL_law 1324 = .ok (.aload_n 3, 1) := by decide +kernel
theorem dL_law_1325 : decode cL_law 1325 = .ok (.iconst 0, 1) := by decide +kernel
theorem dL_law_1326 : decode cL_law 1326 = .ok (.laload, 1) := by decide +kernel
theorem dL_law_1327 : decode cL_law 1327 = .ok (.iload 6, 2) := by decide +kernel
theorem dL_law_1329 : decode cL_law 1329 = .ok (.i2l, 1) := by decide +kernel
theorem dL_law_1330 : decode cL_law 1330 = .ok (.lcmp, 1) := by decide +kernel
theorem dL_law_1331 : decode cL_law 1331 = .ok (.ifCond .eq 5, 3) := by decide +kernel
theorem dL_law_1334 : decode cL_law 1334 = .ok (.iconst 0, 1) := by decide +kernel
theorem dL_law_1335 : decode cL_law 1335 = .ok (.ireturn, 1) := by decide +kernel
theorem dL_law_1336 : decode cL_law 1336 = .ok (.goto 263, 3) := by decide +kernel
theorem dL_law_1339 : decode cL_law 1339 = .ok (.aload_n 1, 1) := by decide +kernel
theorem dL_law_1340 : decode cL_law 1340 = .ok (.aload_n 0, 1) := by decide +kernel
theorem dL_law_1341 : decode cL_law 1341 = .ok (.iload 4, 2) := by decide +kernel
theorem dL_law_1343 : decode cL_law 1343 = .ok (.iconst 1, 1) := by decide +kernel
theorem dL_law_1344 : decode cL_law 1344 = .ok (.iadd, 1) := by decide +kernel
theorem dL_law_1345 : decode cL_law 1345 = .ok (.iaload, 1) := by decide +kernel
theorem dL_law_1346 : decode cL_law 1346 = .ok (.aload_n 0, 1) := by decide +kernel
theorem dL_law_1347 : decode cL_law 1347 = .ok (.iload 4, 2) := by decide +kernel
theorem dL_law_1349 : decode cL_law 1349 = .ok (.iconst 2, 1) := by decide +kernel
theorem dL_law_1350 : decode cL_law 1350 = .ok (.iadd, 1) := by decide +kernel
theorem dL_law_1351 : decode cL_law 1351 = .ok (.iaload, 1) := by decide +kernel
theorem dL_law_1352 : decode cL_law 1352 = .ok (.aload_n 3, 1) := by decide +kernel
theorem dL_law_1353 : decode cL_law 1353 = .ok (.invokestatic 167, 3) := by decide +kernel
theorem dL_law_1356 : decode cL_law 1356 = .ok (.istore 5, 2) := by decide +kernel
theorem dL_law_1358 : decode cL_law 1358 = .ok (.aload_n 2, 1) := by decide +kernel
theorem dL_law_1359 : decode cL_law 1359 = .ok (.aload_n 0, 1) := by decide +kernel
theorem dL_law_1360 : decode cL_law 1360 = .ok (.iload 4, 2) := by decide +kernel
theorem dL_law_1362 : decode cL_law 1362 = .ok (.iconst 1, 1) := by decide +kernel
theorem dL_law_1363 : decode cL_law 1363 = .ok (.iadd, 1) := by decide +kernel
theorem dL_law_1364 : decode cL_law 1364 = .ok (.iaload, 1) := by decide +kernel
theorem dL_law_1365 : decode cL_law 1365 = .ok (.aload_n 0, 1) := by decide +kernel
theorem dL_law_1366 : decode cL_law 1366 = .ok (.iload 4, 2) := by decide +kernel
theorem dL_law_1368 : decode cL_law 1368 = .ok (.iconst 2, 1) := by decide +kernel
theorem dL_law_1369 : decode cL_law 1369 = .ok (.iadd, 1) := by decide +kernel
theorem dL_law_1370 : decode cL_law 1370 = .ok (.iaload, 1) := by decide +kernel
theorem dL_law_1371 : decode cL_law 1371 = .ok (.invokevirtual 169, 3) := by decide +kernel
theorem dL_law_1374 : decode cL_law 1374 = .ok (.istore 6, 2) := by decide +kernel
theorem dL_law_1376 : decode cL_law 1376 = .ok (.aload_n 2, 1) := by decide +kernel
theorem dL_law_1377 : decode cL_law 1377 = .ok (.invokevirtual 95, 3) := by decide +kernel
theorem dL_law_1380 : decode cL_law 1380 = .ok (.iload 5, 2) := by decide +kernel
theorem dL_law_1382 : decode cL_law 1382 = .ok (.if_icmp .eq 5, 3) := by decide +kernel
theorem dL_law_1385 : decode cL_law 1385 = .ok (.iconst 0, 1) := by decide +kernel
theorem dL_law_1386 : decode cL_law 1386 = .ok (.ireturn, 1) := by decide +kernel
theorem dL_law_1387 : decode cL_law 1387 = .ok (.iload 5, 2) := by decide +kernel
theorem dL_law_1389 : decode cL_law 1389 = .ok (.ifCond .ne 15, 3) := by decide +kernel
theorem dL_law_1392 : decode cL_law 1392 = .ok (.aload_n 3, 1) := by decide +kernel
theorem dL_law_1393 : decode cL_law 1393 = .ok (.iconst 0, 1) := by decide +kernel
theorem dL_law_1394 : decode cL_law 1394 = .ok (.laload, 1) := by decide +kernel
theorem dL_law_1395 : decode cL_law 1395 = .ok (.iload 6, 2) := by decide +kernel
theorem dL_law_1397 : decode cL_law 1397 = .ok (.i2l, 1) := by decide +kernel
theorem dL_law_1398 : decode cL_law 1398 = .ok (.lcmp, 1) := by decide +kernel
theorem dL_law_1399 : decode cL_law 1399 = .ok (.ifCond .eq 5, 3) := by decide +kernel
theorem dL_law_1402 : decode cL_law 1402 = .ok (.iconst 0, 1) := by decide +kernel
theorem dL_law_1403 : decode cL_law 1403 = .ok (.ireturn, 1) := by decide +kernel
theorem dL_law_1404 : decode cL_law 1404 = .ok (.goto 195, 3) := by decide +kernel
theorem dL_law_1407 : decode cL_law 1407 = .ok (.aload_n 1, 1) := by decide +kernel
theorem dL_law_1408 : decode cL_law 1408 = .ok (.aload_n 0, 1) := by decide +kernel
theorem dL_law_1409 : decode cL_law 1409 = .ok (.iload 4, 2) := by decide +kernel
theorem dL_law_1411 : decode cL_law 1411 = .ok (.iconst 1, 1) := by decide +kernel
theorem dL_law_1412 : decode cL_law 1412 = .ok (.iadd, 1) := by decide +kernel
theorem dL_law_1413 : decode cL_law 1413 = .ok (.iaload, 1) := by decide +kernel
theorem dL_law_1414 : decode cL_law 1414 = .ok (.aload_n 0, 1) := by decide +kernel
theorem dL_law_1415 : decode cL_law 1415 = .ok (.iload 4, 2) := by decide +kernel
theorem dL_law_1417 : decode cL_law 1417 = .ok (.iconst 2, 1) := by decide +kernel
theorem dL_law_1418 : decode cL_law 1418 = .ok (.iadd, 1) := by decide +kernel
theorem dL_law_1419 : decode cL_law 1419 = .ok (.iaload, 1) := by decide +kernel
theorem dL_law_1420 : decode cL_law 1420 = .ok (.aload_n 3, 1) := by decide +kernel
theorem dL_law_1421 : decode cL_law 1421 = .ok (.invokestatic 170, 3) := by decide +kernel
theorem dL_law_1424 : decode cL_law 1424 = .ok (.istore 5, 2) := by decide +kernel
theorem dL_law_1426 : decode cL_law 1426 = .ok (.aload_n 2, 1) := by decide +kernel
theorem dL_law_1427 : decode cL_law 1427 = .ok (.aload_n 0, 1) := by decide +kernel
theorem dL_law_1428 : decode cL_law 1428 = .ok (.iload 4, 2) := by decide +kernel
theorem dL_law_1430 : decode cL_law 1430 = .ok (.iconst 1, 1) := by decide +kernel
theorem dL_law_1431 : decode cL_law 1431 = .ok (.iadd, 1) := by decide +kernel
theorem dL_law_1432 : decode cL_law 1432 = .ok (.iaload, 1) := by decide +kernel
theorem dL_law_1433 : decode cL_law 1433 = .ok (.aload_n 0, 1) := by decide +kernel
theorem dL_law_1434 : decode cL_law 1434 = .ok (.iload 4, 2) := by decide +kernel
theorem dL_law_1436 : decode cL_law 1436 = .ok (.iconst 2, 1) := by decide +kernel
theorem dL_law_1437 : decode cL_law 1437 = .ok (.iadd, 1) := by decide +kernel
theorem dL_law_1438 : decode cL_law 1438 = .ok (.iaload, 1) := by decide +kernel
theorem dL_law_1439 : decode cL_law 1439 = .ok (.invokevirtual 172, 3) := by decide +kernel
theorem dL_law_1442 : decode cL_law 1442 = .ok (.istore 6, 2) := by decide +kernel
theorem dL_law_1444 : decode cL_law 1444 = .ok (.aload_n 2, 1) := by decide +kernel
theorem dL_law_1445 : decode cL_law 1445 = .ok (.invokevirtual 95, 3) := by decide +kernel
theorem dL_law_1448 : decode cL_law 1448 = .ok (.iload 5, 2) := by decide +kernel
theorem dL_law_1450 : decode cL_law 1450 = .ok (.if_icmp .eq 5, 3) := by decide +kernel
theorem dL_law_1453 : decode cL_law 1453 = .ok (.iconst 0, 1) := by decide +kernel
theorem dL_law_1454 : decode cL_law 1454 = .ok (.ireturn, 1) := by decide +kernel
theorem dL_law_1455 : decode cL_law 1455 = .ok (.iload 5, 2) := by decide +kernel
theorem dL_law_1457 : decode cL_law 1457 = .ok (.ifCond .ne 15, 3) := by decide +kernel
theorem dL_law_1460 : decode cL_law 1460 = .ok (.aload_n 3, 1) := by decide +kernel
theorem dL_law_1461 : decode cL_law 1461 = .ok (.iconst 0, 1) := by decide +kernel
theorem dL_law_1462 : decode cL_law 1462 = .ok (.laload, 1) := by decide +kernel
theorem dL_law_1463 : decode cL_law 1463 = .ok (.iload 6, 2) := by decide +kernel
theorem dL_law_1465 : decode cL_law 1465 = .ok (.i2l, 1) := by decide +kernel
theorem dL_law_1466 : decode cL_law 1466 = .ok (.lcmp, 1) := by decide +kernel
theorem dL_law_1467 : decode cL_law 1467 = .ok (.ifCond .eq 5, 3) := by decide +kernel
theorem dL_law_1470 : decode cL_law 1470 = .ok (.iconst 0, 1) := by decide +kernel
theorem dL_law_1471 : decode cL_law 1471 = .ok (.ireturn, 1) := by decide +kernel
theorem dL_law_1472 : decode cL_law 1472 = .ok (.goto 127, 3) := by decide +kernel
theorem dL_law_1475 : decode cL_law 1475 = .ok (.aload_n 1, 1) := by decide +kernel
theorem dL_law_1476 : decode cL_law 1476 = .ok (.invokevirtual 173, 3) := by decide +kernel
theorem dL_law_1479 : decode cL_law 1479 = .ok (.aload_n 2, 1) := by decide +kernel
theorem dL_law_1480 : decode cL_law 1480 = .ok (.invokevirtual 176, 3) := by decide +kernel
theorem dL_law_1483 : decode cL_law 1483 = .ok (.if_icmp .eq 116, 3) := by decide +kernel
theorem dL_law_1486 : decode cL_law 1486 = .ok (.iconst 0, 1) := by decide +kernel
theorem dL_law_1487 : decode cL_law 1487 = .ok (.ireturn, 1) := by decide +kernel
theorem dL_law_1488 : decode cL_law 1488 = .ok (.aload_n 1, 1) := by decide +kernel
theorem dL_law_1489 : decode cL_law 1489 = .ok (.aload_n 0, 1) := by decide +kernel
theorem dL_law_1490 : decode cL_law 1490 = .ok (.iload 4, 2) := by decide +kernel
theorem dL_law_1492 : decode cL_law 1492 = .ok (.iconst 1, 1) := by decide +kernel
theorem dL_law_1493 : decode cL_law 1493 = .ok (.iadd, 1) := by decide +kernel
theorem dL_law_1494 : decode cL_law 1494 = .ok (.iaload, 1) := by decide +kernel
theorem dL_law_1495 : decode cL_law 1495 = .ok (.aload_n 3, 1) := by decide +kernel
theorem dL_law_1496 : decode cL_law 1496 = .ok (.invokestatic 177, 3) := by decide +kernel
theorem dL_law_1499 : decode cL_law 1499 = .ok (.istore 5, 2) := by decide +kernel
theorem dL_law_1501 : decode cL_law 1501 = .ok (.aload_n 2, 1) := by decide +kernel
theorem dL_law_1502 : decode cL_law 1502 = .ok (.aload_n 0, 1) := by decide +kernel
theorem dL_law_1503 : decode cL_law 1503 = .ok (.iload 4, 2) := by decide +kernel
theorem dL_law_1505 : decode cL_law 1505 = .ok (.iconst 1, 1) := by decide +kernel
theorem dL_law_1506 : decode cL_law 1506 = .ok (.iadd, 1) := by decide +kernel
theorem dL_law_1507 : decode cL_law 1507 = .ok (.iaload, 1) := by decide +kernel
theorem dL_law_1508 : decode cL_law 1508 = .ok (.invokevirtual 179, 3) := by decide +kernel
theorem dL_law_1511 : decode cL_law 1511 = .ok (.istore 6, 2) := by decide +kernel
theorem dL_law_1513 : decode cL_law 1513 = .ok (.aload_n 2, 1) := by decide +kernel
theorem dL_law_1514 : decode cL_law 1514 = .ok (.invokevirtual 95, 3) := by decide +kernel
theorem dL_law_1517 : decode cL_law 1517 = .ok (.iload 5, 2) := by decide +kernel
theorem dL_law_1519 : decode cL_law 1519 = .ok (.if_icmp .eq 5, 3) := by decide +kernel
theorem dL_law_1522 : decode cL_law 1522 = .ok (.iconst 0, 1) := by decide +kernel
theorem dL_law_1523 : decode cL_law 1523 = .ok (.ireturn, 1) := by decide +kernel
theorem dL_law_1524 : decode cL_law 1524 = .ok (.iload 5, 2) := by decide +kernel
theorem dL_law_1526 : decode cL_law 1526 = .ok (.ifCond .ne 15, 3) := by decide +kernel
theorem dL_law_1529 : decode cL_law 1529 = .ok (.aload_n 3, 1) := by decide +kernel
theorem dL_law_1530 : decode cL_law 1530 = .ok (.iconst 0, 1) := by decide +kernel
theorem dL_law_1531 : decode cL_law 1531 = .ok (.laload, 1) := by decide +kernel
theorem dL_law_1532 : decode cL_law 1532 = .ok (.iload 6, 2) := by decide +kernel
theorem dL_law_1534 : decode cL_law 1534 = .ok (.i2l, 1) := by decide +kernel
theorem dL_law_1535 : decode cL_law 1535 = .ok (.lcmp, 1) := by decide +kernel
theorem dL_law_1536 : decode cL_law 1536 = .ok (.ifCond .eq 5, 3) := by decide +kernel
theorem dL_law_1539 : decode cL_law 1539 = .ok (.iconst 0, 1) := by decide +kernel
theorem dL_law_1540 : decode cL_law 1540 = .ok (.ireturn, 1) := by decide +kernel
theorem dL_law_1541 : decode cL_law 1541 = .ok (.goto 58, 3) := by decide +kernel
theorem dL_law_1544 : decode cL_law 1544 = .ok (.aload_n 1, 1) := by decide +kernel
theorem dL_law_1545 : decode cL_law 1545 = .ok (.invokevirtual 180, 3) := by decide +kernel
theorem dL_law_1548 : decode cL_law 1548 = .ok (.dstore 5, 2) := by decide +kernel
theorem dL_law_1550 : decode cL_law 1550 = .ok (.aload_n 2, 1) := by decide +kernel
theorem dL_law_1551 : decode cL_law 1551 = .ok (.invokevirtual 184, 3) := by decide +kernel
theorem dL_law_1554 : decode cL_law 1554 = .ok (.dstore 7, 2) := by decide +kernel
theorem dL_law_1556 : decode cL_law 1556 = .ok (.dload 5, 2) := by decide +kernel
theorem dL_law_1558 : decode cL_law 1558 = .ok (.dload 7, 2) := by decide +kernel
theorem dL_law_1560 : decode cL_law 1560 = .ok (.dcmp .l, 1) := by decide +kernel
theorem dL_law_1561 : decode cL_law 1561 = .ok (.ifCond .eq 21, 3) := by decide +kernel
theorem dL_law_1564 : decode cL_law 1564 = .ok (.dload 5, 2) := by decide +kernel
theorem dL_law_1566 : decode cL_law 1566 = .ok (.dload 5, 2) := by decide +kernel
theorem dL_law_1568 : decode cL_law 1568 = .ok (.dcmp .l, 1) := by decide +kernel
theorem dL_law_1569 : decode cL_law 1569 = .ok (.ifCond .eq 11, 3) := by decide +kernel
theorem dL_law_1572 : decode cL_law 1572 = .ok (.dload 7, 2) := by decide +kernel
theorem dL_law_1574 : decode cL_law 1574 = .ok (.dload 7, 2) := by decide +kernel
theorem dL_law_1576 : decode cL_law 1576 = .ok (.dcmp .l, 1) := by decide +kernel
theorem dL_law_1577 : decode cL_law 1577 = .ok (.ifCond .ne 5, 3) := by decide +kernel
theorem dL_law_1580 : decode cL_law 1580 = .ok (.iconst 0, 1) := by decide +kernel
theorem dL_law_1581 : decode cL_law 1581 = .ok (.ireturn, 1) := by decide +kernel
theorem dL_law_1582 : decode cL_law 1582 = .ok (.goto 17, 3) := by decide +kernel
theorem dL_law_1585 : decode cL_law 1585 = .ok (.aload_n 1, 1) := by decide +kernel
theorem dL_law_1586 : decode cL_law 1586 = .ok (.invokevirtual 185, 3) := by decide +kernel
theorem dL_law_1589 : decode cL_law 1589 = .ok (.aload_n 2, 1) := by decide +kernel
theorem dL_law_1590 : decode cL_law 1590 = .ok (.invokevirtual 189, 3) := by decide +kernel
theorem dL_law_1593 : decode cL_law 1593 = .ok (.lcmp, 1) := by decide +kernel
theorem dL_law_1594 : decode cL_law 1594 = .ok (.ifCond .eq 5, 3) := by decide +kernel
theorem dL_law_1597 : decode cL_law 1597 = .ok (.iconst 0, 1) := by decide +kernel
theorem dL_law_1598 : decode cL_law 1598 = .ok (.ireturn, 1) := by decide +kernel
theorem dL_law_1599 : decode cL_law 1599 = .ok (.iinc 4 4, 3) := by decide +kernel
theorem dL_law_1602 : decode cL_law 1602 = .ok (.goto (-1579), 3) := by decide +kernel
theorem dL_law_1605 : decode cL_law 1605 = .ok (.iconst 1, 1) := by decide +kernel
theorem dL_law_1606 : decode cL_law 1606 = .ok (.ireturn, 1) := by decide +kernel
