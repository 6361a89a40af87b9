theorem dX0_init_0 : decode cX0_init 0 = .ok (.aload_n 0, 1) := by decide +kernel
theorem dX0_init_1 : decode cX0_init 1 = .ok (.invokespecial 3, 3) := by decide +kernel
theorem dX0_init_4 : decode cX0_init 4 = .ok (.aload_n 0, 1) := by decide +kernel
theorem dX0_init_5 : decode cX0_init 5 = .ok (.bipush 17, 2) := by decide +kernel
theorem dX0_init_7 : decode cX0_init 7 = .ok (.newarray .int, 2) := by decide +kernel
theorem dX0_init_9 : decode cX0_init 9 = .ok (.putfield 9, 3) := by decide +kernel
theorem dX0_init_12 : decode cX0_init 12 = .ok (.aload_n 0, 1) := by decide +kernel
theorem dX0_init_13 : decode cX0_init 13 = .ok (.bipush 56, 2) := by decide +kernel
theorem dX0_init_15 : decode cX0_init 15 = .ok (.newarray .int, 2) := by decide +kernel
theorem dX0_init_17 : decode cX0_init 17 = .ok (.putfield 15, 3) := by decide +kernel
theorem dX0_init_20 : decode cX0_init 20 = .ok (.aload_n 0, 1) := by decide +kernel
theorem dX0_init_21 : decode cX0_init 21 = .ok (.bipush 56, 2) := by decide +kernel
theorem dX0_init_23 : decode cX0_init 23 = .ok (.newarray .int, 2) := by decide +kernel
theorem dX0_init_25 : decode cX0_init 25 = .ok (.putfield 18, 3) := by decide +kernel
theorem dX0_init_28 : decode cX0_init 28 = .ok (.aload_n 0, 1) := by decide +kernel
theorem dX0_init_29 : decode cX0_init 29 = .ok (.bipush 8, 2) := by decide +kernel
theorem dX0_init_31 : decode cX0_init 31 = .ok (.newarray .int, 2) := by decide +kernel
theorem dX0_init_33 : decode cX0_init 33 = .ok (.putfield 21, 3) := by decide +kernel
theorem dX0_init_36 : decode cX0_init 36 = .ok (.aload_n 0, 1) := by decide +kernel
theorem dX0_init_37 : decode cX0_init 37 = .ok (.bipush 7, 2) := by decide +kernel
theorem dX0_init_39 : decode cX0_init 39 = .ok (.newarray .int, 2) := by decide +kernel
theorem dX0_init_41 : decode cX0_init 41 = .ok (.putfield 24, 3) := by decide +kernel
theorem dX0_init_44 : decode cX0_init 44 = .ok (.aload_n 0, 1) := by decide +kernel
theorem dX0_init_45 : decode cX0_init 45 = .ok (.bipush 7, 2) := by decide +kernel
theorem dX0_init_47 : decode cX0_init 47 = .ok (.newarray .int, 2) := by decide +kernel
theorem dX0_init_49 : decode cX0_init 49 = .ok (.putfield 27, 3) := by decide +kernel
theorem dX0_init_52 : decode cX0_init 52 = .ok (.aload_n 0, 1) := by decide +kernel
theorem dX0_init_53 : decode cX0_init 53 = .ok (.bipush 7, 2) := by decide +kernel
theorem dX0_init_55 : decode cX0_init 55 = .ok (.newarray .int, 2) := by decide +kernel
theorem dX0_init_57 : decode cX0_init 57 = .ok (.putfield 30, 3) := by decide +kernel
theorem dX0_init_60 : decode cX0_init 60 = .ok (.aload_n 0, 1) := by decide +kernel
theorem dX0_init_61 : decode cX0_init 61 = .ok (.bipush 7, 2) := by decide +kernel
theorem dX0_init_63 : decode cX0_init 63 = .ok (.newarray .int, 2) := by decide +kernel
theorem dX0_init_65 : decode cX0_init 65 = .ok (.putfield 33, 3) := by decide +kernel
theorem dX0_init_68 : decode cX0_init 68 = .ok (.aload_n 0, 1) := by decide +kernel
theorem dX0_init_69 : decode cX0_init 69 = .ok (.bipush 7, 2) := by decide +kernel
theorem dX0_init_71 : decode cX0_init 71 = .ok (.newarray .int, 2) := by decide +kernel
theorem dX0_init_73 : decode cX0_init 73 = .ok (.putfield 36, 3) := by decide +kernel
theorem dX0_init_76 : decode cX0_init 76 = .ok (.aload_n 0, 1) := by decide +kernel
theorem dX0_init_77 : decode cX0_init 77 = .ok (.iconst 3, 1) := by decide +kernel
theorem dX0_init_78 : decode cX0_init 78 = .ok (.newarray .int, 2) := by decide +kernel
theorem dX0_init_80 : decode cX0_init 80 = .ok (.putfield 39, 3) := by decide +kernel
theorem dX0_init_83 : decode cX0_init 83 = .ok (.aload_n 0, 1) := by decide +kernel
theorem dX0_init_84 : decode cX0_init 84 = .ok (.getfield 9, 3) := by decide +kernel
theorem dX0_init_87 : decode cX0_init 87 = .ok (.bipush 11, 2) := by decide +kernel
theorem dX0_init_89 : decode cX0_init 89 = .ok (.iconst (-1), 1) := by decide +kernel
theorem dX0_init_90 : decode cX0_init 90 = .ok (.iastore, 1) := by decide +kernel
theorem dX0_init_91 : decode cX0_init 91 = .ok (.aload_n 0, 1) := by decide +kernel
theorem dX0_init_92 : decode cX0_init 92 = .ok (.getfield 9, 3) := by decide +kernel
theorem dX0_init_95 : decode cX0_init 95 = .ok (.bipush 12, 2) := by decide +kernel
theorem dX0_init_97 : decode cX0_init 97 = .ok (.iconst 3, 1) := by decide +kernel
theorem dX0_init_98 : decode cX0_init 98 = .ok (.iastore, 1) := by decide +kernel
theorem dX0_init_99 : decode cX0_init 99 = .ok (.aload_n 0, 1) := by decide +kernel
theorem dX0_init_100 : decode cX0_init 100 = .ok (.getfield 9, 3) := by decide +kernel
theorem dX0_init_103 : decode cX0_init 103 = .ok (.bipush 13, 2) := by decide +kernel
theorem dX0_init_105 : decode cX0_init 105 = .ok (.iconst 1, 1) := by decide +kernel
theorem dX0_init_106 : decode cX0_init 106 = .ok (.iastore, 1) := by decide +kernel
theorem dX0_init_107 : decode cX0_init 107 = .ok (.aload_n 0, 1) := by decide +kernel
theorem dX0_init_108 : decode cX0_init 108 = .ok (.getfield 9, 3) := by decide +kernel
theorem dX0_init_111 : decode cX0_init 111 = .ok (.bipush 14, 2) := by decide +kernel
theorem dX0_init_113 : decode cX0_init 113 = .ok (.bipush 6, 2) := by decide +kernel
theorem dX0_init_115 : decode cX0_init 115 = .ok (.iastore, 1) := by decide +kernel
theorem dX0_init_116 : decode cX0_init 116 = .ok (.aload_n 0, 1) := by decide +kernel
theorem dX0_init_117 : decode cX0_init 117 = .ok (.getfield 9, 3) := by decide +kernel
theorem dX0_init_120 : decode cX0_init 120 = .ok (.bipush 15, 2) := by decide +kernel
theorem dX0_init_122 : decode cX0_init 122 = .ok (.bipush 8, 2) := by decide +kernel
theorem dX0_init_124 : decode cX0_init 124 = .ok (.iastore, 1) := by decide +kernel
theorem dX0_init_125 : decode cX0_init 125 = .ok (.aload_n 0, 1) := by decide +kernel
theorem dX0_init_126 : decode cX0_init 126 = .ok (.getfield 21, 3) := by decide +kernel
theorem dX0_init_129 : decode cX0_init 129 = .ok (.iconst (-1), 1) := by decide +kernel
theorem dX0_init_130 : decode cX0_init 130 = .ok (.invokestatic 42, 3) := by decide +kernel
theorem dX0_init_133 : decode cX0_init 133 = .ok (.getstatic 48, 3) := by decide +kernel
theorem dX0_init_136 : decode cX0_init 136 = .ok (.iconst 0, 1) := by decide +kernel
theorem dX0_init_137 : decode cX0_init 137 = .ok (.aload_n 0, 1) := by decide +kernel
theorem dX0_init_138 : decode cX0_init 138 = .ok (.getfield 24, 3) := by decide +kernel
theorem dX0_init_141 : decode cX0_init 141 = .ok (.iconst 0, 1) := by decide +kernel
theorem dX0_init_142 : decode cX0_init 142 = .ok (.bipush 7, 2) := by decide +kernel
theorem dX0_init_144 : decode cX0_init 144 = .ok (.invokestatic 51, 3) := by decide +kernel
theorem dX0_init_147 : decode cX0_init 147 = .ok (.getstatic 57, 3) := by decide +kernel
theorem dX0_init_150 : decode cX0_init 150 = .ok (.iconst 0, 1) := by decide +kernel
theorem dX0_init_151 : decode cX0_init 151 = .ok (.aload_n 0, 1) := by decide +kernel
theorem dX0_init_152 : decode cX0_init 152 = .ok (.getfield 27, 3) := by decide +kernel
theorem dX0_init_155 : decode cX0_init 155 = .ok (.iconst 0, 1) := by decide +kernel
theorem dX0_init_156 : decode cX0_init 156 = .ok (.bipush 7, 2) := by decide +kernel
theorem dX0_init_158 : decode cX0_init 158 = .ok (.invokestatic 51, 3) := by decide +kernel
theorem dX0_init_161 : decode cX0_init 161 = .ok (.iconst 0, 1) := by decide +kernel
theorem dX0_init_162 : decode cX0_init 162 = .ok (.istore_n 1, 1) := by decide +kernel
theorem dX0_init_163 : decode cX0_init 163 = .ok (.iload_n 1, 1) := by decide +kernel
theorem dX0_init_164 : decode cX0_init 164 = .ok (.iconst 3, 1) := by decide +kernel
theorem dX0_init_165 : decode cX0_init 165 = .ok (.if_icmp .ge 16, 3) := by decide +kernel
theorem dX0_init_168 : decode cX0_init 168 = .ok (.aload_n 0, 1) := by decide +kernel
theorem dX0_init_169 : decode cX0_init 169 = .ok (.getfield 39, 3) := by decide +kernel
theorem dX0_init_172 : decode cX0_init 172 = .ok (.iload_n 1, 1) := by decide +kernel
theorem dX0_init_173 : decode cX0_init 173 = .ok (.iload_n 1, 1) := by decide +kernel
theorem dX0_init_174 : decode cX0_init 174 = .ok (.iastore, 1) := by decide +kernel
theorem dX0_init_175 : decode cX0_init 175 = .ok (.iinc 1 1, 3) := by decide +kernel
theorem dX0_init_178 : decode cX0_init 178 = .ok (.goto (-15), 3) := by decide +kernel
theorem dX0_init_181 : decode cX0_init 181 = .ok (.return_, 1) := by decide +kernel
theorem dX0_copyFrom_0 : decode cX0_copyFrom 0 = .ok (.aload_n 1, 1) := by decide +kernel
theorem dX0_copyFrom_1 : decode cX0_copyFrom 1 = .ok (.getfield 9, 3) := by decide +kernel
theorem dX0_copyFrom_4 : decode cX0_copyFrom 4 = .ok (.iconst 0, 1) := by decide +kernel
theorem dX0_copyFrom_5 : decode cX0_copyFrom 5 = .ok (.aload_n 0, 1) := by decide +kernel
theorem dX0_copyFrom_6 : decode cX0_copyFrom 6 = .ok (.getfield 9, 3) := by decide +kernel
theorem dX0_copyFrom_9 : decode cX0_copyFrom 9 = .ok (.iconst 0, 1) := by decide +kernel
theorem dX0_copyFrom_10 : decode cX0_copyFrom 10 = .ok (.bipush 17, 2) := by decide +kernel
theorem dX0_copyFrom_12 : decode cX0_copyFrom 12 = .ok (.invokestatic 51, 3) := by decide +kernel
theorem dX0_copyFrom_15 : decode cX0_copyFrom 15 = .ok (.aload_n 1, 1) := by decide +kernel
theorem dX0_copyFrom_16 : decode cX0_copyFrom 16 = .ok (.getfield 15, 3) := by decide +kernel
theorem dX0_copyFrom_19 : decode cX0_copyFrom 19 = .ok (.iconst 0, 1) := by decide +kernel
theorem dX0_copyFrom_20 : decode cX0_copyFrom 20 = .ok (.aload_n 0, 1) := by decide +kernel
theorem dX0_copyFrom_21 : decode cX0_copyFrom 21 = .ok (.getfield 15, 3) := by decide +kernel
theorem dX0_copyFrom_24 : decode cX0_copyFrom 24 = .ok (.iconst 0, 1) := by decide +kernel
theorem dX0_copyFrom_25 : decode cX0_copyFrom 25 = .ok (.bipush 56, 2) := by decide +kernel
theorem dX0_copyFrom_27 : decode cX0_copyFrom 27 = .ok (.invokestatic 51, 3) := by decide +kernel
theorem dX0_copyFrom_30 : decode cX0_copyFrom 30 = .ok (.aload_n 1, 1) := by decide +kernel
theorem dX0_copyFrom_31 : decode cX0_copyFrom 31 = .ok (.getfield 18, 3) := by decide +kernel
theorem dX0_copyFrom_34 : decode cX0_copyFrom 34 = .ok (.iconst 0, 1) := by decide +kernel
theorem dX0_copyFrom_35 : decode cX0_copyFrom 35 = .ok (.aload_n 0, 1) := by decide +kernel
theorem dX0_copyFrom_36 : decode cX0_copyFrom 36 = .ok (.getfield 18, 3) := by decide +kernel
theorem dX0_copyFrom_39 : decode cX0_copyFrom 39 = .ok (.iconst 0, 1) := by decide +kernel
theorem dX0_copyFrom_40 : decode cX0_copyFrom 40 = .ok (.bipush 56, 2) := by decide +kernel
theorem dX0_copyFrom_42 : decode cX0_copyFrom 42 = .ok (.invokestatic 51, 3) := by decide +kernel
theorem dX0_copyFrom_45 : decode cX0_copyFrom 45 = .ok (.aload_n 1, 1) := by decide +kernel
theorem dX0_copyFrom_46 : decode cX0_copyFrom 46 = .ok (.getfield 21, 3) := by decide +kernel
theorem dX0_copyFrom_49 : decode cX0_copyFrom 49 = .ok (.iconst 0, 1) := by decide +kernel
theorem dX0_copyFrom_50 : decode cX0_copyFrom 50 = .ok (.aload_n 0, 1) := by decide +kernel
theorem dX0_copyFrom_51 : decode cX0_copyFrom 51 = .ok (.getfield 21, 3) := by decide +kernel
theorem dX0_copyFrom_54 : decode cX0_copyFrom 54 = .ok (.iconst 0, 1) := by decide +kernel
theorem dX0_copyFrom_55 : decode cX0_copyFrom 55 = .ok (.bipush 8, 2) := by decide +kernel
theorem dX0_copyFrom_57 : decode cX0_copyFrom 57 = .ok (.invokestatic 51, 3) := by decide +kernel
theorem dX0_copyFrom_60 : decode cX0_copyFrom 60 = .ok (.aload_n 1, 1) := by decide +kernel
theorem dX0_copyFrom_61 : decode cX0_copyFrom 61 = .ok (.getfield 24, 3) := by decide +kernel
theorem dX0_copyFrom_64 : decode cX0_copyFrom 64 = .ok (.iconst 0, 1) := by decide +kernel
theorem dX0_copyFrom_65 : decode cX0_copyFrom 65 = .ok (.aload_n 0, 1) := by decide +kernel
theorem dX0_copyFrom_66 : decode cX0_copyFrom 66 = .ok (.getfield 24, 3) := by decide +kernel
theorem dX0_copyFrom_69 : decode cX0_copyFrom 69 = .ok (.iconst 0, 1) := by decide +kernel
theorem dX0_copyFrom_70 : decode cX0_copyFrom 70 = .ok (.bipush 7, 2) := by decide +kernel
theorem dX0_copyFrom_72 : decode cX0_copyFrom 72 = .ok (.invokestatic 51, 3) := by decide +kernel
theorem dX0_copyFrom_75 : decode cX0_copyFrom 75 = .ok (.aload_n 1, 1) := by decide +kernel
theorem dX0_copyFrom_76 : decode cX0_copyFrom 76 = .ok (.getfield 27, 3) := by decide +kernel
theorem dX0_copyFrom_79 : decode cX0_copyFrom 79 = .ok (.iconst 0, 1) := by decide +kernel
theorem dX0_copyFrom_80 : decode cX0_copyFrom 80 = .ok (.aload_n 0, 1) := by decide +kernel
theorem dX0_copyFrom_81 : decode cX0_copyFrom 81 = .ok (.getfield 27, 3) := by decide +kernel
theorem dX0_copyFrom_84 : decode cX0_copyFrom 84 = .ok (.iconst 0, 1) := by decide +kernel
theorem dX0_copyFrom_85 : decode cX0_copyFrom 85 = .ok (.bipush 7, 2) := by decide +kernel
theorem dX0_copyFrom_87 : decode cX0_copyFrom 87 = .ok (.invokestatic 51, 3) := by decide +kernel
theorem dX0_copyFrom_90 : decode cX0_copyFrom 90 = .ok (.aload_n 1, 1) := by decide +kernel
theorem dX0_copyFrom_91 : decode cX0_copyFrom 91 = .ok (.getfield 30, 3) := by decide +kernel
theorem dX0_copyFrom_94 : decode cX0_copyFrom 94 = .ok (.iconst 0, 1) := by decide +kernel
theorem dX0_copyFrom_95 : decode cX0_copyFrom 95 = .ok (.aload_n 0, 1) := by decide +kernel
theorem dX0_copyFrom_96 : decode cX0_copyFrom 96 = .ok (.getfield 30, 3) := by decide +kernel
theorem dX0_copyFrom_99 : decode cX0_copyFrom 99 = .ok (.iconst 0, 1) := by decide +kernel
theorem dX0_copyFrom_100 : decode cX0_copyFrom 100 = .ok (.bipush 7, 2) := by decide +kernel
theorem dX0_copyFrom_102 : decode cX0_copyFrom 102 = .ok (.invokestatic 51, 3) := by decide +kernel
theorem dX0_copyFrom_105 : decode cX0_copyFrom 105 = .ok (.aload_n 1, 1) := by decide +kernel
theorem dX0_copyFrom_106 : decode cX0_copyFrom 106 = .ok (.getfield 33, 3) := by decide +kernel
theorem dX0_copyFrom_109 : decode cX0_copyFrom 109 = .ok (.iconst 0, 1) := by decide +kernel
theorem dX0_copyFrom_110 : decode cX0_copyFrom 110 = .ok (.aload_n 0, 1) := by decide +kernel
theorem dX0_copyFrom_111 : decode cX0_copyFrom 111 = .ok (.getfield 33, 3) := by decide +kernel
theorem dX0_copyFrom_114 : decode cX0_copyFrom 114 = .ok (.iconst 0, 1) := by decide +kernel
theorem dX0_copyFrom_115 : decode cX0_copyFrom 115 = .ok (.bipush 7, 2) := by decide +kernel
theorem dX0_copyFrom_117 : decode cX0_copyFrom 117 = .ok (.invokestatic 51, 3) := by decide +kernel
theorem dX0_copyFrom_120 : decode cX0_copyFrom 120 = .ok (.aload_n 1, 1) := by decide +kernel
theorem dX0_copyFrom_121 : decode cX0_copyFrom 121 = .ok (.getfield 36, 3) := by decide +kernel
theorem dX0_copyFrom_124 : decode cX0_copyFrom 124 = .ok (.iconst 0, 1) := by decide +kernel
theorem dX0_copyFrom_125 : decode cX0_copyFrom 125 = .ok (.aload_n 0, 1) := by decide +kernel
theorem dX0_copyFrom_126 : decode cX0_copyFrom 126 = .ok (.getfield 36, 3) := by decide +kernel
theorem dX0_copyFrom_129 : decode cX0_copyFrom 129 = .ok (.iconst 0, 1) := by decide +kernel
theorem dX0_copyFrom_130 : decode cX0_copyFrom 130 = .ok (.bipush 7, 2) := by decide +kernel
theorem dX0_copyFrom_132 : decode cX0_copyFrom 132 = .ok (.invokestatic 51, 3) := by decide +kernel
theorem dX0_copyFrom_135 : decode cX0_copyFrom 135 = .ok (.aload_n 1, 1) := by decide +kernel
theorem dX0_copyFrom_136 : decode cX0_copyFrom 136 = .ok (.getfield 39, 3) := by decide +kernel
theorem dX0_copyFrom_139 : decode cX0_copyFrom 139 = .ok (.iconst 0, 1) := by decide +kernel
theorem dX0_copyFrom_140 : decode cX0_copyFrom 140 = .ok (.aload_n 0, 1) := by decide +kernel
theorem dX0_copyFrom_141 : decode cX0_copyFrom 141 = .ok (.getfield 39, 3) := by decide +kernel
theorem dX0_copyFrom_144 : decode cX0_copyFrom 144 = .ok (.iconst 0, 1) := by decide +kernel
theorem dX0_copyFrom_145 : decode cX0_copyFrom 145 = .ok (.iconst 3, 1) := by decide +kernel
theorem dX0_copyFrom_146 : decode cX0_copyFrom 146 = .ok (.invokestatic 51, 3) := by decide +kernel
theorem dX0_copyFrom_149 : decode cX0_copyFrom 149 = .ok (.return_, 1) := by decide +kernel
theorem dX0_change_0 : decode cX0_change 0 = .ok (.aload_n 0, 1) := by decide +kernel
theorem dX0_change_1 : decode cX0_change 1 = .ok (.getfield 9, 3) := by decide +kernel
theorem dX0_change_4 : decode cX0_change 4 = .ok (.iload_n 1, 1) := by decide +kernel
theorem dX0_change_5 : decode cX0_change 5 = .ok (.iaload, 1) := by decide +kernel
theorem dX0_change_6 : decode cX0_change 6 = .ok (.istore_n 3, 1) := by decide +kernel
theorem dX0_change_7 : decode cX0_change 7 = .ok (.aload_n 0, 1) := by decide +kernel
theorem dX0_change_8 : decode cX0_change 8 = .ok (.getfield 9, 3) := by decide +kernel
theorem dX0_change_11 : decode cX0_change 11 = .ok (.iload_n 1, 1) := by decide +kernel
theorem dX0_change_12 : decode cX0_change 12 = .ok (.iload_n 2, 1) := by decide +kernel
theorem dX0_change_13 : decode cX0_change 13 = .ok (.iastore, 1) := by decide +kernel
theorem dX0_change_14 : decode cX0_change 14 = .ok (.iload_n 3, 1) := by decide +kernel
theorem dX0_change_15 : decode cX0_change 15 = .ok (.ireturn, 1) := by decide +kernel
theorem dX0_bendPin_0 : decode cX0_bendPin 0 = .ok (.aload_n 0, 1) := by decide +kernel
theorem dX0_bendPin_1 : decode cX0_bendPin 1 = .ok (.getfield 15, 3) := by decide +kernel
theorem dX0_bendPin_4 : decode cX0_bendPin 4 = .ok (.iload_n 1, 1) := by decide +kernel
theorem dX0_bendPin_5 : decode cX0_bendPin 5 = .ok (.iaload, 1) := by decide +kernel
theorem dX0_bendPin_6 : decode cX0_bendPin 6 = .ok (.istore_n 3, 1) := by decide +kernel
theorem dX0_bendPin_7 : decode cX0_bendPin 7 = .ok (.aload_n 0, 1) := by decide +kernel
theorem dX0_bendPin_8 : decode cX0_bendPin 8 = .ok (.getfield 15, 3) := by decide +kernel
theorem dX0_bendPin_11 : decode cX0_bendPin 11 = .ok (.iload_n 1, 1) := by decide +kernel
theorem dX0_bendPin_12 : decode cX0_bendPin 12 = .ok (.iload_n 2, 1) := by decide +kernel
theorem dX0_bendPin_13 : decode cX0_bendPin 13 = .ok (.iastore, 1) := by decide +kernel
theorem dX0_bendPin_14 : decode cX0_bendPin 14 = .ok (.iload_n 3, 1) := by decide +kernel
theorem dX0_bendPin_15 : decode cX0_bendPin 15 = .ok (.ifCond .ne 15, 3) := by decide +kernel
theorem dX0_bendPin_18 : decode cX0_bendPin 18 = .ok (.iload_n 2, 1) := by decide +kernel
theorem dX0_bendPin_19 : decode cX0_bendPin 19 = .ok (.ifCond .eq 11, 3) := by decide +kernel
theorem dX0_bendPin_22 : decode cX0_bendPin 22 = .ok (.aload_n 0, 1) := by decide +kernel
theorem dX0_bendPin_23 : decode cX0_bendPin 23 = .ok (.iload_n 1, 1) := by decide +kernel
theorem dX0_bendPin_24 : decode cX0_bendPin 24 = .ok (.invokevirtual 60, 3) := by decide +kernel
theorem dX0_bendPin_27 : decode cX0_bendPin 27 = .ok (.goto 16, 3) := by decide +kernel
theorem dX0_bendPin_30 : decode cX0_bendPin 30 = .ok (.iload_n 3, 1) := by decide +kernel
theorem dX0_bendPin_31 : decode cX0_bendPin 31 = .ok (.ifCond .eq 12, 3) := by decide +kernel
theorem dX0_bendPin_34 : decode cX0_bendPin 34 = .ok (.iload_n 2, 1) := by decide +kernel
theorem dX0_bendPin_35 : decode cX0_bendPin 35 = .ok (.ifCond .ne 8, 3) := by decide +kernel
theorem dX0_bendPin_38 : decode cX0_bendPin 38 = .ok (.aload_n 0, 1) := by decide +kernel
theorem dX0_bendPin_39 : decode cX0_bendPin 39 = .ok (.iload_n 1, 1) := by decide +kernel
theorem dX0_bendPin_40 : decode cX0_bendPin 40 = .ok (.invokevirtual 64, 3) := by decide +kernel
theorem dX0_bendPin_43 : decode cX0_bendPin 43 = .ok (.iload_n 3, 1) := by decide +kernel
theorem dX0_bendPin_44 : decode cX0_bendPin 44 = .ok (.ireturn, 1) := by decide +kernel
theorem dX0_addBentPin_0 : decode cX0_addBentPin 0 = .ok (.aload_n 0, 1) := by decide +kernel
theorem dX0_addBentPin_1 : decode cX0_addBentPin 1 = .ok (.getfield 9, 3) := by decide +kernel
theorem dX0_addBentPin_4 : decode cX0_addBentPin 4 = .ok (.bipush 16, 2) := by decide +kernel
theorem dX0_addBentPin_6 : decode cX0_addBentPin 6 = .ok (.iaload, 1) := by decide +kernel
theorem dX0_addBentPin_7 : decode cX0_addBentPin 7 = .ok (.istore_n 2, 1) := by decide +kernel
theorem dX0_addBentPin_8 : decode cX0_addBentPin 8 = .ok (.iload_n 2, 1) := by decide +kernel
theorem dX0_addBentPin_9 : decode cX0_addBentPin 9 = .ok (.bipush 56, 2) := by decide +kernel
theorem dX0_addBentPin_11 : decode cX0_addBentPin 11 = .ok (.if_icmp .ge 20, 3) := by decide +kernel
theorem dX0_addBentPin_14 : decode cX0_addBentPin 14 = .ok (.aload_n 0, 1) := by decide +kernel
theorem dX0_addBentPin_15 : decode cX0_addBentPin 15 = .ok (.getfield 18, 3) := by decide +kernel
theorem dX0_addBentPin_18 : decode cX0_addBentPin 18 = .ok (.iload_n 2, 1) := by decide +kernel
theorem dX0_addBentPin_19 : decode cX0_addBentPin 19 = .ok (.iload_n 1, 1) := by decide +kernel
theorem dX0_addBentPin_20 : decode cX0_addBentPin 20 = .ok (.iastore, 1) := by decide +kernel
theorem dX0_addBentPin_21 : decode cX0_addBentPin 21 = .ok (.aload_n 0, 1) := by decide +kernel
theorem dX0_addBentPin_22 : decode cX0_addBentPin 22 = .ok (.getfield 9, 3) := by decide +kernel
theorem dX0_addBentPin_25 : decode cX0_addBentPin 25 = .ok (.bipush 16, 2) := by decide +kernel
theorem dX0_addBentPin_27 : decode cX0_addBentPin 27 = .ok (.iload_n 2, 1) := by decide +kernel
theorem dX0_addBentPin_28 : decode cX0_addBentPin 28 = .ok (.iconst 1, 1) := by decide +kernel
theorem dX0_addBentPin_29 : decode cX0_addBentPin 29 = .ok (.iadd, 1) := by decide +kernel
theorem dX0_addBentPin_30 : decode cX0_addBentPin 30 = .ok (.iastore, 1) := by decide +kernel
theorem dX0_addBentPin_31 : decode cX0_addBentPin 31 = .ok (.return_, 1) := by decide +kernel
theorem dX0_removeBentPin_0 : decode cX0_removeBentPin 0 = .ok (.iconst 0, 1) := by decide +kernel
theorem dX0_removeBentPin_1 : decode cX0_removeBentPin 1 = .ok (.istore_n 2, 1) := by decide +kernel
theorem dX0_removeBentPin_2 : decode cX0_removeBentPin 2 = .ok (.iconst 0, 1) := by decide +kernel
theorem dX0_removeBentPin_3 : decode cX0_removeBentPin 3 = .ok (.istore_n 3, 1) := by decide +kernel
theorem dX0_removeBentPin_4 : decode cX0_removeBentPin 4 = .ok (.iload_n 3, 1) := by decide +kernel
theorem dX0_removeBentPin_5 : decode cX0_removeBentPin 5 = .ok (.aload_n 0, 1) := by decide +kernel
theorem dX0_removeBentPin_6 : decode cX0_removeBentPin 6 = .ok (.getfield 9, 3) := by decide +kernel
theorem dX0_removeBentPin_9 : decode cX0_removeBentPin 9 = .ok (.bipush 16, 2) := by decide +kernel
theorem dX0_removeBentPin_11 : decode cX0_removeBentPin 11 = .ok (.iaload, 1) := by decide +kernel
theorem dX0_removeBentPin_12 : decode cX0_removeBentPin 12 = .ok (.if_icmp .ge 34, 3) := by decide +kernel
theorem dX0_removeBentPin_15 : decode cX0_removeBentPin 15 = .ok (.aload_n 0, 1) := by decide +kernel
theorem dX0_removeBentPin_16 : decode cX0_removeBentPin 16 = .ok (.getfield 18, 3) := by decide +kernel
theorem dX0_removeBentPin_19 : decode cX0_removeBentPin 19 = .ok (.iload_n 3, 1) := by decide +kernel
theorem dX0_removeBentPin_20 : decode cX0_removeBentPin 20 = .ok (.iaload, 1) := by decide +kernel
theorem dX0_removeBentPin_21 : decode cX0_removeBentPin 21 = .ok (.iload_n 1, 1) := by decide +kernel
theorem dX0_removeBentPin_22 : decode cX0_removeBentPin 22 = .ok (.if_icmp .eq 18, 3) := by decide +kernel
theorem dX0_removeBentPin_25 : decode cX0_removeBentPin 25 = .ok (.aload_n 0, 1) := by decide +kernel
theorem dX0_removeBentPin_26 : decode cX0_removeBentPin 26 = .ok (.getfield 18, 3) := by decide +kernel
theorem dX0_removeBentPin_29 : decode cX0_removeBentPin 29 = .ok (.iload_n 2, 1) := by decide +kernel
theorem dX0_removeBentPin_30 : decode cX0_removeBentPin 30 = .ok (.aload_n 0, 1) := by decide +kernel
theorem dX0_removeBentPin_31 : decode cX0_removeBentPin 31 = .ok (.getfield 18, 3) := by decide +kernel
theorem dX0_removeBentPin_34 : decode cX0_removeBentPin 34 = .ok (.iload_n 3, 1) := by decide +kernel
theorem dX0_removeBentPin_35 : decode cX0_removeBentPin 35 = .ok (.iaload, 1) := by decide +kernel
theorem dX0_removeBentPin_36 : decode cX0_removeBentPin 36 = .ok (.iastore, 1) := by decide +kernel
theorem dX0_removeBentPin_37 : decode cX0_removeBentPin 37 = .ok (.iinc 2 1, 3) := by decide +kernel
theorem dX0_removeBentPin_40 : decode cX0_removeBentPin 40 = .ok (.iinc 3 1, 3) := by decide +kernel
theorem dX0_removeBentPin_43 : decode cX0_removeBentPin 43 = .ok (.goto (-39), 3) := by decide +kernel
theorem dX0_removeBentPin_46 : decode cX0_removeBentPin 46 = .ok (.aload_n 0, 1) := by decide +kernel
theorem dX0_removeBentPin_47 : decode cX0_removeBentPin 47 = .ok (.getfield 9, 3) := by decide +kernel
theorem dX0_removeBentPin_50 : decode cX0_removeBentPin 50 = .ok (.bipush 16, 2) := by decide +kernel
theorem dX0_removeBentPin_52 : decode cX0_removeBentPin 52 = .ok (.iload_n 2, 1) := by decide +kernel
theorem dX0_removeBentPin_53 : decode cX0_removeBentPin 53 = .ok (.iastore, 1) := by decide +kernel
theorem dX0_removeBentPin_54 : decode cX0_removeBentPin 54 = .ok (.return_, 1) := by decide +kernel
theorem dX0_changePocket_0 : decode cX0_changePocket 0 = .ok (.aload_n 0, 1) := by decide +kernel
theorem dX0_changePocket_1 : decode cX0_changePocket 1 = .ok (.getfield 27, 3) := by decide +kernel
theorem dX0_changePocket_4 : decode cX0_changePocket 4 = .ok (.iload_n 1, 1) := by decide +kernel
theorem dX0_changePocket_5 : decode cX0_changePocket 5 = .ok (.iaload, 1) := by decide +kernel
theorem dX0_changePocket_6 : decode cX0_changePocket 6 = .ok (.istore 4, 2) := by decide +kernel
theorem dX0_changePocket_8 : decode cX0_changePocket 8 = .ok (.aload_n 0, 1) := by decide +kernel
theorem dX0_changePocket_9 : decode cX0_changePocket 9 = .ok (.getfield 24, 3) := by decide +kernel
theorem dX0_changePocket_12 : decode cX0_changePocket 12 = .ok (.iload_n 1, 1) := by decide +kernel
theorem dX0_changePocket_13 : decode cX0_changePocket 13 = .ok (.iaload, 1) := by decide +kernel
theorem dX0_changePocket_14 : decode cX0_changePocket 14 = .ok (.iconst 2, 1) := by decide +kernel
theorem dX0_changePocket_15 : decode cX0_changePocket 15 = .ok (.if_icmp .eq 10, 3) := by decide +kernel
theorem dX0_changePocket_18 : decode cX0_changePocket 18 = .ok (.aload_n 0, 1) := by decide +kernel
theorem dX0_changePocket_19 : decode cX0_changePocket 19 = .ok (.getfield 30, 3) := by decide +kernel
theorem dX0_changePocket_22 : decode cX0_changePocket 22 = .ok (.iload_n 1, 1) := by decide +kernel
theorem dX0_changePocket_23 : decode cX0_changePocket 23 = .ok (.iconst 0, 1) := by decide +kernel
theorem dX0_changePocket_24 : decode cX0_changePocket 24 = .ok (.iastore, 1) := by decide +kernel
theorem dX0_changePocket_25 : decode cX0_changePocket 25 = .ok (.aload_n 0, 1) := by decide +kernel
theorem dX0_changePocket_26 : decode cX0_changePocket 26 = .ok (.getfield 24, 3) := by decide +kernel
theorem dX0_changePocket_29 : decode cX0_changePocket 29 = .ok (.iload_n 1, 1) := by decide +kernel
theorem dX0_changePocket_30 : decode cX0_changePocket 30 = .ok (.iload_n 2, 1) := by decide +kernel
theorem dX0_changePocket_31 : decode cX0_changePocket 31 = .ok (.iastore, 1) := by decide +kernel
theorem dX0_changePocket_32 : decode cX0_changePocket 32 = .ok (.aload_n 0, 1) := by decide +kernel
theorem dX0_changePocket_33 : decode cX0_changePocket 33 = .ok (.getfield 27, 3) := by decide +kernel
theorem dX0_changePocket_36 : decode cX0_changePocket 36 = .ok (.iload_n 1, 1) := by decide +kernel
theorem dX0_changePocket_37 : decode cX0_changePocket 37 = .ok (.iload_n 3, 1) := by decide +kernel
theorem dX0_changePocket_38 : decode cX0_changePocket 38 = .ok (.iastore, 1) := by decide +kernel
theorem dX0_changePocket_39 : decode cX0_changePocket 39 = .ok (.iload 4, 2) := by decide +kernel
theorem dX0_changePocket_41 : decode cX0_changePocket 41 = .ok (.ireturn, 1) := by decide +kernel
theorem dX0_tellPocket_0 : decode cX0_tellPocket 0 = .ok (.iload_n 2, 1) := by decide +kernel
theorem dX0_tellPocket_1 : decode cX0_tellPocket 1 = .ok (.tableswitch 66 0 3 #[31, 38, 45, 59], 31) := by decide +kernel
theorem dX0_tellPocket_32 : decode cX0_tellPocket 32 = .ok (.aload_n 0, 1) := by decide +kernel
theorem dX0_tellPocket_33 : decode cX0_tellPocket 33 = .ok (.getfield 24, 3) := by decide +kernel
theorem dX0_tellPocket_36 : decode cX0_tellPocket 36 = .ok (.iload_n 1, 1) := by decide +kernel
theorem dX0_tellPocket_37 : decode cX0_tellPocket 37 = .ok (.iaload, 1) := by decide +kernel
theorem dX0_tellPocket_38 : decode cX0_tellPocket 38 = .ok (.ireturn, 1) := by decide +kernel
theorem dX0_tellPocket_39 : decode cX0_tellPocket 39 = .ok (.aload_n 0, 1) := by decide +kernel
theorem dX0_tellPocket_40 : decode cX0_tellPocket 40 = .ok (.getfield 27, 3) := by decide +kernel
theorem dX0_tellPocket_43 : decode cX0_tellPocket 43 = .ok (.iload_n 1, 1) := by decide +kernel
theorem dX0_tellPocket_44 : decode cX0_tellPocket 44 = .ok (.iaload, 1) := by decide +kernel
theorem dX0_tellPocket_45 : decode cX0_tellPocket 45 = .ok (.ireturn, 1) := by decide +kernel
theorem dX0_tellPocket_46 : decode cX0_tellPocket 46 = .ok (.aload_n 0, 1) := by decide +kernel
theorem dX0_tellPocket_47 : decode cX0_tellPocket 47 = .ok (.iload_n 1, 1) := by decide +kernel
theorem dX0_tellPocket_48 : decode cX0_tellPocket 48 = .ok (.invokevirtual 67, 3) := by decide +kernel
theorem dX0_tellPocket_51 : decode cX0_tellPocket 51 = .ok (.ifCond .eq 7, 3) := by decide +kernel
theorem dX0_tellPocket_54 : decode cX0_tellPocket 54 = .ok (.iconst 1, 1) := by decide +kernel
theorem dX0_tellPocket_55 : decode cX0_tellPocket 55 = .ok (.goto 4, 3) := by decide +kernel
theorem dX0_tellPocket_58 : decode cX0_tellPocket 58 = .ok (.iconst 0, 1) := by decide +kernel
theorem dX0_tellPocket_59 : decode cX0_tellPocket 59 = .ok (.ireturn, 1) := by decide +kernel
theorem dX0_tellPocket_60 : decode cX0_tellPocket 60 = .ok (.aload_n 0, 1) := by decide +kernel
theorem dX0_tellPocket_61 : decode cX0_tellPocket 61 = .ok (.getfield 33, 3) := by decide +kernel
theorem dX0_tellPocket_64 : decode cX0_tellPocket 64 = .ok (.iload_n 1, 1) := by decide +kernel
theorem dX0_tellPocket_65 : decode cX0_tellPocket 65 = .ok (.iaload, 1) := by decide +kernel
theorem dX0_tellPocket_66 : decode cX0_tellPocket 66 = .ok (.ireturn, 1) := by decide +kernel
theorem dX0_tellPocket_67 : decode cX0_tellPocket 67 = .ok (.aload_n 0, 1) := by decide +kernel
theorem dX0_tellPocket_68 : decode cX0_tellPocket 68 = .ok (.getfield 36, 3) := by decide +kernel
theorem dX0_tellPocket_71 : decode cX0_tellPocket 71 = .ok (.iload_n 1, 1) := by decide +kernel
theorem dX0_tellPocket_72 : decode cX0_tellPocket 72 = .ok (.iaload, 1) := by decide +kernel
theorem dX0_tellPocket_73 : decode cX0_tellPocket 73 = .ok (.ireturn, 1) := by decide +kernel
theorem dX0_isHeldOpen_0 : decode cX0_isHeldOpen 0 = .ok (.aload_n 0, 1) := by decide +kernel
theorem dX0_isHeldOpen_1 : decode cX0_isHeldOpen 1 = .ok (.getfield 9, 3) := by decide +kernel
theorem dX0_isHeldOpen_4 : decode cX0_isHeldOpen 4 = .ok (.bipush 9, 2) := by decide +kernel
theorem dX0_isHeldOpen_6 : decode cX0_isHeldOpen 6 = .ok (.iaload, 1) := by decide +kernel
theorem dX0_isHeldOpen_7 : decode cX0_isHeldOpen 7 = .ok (.ifCond .le 7, 3) := by decide +kernel
theorem dX0_isHeldOpen_10 : decode cX0_isHeldOpen 10 = .ok (.iconst 1, 1) := by decide +kernel
theorem dX0_isHeldOpen_11 : decode cX0_isHeldOpen 11 = .ok (.goto 4, 3) := by decide +kernel
theorem dX0_isHeldOpen_14 : decode cX0_isHeldOpen 14 = .ok (.iconst 0, 1) := by decide +kernel
theorem dX0_isHeldOpen_15 : decode cX0_isHeldOpen 15 = .ok (.ireturn, 1) := by decide +kernel
theorem dX0_isOpen_0 : decode cX0_isOpen 0 = .ok (.aload_n 0, 1) := by decide +kernel
theorem dX0_isOpen_1 : decode cX0_isOpen 1 = .ok (.getfield 24, 3) := by decide +kernel
theorem dX0_isOpen_4 : decode cX0_isOpen 4 = .ok (.iload_n 1, 1) := by decide +kernel
theorem dX0_isOpen_5 : decode cX0_isOpen 5 = .ok (.iaload, 1) := by decide +kernel
theorem dX0_isOpen_6 : decode cX0_isOpen 6 = .ok (.lookupswitch 47 #[(1, 26), (2, 31)], 26) := by decide +kernel
theorem dX0_isOpen_32 : decode cX0_isOpen 32 = .ok (.aload_n 0, 1) := by decide +kernel
theorem dX0_isOpen_33 : decode cX0_isOpen 33 = .ok (.invokevirtual 71, 3) := by decide +kernel
theorem dX0_isOpen_36 : decode cX0_isOpen 36 = .ok (.ireturn, 1) := by decide +kernel
theorem dX0_isOpen_37 : decode cX0_isOpen 37 = .ok (.aload_n 0, 1) := by decide +kernel
theorem dX0_isOpen_38 : decode cX0_isOpen 38 = .ok (.getfield 30, 3) := by decide +kernel
theorem dX0_isOpen_41 : decode cX0_isOpen 41 = .ok (.iload_n 1, 1) := by decide +kernel
theorem dX0_isOpen_42 : decode cX0_isOpen 42 = .ok (.iaload, 1) := by decide +kernel
theorem dX0_isOpen_43 : decode cX0_isOpen 43 = .ok (.iconst 1, 1) := by decide +kernel
theorem dX0_isOpen_44 : decode cX0_isOpen 44 = .ok (.if_icmp .ne 7, 3) := by decide +kernel
theorem dX0_isOpen_47 : decode cX0_isOpen 47 = .ok (.iconst 1, 1) := by decide +kernel
theorem dX0_isOpen_48 : decode cX0_isOpen 48 = .ok (.goto 4, 3) := by decide +kernel
theorem dX0_isOpen_51 : decode cX0_isOpen 51 = .ok (.iconst 0, 1) := by decide +kernel
theorem dX0_isOpen_52 : decode cX0_isOpen 52 = .ok (.ireturn, 1) := by decide +kernel
theorem dX0_isOpen_53 : decode cX0_isOpen 53 = .ok (.iconst 1, 1) := by decide +kernel
theorem dX0_isOpen_54 : decode cX0_isOpen 54 = .ok (.ireturn, 1) := by decide +kernel
theorem dX0_buyBalls_0 : decode cX0_buyBalls 0 = .ok (.aload_n 0, 1) := by decide +kernel
theorem dX0_buyBalls_1 : decode cX0_buyBalls 1 = .ok (.getfield 9, 3) := by decide +kernel
theorem dX0_buyBalls_4 : decode cX0_buyBalls 4 = .ok (.iconst 0, 1) := by decide +kernel
theorem dX0_buyBalls_5 : decode cX0_buyBalls 5 = .ok (.dup2, 1) := by decide +kernel
theorem dX0_buyBalls_6 : decode cX0_buyBalls 6 = .ok (.iaload, 1) := by decide +kernel
theorem dX0_buyBalls_7 : decode cX0_buyBalls 7 = .ok (.iload_n 1, 1) := by decide +kernel
theorem dX0_buyBalls_8 : decode cX0_buyBalls 8 = .ok (.iadd, 1) := by decide +kernel
theorem dX0_buyBalls_9 : decode cX0_buyBalls 9 = .ok (.iastore, 1) := by decide +kernel
theorem dX0_buyBalls_10 : decode cX0_buyBalls 10 = .ok (.aload_n 0, 1) := by decide +kernel
theorem dX0_buyBalls_11 : decode cX0_buyBalls 11 = .ok (.getfield 9, 3) := by decide +kernel
theorem dX0_buyBalls_14 : decode cX0_buyBalls 14 = .ok (.iconst 1, 1) := by decide +kernel
theorem dX0_buyBalls_15 : decode cX0_buyBalls 15 = .ok (.dup2, 1) := by decide +kernel
theorem dX0_buyBalls_16 : decode cX0_buyBalls 16 = .ok (.iaload, 1) := by decide +kernel
theorem dX0_buyBalls_17 : decode cX0_buyBalls 17 = .ok (.iload_n 1, 1) := by decide +kernel
theorem dX0_buyBalls_18 : decode cX0_buyBalls 18 = .ok (.iadd, 1) := by decide +kernel
theorem dX0_buyBalls_19 : decode cX0_buyBalls 19 = .ok (.iastore, 1) := by decide +kernel
theorem dX0_buyBalls_20 : decode cX0_buyBalls 20 = .ok (.return_, 1) := by decide +kernel
theorem dX0_launchBalls_0 : decode cX0_launchBalls 0 = .ok (.iconst 0, 1) := by decide +kernel
theorem dX0_launchBalls_1 : decode cX0_launchBalls 1 = .ok (.istore_n 3, 1) := by decide +kernel
theorem dX0_launchBalls_2 : decode cX0_launchBalls 2 = .ok (.iconst 0, 1) := by decide +kernel
theorem dX0_launchBalls_3 : decode cX0_launchBalls 3 = .ok (.istore 4, 2) := by decide +kernel
theorem dX0_launchBalls_5 : decode cX0_launchBalls 5 = .ok (.iload 4, 2) := by decide +kernel
theorem dX0_launchBalls_7 : decode cX0_launchBalls 7 = .ok (.iload_n 2, 1) := by decide +kernel
theorem dX0_launchBalls_8 : decode cX0_launchBalls 8 = .ok (.if_icmp .ge 26, 3) := by decide +kernel
theorem dX0_launchBalls_11 : decode cX0_launchBalls 11 = .ok (.aload_n 0, 1) := by decide +kernel
theorem dX0_launchBalls_12 : decode cX0_launchBalls 12 = .ok (.getfield 9, 3) := by decide +kernel
theorem dX0_launchBalls_15 : decode cX0_launchBalls 15 = .ok (.iconst 0, 1) := by decide +kernel
theorem dX0_launchBalls_16 : decode cX0_launchBalls 16 = .ok (.iaload, 1) := by decide +kernel
theorem dX0_launchBalls_17 : decode cX0_launchBalls 17 = .ok (.ifCond .le 17, 3) := by decide +kernel
theorem dX0_launchBalls_20 : decode cX0_launchBalls 20 = .ok (.iload_n 3, 1) := by decide +kernel
theorem dX0_launchBalls_21 : decode cX0_launchBalls 21 = .ok (.aload_n 0, 1) := by decide +kernel
theorem dX0_launchBalls_22 : decode cX0_launchBalls 22 = .ok (.iload_n 1, 1) := by decide +kernel
theorem dX0_launchBalls_23 : decode cX0_launchBalls 23 = .ok (.invokevirtual 75, 3) := by decide +kernel
theorem dX0_launchBalls_26 : decode cX0_launchBalls 26 = .ok (.iadd, 1) := by decide +kernel
theorem dX0_launchBalls_27 : decode cX0_launchBalls 27 = .ok (.istore_n 3, 1) := by decide +kernel
theorem dX0_launchBalls_28 : decode cX0_launchBalls 28 = .ok (.iinc 4 1, 3) := by decide +kernel
theorem dX0_launchBalls_31 : decode cX0_launchBalls 31 = .ok (.goto (-26), 3) := by decide +kernel
theorem dX0_launchBalls_34 : decode cX0_launchBalls 34 = .ok (.iload_n 3, 1) := by decide +kernel
theorem dX0_launchBalls_35 : decode cX0_launchBalls 35 = .ok (.ireturn, 1) := by decide +kernel
theorem dX0_launchBall_0 : decode cX0_launchBall 0 = .ok (.aload_n 0, 1) := by decide +kernel
theorem dX0_launchBall_1 : decode cX0_launchBall 1 = .ok (.getfield 9, 3) := by decide +kernel
theorem dX0_launchBall_4 : decode cX0_launchBall 4 = .ok (.iconst 0, 1) := by decide +kernel
theorem dX0_launchBall_5 : decode cX0_launchBall 5 = .ok (.dup2, 1) := by decide +kernel
theorem dX0_launchBall_6 : decode cX0_launchBall 6 = .ok (.iaload, 1) := by decide +kernel
theorem dX0_launchBall_7 : decode cX0_launchBall 7 = .ok (.iconst 1, 1) := by decide +kernel
theorem dX0_launchBall_8 : decode cX0_launchBall 8 = .ok (.isub, 1) := by decide +kernel
theorem dX0_launchBall_9 : decode cX0_launchBall 9 = .ok (.iastore, 1) := by decide +kernel
theorem dX0_launchBall_10 : decode cX0_launchBall 10 = .ok (.aload_n 0, 1) := by decide +kernel
theorem dX0_launchBall_11 : decode cX0_launchBall 11 = .ok (.getfield 9, 3) := by decide +kernel
theorem dX0_launchBall_14 : decode cX0_launchBall 14 = .ok (.iconst 2, 1) := by decide +kernel
theorem dX0_launchBall_15 : decode cX0_launchBall 15 = .ok (.dup2, 1) := by decide +kernel
theorem dX0_launchBall_16 : decode cX0_launchBall 16 = .ok (.iaload, 1) := by decide +kernel
theorem dX0_launchBall_17 : decode cX0_launchBall 17 = .ok (.iconst 1, 1) := by decide +kernel
theorem dX0_launchBall_18 : decode cX0_launchBall 18 = .ok (.iadd, 1) := by decide +kernel
theorem dX0_launchBall_19 : decode cX0_launchBall 19 = .ok (.iastore, 1) := by decide +kernel
theorem dX0_launchBall_20 : decode cX0_launchBall 20 = .ok (.aload_n 0, 1) := by decide +kernel
theorem dX0_launchBall_21 : decode cX0_launchBall 21 = .ok (.getfield 9, 3) := by decide +kernel
theorem dX0_launchBall_24 : decode cX0_launchBall 24 = .ok (.bipush 6, 2) := by decide +kernel
theorem dX0_launchBall_26 : decode cX0_launchBall 26 = .ok (.iaload, 1) := by decide +kernel
theorem dX0_launchBall_27 : decode cX0_launchBall 27 = .ok (.ifCond .le 25, 3) := by decide +kernel
theorem dX0_launchBall_30 : decode cX0_launchBall 30 = .ok (.aload_n 0, 1) := by decide +kernel
theorem dX0_launchBall_31 : decode cX0_launchBall 31 = .ok (.invokevirtual 71, 3) := by decide +kernel
theorem dX0_launchBall_34 : decode cX0_launchBall 34 = .ok (.ifCond .ne 18, 3) := by decide +kernel
theorem dX0_launchBall_37 : decode cX0_launchBall 37 = .ok (.aload_n 0, 1) := by decide +kernel
theorem dX0_launchBall_38 : decode cX0_launchBall 38 = .ok (.getfield 9, 3) := by decide +kernel
theorem dX0_launchBall_41 : decode cX0_launchBall 41 = .ok (.bipush 6, 2) := by decide +kernel
theorem dX0_launchBall_43 : decode cX0_launchBall 43 = .ok (.dup2, 1) := by decide +kernel
theorem dX0_launchBall_44 : decode cX0_launchBall 44 = .ok (.iaload, 1) := by decide +kernel
theorem dX0_launchBall_45 : decode cX0_launchBall 45 = .ok (.iconst 1, 1) := by decide +kernel
theorem dX0_launchBall_46 : decode cX0_launchBall 46 = .ok (.isub, 1) := by decide +kernel
theorem dX0_launchBall_47 : decode cX0_launchBall 47 = .ok (.iastore, 1) := by decide +kernel
theorem dX0_launchBall_48 : decode cX0_launchBall 48 = .ok (.aload_n 0, 1) := by decide +kernel
theorem dX0_launchBall_49 : decode cX0_launchBall 49 = .ok (.invokevirtual 79, 3) := by decide +kernel
theorem dX0_launchBall_52 : decode cX0_launchBall 52 = .ok (.aload_n 0, 1) := by decide +kernel
theorem dX0_launchBall_53 : decode cX0_launchBall 53 = .ok (.iload_n 1, 1) := by decide +kernel
theorem dX0_launchBall_54 : decode cX0_launchBall 54 = .ok (.invokevirtual 82, 3) := by decide +kernel
theorem dX0_launchBall_57 : decode cX0_launchBall 57 = .ok (.istore_n 2, 1) := by decide +kernel
theorem dX0_launchBall_58 : decode cX0_launchBall 58 = .ok (.aload_n 0, 1) := by decide +kernel
theorem dX0_launchBall_59 : decode cX0_launchBall 59 = .ok (.getfield 9, 3) := by decide +kernel
theorem dX0_launchBall_62 : decode cX0_launchBall 62 = .ok (.bipush 11, 2) := by decide +kernel
theorem dX0_launchBall_64 : decode cX0_launchBall 64 = .ok (.iload_n 2, 1) := by decide +kernel
theorem dX0_launchBall_65 : decode cX0_launchBall 65 = .ok (.iastore, 1) := by decide +kernel
theorem dX0_launchBall_66 : decode cX0_launchBall 66 = .ok (.aload_n 0, 1) := by decide +kernel
theorem dX0_launchBall_67 : decode cX0_launchBall 67 = .ok (.iload_n 2, 1) := by decide +kernel
theorem dX0_launchBall_68 : decode cX0_launchBall 68 = .ok (.invokevirtual 85, 3) := by decide +kernel
theorem dX0_launchBall_71 : decode cX0_launchBall 71 = .ok (.istore_n 3, 1) := by decide +kernel
theorem dX0_launchBall_72 : decode cX0_launchBall 72 = .ok (.iload_n 2, 1) := by decide +kernel
theorem dX0_launchBall_73 : decode cX0_launchBall 73 = .ok (.aload_n 0, 1) := by decide +kernel
theorem dX0_launchBall_74 : decode cX0_launchBall 74 = .ok (.getfield 9, 3) := by decide +kernel
theorem dX0_launchBall_77 : decode cX0_launchBall 77 = .ok (.bipush 12, 2) := by decide +kernel
theorem dX0_launchBall_79 : decode cX0_launchBall 79 = .ok (.iaload, 1) := by decide +kernel
theorem dX0_launchBall_80 : decode cX0_launchBall 80 = .ok (.if_icmp .ne 25, 3) := by decide +kernel
theorem dX0_launchBall_83 : decode cX0_launchBall 83 = .ok (.aload_n 0, 1) := by decide +kernel
theorem dX0_launchBall_84 : decode cX0_launchBall 84 = .ok (.getfield 9, 3) := by decide +kernel
theorem dX0_launchBall_87 : decode cX0_launchBall 87 = .ok (.bipush 6, 2) := by decide +kernel
theorem dX0_launchBall_89 : decode cX0_launchBall 89 = .ok (.iaload, 1) := by decide +kernel
theorem dX0_launchBall_90 : decode cX0_launchBall 90 = .ok (.iconst 4, 1) := by decide +kernel
theorem dX0_launchBall_91 : decode cX0_launchBall 91 = .ok (.if_icmp .ge 14, 3) := by decide +kernel
theorem dX0_launchBall_94 : decode cX0_launchBall 94 = .ok (.aload_n 0, 1) := by decide +kernel
theorem dX0_launchBall_95 : decode cX0_launchBall 95 = .ok (.getfield 9, 3) := by decide +kernel
theorem dX0_launchBall_98 : decode cX0_launchBall 98 = .ok (.bipush 6, 2) := by decide +kernel
theorem dX0_launchBall_100 : decode cX0_launchBall 100 = .ok (.dup2, 1) := by decide +kernel
theorem dX0_launchBall_101 : decode cX0_launchBall 101 = .ok (.iaload, 1) := by decide +kernel
theorem dX0_launchBall_102 : decode cX0_launchBall 102 = .ok (.iconst 1, 1) := by decide +kernel
theorem dX0_launchBall_103 : decode cX0_launchBall 103 = .ok (.iadd, 1) := by decide +kernel
theorem dX0_launchBall_104 : decode cX0_launchBall 104 = .ok (.iastore, 1) := by decide +kernel
theorem dX0_launchBall_105 : decode cX0_launchBall 105 = .ok (.iload_n 3, 1) := by decide +kernel
theorem dX0_launchBall_106 : decode cX0_launchBall 106 = .ok (.ireturn, 1) := by decide +kernel
theorem dX0_drawBelow_0 : decode cX0_drawBelow 0 = .ok (.ldc2_w 88, 3) := by decide +kernel
theorem dX0_drawBelow_3 : decode cX0_drawBelow 3 = .ok (.aload_n 0, 1) := by decide +kernel
theorem dX0_drawBelow_4 : decode cX0_drawBelow 4 = .ok (.getfield 9, 3) := by decide +kernel
theorem dX0_drawBelow_7 : decode cX0_drawBelow 7 = .ok (.bipush 13, 2) := by decide +kernel
theorem dX0_drawBelow_9 : decode cX0_drawBelow 9 = .ok (.iaload, 1) := by decide +kernel
theorem dX0_drawBelow_10 : decode cX0_drawBelow 10 = .ok (.i2l, 1) := by decide +kernel
theorem dX0_drawBelow_11 : decode cX0_drawBelow 11 = .ok (.lmul, 1) := by decide +kernel
theorem dX0_drawBelow_12 : decode cX0_drawBelow 12 = .ok (.ldc2_w 90, 3) := by decide +kernel
theorem dX0_drawBelow_15 : decode cX0_drawBelow 15 = .ok (.ladd, 1) := by decide +kernel
theorem dX0_drawBelow_16 : decode cX0_drawBelow 16 = .ok (.ldc2_w 92, 3) := by decide +kernel
theorem dX0_drawBelow_19 : decode cX0_drawBelow 19 = .ok (.lrem, 1) := by decide +kernel
theorem dX0_drawBelow_20 : decode cX0_drawBelow 20 = .ok (.lstore_n 2, 1) := by decide +kernel
theorem dX0_drawBelow_21 : decode cX0_drawBelow 21 = .ok (.aload_n 0, 1) := by decide +kernel
theorem dX0_drawBelow_22 : decode cX0_drawBelow 22 = .ok (.getfield 9, 3) := by decide +kernel
theorem dX0_drawBelow_25 : decode cX0_drawBelow 25 = .ok (.bipush 13, 2) := by decide +kernel
theorem dX0_drawBelow_27 : decode cX0_drawBelow 27 = .ok (.lload_n 2, 1) := by decide +kernel
theorem dX0_drawBelow_28 : decode cX0_drawBelow 28 = .ok (.l2i, 1) := by decide +kernel
theorem dX0_drawBelow_29 : decode cX0_drawBelow 29 = .ok (.iastore, 1) := by decide +kernel
theorem dX0_drawBelow_30 : decode cX0_drawBelow 30 = .ok (.iload_n 1, 1) := by decide +kernel
theorem dX0_drawBelow_31 : decode cX0_drawBelow 31 = .ok (.ifCond .le 15, 3) := by decide +kernel
theorem dX0_drawBelow_34 : decode cX0_drawBelow 34 = .ok (.lload_n 2, 1) := by decide +kernel
theorem dX0_drawBelow_35 : decode cX0_drawBelow 35 = .ok (.ldc2_w 94, 3) := by decide +kernel
theorem dX0_drawBelow_38 : decode cX0_drawBelow 38 = .ok (.ldiv, 1) := by decide +kernel
theorem dX0_drawBelow_39 : decode cX0_drawBelow 39 = .ok (.iload_n 1, 1) := by decide +kernel
theorem dX0_drawBelow_40 : decode cX0_drawBelow 40 = .ok (.i2l, 1) := by decide +kernel
theorem dX0_drawBelow_41 : decode cX0_drawBelow 41 = .ok (.lrem, 1) := by decide +kernel
theorem dX0_drawBelow_42 : decode cX0_drawBelow 42 = .ok (.l2i, 1) := by decide +kernel
theorem dX0_drawBelow_43 : decode cX0_drawBelow 43 = .ok (.goto 4, 3) := by decide +kernel
theorem dX0_drawBelow_46 : decode cX0_drawBelow 46 = .ok (.iconst 0, 1) := by decide +kernel
theorem dX0_drawBelow_47 : decode cX0_drawBelow 47 = .ok (.ireturn, 1) := by decide +kernel
theorem dX0_spinReels_0 : decode cX0_spinReels 0 = .ok (.aload_n 0, 1) := by decide +kernel
theorem dX0_spinReels_1 : decode cX0_spinReels 1 = .ok (.getfield 9, 3) := by decide +kernel
theorem dX0_spinReels_4 : decode cX0_spinReels 4 = .ok (.bipush 10, 2) := by decide +kernel
theorem dX0_spinReels_6 : decode cX0_spinReels 6 = .ok (.iaload, 1) := by decide +kernel
theorem dX0_spinReels_7 : decode cX0_spinReels 7 = .ok (.ifCond .le 7, 3) := by decide +kernel
theorem dX0_spinReels_10 : decode cX0_spinReels 10 = .ok (.iconst 4, 1) := by decide +kernel
theorem dX0_spinReels_11 : decode cX0_spinReels 11 = .ok (.goto 5, 3) := by decide +kernel
theorem dX0_spinReels_14 : decode cX0_spinReels 14 = .ok (.bipush 8, 2) := by decide +kernel
theorem dX0_spinReels_16 : decode cX0_spinReels 16 = .ok (.istore_n 1, 1) := by decide +kernel
theorem dX0_spinReels_17 : decode cX0_spinReels 17 = .ok (.aload_n 0, 1) := by decide +kernel
theorem dX0_spinReels_18 : decode cX0_spinReels 18 = .ok (.getfield 9, 3) := by decide +kernel
theorem dX0_spinReels_21 : decode cX0_spinReels 21 = .ok (.bipush 10, 2) := by decide +kernel
theorem dX0_spinReels_23 : decode cX0_spinReels 23 = .ok (.iaload, 1) := by decide +kernel
theorem dX0_spinReels_24 : decode cX0_spinReels 24 = .ok (.ifCond .le 14, 3) := by decide +kernel
theorem dX0_spinReels_27 : decode cX0_spinReels 27 = .ok (.aload_n 0, 1) := by decide +kernel
theorem dX0_spinReels_28 : decode cX0_spinReels 28 = .ok (.getfield 9, 3) := by decide +kernel
theorem dX0_spinReels_31 : decode cX0_spinReels 31 = .ok (.bipush 10, 2) := by decide +kernel
theorem dX0_spinReels_33 : decode cX0_spinReels 33 = .ok (.dup2, 1) := by decide +kernel
theorem dX0_spinReels_34 : decode cX0_spinReels 34 = .ok (.iaload, 1) := by decide +kernel
theorem dX0_spinReels_35 : decode cX0_spinReels 35 = .ok (.iconst 1, 1) := by decide +kernel
theorem dX0_spinReels_36 : decode cX0_spinReels 36 = .ok (.isub, 1) := by decide +kernel
theorem dX0_spinReels_37 : decode cX0_spinReels 37 = .ok (.iastore, 1) := by decide +kernel
theorem dX0_spinReels_38 : decode cX0_spinReels 38 = .ok (.iconst 0, 1) := by decide +kernel
theorem dX0_spinReels_39 : decode cX0_spinReels 39 = .ok (.istore_n 2, 1) := by decide +kernel
theorem dX0_spinReels_40 : decode cX0_spinReels 40 = .ok (.iload_n 2, 1) := by decide +kernel
theorem dX0_spinReels_41 : decode cX0_spinReels 41 = .ok (.iconst 3, 1) := by decide +kernel
theorem dX0_spinReels_42 : decode cX0_spinReels 42 = .ok (.if_icmp .ge 20, 3) := by decide +kernel
theorem dX0_spinReels_45 : decode cX0_spinReels 45 = .ok (.aload_n 0, 1) := by decide +kernel
theorem dX0_spinReels_46 : decode cX0_spinReels 46 = .ok (.getfield 39, 3) := by decide +kernel
theorem dX0_spinReels_49 : decode cX0_spinReels 49 = .ok (.iload_n 2, 1) := by decide +kernel
theorem dX0_spinReels_50 : decode cX0_spinReels 50 = .ok (.aload_n 0, 1) := by decide +kernel
theorem dX0_spinReels_51 : decode cX0_spinReels 51 = .ok (.iload_n 1, 1) := by decide +kernel
theorem dX0_spinReels_52 : decode cX0_spinReels 52 = .ok (.invokevirtual 96, 3) := by decide +kernel
theorem dX0_spinReels_55 : decode cX0_spinReels 55 = .ok (.iastore, 1) := by decide +kernel
theorem dX0_spinReels_56 : decode cX0_spinReels 56 = .ok (.iinc 2 1, 3) := by decide +kernel
theorem dX0_spinReels_59 : decode cX0_spinReels 59 = .ok (.goto (-19), 3) := by decide +kernel
theorem dX0_spinReels_62 : decode cX0_spinReels 62 = .ok (.aload_n 0, 1) := by decide +kernel
theorem dX0_spinReels_63 : decode cX0_spinReels 63 = .ok (.getfield 9, 3) := by decide +kernel
theorem dX0_spinReels_66 : decode cX0_spinReels 66 = .ok (.bipush 7, 2) := by decide +kernel
theorem dX0_spinReels_68 : decode cX0_spinReels 68 = .ok (.dup2, 1) := by decide +kernel
theorem dX0_spinReels_69 : decode cX0_spinReels 69 = .ok (.iaload, 1) := by decide +kernel
theorem dX0_spinReels_70 : decode cX0_spinReels 70 = .ok (.iconst 1, 1) := by decide +kernel
theorem dX0_spinReels_71 : decode cX0_spinReels 71 = .ok (.iadd, 1) := by decide +kernel
theorem dX0_spinReels_72 : decode cX0_spinReels 72 = .ok (.iastore, 1) := by decide +kernel
theorem dX0_spinReels_73 : decode cX0_spinReels 73 = .ok (.aload_n 0, 1) := by decide +kernel
theorem dX0_spinReels_74 : decode cX0_spinReels 74 = .ok (.getfield 39, 3) := by decide +kernel
theorem dX0_spinReels_77 : decode cX0_spinReels 77 = .ok (.iconst 0, 1) := by decide +kernel
theorem dX0_spinReels_78 : decode cX0_spinReels 78 = .ok (.iaload, 1) := by decide +kernel
theorem dX0_spinReels_79 : decode cX0_spinReels 79 = .ok (.aload_n 0, 1) := by decide +kernel
theorem dX0_spinReels_80 : decode cX0_spinReels 80 = .ok (.getfield 39, 3) := by decide +kernel
theorem dX0_spinReels_83 : decode cX0_spinReels 83 = .ok (.iconst 1, 1) := by decide +kernel
theorem dX0_spinReels_84 : decode cX0_spinReels 84 = .ok (.iaload, 1) := by decide +kernel
theorem dX0_spinReels_85 : decode cX0_spinReels 85 = .ok (.if_icmp .ne 60, 3) := by decide +kernel
theorem dX0_spinReels_88 : decode cX0_spinReels 88 = .ok (.aload_n 0, 1) := by decide +kernel
theorem dX0_spinReels_89 : decode cX0_spinReels 89 = .ok (.getfield 39, 3) := by decide +kernel
theorem dX0_spinReels_92 : decode cX0_spinReels 92 = .ok (.iconst 1, 1) := by decide +kernel
theorem dX0_spinReels_93 : decode cX0_spinReels 93 = .ok (.iaload, 1) := by decide +kernel
theorem dX0_spinReels_94 : decode cX0_spinReels 94 = .ok (.aload_n 0, 1) := by decide +kernel
theorem dX0_spinReels_95 : decode cX0_spinReels 95 = .ok (.getfield 39, 3) := by decide +kernel
theorem dX0_spinReels_98 : decode cX0_spinReels 98 = .ok (.iconst 2, 1) := by decide +kernel
theorem dX0_spinReels_99 : decode cX0_spinReels 99 = .ok (.iaload, 1) := by decide +kernel
theorem dX0_spinReels_100 : decode cX0_spinReels 100 = .ok (.if_icmp .ne 45, 3) := by decide +kernel
theorem dX0_spinReels_103 : decode cX0_spinReels 103 = .ok (.aload_n 0, 1) := by decide +kernel
theorem dX0_spinReels_104 : decode cX0_spinReels 104 = .ok (.getfield 9, 3) := by decide +kernel
theorem dX0_spinReels_107 : decode cX0_spinReels 107 = .ok (.bipush 8, 2) := by decide +kernel
theorem dX0_spinReels_109 : decode cX0_spinReels 109 = .ok (.dup2, 1) := by decide +kernel
theorem dX0_spinReels_110 : decode cX0_spinReels 110 = .ok (.iaload, 1) := by decide +kernel
theorem dX0_spinReels_111 : decode cX0_spinReels 111 = .ok (.iconst 1, 1) := by decide +kernel
theorem dX0_spinReels_112 : decode cX0_spinReels 112 = .ok (.iadd, 1) := by decide +kernel
theorem dX0_spinReels_113 : decode cX0_spinReels 113 = .ok (.iastore, 1) := by decide +kernel
theorem dX0_spinReels_114 : decode cX0_spinReels 114 = .ok (.aload_n 0, 1) := by decide +kernel
theorem dX0_spinReels_115 : decode cX0_spinReels 115 = .ok (.getfield 9, 3) := by decide +kernel
theorem dX0_spinReels_118 : decode cX0_spinReels 118 = .ok (.bipush 9, 2) := by decide +kernel
theorem dX0_spinReels_120 : decode cX0_spinReels 120 = .ok (.aload_n 0, 1) := by decide +kernel
theorem dX0_spinReels_121 : decode cX0_spinReels 121 = .ok (.getfield 9, 3) := by decide +kernel
theorem dX0_spinReels_124 : decode cX0_spinReels 124 = .ok (.bipush 14, 2) := by decide +kernel
theorem dX0_spinReels_126 : decode cX0_spinReels 126 = .ok (.iaload, 1) := by decide +kernel
theorem dX0_spinReels_127 : decode cX0_spinReels 127 = .ok (.iastore, 1) := by decide +kernel
theorem dX0_spinReels_128 : decode cX0_spinReels 128 = .ok (.aload_n 0, 1) := by decide +kernel
theorem dX0_spinReels_129 : decode cX0_spinReels 129 = .ok (.getfield 9, 3) := by decide +kernel
theorem dX0_spinReels_132 : decode cX0_spinReels 132 = .ok (.bipush 10, 2) := by decide +kernel
theorem dX0_spinReels_134 : decode cX0_spinReels 134 = .ok (.aload_n 0, 1) := by decide +kernel
theorem dX0_spinReels_135 : decode cX0_spinReels 135 = .ok (.getfield 9, 3) := by decide +kernel
theorem dX0_spinReels_138 : decode cX0_spinReels 138 = .ok (.bipush 15, 2) := by decide +kernel
theorem dX0_spinReels_140 : decode cX0_spinReels 140 = .ok (.iaload, 1) := by decide +kernel
theorem dX0_spinReels_141 : decode cX0_spinReels 141 = .ok (.iastore, 1) := by decide +kernel
theorem dX0_spinReels_142 : decode cX0_spinReels 142 = .ok (.goto 11, 3) := by decide +kernel
theorem dX0_spinReels_145 : decode cX0_spinReels 145 = .ok (.aload_n 0, 1) := by decide +kernel
theorem dX0_spinReels_146 : decode cX0_spinReels 146 = .ok (.getfield 9, 3) := by decide +kernel
theorem dX0_spinReels_149 : decode cX0_spinReels 149 = .ok (.bipush 9, 2) := by decide +kernel
theorem dX0_spinReels_151 : decode cX0_spinReels 151 = .ok (.iconst 0, 1) := by decide +kernel
theorem dX0_spinReels_152 : decode cX0_spinReels 152 = .ok (.iastore, 1) := by decide +kernel
theorem dX0_spinReels_153 : decode cX0_spinReels 153 = .ok (.return_, 1) := by decide +kernel
theorem dX0_fallFrom_0 : decode cX0_fallFrom 0 = .ok (.iload_n 1, 1) := by decide +kernel
theorem dX0_fallFrom_1 : decode cX0_fallFrom 1 = .ok (.istore_n 2, 1) := by decide +kernel
theorem dX0_fallFrom_2 : decode cX0_fallFrom 2 = .ok (.iconst 0, 1) := by decide +kernel
theorem dX0_fallFrom_3 : decode cX0_fallFrom 3 = .ok (.istore_n 3, 1) := by decide +kernel
theorem dX0_fallFrom_4 : decode cX0_fallFrom 4 = .ok (.iload_n 3, 1) := by decide +kernel
theorem dX0_fallFrom_5 : decode cX0_fallFrom 5 = .ok (.bipush 8, 2) := by decide +kernel
theorem dX0_fallFrom_7 : decode cX0_fallFrom 7 = .ok (.if_icmp .ge 61, 3) := by decide +kernel
theorem dX0_fallFrom_10 : decode cX0_fallFrom 10 = .ok (.iload_n 3, 1) := by decide +kernel
theorem dX0_fallFrom_11 : decode cX0_fallFrom 11 = .ok (.bipush 7, 2) := by decide +kernel
theorem dX0_fallFrom_13 : decode cX0_fallFrom 13 = .ok (.imul, 1) := by decide +kernel
theorem dX0_fallFrom_14 : decode cX0_fallFrom 14 = .ok (.iload_n 2, 1) := by decide +kernel
theorem dX0_fallFrom_15 : decode cX0_fallFrom 15 = .ok (.iadd, 1) := by decide +kernel
theorem dX0_fallFrom_16 : decode cX0_fallFrom 16 = .ok (.istore 4, 2) := by decide +kernel
theorem dX0_fallFrom_18 : decode cX0_fallFrom 18 = .ok (.aload_n 0, 1) := by decide +kernel
theorem dX0_fallFrom_19 : decode cX0_fallFrom 19 = .ok (.getfield 21, 3) := by decide +kernel
theorem dX0_fallFrom_22 : decode cX0_fallFrom 22 = .ok (.iload_n 3, 1) := by decide +kernel
theorem dX0_fallFrom_23 : decode cX0_fallFrom 23 = .ok (.iload 4, 2) := by decide +kernel
theorem dX0_fallFrom_25 : decode cX0_fallFrom 25 = .ok (.iastore, 1) := by decide +kernel
theorem dX0_fallFrom_26 : decode cX0_fallFrom 26 = .ok (.aload_n 0, 1) := by decide +kernel
theorem dX0_fallFrom_27 : decode cX0_fallFrom 27 = .ok (.getfield 15, 3) := by decide +kernel
theorem dX0_fallFrom_30 : decode cX0_fallFrom 30 = .ok (.iload 4, 2) := by decide +kernel
theorem dX0_fallFrom_32 : decode cX0_fallFrom 32 = .ok (.iaload, 1) := by decide +kernel
theorem dX0_fallFrom_33 : decode cX0_fallFrom 33 = .ok (.istore 5, 2) := by decide +kernel
theorem dX0_fallFrom_35 : decode cX0_fallFrom 35 = .ok (.iload 5, 2) := by decide +kernel
theorem dX0_fallFrom_37 : decode cX0_fallFrom 37 = .ok (.ifCond .ne 18, 3) := by decide +kernel
theorem dX0_fallFrom_40 : decode cX0_fallFrom 40 = .ok (.aload_n 0, 1) := by decide +kernel
theorem dX0_fallFrom_41 : decode cX0_fallFrom 41 = .ok (.iconst 2, 1) := by decide +kernel
theorem dX0_fallFrom_42 : decode cX0_fallFrom 42 = .ok (.invokevirtual 96, 3) := by decide +kernel
theorem dX0_fallFrom_45 : decode cX0_fallFrom 45 = .ok (.ifCond .ne 7, 3) := by decide +kernel
theorem dX0_fallFrom_48 : decode cX0_fallFrom 48 = .ok (.iconst (-1), 1) := by decide +kernel
theorem dX0_fallFrom_49 : decode cX0_fallFrom 49 = .ok (.goto 4, 3) := by decide +kernel
theorem dX0_fallFrom_52 : decode cX0_fallFrom 52 = .ok (.iconst 1, 1) := by decide +kernel
theorem dX0_fallFrom_53 : decode cX0_fallFrom 53 = .ok (.istore 5, 2) := by decide +kernel
theorem dX0_fallFrom_55 : decode cX0_fallFrom 55 = .ok (.iload_n 2, 1) := by decide +kernel
theorem dX0_fallFrom_56 : decode cX0_fallFrom 56 = .ok (.iload 5, 2) := by decide +kernel
theorem dX0_fallFrom_58 : decode cX0_fallFrom 58 = .ok (.invokestatic 99, 3) := by decide +kernel
theorem dX0_fallFrom_61 : decode cX0_fallFrom 61 = .ok (.istore_n 2, 1) := by decide +kernel
theorem dX0_fallFrom_62 : decode cX0_fallFrom 62 = .ok (.iinc 3 1, 3) := by decide +kernel
theorem dX0_fallFrom_65 : decode cX0_fallFrom 65 = .ok (.goto (-61), 3) := by decide +kernel
theorem dX0_fallFrom_68 : decode cX0_fallFrom 68 = .ok (.iload_n 2, 1) := by decide +kernel
theorem dX0_fallFrom_69 : decode cX0_fallFrom 69 = .ok (.ireturn, 1) := by decide +kernel
theorem dX0_comeTo_0 : decode cX0_comeTo 0 = .ok (.aload_n 0, 1) := by decide +kernel
theorem dX0_comeTo_1 : decode cX0_comeTo 1 = .ok (.iload_n 1, 1) := by decide +kernel
theorem dX0_comeTo_2 : decode cX0_comeTo 2 = .ok (.invokevirtual 67, 3) := by decide +kernel
theorem dX0_comeTo_5 : decode cX0_comeTo 5 = .ok (.istore_n 2, 1) := by decide +kernel
theorem dX0_comeTo_6 : decode cX0_comeTo 6 = .ok (.aload_n 0, 1) := by decide +kernel
theorem dX0_comeTo_7 : decode cX0_comeTo 7 = .ok (.getfield 33, 3) := by decide +kernel
theorem dX0_comeTo_10 : decode cX0_comeTo 10 = .ok (.iload_n 1, 1) := by decide +kernel
theorem dX0_comeTo_11 : decode cX0_comeTo 11 = .ok (.dup2, 1) := by decide +kernel
theorem dX0_comeTo_12 : decode cX0_comeTo 12 = .ok (.iaload, 1) := by decide +kernel
theorem dX0_comeTo_13 : decode cX0_comeTo 13 = .ok (.iconst 1, 1) := by decide +kernel
theorem dX0_comeTo_14 : decode cX0_comeTo 14 = .ok (.iadd, 1) := by decide +kernel
theorem dX0_comeTo_15 : decode cX0_comeTo 15 = .ok (.iastore, 1) := by decide +kernel
theorem dX0_comeTo_16 : decode cX0_comeTo 16 = .ok (.aload_n 0, 1) := by decide +kernel
theorem dX0_comeTo_17 : decode cX0_comeTo 17 = .ok (.getfield 24, 3) := by decide +kernel
theorem dX0_comeTo_20 : decode cX0_comeTo 20 = .ok (.iload_n 1, 1) := by decide +kernel
theorem dX0_comeTo_21 : decode cX0_comeTo 21 = .ok (.iaload, 1) := by decide +kernel
theorem dX0_comeTo_22 : decode cX0_comeTo 22 = .ok (.iconst 2, 1) := by decide +kernel
theorem dX0_comeTo_23 : decode cX0_comeTo 23 = .ok (.if_icmp .ne 21, 3) := by decide +kernel
theorem dX0_comeTo_26 : decode cX0_comeTo 26 = .ok (.aload_n 0, 1) := by decide +kernel
theorem dX0_comeTo_27 : decode cX0_comeTo 27 = .ok (.getfield 30, 3) := by decide +kernel
theorem dX0_comeTo_30 : decode cX0_comeTo 30 = .ok (.iload_n 1, 1) := by decide +kernel
theorem dX0_comeTo_31 : decode cX0_comeTo 31 = .ok (.iload_n 2, 1) := by decide +kernel
theorem dX0_comeTo_32 : decode cX0_comeTo 32 = .ok (.ifCond .eq 7, 3) := by decide +kernel
theorem dX0_comeTo_35 : decode cX0_comeTo 35 = .ok (.iconst 0, 1) := by decide +kernel
theorem dX0_comeTo_36 : decode cX0_comeTo 36 = .ok (.goto 4, 3) := by decide +kernel
theorem dX0_comeTo_39 : decode cX0_comeTo 39 = .ok (.iconst 1, 1) := by decide +kernel
theorem dX0_comeTo_40 : decode cX0_comeTo 40 = .ok (.iastore, 1) := by decide +kernel
theorem dX0_comeTo_41 : decode cX0_comeTo 41 = .ok (.goto 28, 3) := by decide +kernel
theorem dX0_comeTo_44 : decode cX0_comeTo 44 = .ok (.aload_n 0, 1) := by decide +kernel
theorem dX0_comeTo_45 : decode cX0_comeTo 45 = .ok (.getfield 24, 3) := by decide +kernel
theorem dX0_comeTo_48 : decode cX0_comeTo 48 = .ok (.iload_n 1, 1) := by decide +kernel
theorem dX0_comeTo_49 : decode cX0_comeTo 49 = .ok (.iaload, 1) := by decide +kernel
theorem dX0_comeTo_50 : decode cX0_comeTo 50 = .ok (.iconst 1, 1) := by decide +kernel
theorem dX0_comeTo_51 : decode cX0_comeTo 51 = .ok (.if_icmp .ne 18, 3) := by decide +kernel
theorem dX0_comeTo_54 : decode cX0_comeTo 54 = .ok (.iload_n 2, 1) := by decide +kernel
theorem dX0_comeTo_55 : decode cX0_comeTo 55 = .ok (.ifCond .eq 14, 3) := by decide +kernel
theorem dX0_comeTo_58 : decode cX0_comeTo 58 = .ok (.aload_n 0, 1) := by decide +kernel
theorem dX0_comeTo_59 : decode cX0_comeTo 59 = .ok (.getfield 9, 3) := by decide +kernel
theorem dX0_comeTo_62 : decode cX0_comeTo 62 = .ok (.bipush 9, 2) := by decide +kernel
theorem dX0_comeTo_64 : decode cX0_comeTo 64 = .ok (.dup2, 1) := by decide +kernel
theorem dX0_comeTo_65 : decode cX0_comeTo 65 = .ok (.iaload, 1) := by decide +kernel
theorem dX0_comeTo_66 : decode cX0_comeTo 66 = .ok (.iconst 1, 1) := by decide +kernel
theorem dX0_comeTo_67 : decode cX0_comeTo 67 = .ok (.isub, 1) := by decide +kernel
theorem dX0_comeTo_68 : decode cX0_comeTo 68 = .ok (.iastore, 1) := by decide +kernel
theorem dX0_comeTo_69 : decode cX0_comeTo 69 = .ok (.iload_n 2, 1) := by decide +kernel
theorem dX0_comeTo_70 : decode cX0_comeTo 70 = .ok (.ifCond .ne 15, 3) := by decide +kernel
theorem dX0_comeTo_73 : decode cX0_comeTo 73 = .ok (.aload_n 0, 1) := by decide +kernel
theorem dX0_comeTo_74 : decode cX0_comeTo 74 = .ok (.getfield 9, 3) := by decide +kernel
theorem dX0_comeTo_77 : decode cX0_comeTo 77 = .ok (.iconst 4, 1) := by decide +kernel
theorem dX0_comeTo_78 : decode cX0_comeTo 78 = .ok (.dup2, 1) := by decide +kernel
theorem dX0_comeTo_79 : decode cX0_comeTo 79 = .ok (.iaload, 1) := by decide +kernel
theorem dX0_comeTo_80 : decode cX0_comeTo 80 = .ok (.iconst 1, 1) := by decide +kernel
theorem dX0_comeTo_81 : decode cX0_comeTo 81 = .ok (.iadd, 1) := by decide +kernel
theorem dX0_comeTo_82 : decode cX0_comeTo 82 = .ok (.iastore, 1) := by decide +kernel
theorem dX0_comeTo_83 : decode cX0_comeTo 83 = .ok (.iconst 0, 1) := by decide +kernel
theorem dX0_comeTo_84 : decode cX0_comeTo 84 = .ok (.ireturn, 1) := by decide +kernel
theorem dX0_comeTo_85 : decode cX0_comeTo 85 = .ok (.aload_n 0, 1) := by decide +kernel
theorem dX0_comeTo_86 : decode cX0_comeTo 86 = .ok (.iload_n 1, 1) := by decide +kernel
theorem dX0_comeTo_87 : decode cX0_comeTo 87 = .ok (.invokevirtual 103, 3) := by decide +kernel
theorem dX0_comeTo_90 : decode cX0_comeTo 90 = .ok (.ireturn, 1) := by decide +kernel
theorem dX0_payFrom_0 : decode cX0_payFrom 0 = .ok (.aload_n 0, 1) := by decide +kernel
theorem dX0_payFrom_1 : decode cX0_payFrom 1 = .ok (.getfield 27, 3) := by decide +kernel
theorem dX0_payFrom_4 : decode cX0_payFrom 4 = .ok (.iload_n 1, 1) := by decide +kernel
theorem dX0_payFrom_5 : decode cX0_payFrom 5 = .ok (.iaload, 1) := by decide +kernel
theorem dX0_payFrom_6 : decode cX0_payFrom 6 = .ok (.istore_n 2, 1) := by decide +kernel
theorem dX0_payFrom_7 : decode cX0_payFrom 7 = .ok (.iload_n 2, 1) := by decide +kernel
theorem dX0_payFrom_8 : decode cX0_payFrom 8 = .ok (.ifCond .ne 13, 3) := by decide +kernel
theorem dX0_payFrom_11 : decode cX0_payFrom 11 = .ok (.aload_n 0, 1) := by decide +kernel
theorem dX0_payFrom_12 : decode cX0_payFrom 12 = .ok (.getfield 9, 3) := by decide +kernel
theorem dX0_payFrom_15 : decode cX0_payFrom 15 = .ok (.iconst 5, 1) := by decide +kernel
theorem dX0_payFrom_16 : decode cX0_payFrom 16 = .ok (.dup2, 1) := by decide +kernel
theorem dX0_payFrom_17 : decode cX0_payFrom 17 = .ok (.iaload, 1) := by decide +kernel
theorem dX0_payFrom_18 : decode cX0_payFrom 18 = .ok (.iconst 1, 1) := by decide +kernel
theorem dX0_payFrom_19 : decode cX0_payFrom 19 = .ok (.iadd, 1) := by decide +kernel
theorem dX0_payFrom_20 : decode cX0_payFrom 20 = .ok (.iastore, 1) := by decide +kernel
theorem dX0_payFrom_21 : decode cX0_payFrom 21 = .ok (.aload_n 0, 1) := by decide +kernel
theorem dX0_payFrom_22 : decode cX0_payFrom 22 = .ok (.getfield 9, 3) := by decide +kernel
theorem dX0_payFrom_25 : decode cX0_payFrom 25 = .ok (.iconst 0, 1) := by decide +kernel
theorem dX0_payFrom_26 : decode cX0_payFrom 26 = .ok (.dup2, 1) := by decide +kernel
theorem dX0_payFrom_27 : decode cX0_payFrom 27 = .ok (.iaload, 1) := by decide +kernel
theorem dX0_payFrom_28 : decode cX0_payFrom 28 = .ok (.iload_n 2, 1) := by decide +kernel
theorem dX0_payFrom_29 : decode cX0_payFrom 29 = .ok (.iadd, 1) := by decide +kernel
theorem dX0_payFrom_30 : decode cX0_payFrom 30 = .ok (.iastore, 1) := by decide +kernel
theorem dX0_payFrom_31 : decode cX0_payFrom 31 = .ok (.aload_n 0, 1) := by decide +kernel
theorem dX0_payFrom_32 : decode cX0_payFrom 32 = .ok (.getfield 9, 3) := by decide +kernel
theorem dX0_payFrom_35 : decode cX0_payFrom 35 = .ok (.iconst 3, 1) := by decide +kernel
theorem dX0_payFrom_36 : decode cX0_payFrom 36 = .ok (.dup2, 1) := by decide +kernel
theorem dX0_payFrom_37 : decode cX0_payFrom 37 = .ok (.iaload, 1) := by decide +kernel
theorem dX0_payFrom_38 : decode cX0_payFrom 38 = .ok (.iload_n 2, 1) := by decide +kernel
theorem dX0_payFrom_39 : decode cX0_payFrom 39 = .ok (.iadd, 1) := by decide +kernel
theorem dX0_payFrom_40 : decode cX0_payFrom 40 = .ok (.iastore, 1) := by decide +kernel
theorem dX0_payFrom_41 : decode cX0_payFrom 41 = .ok (.aload_n 0, 1) := by decide +kernel
theorem dX0_payFrom_42 : decode cX0_payFrom 42 = .ok (.getfield 36, 3) := by decide +kernel
theorem dX0_payFrom_45 : decode cX0_payFrom 45 = .ok (.iload_n 1, 1) := by decide +kernel
theorem dX0_payFrom_46 : decode cX0_payFrom 46 = .ok (.dup2, 1) := by decide +kernel
theorem dX0_payFrom_47 : decode cX0_payFrom 47 = .ok (.iaload, 1) := by decide +kernel
theorem dX0_payFrom_48 : decode cX0_payFrom 48 = .ok (.iload_n 2, 1) := by decide +kernel
theorem dX0_payFrom_49 : decode cX0_payFrom 49 = .ok (.iadd, 1) := by decide +kernel
theorem dX0_payFrom_50 : decode cX0_payFrom 50 = .ok (.iastore, 1) := by decide +kernel
theorem dX0_payFrom_51 : decode cX0_payFrom 51 = .ok (.iload_n 2, 1) := by decide +kernel
theorem dX0_payFrom_52 : decode cX0_payFrom 52 = .ok (.ireturn, 1) := by decide +kernel
theorem dX1_init_0 : decode cX1_init 0 = .ok (.aload_n 0, 1) := by decide +kernel
theorem dX1_init_1 : decode cX1_init 1 = .ok (.invokespecial 3, 3) := by decide +kernel
theorem dX1_init_4 : decode cX1_init 4 = .ok (.aload_n 0, 1) := by decide +kernel
theorem dX1_init_5 : decode cX1_init 5 = .ok (.bipush 6, 2) := by decide +kernel
theorem dX1_init_7 : decode cX1_init 7 = .ok (.anewarray 9, 3) := by decide +kernel
theorem dX1_init_10 : decode cX1_init 10 = .ok (.putfield 11, 3) := by decide +kernel
theorem dX1_init_13 : decode cX1_init 13 = .ok (.aload_n 0, 1) := by decide +kernel
theorem dX1_init_14 : decode cX1_init 14 = .ok (.iconst 0, 1) := by decide +kernel
theorem dX1_init_15 : decode cX1_init 15 = .ok (.putfield 17, 3) := by decide +kernel
theorem dX1_init_18 : decode cX1_init 18 = .ok (.aload_n 0, 1) := by decide +kernel
theorem dX1_init_19 : decode cX1_init 19 = .ok (.iconst 0, 1) := by decide +kernel
theorem dX1_init_20 : decode cX1_init 20 = .ok (.putfield 21, 3) := by decide +kernel
theorem dX1_init_23 : decode cX1_init 23 = .ok (.return_, 1) := by decide +kernel
theorem dX1_save_0 : decode cX1_save 0 = .ok (.aload_n 0, 1) := by decide +kernel
theorem dX1_save_1 : decode cX1_save 1 = .ok (.getfield 17, 3) := by decide +kernel
theorem dX1_save_4 : decode cX1_save 4 = .ok (.aload_n 0, 1) := by decide +kernel
theorem dX1_save_5 : decode cX1_save 5 = .ok (.getfield 21, 3) := by decide +kernel
theorem dX1_save_8 : decode cX1_save 8 = .ok (.iadd, 1) := by decide +kernel
theorem dX1_save_9 : decode cX1_save 9 = .ok (.bipush 6, 2) := by decide +kernel
theorem dX1_save_11 : decode cX1_save 11 = .ok (.irem, 1) := by decide +kernel
theorem dX1_save_12 : decode cX1_save 12 = .ok (.istore_n 2, 1) := by decide +kernel
theorem dX1_save_13 : decode cX1_save 13 = .ok (.aload_n 0, 1) := by decide +kernel
theorem dX1_save_14 : decode cX1_save 14 = .ok (.getfield 11, 3) := by decide +kernel
theorem dX1_save_17 : decode cX1_save 17 = .ok (.iload_n 2, 1) := by decide +kernel
theorem dX1_save_18 : decode cX1_save 18 = .ok (.aaload, 1) := by decide +kernel
theorem dX1_save_19 : decode cX1_save 19 = .ok (.ifnonnull 16, 3) := by decide +kernel
theorem dX1_save_22 : decode cX1_save 22 = .ok (.aload_n 0, 1) := by decide +kernel
theorem dX1_save_23 : decode cX1_save 23 = .ok (.getfield 11, 3) := by decide +kernel
theorem dX1_save_26 : decode cX1_save 26 = .ok (.iload_n 2, 1) := by decide +kernel
theorem dX1_save_27 : decode cX1_save 27 = .ok (.new 9, 3) := by decide +kernel
theorem dX1_save_30 : decode cX1_save 30 = .ok (.dup, 1) := by decide +kernel
theorem dX1_save_31 : decode cX1_save 31 = .ok (.invokespecial 24, 3) := by decide +kernel
theorem dX1_save_34 : decode cX1_save 34 = .ok (.aastore, 1) := by decide +kernel
theorem dX1_save_35 : decode cX1_save 35 = .ok (.aload_n 0, 1) := by decide +kernel
theorem dX1_save_36 : decode cX1_save 36 = .ok (.getfield 11, 3) := by decide +kernel
theorem dX1_save_39 : decode cX1_save 39 = .ok (.iload_n 2, 1) := by decide +kernel
theorem dX1_save_40 : decode cX1_save 40 = .ok (.aaload, 1) := by decide +kernel
theorem dX1_save_41 : decode cX1_save 41 = .ok (.aload_n 1, 1) := by decide +kernel
theorem dX1_save_42 : decode cX1_save 42 = .ok (.invokevirtual 25, 3) := by decide +kernel
theorem dX1_save_45 : decode cX1_save 45 = .ok (.aload_n 0, 1) := by decide +kernel
theorem dX1_save_46 : decode cX1_save 46 = .ok (.getfield 21, 3) := by decide +kernel
theorem dX1_save_49 : decode cX1_save 49 = .ok (.bipush 6, 2) := by decide +kernel
theorem dX1_save_51 : decode cX1_save 51 = .ok (.if_icmp .ge 16, 3) := by decide +kernel
theorem dX1_save_54 : decode cX1_save 54 = .ok (.aload_n 0, 1) := by decide +kernel
theorem dX1_save_55 : decode cX1_save 55 = .ok (.dup, 1) := by decide +kernel
theorem dX1_save_56 : decode cX1_save 56 = .ok (.getfield 21, 3) := by decide +kernel
theorem dX1_save_59 : decode cX1_save 59 = .ok (.iconst 1, 1) := by decide +kernel
theorem dX1_save_60 : decode cX1_save 60 = .ok (.iadd, 1) := by decide +kernel
theorem dX1_save_61 : decode cX1_save 61 = .ok (.putfield 21, 3) := by decide +kernel
theorem dX1_save_64 : decode cX1_save 64 = .ok (.goto 16, 3) := by decide +kernel
theorem dX1_save_67 : decode cX1_save 67 = .ok (.aload_n 0, 1) := by decide +kernel
theorem dX1_save_68 : decode cX1_save 68 = .ok (.aload_n 0, 1) := by decide +kernel
theorem dX1_save_69 : decode cX1_save 69 = .ok (.getfield 17, 3) := by decide +kernel
theorem dX1_save_72 : decode cX1_save 72 = .ok (.iconst 1, 1) := by decide +kernel
theorem dX1_save_73 : decode cX1_save 73 = .ok (.iadd, 1) := by decide +kernel
theorem dX1_save_74 : decode cX1_save 74 = .ok (.bipush 6, 2) := by decide +kernel
theorem dX1_save_76 : decode cX1_save 76 = .ok (.irem, 1) := by decide +kernel
theorem dX1_save_77 : decode cX1_save 77 = .ok (.putfield 17, 3) := by decide +kernel
theorem dX1_save_80 : decode cX1_save 80 = .ok (.return_, 1) := by decide +kernel
theorem dX1_takeLatest_0 : decode cX1_takeLatest 0 = .ok (.aload_n 0, 1) := by decide +kernel
theorem dX1_takeLatest_1 : decode cX1_takeLatest 1 = .ok (.getfield 21, 3) := by decide +kernel
theorem dX1_takeLatest_4 : decode cX1_takeLatest 4 = .ok (.ifCond .ne 5, 3) := by decide +kernel
theorem dX1_takeLatest_7 : decode cX1_takeLatest 7 = .ok (.iconst 0, 1) := by decide +kernel
theorem dX1_takeLatest_8 : decode cX1_takeLatest 8 = .ok (.ireturn, 1) := by decide +kernel
theorem dX1_takeLatest_9 : decode cX1_takeLatest 9 = .ok (.aload_n 0, 1) := by decide +kernel
theorem dX1_takeLatest_10 : decode cX1_takeLatest 10 = .ok (.getfield 11, 3) := by decide +kernel
theorem dX1_takeLatest_13 : decode cX1_takeLatest 13 = .ok (.aload_n 0, 1) := by decide +kernel
theorem dX1_takeLatest_14 : decode cX1_takeLatest 14 = .ok (.getfield 17, 3) := by decide +kernel
theorem dX1_takeLatest_17 : decode cX1_takeLatest 17 = .ok (.aload_n 0, 1) := by decide +kernel
theorem dX1_takeLatest_18 : decode cX1_takeLatest 18 = .ok (.getfield 21, 3) := by decide +kernel
theorem dX1_takeLatest_21 : decode cX1_takeLatest 21 = .ok (.iadd, 1) := by decide +kernel
theorem dX1_takeLatest_22 : decode cX1_takeLatest 22 = .ok (.iconst 1, 1) := by decide +kernel
theorem dX1_takeLatest_23 : decode cX1_takeLatest 23 = .ok (.isub, 1) := by decide +kernel
theorem dX1_takeLatest_24 : decode cX1_takeLatest 24 = .ok (.bipush 6, 2) := by decide +kernel
theorem dX1_takeLatest_26 : decode cX1_takeLatest 26 = .ok (.irem, 1) := by decide +kernel
theorem dX1_takeLatest_27 : decode cX1_takeLatest 27 = .ok (.aaload, 1) := by decide +kernel
theorem dX1_takeLatest_28 : decode cX1_takeLatest 28 = .ok (.astore_n 2, 1) := by decide +kernel
theorem dX1_takeLatest_29 : decode cX1_takeLatest 29 = .ok (.aload_n 2, 1) := by decide +kernel
theorem dX1_takeLatest_30 : decode cX1_takeLatest 30 = .ok (.ifnonnull 5, 3) := by decide +kernel
theorem dX1_takeLatest_33 : decode cX1_takeLatest 33 = .ok (.iconst 0, 1) := by decide +kernel
theorem dX1_takeLatest_34 : decode cX1_takeLatest 34 = .ok (.ireturn, 1) := by decide +kernel
theorem dX1_takeLatest_35 : decode cX1_takeLatest 35 = .ok (.aload_n 1, 1) := by decide +kernel
theorem dX1_takeLatest_36 : decode cX1_takeLatest 36 = .ok (.aload_n 2, 1) := by decide +kernel
theorem dX1_takeLatest_37 : decode cX1_takeLatest 37 = .ok (.invokevirtual 25, 3) := by decide +kernel
theorem dX1_takeLatest_40 : decode cX1_takeLatest 40 = .ok (.aload_n 0, 1) := by decide +kernel
theorem dX1_takeLatest_41 : decode cX1_takeLatest 41 = .ok (.dup, 1) := by decide +kernel
theorem dX1_takeLatest_42 : decode cX1_takeLatest 42 = .ok (.getfield 21, 3) := by decide +kernel
theorem dX1_takeLatest_45 : decode cX1_takeLatest 45 = .ok (.iconst 1, 1) := by decide +kernel
theorem dX1_takeLatest_46 : decode cX1_takeLatest 46 = .ok (.isub, 1) := by decide +kernel
theorem dX1_takeLatest_47 : decode cX1_takeLatest 47 = .ok (.putfield 21, 3) := by decide +kernel
theorem dX1_takeLatest_50 : decode cX1_takeLatest 50 = .ok (.iconst 1, 1) := by decide +kernel
theorem dX1_takeLatest_51 : decode cX1_takeLatest 51 = .ok (.ireturn, 1) := by decide +kernel
theorem dX2_init_0 : decode cX2_init 0 = .ok (.aload_n 0, 1) := by decide +kernel
theorem dX2_init_1 : decode cX2_init 1 = .ok (.invokespecial 3, 3) := by decide +kernel
theorem dX2_init_4 : decode cX2_init 4 = .ok (.aload_n 0, 1) := by decide +kernel
theorem dX2_init_5 : decode cX2_init 5 = .ok (.bipush 7, 2) := by decide +kernel
theorem dX2_init_7 : decode cX2_init 7 = .ok (.newarray .int, 2) := by decide +kernel
theorem dX2_init_9 : decode cX2_init 9 = .ok (.putfield 9, 3) := by decide +kernel
theorem dX2_init_12 : decode cX2_init 12 = .ok (.aload_n 0, 1) := by decide +kernel
theorem dX2_init_13 : decode cX2_init 13 = .ok (.bipush 7, 2) := by decide +kernel
theorem dX2_init_15 : decode cX2_init 15 = .ok (.newarray .int, 2) := by decide +kernel
theorem dX2_init_17 : decode cX2_init 17 = .ok (.putfield 15, 3) := by decide +kernel
theorem dX2_init_20 : decode cX2_init 20 = .ok (.aload_n 0, 1) := by decide +kernel
theorem dX2_init_21 : decode cX2_init 21 = .ok (.bipush 7, 2) := by decide +kernel
theorem dX2_init_23 : decode cX2_init 23 = .ok (.newarray .int, 2) := by decide +kernel
theorem dX2_init_25 : decode cX2_init 25 = .ok (.putfield 18, 3) := by decide +kernel
theorem dX2_init_28 : decode cX2_init 28 = .ok (.return_, 1) := by decide +kernel
theorem dX2_countByRows_0 : decode cX2_countByRows 0 = .ok (.aload_n 0, 1) := by decide +kernel
theorem dX2_countByRows_1 : decode cX2_countByRows 1 = .ok (.getfield 9, 3) := by decide +kernel
theorem dX2_countByRows_4 : decode cX2_countByRows 4 = .ok (.iconst 0, 1) := by decide +kernel
theorem dX2_countByRows_5 : decode cX2_countByRows 5 = .ok (.invokestatic 21, 3) := by decide +kernel
theorem dX2_countByRows_8 : decode cX2_countByRows 8 = .ok (.aload_n 0, 1) := by decide +kernel
theorem dX2_countByRows_9 : decode cX2_countByRows 9 = .ok (.getfield 9, 3) := by decide +kernel
theorem dX2_countByRows_12 : decode cX2_countByRows 12 = .ok (.iload_n 2, 1) := by decide +kernel
theorem dX2_countByRows_13 : decode cX2_countByRows 13 = .ok (.iconst 1, 1) := by decide +kernel
theorem dX2_countByRows_14 : decode cX2_countByRows 14 = .ok (.iastore, 1) := by decide +kernel
theorem dX2_countByRows_15 : decode cX2_countByRows 15 = .ok (.iconst 0, 1) := by decide +kernel
theorem dX2_countByRows_16 : decode cX2_countByRows 16 = .ok (.istore_n 3, 1) := by decide +kernel
theorem dX2_countByRows_17 : decode cX2_countByRows 17 = .ok (.iload_n 3, 1) := by decide +kernel
theorem dX2_countByRows_18 : decode cX2_countByRows 18 = .ok (.bipush 8, 2) := by decide +kernel
theorem dX2_countByRows_20 : decode cX2_countByRows 20 = .ok (.if_icmp .ge 15, 3) := by decide +kernel
theorem dX2_countByRows_23 : decode cX2_countByRows 23 = .ok (.aload_n 0, 1) := by decide +kernel
theorem dX2_countByRows_24 : decode cX2_countByRows 24 = .ok (.aload_n 1, 1) := by decide +kernel
theorem dX2_countByRows_25 : decode cX2_countByRows 25 = .ok (.iload_n 3, 1) := by decide +kernel
theorem dX2_countByRows_26 : decode cX2_countByRows 26 = .ok (.invokevirtual 27, 3) := by decide +kernel
theorem dX2_countByRows_29 : decode cX2_countByRows 29 = .ok (.iinc 3 1, 3) := by decide +kernel
theorem dX2_countByRows_32 : decode cX2_countByRows 32 = .ok (.goto (-15), 3) := by decide +kernel
theorem dX2_countByRows_35 : decode cX2_countByRows 35 = .ok (.return_, 1) := by decide +kernel
theorem dX2_countRow_0 : decode cX2_countRow 0 = .ok (.aload_n 0, 1) := by decide +kernel
theorem dX2_countRow_1 : decode cX2_countRow 1 = .ok (.getfield 18, 3) := by decide +kernel
theorem dX2_countRow_4 : decode cX2_countRow 4 = .ok (.iconst 0, 1) := by decide +kernel
theorem dX2_countRow_5 : decode cX2_countRow 5 = .ok (.invokestatic 21, 3) := by decide +kernel
theorem dX2_countRow_8 : decode cX2_countRow 8 = .ok (.iconst 0, 1) := by decide +kernel
theorem dX2_countRow_9 : decode cX2_countRow 9 = .ok (.istore_n 3, 1) := by decide +kernel
theorem dX2_countRow_10 : decode cX2_countRow 10 = .ok (.iload_n 3, 1) := by decide +kernel
theorem dX2_countRow_11 : decode cX2_countRow 11 = .ok (.bipush 7, 2) := by decide +kernel
theorem dX2_countRow_13 : decode cX2_countRow 13 = .ok (.if_icmp .ge 67, 3) := by decide +kernel
theorem dX2_countRow_16 : decode cX2_countRow 16 = .ok (.aload_n 1, 1) := by decide +kernel
theorem dX2_countRow_17 : decode cX2_countRow 17 = .ok (.iload_n 2, 1) := by decide +kernel
theorem dX2_countRow_18 : decode cX2_countRow 18 = .ok (.bipush 7, 2) := by decide +kernel
theorem dX2_countRow_20 : decode cX2_countRow 20 = .ok (.imul, 1) := by decide +kernel
theorem dX2_countRow_21 : decode cX2_countRow 21 = .ok (.iload_n 3, 1) := by decide +kernel
theorem dX2_countRow_22 : decode cX2_countRow 22 = .ok (.iadd, 1) := by decide +kernel
theorem dX2_countRow_23 : decode cX2_countRow 23 = .ok (.iaload, 1) := by decide +kernel
theorem dX2_countRow_24 : decode cX2_countRow 24 = .ok (.istore 4, 2) := by decide +kernel
theorem dX2_countRow_26 : decode cX2_countRow 26 = .ok (.iload 4, 2) := by decide +kernel
theorem dX2_countRow_28 : decode cX2_countRow 28 = .ok (.ifCond .gt 22, 3) := by decide +kernel
theorem dX2_countRow_31 : decode cX2_countRow 31 = .ok (.aload_n 0, 1) := by decide +kernel
theorem dX2_countRow_32 : decode cX2_countRow 32 = .ok (.getfield 18, 3) := by decide +kernel
theorem dX2_countRow_35 : decode cX2_countRow 35 = .ok (.iload_n 3, 1) := by decide +kernel
theorem dX2_countRow_36 : decode cX2_countRow 36 = .ok (.iconst (-1), 1) := by decide +kernel
theorem dX2_countRow_37 : decode cX2_countRow 37 = .ok (.invokestatic 30, 3) := by decide +kernel
theorem dX2_countRow_40 : decode cX2_countRow 40 = .ok (.dup2, 1) := by decide +kernel
theorem dX2_countRow_41 : decode cX2_countRow 41 = .ok (.iaload, 1) := by decide +kernel
theorem dX2_countRow_42 : decode cX2_countRow 42 = .ok (.aload_n 0, 1) := by decide +kernel
theorem dX2_countRow_43 : decode cX2_countRow 43 = .ok (.getfield 9, 3) := by decide +kernel
theorem dX2_countRow_46 : decode cX2_countRow 46 = .ok (.iload_n 3, 1) := by decide +kernel
theorem dX2_countRow_47 : decode cX2_countRow 47 = .ok (.iaload, 1) := by decide +kernel
theorem dX2_countRow_48 : decode cX2_countRow 48 = .ok (.iadd, 1) := by decide +kernel
theorem dX2_countRow_49 : decode cX2_countRow 49 = .ok (.iastore, 1) := by decide +kernel
theorem dX2_countRow_50 : decode cX2_countRow 50 = .ok (.iload 4, 2) := by decide +kernel
theorem dX2_countRow_52 : decode cX2_countRow 52 = .ok (.ifCond .lt 22, 3) := by decide +kernel
theorem dX2_countRow_55 : decode cX2_countRow 55 = .ok (.aload_n 0, 1) := by decide +kernel
theorem dX2_countRow_56 : decode cX2_countRow 56 = .ok (.getfield 18, 3) := by decide +kernel
theorem dX2_countRow_59 : decode cX2_countRow 59 = .ok (.iload_n 3, 1) := by decide +kernel
theorem dX2_countRow_60 : decode cX2_countRow 60 = .ok (.iconst 1, 1) := by decide +kernel
theorem dX2_countRow_61 : decode cX2_countRow 61 = .ok (.invokestatic 30, 3) := by decide +kernel
theorem dX2_countRow_64 : decode cX2_countRow 64 = .ok (.dup2, 1) := by decide +kernel
theorem dX2_countRow_65 : decode cX2_countRow 65 = .ok (.iaload, 1) := by decide +kernel
theorem dX2_countRow_66 : decode cX2_countRow 66 = .ok (.aload_n 0, 1) := by decide +kernel
theorem dX2_countRow_67 : decode cX2_countRow 67 = .ok (.getfield 9, 3) := by decide +kernel
theorem dX2_countRow_70 : decode cX2_countRow 70 = .ok (.iload_n 3, 1) := by decide +kernel
theorem dX2_countRow_71 : decode cX2_countRow 71 = .ok (.iaload, 1) := by decide +kernel
theorem dX2_countRow_72 : decode cX2_countRow 72 = .ok (.iadd, 1) := by decide +kernel
theorem dX2_countRow_73 : decode cX2_countRow 73 = .ok (.iastore, 1) := by decide +kernel
theorem dX2_countRow_74 : decode cX2_countRow 74 = .ok (.iinc 3 1, 3) := by decide +kernel
theorem dX2_countRow_77 : decode cX2_countRow 77 = .ok (.goto (-67), 3) := by decide +kernel
theorem dX2_countRow_80 : decode cX2_countRow 80 = .ok (.aload_n 0, 1) := by decide +kernel
theorem dX2_countRow_81 : decode cX2_countRow 81 = .ok (.getfield 18, 3) := by decide +kernel
theorem dX2_countRow_84 : decode cX2_countRow 84 = .ok (.iconst 0, 1) := by decide +kernel
theorem dX2_countRow_85 : decode cX2_countRow 85 = .ok (.aload_n 0, 1) := by decide +kernel
theorem dX2_countRow_86 : decode cX2_countRow 86 = .ok (.getfield 9, 3) := by decide +kernel
theorem dX2_countRow_89 : decode cX2_countRow 89 = .ok (.iconst 0, 1) := by decide +kernel
theorem dX2_countRow_90 : decode cX2_countRow 90 = .ok (.bipush 7, 2) := by decide +kernel
theorem dX2_countRow_92 : decode cX2_countRow 92 = .ok (.invokestatic 34, 3) := by decide +kernel
theorem dX2_countRow_95 : decode cX2_countRow 95 = .ok (.return_, 1) := by decide +kernel
theorem dX2_goAllWays_0 : decode cX2_goAllWays 0 = .ok (.aload_n 0, 1) := by decide +kernel
theorem dX2_goAllWays_1 : decode cX2_goAllWays 1 = .ok (.getfield 15, 3) := by decide +kernel
theorem dX2_goAllWays_4 : decode cX2_goAllWays 4 = .ok (.iconst 0, 1) := by decide +kernel
theorem dX2_goAllWays_5 : decode cX2_goAllWays 5 = .ok (.invokestatic 21, 3) := by decide +kernel
theorem dX2_goAllWays_8 : decode cX2_goAllWays 8 = .ok (.aload_n 1, 1) := by decide +kernel
theorem dX2_goAllWays_9 : decode cX2_goAllWays 9 = .ok (.iconst 0, 1) := by decide +kernel
theorem dX2_goAllWays_10 : decode cX2_goAllWays 10 = .ok (.iload_n 2, 1) := by decide +kernel
theorem dX2_goAllWays_11 : decode cX2_goAllWays 11 = .ok (.aload_n 0, 1) := by decide +kernel
theorem dX2_goAllWays_12 : decode cX2_goAllWays 12 = .ok (.getfield 15, 3) := by decide +kernel
theorem dX2_goAllWays_15 : decode cX2_goAllWays 15 = .ok (.invokestatic 40, 3) := by decide +kernel
theorem dX2_goAllWays_18 : decode cX2_goAllWays 18 = .ok (.return_, 1) := by decide +kernel
theorem dX2_goOn_0 : decode cX2_goOn 0 = .ok (.iload_n 1, 1) := by decide +kernel
theorem dX2_goOn_1 : decode cX2_goOn 1 = .ok (.bipush 8, 2) := by decide +kernel
theorem dX2_goOn_3 : decode cX2_goOn 3 = .ok (.if_icmp .lt 11, 3) := by decide +kernel
theorem dX2_goOn_6 : decode cX2_goOn 6 = .ok (.aload_n 3, 1) := by decide +kernel
theorem dX2_goOn_7 : decode cX2_goOn 7 = .ok (.iload_n 2, 1) := by decide +kernel
theorem dX2_goOn_8 : decode cX2_goOn 8 = .ok (.dup2, 1) := by decide +kernel
theorem dX2_goOn_9 : decode cX2_goOn 9 = .ok (.iaload, 1) := by decide +kernel
theorem dX2_goOn_10 : decode cX2_goOn 10 = .ok (.iconst 1, 1) := by decide +kernel
theorem dX2_goOn_11 : decode cX2_goOn 11 = .ok (.iadd, 1) := by decide +kernel
theorem dX2_goOn_12 : decode cX2_goOn 12 = .ok (.iastore, 1) := by decide +kernel
theorem dX2_goOn_13 : decode cX2_goOn 13 = .ok (.return_, 1) := by decide +kernel
theorem dX2_goOn_14 : decode cX2_goOn 14 = .ok (.aload_n 0, 1) := by decide +kernel
theorem dX2_goOn_15 : decode cX2_goOn 15 = .ok (.iload_n 1, 1) := by decide +kernel
theorem dX2_goOn_16 : decode cX2_goOn 16 = .ok (.bipush 7, 2) := by decide +kernel
theorem dX2_goOn_18 : decode cX2_goOn 18 = .ok (.imul, 1) := by decide +kernel
theorem dX2_goOn_19 : decode cX2_goOn 19 = .ok (.iload_n 2, 1) := by decide +kernel
theorem dX2_goOn_20 : decode cX2_goOn 20 = .ok (.iadd, 1) := by decide +kernel
theorem dX2_goOn_21 : decode cX2_goOn 21 = .ok (.iaload, 1) := by decide +kernel
theorem dX2_goOn_22 : decode cX2_goOn 22 = .ok (.istore 4, 2) := by decide +kernel
theorem dX2_goOn_24 : decode cX2_goOn 24 = .ok (.iload 4, 2) := by decide +kernel
theorem dX2_goOn_26 : decode cX2_goOn 26 = .ok (.ifCond .gt 16, 3) := by decide +kernel
theorem dX2_goOn_29 : decode cX2_goOn 29 = .ok (.aload_n 0, 1) := by decide +kernel
theorem dX2_goOn_30 : decode cX2_goOn 30 = .ok (.iload_n 1, 1) := by decide +kernel
theorem dX2_goOn_31 : decode cX2_goOn 31 = .ok (.iconst 1, 1) := by decide +kernel
theorem dX2_goOn_32 : decode cX2_goOn 32 = .ok (.iadd, 1) := by decide +kernel
theorem dX2_goOn_33 : decode cX2_goOn 33 = .ok (.iload_n 2, 1) := by decide +kernel
theorem dX2_goOn_34 : decode cX2_goOn 34 = .ok (.iconst (-1), 1) := by decide +kernel
theorem dX2_goOn_35 : decode cX2_goOn 35 = .ok (.invokestatic 30, 3) := by decide +kernel
theorem dX2_goOn_38 : decode cX2_goOn 38 = .ok (.aload_n 3, 1) := by decide +kernel
theorem dX2_goOn_39 : decode cX2_goOn 39 = .ok (.invokestatic 40, 3) := by decide +kernel
theorem dX2_goOn_42 : decode cX2_goOn 42 = .ok (.iload 4, 2) := by decide +kernel
theorem dX2_goOn_44 : decode cX2_goOn 44 = .ok (.ifCond .lt 16, 3) := by decide +kernel
theorem dX2_goOn_47 : decode cX2_goOn 47 = .ok (.aload_n 0, 1) := by decide +kernel
theorem dX2_goOn_48 : decode cX2_goOn 48 = .ok (.iload_n 1, 1) := by decide +kernel
theorem dX2_goOn_49 : decode cX2_goOn 49 = .ok (.iconst 1, 1) := by decide +kernel
theorem dX2_goOn_50 : decode cX2_goOn 50 = .ok (.iadd, 1) := by decide +kernel
theorem dX2_goOn_51 : decode cX2_goOn 51 = .ok (.iload_n 2, 1) := by decide +kernel
theorem dX2_goOn_52 : decode cX2_goOn 52 = .ok (.iconst 1, 1) := by decide +kernel
theorem dX2_goOn_53 : decode cX2_goOn 53 = .ok (.invokestatic 30, 3) := by decide +kernel
theorem dX2_goOn_56 : decode cX2_goOn 56 = .ok (.aload_n 3, 1) := by decide +kernel
theorem dX2_goOn_57 : decode cX2_goOn 57 = .ok (.invokestatic 40, 3) := by decide +kernel
theorem dX2_goOn_60 : decode cX2_goOn 60 = .ok (.return_, 1) := by decide +kernel
theorem dX3_init_0 : decode cX3_init 0 = .ok (.aload_n 0, 1) := by decide +kernel
theorem dX3_init_1 : decode cX3_init 1 = .ok (.invokespecial 3, 3) := by decide +kernel
theorem dX3_init_4 : decode cX3_init 4 = .ok (.aload_n 0, 1) := by decide +kernel
theorem dX3_init_5 : decode cX3_init 5 = .ok (.bipush 60, 2) := by decide +kernel
theorem dX3_init_7 : decode cX3_init 7 = .ok (.newarray .int, 2) := by decide +kernel
theorem dX3_init_9 : decode cX3_init 9 = .ok (.putfield 9, 3) := by decide +kernel
theorem dX3_init_12 : decode cX3_init 12 = .ok (.aload_n 0, 1) := by decide +kernel
theorem dX3_init_13 : decode cX3_init 13 = .ok (.iconst 0, 1) := by decide +kernel
theorem dX3_init_14 : decode cX3_init 14 = .ok (.putfield 15, 3) := by decide +kernel
theorem dX3_init_17 : decode cX3_init 17 = .ok (.return_, 1) := by decide +kernel
theorem dX4_init_0 : decode cX4_init 0 = .ok (.aload_n 0, 1) := by decide +kernel
theorem dX4_init_1 : decode cX4_init 1 = .ok (.invokespecial 3, 3) := by decide +kernel
theorem dX4_init_4 : decode cX4_init 4 = .ok (.aload_n 0, 1) := by decide +kernel
theorem dX4_init_5 : decode cX4_init 5 = .ok (.new 9, 3) := by decide +kernel
theorem dX4_init_8 : decode cX4_init 8 = .ok (.dup, 1) := by decide +kernel
theorem dX4_init_9 : decode cX4_init 9 = .ok (.invokespecial 11, 3) := by decide +kernel
theorem dX4_init_12 : decode cX4_init 12 = .ok (.putfield 12, 3) := by decide +kernel
theorem dX4_init_15 : decode cX4_init 15 = .ok (.aload_n 0, 1) := by decide +kernel
theorem dX4_init_16 : decode cX4_init 16 = .ok (.new 9, 3) := by decide +kernel
theorem dX4_init_19 : decode cX4_init 19 = .ok (.dup, 1) := by decide +kernel
theorem dX4_init_20 : decode cX4_init 20 = .ok (.invokespecial 11, 3) := by decide +kernel
theorem dX4_init_23 : decode cX4_init 23 = .ok (.putfield 16, 3) := by decide +kernel
theorem dX4_init_26 : decode cX4_init 26 = .ok (.aload_n 0, 1) := by decide +kernel
theorem dX4_init_27 : decode cX4_init 27 = .ok (.new 19, 3) := by decide +kernel
theorem dX4_init_30 : decode cX4_init 30 = .ok (.dup, 1) := by decide +kernel
theorem dX4_init_31 : decode cX4_init 31 = .ok (.invokespecial 21, 3) := by decide +kernel
theorem dX4_init_34 : decode cX4_init 34 = .ok (.putfield 22, 3) := by decide +kernel
theorem dX4_init_37 : decode cX4_init 37 = .ok (.aload_n 0, 1) := by decide +kernel
theorem dX4_init_38 : decode cX4_init 38 = .ok (.new 26, 3) := by decide +kernel
theorem dX4_init_41 : decode cX4_init 41 = .ok (.dup, 1) := by decide +kernel
theorem dX4_init_42 : decode cX4_init 42 = .ok (.invokespecial 28, 3) := by decide +kernel
theorem dX4_init_45 : decode cX4_init 45 = .ok (.putfield 29, 3) := by decide +kernel
theorem dX4_init_48 : decode cX4_init 48 = .ok (.aload_n 0, 1) := by decide +kernel
theorem dX4_init_49 : decode cX4_init 49 = .ok (.new 33, 3) := by decide +kernel
theorem dX4_init_52 : decode cX4_init 52 = .ok (.dup, 1) := by decide +kernel
theorem dX4_init_53 : decode cX4_init 53 = .ok (.invokespecial 35, 3) := by decide +kernel
theorem dX4_init_56 : decode cX4_init 56 = .ok (.putfield 36, 3) := by decide +kernel
theorem dX4_init_59 : decode cX4_init 59 = .ok (.aload_n 0, 1) := by decide +kernel
theorem dX4_init_60 : decode cX4_init 60 = .ok (.aconst_null, 1) := by decide +kernel
theorem dX4_init_61 : decode cX4_init 61 = .ok (.putfield 40, 3) := by decide +kernel
theorem dX4_init_64 : decode cX4_init 64 = .ok (.return_, 1) := by decide +kernel
theorem dX4_bend_0 : decode cX4_bend 0 = .ok (.iload_n 1, 1) := by decide +kernel
theorem dX4_bend_1 : decode cX4_bend 1 = .ok (.bipush 8, 2) := by decide +kernel
theorem dX4_bend_3 : decode cX4_bend 3 = .ok (.invokestatic 43, 3) := by decide +kernel
theorem dX4_bend_6 : decode cX4_bend 6 = .ok (.iload_n 2, 1) := by decide +kernel
theorem dX4_bend_7 : decode cX4_bend 7 = .ok (.bipush 7, 2) := by decide +kernel
theorem dX4_bend_9 : decode cX4_bend 9 = .ok (.invokestatic 43, 3) := by decide +kernel
theorem dX4_bend_12 : decode cX4_bend 12 = .ok (.iload_n 3, 1) := by decide +kernel
theorem dX4_bend_13 : decode cX4_bend 13 = .ok (.iconst (-1), 1) := by decide +kernel
theorem dX4_bend_14 : decode cX4_bend 14 = .ok (.iconst 1, 1) := by decide +kernel
theorem dX4_bend_15 : decode cX4_bend 15 = .ok (.invokestatic 47, 3) := by decide +kernel
theorem dX4_bend_18 : decode cX4_bend 18 = .ok (.aload_n 0, 1) := by decide +kernel
theorem dX4_bend_19 : decode cX4_bend 19 = .ok (.getfield 22, 3) := by decide +kernel
theorem dX4_bend_22 : decode cX4_bend 22 = .ok (.aload_n 0, 1) := by decide +kernel
theorem dX4_bend_23 : decode cX4_bend 23 = .ok (.getfield 12, 3) := by decide +kernel
theorem dX4_bend_26 : decode cX4_bend 26 = .ok (.invokevirtual 51, 3) := by decide +kernel
theorem dX4_bend_29 : decode cX4_bend 29 = .ok (.aload_n 0, 1) := by decide +kernel
theorem dX4_bend_30 : decode cX4_bend 30 = .ok (.getfield 12, 3) := by decide +kernel
theorem dX4_bend_33 : decode cX4_bend 33 = .ok (.iload_n 1, 1) := by decide +kernel
theorem dX4_bend_34 : decode cX4_bend 34 = .ok (.bipush 7, 2) := by decide +kernel
theorem dX4_bend_36 : decode cX4_bend 36 = .ok (.imul, 1) := by decide +kernel
theorem dX4_bend_37 : decode cX4_bend 37 = .ok (.iload_n 2, 1) := by decide +kernel
theorem dX4_bend_38 : decode cX4_bend 38 = .ok (.iadd, 1) := by decide +kernel
theorem dX4_bend_39 : decode cX4_bend 39 = .ok (.iload_n 3, 1) := by decide +kernel
theorem dX4_bend_40 : decode cX4_bend 40 = .ok (.invokevirtual 55, 3) := by decide +kernel
theorem dX4_bend_43 : decode cX4_bend 43 = .ok (.iconst 1, 1) := by decide +kernel
theorem dX4_bend_44 : decode cX4_bend 44 = .ok (.iadd, 1) := by decide +kernel
theorem dX4_bend_45 : decode cX4_bend 45 = .ok (.ireturn, 1) := by decide +kernel
theorem dX4_pocket_0 : decode cX4_pocket 0 = .ok (.iload_n 1, 1) := by decide +kernel
theorem dX4_pocket_1 : decode cX4_pocket 1 = .ok (.bipush 7, 2) := by decide +kernel
theorem dX4_pocket_3 : decode cX4_pocket 3 = .ok (.invokestatic 43, 3) := by decide +kernel
theorem dX4_pocket_6 : decode cX4_pocket 6 = .ok (.iload_n 2, 1) := by decide +kernel
theorem dX4_pocket_7 : decode cX4_pocket 7 = .ok (.iconst 0, 1) := by decide +kernel
theorem dX4_pocket_8 : decode cX4_pocket 8 = .ok (.iconst 2, 1) := by decide +kernel
theorem dX4_pocket_9 : decode cX4_pocket 9 = .ok (.invokestatic 47, 3) := by decide +kernel
theorem dX4_pocket_12 : decode cX4_pocket 12 = .ok (.iload_n 3, 1) := by decide +kernel
theorem dX4_pocket_13 : decode cX4_pocket 13 = .ok (.iconst 0, 1) := by decide +kernel
theorem dX4_pocket_14 : decode cX4_pocket 14 = .ok (.bipush 15, 2) := by decide +kernel
theorem dX4_pocket_16 : decode cX4_pocket 16 = .ok (.invokestatic 47, 3) := by decide +kernel
theorem dX4_pocket_19 : decode cX4_pocket 19 = .ok (.aload_n 0, 1) := by decide +kernel
theorem dX4_pocket_20 : decode cX4_pocket 20 = .ok (.getfield 22, 3) := by decide +kernel
theorem dX4_pocket_23 : decode cX4_pocket 23 = .ok (.aload_n 0, 1) := by decide +kernel
theorem dX4_pocket_24 : decode cX4_pocket 24 = .ok (.getfield 12, 3) := by decide +kernel
theorem dX4_pocket_27 : decode cX4_pocket 27 = .ok (.invokevirtual 51, 3) := by decide +kernel
theorem dX4_pocket_30 : decode cX4_pocket 30 = .ok (.aload_n 0, 1) := by decide +kernel
theorem dX4_pocket_31 : decode cX4_pocket 31 = .ok (.getfield 12, 3) := by decide +kernel
theorem dX4_pocket_34 : decode cX4_pocket 34 = .ok (.iload_n 1, 1) := by decide +kernel
theorem dX4_pocket_35 : decode cX4_pocket 35 = .ok (.iload_n 2, 1) := by decide +kernel
theorem dX4_pocket_36 : decode cX4_pocket 36 = .ok (.iload_n 3, 1) := by decide +kernel
theorem dX4_pocket_37 : decode cX4_pocket 37 = .ok (.invokevirtual 59, 3) := by decide +kernel
theorem dX4_pocket_40 : decode cX4_pocket 40 = .ok (.ireturn, 1) := by decide +kernel
theorem dX4_start_0 : decode cX4_start 0 = .ok (.iload_n 1, 1) := by decide +kernel
theorem dX4_start_1 : decode cX4_start 1 = .ok (.bipush 7, 2) := by decide +kernel
theorem dX4_start_3 : decode cX4_start 3 = .ok (.invokestatic 43, 3) := by decide +kernel
theorem dX4_start_6 : decode cX4_start 6 = .ok (.aload_n 0, 1) := by decide +kernel
theorem dX4_start_7 : decode cX4_start 7 = .ok (.getfield 22, 3) := by decide +kernel
theorem dX4_start_10 : decode cX4_start 10 = .ok (.aload_n 0, 1) := by decide +kernel
theorem dX4_start_11 : decode cX4_start 11 = .ok (.getfield 12, 3) := by decide +kernel
theorem dX4_start_14 : decode cX4_start 14 = .ok (.invokevirtual 51, 3) := by decide +kernel
theorem dX4_start_17 : decode cX4_start 17 = .ok (.aload_n 0, 1) := by decide +kernel
theorem dX4_start_18 : decode cX4_start 18 = .ok (.getfield 12, 3) := by decide +kernel
theorem dX4_start_21 : decode cX4_start 21 = .ok (.bipush 12, 2) := by decide +kernel
theorem dX4_start_23 : decode cX4_start 23 = .ok (.iload_n 1, 1) := by decide +kernel
theorem dX4_start_24 : decode cX4_start 24 = .ok (.invokevirtual 63, 3) := by decide +kernel
theorem dX4_start_27 : decode cX4_start 27 = .ok (.ireturn, 1) := by decide +kernel
theorem dX4_set_0 : decode cX4_set 0 = .ok (.iload_n 1, 1) := by decide +kernel
theorem dX4_set_1 : decode cX4_set 1 = .ok (.iconst 2, 1) := by decide +kernel
theorem dX4_set_2 : decode cX4_set 2 = .ok (.invokestatic 43, 3) := by decide +kernel
theorem dX4_set_5 : decode cX4_set 5 = .ok (.iload_n 1, 1) := by decide +kernel
theorem dX4_set_6 : decode cX4_set 6 = .ok (.ifCond .ne 13, 3) := by decide +kernel
theorem dX4_set_9 : decode cX4_set 9 = .ok (.iload_n 2, 1) := by decide +kernel
theorem dX4_set_10 : decode cX4_set 10 = .ok (.iconst 1, 1) := by decide +kernel
theorem dX4_set_11 : decode cX4_set 11 = .ok (.bipush 10, 2) := by decide +kernel
theorem dX4_set_13 : decode cX4_set 13 = .ok (.invokestatic 47, 3) := by decide +kernel
theorem dX4_set_16 : decode cX4_set 16 = .ok (.goto 10, 3) := by decide +kernel
theorem dX4_set_19 : decode cX4_set 19 = .ok (.iload_n 2, 1) := by decide +kernel
theorem dX4_set_20 : decode cX4_set 20 = .ok (.iconst 0, 1) := by decide +kernel
theorem dX4_set_21 : decode cX4_set 21 = .ok (.bipush 20, 2) := by decide +kernel
theorem dX4_set_23 : decode cX4_set 23 = .ok (.invokestatic 47, 3) := by decide +kernel
theorem dX4_set_26 : decode cX4_set 26 = .ok (.aload_n 0, 1) := by decide +kernel
theorem dX4_set_27 : decode cX4_set 27 = .ok (.getfield 22, 3) := by decide +kernel
theorem dX4_set_30 : decode cX4_set 30 = .ok (.aload_n 0, 1) := by decide +kernel
theorem dX4_set_31 : decode cX4_set 31 = .ok (.getfield 12, 3) := by decide +kernel
theorem dX4_set_34 : decode cX4_set 34 = .ok (.invokevirtual 51, 3) := by decide +kernel
theorem dX4_set_37 : decode cX4_set 37 = .ok (.aload_n 0, 1) := by decide +kernel
theorem dX4_set_38 : decode cX4_set 38 = .ok (.getfield 12, 3) := by decide +kernel
theorem dX4_set_41 : decode cX4_set 41 = .ok (.bipush 14, 2) := by decide +kernel
theorem dX4_set_43 : decode cX4_set 43 = .ok (.iload_n 1, 1) := by decide +kernel
theorem dX4_set_44 : decode cX4_set 44 = .ok (.iadd, 1) := by decide +kernel
theorem dX4_set_45 : decode cX4_set 45 = .ok (.iload_n 2, 1) := by decide +kernel
theorem dX4_set_46 : decode cX4_set 46 = .ok (.invokevirtual 63, 3) := by decide +kernel
theorem dX4_set_49 : decode cX4_set 49 = .ok (.ireturn, 1) := by decide +kernel
theorem dX4_shuffle_0 : decode cX4_shuffle 0 = .ok (.iload_n 1, 1) := by decide +kernel
theorem dX4_shuffle_1 : decode cX4_shuffle 1 = .ok (.iconst 0, 1) := by decide +kernel
theorem dX4_shuffle_2 : decode cX4_shuffle 2 = .ok (.ldc 66, 2) := by decide +kernel
theorem dX4_shuffle_4 : decode cX4_shuffle 4 = .ok (.invokestatic 47, 3) := by decide +kernel
theorem dX4_shuffle_7 : decode cX4_shuffle 7 = .ok (.aload_n 0, 1) := by decide +kernel
theorem dX4_shuffle_8 : decode cX4_shuffle 8 = .ok (.getfield 22, 3) := by decide +kernel
theorem dX4_shuffle_11 : decode cX4_shuffle 11 = .ok (.aload_n 0, 1) := by decide +kernel
theorem dX4_shuffle_12 : decode cX4_shuffle 12 = .ok (.getfield 12, 3) := by decide +kernel
theorem dX4_shuffle_15 : decode cX4_shuffle 15 = .ok (.invokevirtual 51, 3) := by decide +kernel
theorem dX4_shuffle_18 : decode cX4_shuffle 18 = .ok (.aload_n 0, 1) := by decide +kernel
theorem dX4_shuffle_19 : decode cX4_shuffle 19 = .ok (.getfield 12, 3) := by decide +kernel
theorem dX4_shuffle_22 : decode cX4_shuffle 22 = .ok (.bipush 13, 2) := by decide +kernel
theorem dX4_shuffle_24 : decode cX4_shuffle 24 = .ok (.iload_n 1, 1) := by decide +kernel
theorem dX4_shuffle_25 : decode cX4_shuffle 25 = .ok (.invokevirtual 63, 3) := by decide +kernel
theorem dX4_shuffle_28 : decode cX4_shuffle 28 = .ok (.ireturn, 1) := by decide +kernel
theorem dX4_buy_0 : decode cX4_buy 0 = .ok (.iload_n 1, 1) := by decide +kernel
theorem dX4_buy_1 : decode cX4_buy 1 = .ok (.iconst 1, 1) := by decide +kernel
theorem dX4_buy_2 : decode cX4_buy 2 = .ok (.bipush 99, 2) := by decide +kernel
theorem dX4_buy_4 : decode cX4_buy 4 = .ok (.invokestatic 47, 3) := by decide +kernel
theorem dX4_buy_7 : decode cX4_buy 7 = .ok (.aload_n 0, 1) := by decide +kernel
theorem dX4_buy_8 : decode cX4_buy 8 = .ok (.getfield 22, 3) := by decide +kernel
theorem dX4_buy_11 : decode cX4_buy 11 = .ok (.aload_n 0, 1) := by decide +kernel
theorem dX4_buy_12 : decode cX4_buy 12 = .ok (.getfield 12, 3) := by decide +kernel
theorem dX4_buy_15 : decode cX4_buy 15 = .ok (.invokevirtual 51, 3) := by decide +kernel
theorem dX4_buy_18 : decode cX4_buy 18 = .ok (.aload_n 0, 1) := by decide +kernel
theorem dX4_buy_19 : decode cX4_buy 19 = .ok (.getfield 12, 3) := by decide +kernel
theorem dX4_buy_22 : decode cX4_buy 22 = .ok (.iload_n 1, 1) := by decide +kernel
theorem dX4_buy_23 : decode cX4_buy 23 = .ok (.invokevirtual 67, 3) := by decide +kernel
theorem dX4_buy_26 : decode cX4_buy 26 = .ok (.aload_n 0, 1) := by decide +kernel
theorem dX4_buy_27 : decode cX4_buy 27 = .ok (.getfield 12, 3) := by decide +kernel
theorem dX4_buy_30 : decode cX4_buy 30 = .ok (.getfield 71, 3) := by decide +kernel
theorem dX4_buy_33 : decode cX4_buy 33 = .ok (.iconst 0, 1) := by decide +kernel
theorem dX4_buy_34 : decode cX4_buy 34 = .ok (.iaload, 1) := by decide +kernel
theorem dX4_buy_35 : decode cX4_buy 35 = .ok (.ireturn, 1) := by decide +kernel
theorem dX4_launch_0 : decode cX4_launch 0 = .ok (.iload_n 1, 1) := by decide +kernel
theorem dX4_launch_1 : decode cX4_launch 1 = .ok (.bipush 7, 2) := by decide +kernel
theorem dX4_launch_3 : decode cX4_launch 3 = .ok (.invokestatic 43, 3) := by decide +kernel
theorem dX4_launch_6 : decode cX4_launch 6 = .ok (.aload_n 0, 1) := by decide +kernel
theorem dX4_launch_7 : decode cX4_launch 7 = .ok (.getfield 12, 3) := by decide +kernel
theorem dX4_launch_10 : decode cX4_launch 10 = .ok (.getfield 71, 3) := by decide +kernel
theorem dX4_launch_13 : decode cX4_launch 13 = .ok (.iconst 0, 1) := by decide +kernel
theorem dX4_launch_14 : decode cX4_launch 14 = .ok (.iaload, 1) := by decide +kernel
theorem dX4_launch_15 : decode cX4_launch 15 = .ok (.ifCond .ne 13, 3) := by decide +kernel
theorem dX4_launch_18 : decode cX4_launch 18 = .ok (.new 75, 3) := by decide +kernel
theorem dX4_launch_21 : decode cX4_launch 21 = .ok (.dup, 1) := by decide +kernel
theorem dX4_launch_22 : decode cX4_launch 22 = .ok (.ldc 77, 2) := by decide +kernel
theorem dX4_launch_24 : decode cX4_launch 24 = .ok (.invokespecial 79, 3) := by decide +kernel
theorem dX4_launch_27 : decode cX4_launch 27 = .ok (.athrow, 1) := by decide +kernel
theorem dX4_launch_28 : decode cX4_launch 28 = .ok (.aload_n 0, 1) := by decide +kernel
theorem dX4_launch_29 : decode cX4_launch 29 = .ok (.getfield 22, 3) := by decide +kernel
theorem dX4_launch_32 : decode cX4_launch 32 = .ok (.aload_n 0, 1) := by decide +kernel
theorem dX4_launch_33 : decode cX4_launch 33 = .ok (.getfield 12, 3) := by decide +kernel
theorem dX4_launch_36 : decode cX4_launch 36 = .ok (.invokevirtual 51, 3) := by decide +kernel
theorem dX4_launch_39 : decode cX4_launch 39 = .ok (.aload_n 0, 1) := by decide +kernel
theorem dX4_launch_40 : decode cX4_launch 40 = .ok (.getfield 12, 3) := by decide +kernel
theorem dX4_launch_43 : decode cX4_launch 43 = .ok (.iload_n 1, 1) := by decide +kernel
theorem dX4_launch_44 : decode cX4_launch 44 = .ok (.invokevirtual 82, 3) := by decide +kernel
theorem dX4_launch_47 : decode cX4_launch 47 = .ok (.pop, 1) := by decide +kernel
theorem dX4_launch_48 : decode cX4_launch 48 = .ok (.aload_n 0, 1) := by decide +kernel
theorem dX4_launch_49 : decode cX4_launch 49 = .ok (.getfield 12, 3) := by decide +kernel
theorem dX4_launch_52 : decode cX4_launch 52 = .ok (.getfield 71, 3) := by decide +kernel
theorem dX4_launch_55 : decode cX4_launch 55 = .ok (.bipush 11, 2) := by decide +kernel
theorem dX4_launch_57 : decode cX4_launch 57 = .ok (.iaload, 1) := by decide +kernel
theorem dX4_launch_58 : decode cX4_launch 58 = .ok (.ireturn, 1) := by decide +kernel
theorem dX4_play_0 : decode cX4_play 0 = .ok (.iload_n 1, 1) := by decide +kernel
theorem dX4_play_1 : decode cX4_play 1 = .ok (.bipush 7, 2) := by decide +kernel
theorem dX4_play_3 : decode cX4_play 3 = .ok (.invokestatic 43, 3) := by decide +kernel
theorem dX4_play_6 : decode cX4_play 6 = .ok (.iload_n 2, 1) := by decide +kernel
theorem dX4_play_7 : decode cX4_play 7 = .ok (.iconst 1, 1) := by decide +kernel
theorem dX4_play_8 : decode cX4_play 8 = .ok (.bipush 30, 2) := by decide +kernel
theorem dX4_play_10 : decode cX4_play 10 = .ok (.invokestatic 47, 3) := by decide +kernel
theorem dX4_play_13 : decode cX4_play 13 = .ok (.aload_n 0, 1) := by decide +kernel
theorem dX4_play_14 : decode cX4_play 14 = .ok (.getfield 22, 3) := by decide +kernel
theorem dX4_play_17 : decode cX4_play 17 = .ok (.aload_n 0, 1) := by decide +kernel
theorem dX4_play_18 : decode cX4_play 18 = .ok (.getfield 12, 3) := by decide +kernel
theorem dX4_play_21 : decode cX4_play 21 = .ok (.invokevirtual 51, 3) := by decide +kernel
theorem dX4_play_24 : decode cX4_play 24 = .ok (.aload_n 0, 1) := by decide +kernel
theorem dX4_play_25 : decode cX4_play 25 = .ok (.getfield 12, 3) := by decide +kernel
theorem dX4_play_28 : decode cX4_play 28 = .ok (.iload_n 1, 1) := by decide +kernel
theorem dX4_play_29 : decode cX4_play 29 = .ok (.iload_n 2, 1) := by decide +kernel
theorem dX4_play_30 : decode cX4_play 30 = .ok (.invokevirtual 86, 3) := by decide +kernel
theorem dX4_play_33 : decode cX4_play 33 = .ok (.ireturn, 1) := by decide +kernel
theorem dX4_undo_0 : decode cX4_undo 0 = .ok (.aload_n 0, 1) := by decide +kernel
theorem dX4_undo_1 : decode cX4_undo 1 = .ok (.getfield 22, 3) := by decide +kernel
theorem dX4_undo_4 : decode cX4_undo 4 = .ok (.aload_n 0, 1) := by decide +kernel
theorem dX4_undo_5 : decode cX4_undo 5 = .ok (.getfield 12, 3) := by decide +kernel
theorem dX4_undo_8 : decode cX4_undo 8 = .ok (.invokevirtual 121, 3) := by decide +kernel
theorem dX4_undo_11 : decode cX4_undo 11 = .ok (.ifCond .ne 13, 3) := by decide +kernel
theorem dX4_undo_14 : decode cX4_undo 14 = .ok (.new 75, 3) := by decide +kernel
theorem dX4_undo_17 : decode cX4_undo 17 = .ok (.dup, 1) := by decide +kernel
theorem dX4_undo_18 : decode cX4_undo 18 = .ok (.ldc 125, 2) := by decide +kernel
theorem dX4_undo_20 : decode cX4_undo 20 = .ok (.invokespecial 79, 3) := by decide +kernel
theorem dX4_undo_23 : decode cX4_undo 23 = .ok (.athrow, 1) := by decide +kernel
theorem dX4_undo_24 : decode cX4_undo 24 = .ok (.aload_n 0, 1) := by decide +kernel
theorem dX4_undo_25 : decode cX4_undo 25 = .ok (.getfield 22, 3) := by decide +kernel
theorem dX4_undo_28 : decode cX4_undo 28 = .ok (.getfield 127, 3) := by decide +kernel
theorem dX4_undo_31 : decode cX4_undo 31 = .ok (.ireturn, 1) := by decide +kernel
theorem dX4_restore_0 : decode cX4_restore 0 = .ok (.aload_n 0, 1) := by decide +kernel
theorem dX4_restore_1 : decode cX4_restore 1 = .ok (.getfield 40, 3) := by decide +kernel
theorem dX4_restore_4 : decode cX4_restore 4 = .ok (.ifnonnull 13, 3) := by decide +kernel
theorem dX4_restore_7 : decode cX4_restore 7 = .ok (.new 75, 3) := by decide +kernel
theorem dX4_restore_10 : decode cX4_restore 10 = .ok (.dup, 1) := by decide +kernel
theorem dX4_restore_11 : decode cX4_restore 11 = .ok (.ldc 133, 2) := by decide +kernel
theorem dX4_restore_13 : decode cX4_restore 13 = .ok (.invokespecial 79, 3) := by decide +kernel
theorem dX4_restore_16 : decode cX4_restore 16 = .ok (.athrow, 1) := by decide +kernel
theorem dX4_restore_17 : decode cX4_restore 17 = .ok (.aload_n 0, 1) := by decide +kernel
theorem dX4_restore_18 : decode cX4_restore 18 = .ok (.getfield 22, 3) := by decide +kernel
theorem dX4_restore_21 : decode cX4_restore 21 = .ok (.aload_n 0, 1) := by decide +kernel
theorem dX4_restore_22 : decode cX4_restore 22 = .ok (.getfield 12, 3) := by decide +kernel
theorem dX4_restore_25 : decode cX4_restore 25 = .ok (.invokevirtual 51, 3) := by decide +kernel
theorem dX4_restore_28 : decode cX4_restore 28 = .ok (.aload_n 0, 1) := by decide +kernel
theorem dX4_restore_29 : decode cX4_restore 29 = .ok (.getfield 12, 3) := by decide +kernel
theorem dX4_restore_32 : decode cX4_restore 32 = .ok (.aload_n 0, 1) := by decide +kernel
theorem dX4_restore_33 : decode cX4_restore 33 = .ok (.getfield 40, 3) := by decide +kernel
theorem dX4_restore_36 : decode cX4_restore 36 = .ok (.invokevirtual 130, 3) := by decide +kernel
theorem dX4_restore_39 : decode cX4_restore 39 = .ok (.aload_n 0, 1) := by decide +kernel
theorem dX4_restore_40 : decode cX4_restore 40 = .ok (.getfield 12, 3) := by decide +kernel
theorem dX4_restore_43 : decode cX4_restore 43 = .ok (.getfield 71, 3) := by decide +kernel
theorem dX4_restore_46 : decode cX4_restore 46 = .ok (.iconst 0, 1) := by decide +kernel
theorem dX4_restore_47 : decode cX4_restore 47 = .ok (.iaload, 1) := by decide +kernel
theorem dX4_restore_48 : decode cX4_restore 48 = .ok (.ireturn, 1) := by decide +kernel
theorem dX4_pin_0 : decode cX4_pin 0 = .ok (.iload_n 1, 1) := by decide +kernel
theorem dX4_pin_1 : decode cX4_pin 1 = .ok (.bipush 8, 2) := by decide +kernel
theorem dX4_pin_3 : decode cX4_pin 3 = .ok (.invokestatic 43, 3) := by decide +kernel
theorem dX4_pin_6 : decode cX4_pin 6 = .ok (.iload_n 2, 1) := by decide +kernel
theorem dX4_pin_7 : decode cX4_pin 7 = .ok (.bipush 7, 2) := by decide +kernel
theorem dX4_pin_9 : decode cX4_pin 9 = .ok (.invokestatic 43, 3) := by decide +kernel
theorem dX4_pin_12 : decode cX4_pin 12 = .ok (.aload_n 0, 1) := by decide +kernel
theorem dX4_pin_13 : decode cX4_pin 13 = .ok (.getfield 12, 3) := by decide +kernel
theorem dX4_pin_16 : decode cX4_pin 16 = .ok (.getfield 135, 3) := by decide +kernel
theorem dX4_pin_19 : decode cX4_pin 19 = .ok (.iload_n 1, 1) := by decide +kernel
theorem dX4_pin_20 : decode cX4_pin 20 = .ok (.bipush 7, 2) := by decide +kernel
theorem dX4_pin_22 : decode cX4_pin 22 = .ok (.imul, 1) := by decide +kernel
theorem dX4_pin_23 : decode cX4_pin 23 = .ok (.iload_n 2, 1) := by decide +kernel
theorem dX4_pin_24 : decode cX4_pin 24 = .ok (.iadd, 1) := by decide +kernel
theorem dX4_pin_25 : decode cX4_pin 25 = .ok (.iaload, 1) := by decide +kernel
theorem dX4_pin_26 : decode cX4_pin 26 = .ok (.iconst 1, 1) := by decide +kernel
theorem dX4_pin_27 : decode cX4_pin 27 = .ok (.iadd, 1) := by decide +kernel
theorem dX4_pin_28 : decode cX4_pin 28 = .ok (.ireturn, 1) := by decide +kernel
theorem dX4_touched_0 : decode cX4_touched 0 = .ok (.iload_n 1, 1) := by decide +kernel
theorem dX4_touched_1 : decode cX4_touched 1 = .ok (.iconst 0, 1) := by decide +kernel
theorem dX4_touched_2 : decode cX4_touched 2 = .ok (.bipush 7, 2) := by decide +kernel
theorem dX4_touched_4 : decode cX4_touched 4 = .ok (.invokestatic 47, 3) := by decide +kernel
theorem dX4_touched_7 : decode cX4_touched 7 = .ok (.aload_n 0, 1) := by decide +kernel
theorem dX4_touched_8 : decode cX4_touched 8 = .ok (.getfield 12, 3) := by decide +kernel
theorem dX4_touched_11 : decode cX4_touched 11 = .ok (.getfield 141, 3) := by decide +kernel
theorem dX4_touched_14 : decode cX4_touched 14 = .ok (.iload_n 1, 1) := by decide +kernel
theorem dX4_touched_15 : decode cX4_touched 15 = .ok (.iaload, 1) := by decide +kernel
theorem dX4_touched_16 : decode cX4_touched 16 = .ok (.ireturn, 1) := by decide +kernel
theorem dX4_pocketOf_0 : decode cX4_pocketOf 0 = .ok (.iload_n 1, 1) := by decide +kernel
theorem dX4_pocketOf_1 : decode cX4_pocketOf 1 = .ok (.bipush 7, 2) := by decide +kernel
theorem dX4_pocketOf_3 : decode cX4_pocketOf 3 = .ok (.invokestatic 43, 3) := by decide +kernel
theorem dX4_pocketOf_6 : decode cX4_pocketOf 6 = .ok (.iload_n 2, 1) := by decide +kernel
theorem dX4_pocketOf_7 : decode cX4_pocketOf 7 = .ok (.iconst 0, 1) := by decide +kernel
theorem dX4_pocketOf_8 : decode cX4_pocketOf 8 = .ok (.iconst 4, 1) := by decide +kernel
theorem dX4_pocketOf_9 : decode cX4_pocketOf 9 = .ok (.invokestatic 47, 3) := by decide +kernel
theorem dX4_pocketOf_12 : decode cX4_pocketOf 12 = .ok (.aload_n 0, 1) := by decide +kernel
theorem dX4_pocketOf_13 : decode cX4_pocketOf 13 = .ok (.getfield 12, 3) := by decide +kernel
theorem dX4_pocketOf_16 : decode cX4_pocketOf 16 = .ok (.iload_n 1, 1) := by decide +kernel
theorem dX4_pocketOf_17 : decode cX4_pocketOf 17 = .ok (.iload_n 2, 1) := by decide +kernel
theorem dX4_pocketOf_18 : decode cX4_pocketOf 18 = .ok (.invokevirtual 144, 3) := by decide +kernel
theorem dX4_pocketOf_21 : decode cX4_pocketOf 21 = .ok (.ireturn, 1) := by decide +kernel
theorem dX4_reel_0 : decode cX4_reel 0 = .ok (.iload_n 1, 1) := by decide +kernel
theorem dX4_reel_1 : decode cX4_reel 1 = .ok (.iconst 3, 1) := by decide +kernel
theorem dX4_reel_2 : decode cX4_reel 2 = .ok (.invokestatic 43, 3) := by decide +kernel
theorem dX4_reel_5 : decode cX4_reel 5 = .ok (.aload_n 0, 1) := by decide +kernel
theorem dX4_reel_6 : decode cX4_reel 6 = .ok (.getfield 12, 3) := by decide +kernel
theorem dX4_reel_9 : decode cX4_reel 9 = .ok (.getfield 147, 3) := by decide +kernel
theorem dX4_reel_12 : decode cX4_reel 12 = .ok (.iload_n 1, 1) := by decide +kernel
theorem dX4_reel_13 : decode cX4_reel 13 = .ok (.iaload, 1) := by decide +kernel
theorem dX4_reel_14 : decode cX4_reel 14 = .ok (.ireturn, 1) := by decide +kernel
theorem dX4_count_0 : decode cX4_count 0 = .ok (.iload_n 1, 1) := by decide +kernel
theorem dX4_count_1 : decode cX4_count 1 = .ok (.iconst 0, 1) := by decide +kernel
theorem dX4_count_2 : decode cX4_count 2 = .ok (.bipush 17, 2) := by decide +kernel
theorem dX4_count_4 : decode cX4_count 4 = .ok (.invokestatic 47, 3) := by decide +kernel
theorem dX4_count_7 : decode cX4_count 7 = .ok (.iload_n 1, 1) := by decide +kernel
theorem dX4_count_8 : decode cX4_count 8 = .ok (.bipush 17, 2) := by decide +kernel
theorem dX4_count_10 : decode cX4_count 10 = .ok (.if_icmp .ne 13, 3) := by decide +kernel
theorem dX4_count_13 : decode cX4_count 13 = .ok (.aload_n 0, 1) := by decide +kernel
theorem dX4_count_14 : decode cX4_count 14 = .ok (.getfield 22, 3) := by decide +kernel
theorem dX4_count_17 : decode cX4_count 17 = .ok (.getfield 127, 3) := by decide +kernel
theorem dX4_count_20 : decode cX4_count 20 = .ok (.goto 12, 3) := by decide +kernel
theorem dX4_count_23 : decode cX4_count 23 = .ok (.aload_n 0, 1) := by decide +kernel
theorem dX4_count_24 : decode cX4_count 24 = .ok (.getfield 12, 3) := by decide +kernel
theorem dX4_count_27 : decode cX4_count 27 = .ok (.getfield 71, 3) := by decide +kernel
theorem dX4_count_30 : decode cX4_count 30 = .ok (.iload_n 1, 1) := by decide +kernel
theorem dX4_count_31 : decode cX4_count 31 = .ok (.iaload, 1) := by decide +kernel
theorem dX4_count_32 : decode cX4_count 32 = .ok (.ireturn, 1) := by decide +kernel
theorem dX4_ways_0 : decode cX4_ways 0 = .ok (.iload_n 1, 1) := by decide +kernel
theorem dX4_ways_1 : decode cX4_ways 1 = .ok (.bipush 7, 2) := by decide +kernel
theorem dX4_ways_3 : decode cX4_ways 3 = .ok (.invokestatic 43, 3) := by decide +kernel
theorem dX4_ways_6 : decode cX4_ways 6 = .ok (.iload_n 2, 1) := by decide +kernel
theorem dX4_ways_7 : decode cX4_ways 7 = .ok (.bipush 7, 2) := by decide +kernel
theorem dX4_ways_9 : decode cX4_ways 9 = .ok (.invokestatic 43, 3) := by decide +kernel
theorem dX4_ways_12 : decode cX4_ways 12 = .ok (.aload_n 0, 1) := by decide +kernel
theorem dX4_ways_13 : decode cX4_ways 13 = .ok (.getfield 36, 3) := by decide +kernel
theorem dX4_ways_16 : decode cX4_ways 16 = .ok (.aload_n 0, 1) := by decide +kernel
theorem dX4_ways_17 : decode cX4_ways 17 = .ok (.getfield 12, 3) := by decide +kernel
theorem dX4_ways_20 : decode cX4_ways 20 = .ok (.getfield 135, 3) := by decide +kernel
theorem dX4_ways_23 : decode cX4_ways 23 = .ok (.iload_n 1, 1) := by decide +kernel
theorem dX4_ways_24 : decode cX4_ways 24 = .ok (.invokevirtual 150, 3) := by decide +kernel
theorem dX4_ways_27 : decode cX4_ways 27 = .ok (.aload_n 0, 1) := by decide +kernel
theorem dX4_ways_28 : decode cX4_ways 28 = .ok (.getfield 36, 3) := by decide +kernel
theorem dX4_ways_31 : decode cX4_ways 31 = .ok (.getfield 154, 3) := by decide +kernel
theorem dX4_ways_34 : decode cX4_ways 34 = .ok (.iload_n 2, 1) := by decide +kernel
theorem dX4_ways_35 : decode cX4_ways 35 = .ok (.iaload, 1) := by decide +kernel
theorem dX4_ways_36 : decode cX4_ways 36 = .ok (.ireturn, 1) := by decide +kernel
theorem dX4_walked_0 : decode cX4_walked 0 = .ok (.iload_n 1, 1) := by decide +kernel
theorem dX4_walked_1 : decode cX4_walked 1 = .ok (.bipush 7, 2) := by decide +kernel
theorem dX4_walked_3 : decode cX4_walked 3 = .ok (.invokestatic 43, 3) := by decide +kernel
theorem dX4_walked_6 : decode cX4_walked 6 = .ok (.iload_n 2, 1) := by decide +kernel
theorem dX4_walked_7 : decode cX4_walked 7 = .ok (.bipush 7, 2) := by decide +kernel
theorem dX4_walked_9 : decode cX4_walked 9 = .ok (.invokestatic 43, 3) := by decide +kernel
theorem dX4_walked_12 : decode cX4_walked 12 = .ok (.aload_n 0, 1) := by decide +kernel
theorem dX4_walked_13 : decode cX4_walked 13 = .ok (.getfield 36, 3) := by decide +kernel
theorem dX4_walked_16 : decode cX4_walked 16 = .ok (.aload_n 0, 1) := by decide +kernel
theorem dX4_walked_17 : decode cX4_walked 17 = .ok (.getfield 12, 3) := by decide +kernel
theorem dX4_walked_20 : decode cX4_walked 20 = .ok (.getfield 135, 3) := by decide +kernel
theorem dX4_walked_23 : decode cX4_walked 23 = .ok (.iload_n 1, 1) := by decide +kernel
theorem dX4_walked_24 : decode cX4_walked 24 = .ok (.invokevirtual 157, 3) := by decide +kernel
theorem dX4_walked_27 : decode cX4_walked 27 = .ok (.aload_n 0, 1) := by decide +kernel
theorem dX4_walked_28 : decode cX4_walked 28 = .ok (.getfield 36, 3) := by decide +kernel
theorem dX4_walked_31 : decode cX4_walked 31 = .ok (.getfield 160, 3) := by decide +kernel
theorem dX4_walked_34 : decode cX4_walked 34 = .ok (.iload_n 2, 1) := by decide +kernel
theorem dX4_walked_35 : decode cX4_walked 35 = .ok (.iaload, 1) := by decide +kernel
theorem dX4_walked_36 : decode cX4_walked 36 = .ok (.ireturn, 1) := by decide +kernel
theorem dX4_ifLaunched_0 : decode cX4_ifLaunched 0 = .ok (.iload_n 1, 1) := by decide +kernel
theorem dX4_ifLaunched_1 : decode cX4_ifLaunched 1 = .ok (.bipush 7, 2) := by decide +kernel
theorem dX4_ifLaunched_3 : decode cX4_ifLaunched 3 = .ok (.invokestatic 43, 3) := by decide +kernel
theorem dX4_ifLaunched_6 : decode cX4_ifLaunched 6 = .ok (.iload_n 2, 1) := by decide +kernel
theorem dX4_ifLaunched_7 : decode cX4_ifLaunched 7 = .ok (.iconst 0, 1) := by decide +kernel
theorem dX4_ifLaunched_8 : decode cX4_ifLaunched 8 = .ok (.iconst 3, 1) := by decide +kernel
theorem dX4_ifLaunched_9 : decode cX4_ifLaunched 9 = .ok (.invokestatic 47, 3) := by decide +kernel
theorem dX4_ifLaunched_12 : decode cX4_ifLaunched 12 = .ok (.aload_n 0, 1) := by decide +kernel
theorem dX4_ifLaunched_13 : decode cX4_ifLaunched 13 = .ok (.iload_n 1, 1) := by decide +kernel
theorem dX4_ifLaunched_14 : decode cX4_ifLaunched 14 = .ok (.invokevirtual 163, 3) := by decide +kernel
theorem dX4_ifLaunched_17 : decode cX4_ifLaunched 17 = .ok (.aload_n 0, 1) := by decide +kernel
theorem dX4_ifLaunched_18 : decode cX4_ifLaunched 18 = .ok (.iload_n 2, 1) := by decide +kernel
theorem dX4_ifLaunched_19 : decode cX4_ifLaunched 19 = .ok (.invokevirtual 166, 3) := by decide +kernel
theorem dX4_ifLaunched_22 : decode cX4_ifLaunched 22 = .ok (.ireturn, 1) := by decide +kernel
theorem dX4_bestColumn_0 : decode cX4_bestColumn 0 = .ok (.iconst 0, 1) := by decide +kernel
theorem dX4_bestColumn_1 : decode cX4_bestColumn 1 = .ok (.istore_n 1, 1) := by decide +kernel
theorem dX4_bestColumn_2 : decode cX4_bestColumn 2 = .ok (.iconst (-1), 1) := by decide +kernel
theorem dX4_bestColumn_3 : decode cX4_bestColumn 3 = .ok (.istore_n 2, 1) := by decide +kernel
theorem dX4_bestColumn_4 : decode cX4_bestColumn 4 = .ok (.iconst 0, 1) := by decide +kernel
theorem dX4_bestColumn_5 : decode cX4_bestColumn 5 = .ok (.istore_n 3, 1) := by decide +kernel
theorem dX4_bestColumn_6 : decode cX4_bestColumn 6 = .ok (.iload_n 3, 1) := by decide +kernel
theorem dX4_bestColumn_7 : decode cX4_bestColumn 7 = .ok (.bipush 7, 2) := by decide +kernel
theorem dX4_bestColumn_9 : decode cX4_bestColumn 9 = .ok (.if_icmp .ge 27, 3) := by decide +kernel
theorem dX4_bestColumn_12 : decode cX4_bestColumn 12 = .ok (.aload_n 0, 1) := by decide +kernel
theorem dX4_bestColumn_13 : decode cX4_bestColumn 13 = .ok (.iload_n 3, 1) := by decide +kernel
theorem dX4_bestColumn_14 : decode cX4_bestColumn 14 = .ok (.invokevirtual 169, 3) := by decide +kernel
theorem dX4_bestColumn_17 : decode cX4_bestColumn 17 = .ok (.istore 4, 2) := by decide +kernel
theorem dX4_bestColumn_19 : decode cX4_bestColumn 19 = .ok (.iload 4, 2) := by decide +kernel
theorem dX4_bestColumn_21 : decode cX4_bestColumn 21 = .ok (.iload_n 2, 1) := by decide +kernel
theorem dX4_bestColumn_22 : decode cX4_bestColumn 22 = .ok (.if_icmp .le 8, 3) := by decide +kernel
theorem dX4_bestColumn_25 : decode cX4_bestColumn 25 = .ok (.iload_n 3, 1) := by decide +kernel
theorem dX4_bestColumn_26 : decode cX4_bestColumn 26 = .ok (.istore_n 1, 1) := by decide +kernel
theorem dX4_bestColumn_27 : decode cX4_bestColumn 27 = .ok (.iload 4, 2) := by decide +kernel
theorem dX4_bestColumn_29 : decode cX4_bestColumn 29 = .ok (.istore_n 2, 1) := by decide +kernel
theorem dX4_bestColumn_30 : decode cX4_bestColumn 30 = .ok (.iinc 3 1, 3) := by decide +kernel
theorem dX4_bestColumn_33 : decode cX4_bestColumn 33 = .ok (.goto (-27), 3) := by decide +kernel
theorem dX4_bestColumn_36 : decode cX4_bestColumn 36 = .ok (.iload_n 1, 1) := by decide +kernel
theorem dX4_bestColumn_37 : decode cX4_bestColumn 37 = .ok (.ireturn, 1) := by decide +kernel
theorem dX4_untilOpen_0 : decode cX4_untilOpen 0 = .ok (.iload_n 1, 1) := by decide +kernel
theorem dX4_untilOpen_1 : decode cX4_untilOpen 1 = .ok (.bipush 7, 2) := by decide +kernel
theorem dX4_untilOpen_3 : decode cX4_untilOpen 3 = .ok (.invokestatic 43, 3) := by decide +kernel
theorem dX4_untilOpen_6 : decode cX4_untilOpen 6 = .ok (.aload_n 0, 1) := by decide +kernel
theorem dX4_untilOpen_7 : decode cX4_untilOpen 7 = .ok (.iload_n 1, 1) := by decide +kernel
theorem dX4_untilOpen_8 : decode cX4_untilOpen 8 = .ok (.invokevirtual 172, 3) := by decide +kernel
theorem dX4_untilOpen_11 : decode cX4_untilOpen 11 = .ok (.ireturn, 1) := by decide +kernel
theorem dX4_payback_0 : decode cX4_payback 0 = .ok (.aload_n 0, 1) := by decide +kernel
theorem dX4_payback_1 : decode cX4_payback 1 = .ok (.getfield 12, 3) := by decide +kernel
theorem dX4_payback_4 : decode cX4_payback 4 = .ok (.getfield 71, 3) := by decide +kernel
theorem dX4_payback_7 : decode cX4_payback 7 = .ok (.iconst 2, 1) := by decide +kernel
theorem dX4_payback_8 : decode cX4_payback 8 = .ok (.iaload, 1) := by decide +kernel
theorem dX4_payback_9 : decode cX4_payback 9 = .ok (.istore_n 1, 1) := by decide +kernel
theorem dX4_payback_10 : decode cX4_payback 10 = .ok (.iload_n 1, 1) := by decide +kernel
theorem dX4_payback_11 : decode cX4_payback 11 = .ok (.ifCond .le 19, 3) := by decide +kernel
theorem dX4_payback_14 : decode cX4_payback 14 = .ok (.aload_n 0, 1) := by decide +kernel
theorem dX4_payback_15 : decode cX4_payback 15 = .ok (.getfield 12, 3) := by decide +kernel
theorem dX4_payback_18 : decode cX4_payback 18 = .ok (.getfield 71, 3) := by decide +kernel
theorem dX4_payback_21 : decode cX4_payback 21 = .ok (.iconst 3, 1) := by decide +kernel
theorem dX4_payback_22 : decode cX4_payback 22 = .ok (.iaload, 1) := by decide +kernel
theorem dX4_payback_23 : decode cX4_payback 23 = .ok (.i2d, 1) := by decide +kernel
theorem dX4_payback_24 : decode cX4_payback 24 = .ok (.iload_n 1, 1) := by decide +kernel
theorem dX4_payback_25 : decode cX4_payback 25 = .ok (.i2d, 1) := by decide +kernel
theorem dX4_payback_26 : decode cX4_payback 26 = .ok (.ddiv, 1) := by decide +kernel
theorem dX4_payback_27 : decode cX4_payback 27 = .ok (.goto 4, 3) := by decide +kernel
theorem dX4_payback_30 : decode cX4_payback 30 = .ok (.dconst 0, 1) := by decide +kernel
theorem dX4_payback_31 : decode cX4_payback 31 = .ok (.dreturn, 1) := by decide +kernel
theorem dX4_checkIndex_0 : decode cX4_checkIndex 0 = .ok (.iload_n 0, 1) := by decide +kernel
theorem dX4_checkIndex_1 : decode cX4_checkIndex 1 = .ok (.ifCond .lt 8, 3) := by decide +kernel
theorem dX4_checkIndex_4 : decode cX4_checkIndex 4 = .ok (.iload_n 0, 1) := by decide +kernel
theorem dX4_checkIndex_5 : decode cX4_checkIndex 5 = .ok (.iload_n 1, 1) := by decide +kernel
theorem dX4_checkIndex_6 : decode cX4_checkIndex 6 = .ok (.if_icmp .lt 13, 3) := by decide +kernel
theorem dX4_checkIndex_9 : decode cX4_checkIndex 9 = .ok (.new 207, 3) := by decide +kernel
theorem dX4_checkIndex_12 : decode cX4_checkIndex 12 = .ok (.dup, 1) := by decide +kernel
theorem dX4_checkIndex_13 : decode cX4_checkIndex 13 = .ok (.ldc 209, 2) := by decide +kernel
theorem dX4_checkIndex_15 : decode cX4_checkIndex 15 = .ok (.invokespecial 211, 3) := by decide +kernel
theorem dX4_checkIndex_18 : decode cX4_checkIndex 18 = .ok (.athrow, 1) := by decide +kernel
theorem dX4_checkIndex_19 : decode cX4_checkIndex 19 = .ok (.return_, 1) := by decide +kernel
theorem dX4_checkValue_0 : decode cX4_checkValue 0 = .ok (.iload_n 0, 1) := by decide +kernel
theorem dX4_checkValue_1 : decode cX4_checkValue 1 = .ok (.iload_n 1, 1) := by decide +kernel
theorem dX4_checkValue_2 : decode cX4_checkValue 2 = .ok (.if_icmp .lt 8, 3) := by decide +kernel
theorem dX4_checkValue_5 : decode cX4_checkValue 5 = .ok (.iload_n 0, 1) := by decide +kernel
theorem dX4_checkValue_6 : decode cX4_checkValue 6 = .ok (.iload_n 2, 1) := by decide +kernel
theorem dX4_checkValue_7 : decode cX4_checkValue 7 = .ok (.if_icmp .le 13, 3) := by decide +kernel
theorem dX4_checkValue_10 : decode cX4_checkValue 10 = .ok (.new 110, 3) := by decide +kernel
theorem dX4_checkValue_13 : decode cX4_checkValue 13 = .ok (.dup, 1) := by decide +kernel
theorem dX4_checkValue_14 : decode cX4_checkValue 14 = .ok (.ldc 212, 2) := by decide +kernel
theorem dX4_checkValue_16 : decode cX4_checkValue 16 = .ok (.invokespecial 114, 3) := by decide +kernel
theorem dX4_checkValue_19 : decode cX4_checkValue 19 = .ok (.athrow, 1) := by decide +kernel
theorem dX4_checkValue_20 : decode cX4_checkValue 20 = .ok (.return_, 1) := by decide +kernel
theorem dX4_tryLaunch_0 : decode cX4_tryLaunch 0 = .ok (.aload_n 0, 1) := by decide +kernel
theorem dX4_tryLaunch_1 : decode cX4_tryLaunch 1 = .ok (.getfield 16, 3) := by decide +kernel
theorem dX4_tryLaunch_4 : decode cX4_tryLaunch 4 = .ok (.aload_n 0, 1) := by decide +kernel
theorem dX4_tryLaunch_5 : decode cX4_tryLaunch 5 = .ok (.getfield 12, 3) := by decide +kernel
theorem dX4_tryLaunch_8 : decode cX4_tryLaunch 8 = .ok (.invokevirtual 130, 3) := by decide +kernel
theorem dX4_tryLaunch_11 : decode cX4_tryLaunch 11 = .ok (.aload_n 0, 1) := by decide +kernel
theorem dX4_tryLaunch_12 : decode cX4_tryLaunch 12 = .ok (.getfield 16, 3) := by decide +kernel
theorem dX4_tryLaunch_15 : decode cX4_tryLaunch 15 = .ok (.iload_n 1, 1) := by decide +kernel
theorem dX4_tryLaunch_16 : decode cX4_tryLaunch 16 = .ok (.invokevirtual 82, 3) := by decide +kernel
theorem dX4_tryLaunch_19 : decode cX4_tryLaunch 19 = .ok (.pop, 1) := by decide +kernel
theorem dX4_tryLaunch_20 : decode cX4_tryLaunch 20 = .ok (.return_, 1) := by decide +kernel
theorem dX4_tellTried_0 : decode cX4_tellTried 0 = .ok (.iload_n 1, 1) := by decide +kernel
theorem dX4_tellTried_1 : decode cX4_tellTried 1 = .ok (.tableswitch 69 0 2 #[27, 38, 58], 27) := by decide +kernel
theorem dX4_tellTried_28 : decode cX4_tellTried 28 = .ok (.aload_n 0, 1) := by decide +kernel
theorem dX4_tellTried_29 : decode cX4_tellTried 29 = .ok (.getfield 16, 3) := by decide +kernel
theorem dX4_tellTried_32 : decode cX4_tellTried 32 = .ok (.getfield 71, 3) := by decide +kernel
theorem dX4_tellTried_35 : decode cX4_tellTried 35 = .ok (.bipush 11, 2) := by decide +kernel
theorem dX4_tellTried_37 : decode cX4_tellTried 37 = .ok (.iaload, 1) := by decide +kernel
theorem dX4_tellTried_38 : decode cX4_tellTried 38 = .ok (.ireturn, 1) := by decide +kernel
theorem dX4_tellTried_39 : decode cX4_tellTried 39 = .ok (.aload_n 0, 1) := by decide +kernel
theorem dX4_tellTried_40 : decode cX4_tellTried 40 = .ok (.getfield 16, 3) := by decide +kernel
theorem dX4_tellTried_43 : decode cX4_tellTried 43 = .ok (.getfield 71, 3) := by decide +kernel
theorem dX4_tellTried_46 : decode cX4_tellTried 46 = .ok (.iconst 3, 1) := by decide +kernel
theorem dX4_tellTried_47 : decode cX4_tellTried 47 = .ok (.iaload, 1) := by decide +kernel
theorem dX4_tellTried_48 : decode cX4_tellTried 48 = .ok (.aload_n 0, 1) := by decide +kernel
theorem dX4_tellTried_49 : decode cX4_tellTried 49 = .ok (.getfield 12, 3) := by decide +kernel
theorem dX4_tellTried_52 : decode cX4_tellTried 52 = .ok (.getfield 71, 3) := by decide +kernel
theorem dX4_tellTried_55 : decode cX4_tellTried 55 = .ok (.iconst 3, 1) := by decide +kernel
theorem dX4_tellTried_56 : decode cX4_tellTried 56 = .ok (.iaload, 1) := by decide +kernel
theorem dX4_tellTried_57 : decode cX4_tellTried 57 = .ok (.isub, 1) := by decide +kernel
theorem dX4_tellTried_58 : decode cX4_tellTried 58 = .ok (.ireturn, 1) := by decide +kernel
theorem dX4_tellTried_59 : decode cX4_tellTried 59 = .ok (.aload_n 0, 1) := by decide +kernel
theorem dX4_tellTried_60 : decode cX4_tellTried 60 = .ok (.getfield 16, 3) := by decide +kernel
theorem dX4_tellTried_63 : decode cX4_tellTried 63 = .ok (.getfield 71, 3) := by decide +kernel
theorem dX4_tellTried_66 : decode cX4_tellTried 66 = .ok (.bipush 6, 2) := by decide +kernel
theorem dX4_tellTried_68 : decode cX4_tellTried 68 = .ok (.iaload, 1) := by decide +kernel
theorem dX4_tellTried_69 : decode cX4_tellTried 69 = .ok (.ireturn, 1) := by decide +kernel
theorem dX4_tellTried_70 : decode cX4_tellTried 70 = .ok (.aload_n 0, 1) := by decide +kernel
theorem dX4_tellTried_71 : decode cX4_tellTried 71 = .ok (.getfield 16, 3) := by decide +kernel
theorem dX4_tellTried_74 : decode cX4_tellTried 74 = .ok (.getfield 71, 3) := by decide +kernel
theorem dX4_tellTried_77 : decode cX4_tellTried 77 = .ok (.bipush 9, 2) := by decide +kernel
theorem dX4_tellTried_79 : decode cX4_tellTried 79 = .ok (.iaload, 1) := by decide +kernel
theorem dX4_tellTried_80 : decode cX4_tellTried 80 = .ok (.ireturn, 1) := by decide +kernel
theorem dX4_tryUntilHeld_0 : decode cX4_tryUntilHeld 0 = .ok (.aload_n 0, 1) := by decide +kernel
theorem dX4_tryUntilHeld_1 : decode cX4_tryUntilHeld 1 = .ok (.getfield 12, 3) := by decide +kernel
theorem dX4_tryUntilHeld_4 : decode cX4_tryUntilHeld 4 = .ok (.invokevirtual 226, 3) := by decide +kernel
theorem dX4_tryUntilHeld_7 : decode cX4_tryUntilHeld 7 = .ok (.ifCond .eq 5, 3) := by decide +kernel
theorem dX4_tryUntilHeld_10 : decode cX4_tryUntilHeld 10 = .ok (.iconst 0, 1) := by decide +kernel
theorem dX4_tryUntilHeld_11 : decode cX4_tryUntilHeld 11 = .ok (.ireturn, 1) := by decide +kernel
theorem dX4_tryUntilHeld_12 : decode cX4_tryUntilHeld 12 = .ok (.aload_n 0, 1) := by decide +kernel
theorem dX4_tryUntilHeld_13 : decode cX4_tryUntilHeld 13 = .ok (.getfield 16, 3) := by decide +kernel
theorem dX4_tryUntilHeld_16 : decode cX4_tryUntilHeld 16 = .ok (.aload_n 0, 1) := by decide +kernel
theorem dX4_tryUntilHeld_17 : decode cX4_tryUntilHeld 17 = .ok (.getfield 12, 3) := by decide +kernel
theorem dX4_tryUntilHeld_20 : decode cX4_tryUntilHeld 20 = .ok (.invokevirtual 130, 3) := by decide +kernel
theorem dX4_tryUntilHeld_23 : decode cX4_tryUntilHeld 23 = .ok (.iconst 1, 1) := by decide +kernel
theorem dX4_tryUntilHeld_24 : decode cX4_tryUntilHeld 24 = .ok (.istore_n 2, 1) := by decide +kernel
theorem dX4_tryUntilHeld_25 : decode cX4_tryUntilHeld 25 = .ok (.iload_n 2, 1) := by decide +kernel
theorem dX4_tryUntilHeld_26 : decode cX4_tryUntilHeld 26 = .ok (.sipush 200, 3) := by decide +kernel
theorem dX4_tryUntilHeld_29 : decode cX4_tryUntilHeld 29 = .ok (.if_icmp .gt 30, 3) := by decide +kernel
theorem dX4_tryUntilHeld_32 : decode cX4_tryUntilHeld 32 = .ok (.aload_n 0, 1) := by decide +kernel
theorem dX4_tryUntilHeld_33 : decode cX4_tryUntilHeld 33 = .ok (.getfield 16, 3) := by decide +kernel
theorem dX4_tryUntilHeld_36 : decode cX4_tryUntilHeld 36 = .ok (.iload_n 1, 1) := by decide +kernel
theorem dX4_tryUntilHeld_37 : decode cX4_tryUntilHeld 37 = .ok (.invokevirtual 82, 3) := by decide +kernel
theorem dX4_tryUntilHeld_40 : decode cX4_tryUntilHeld 40 = .ok (.pop, 1) := by decide +kernel
theorem dX4_tryUntilHeld_41 : decode cX4_tryUntilHeld 41 = .ok (.aload_n 0, 1) := by decide +kernel
theorem dX4_tryUntilHeld_42 : decode cX4_tryUntilHeld 42 = .ok (.getfield 16, 3) := by decide +kernel
theorem dX4_tryUntilHeld_45 : decode cX4_tryUntilHeld 45 = .ok (.invokevirtual 226, 3) := by decide +kernel
theorem dX4_tryUntilHeld_48 : decode cX4_tryUntilHeld 48 = .ok (.ifCond .eq 5, 3) := by decide +kernel
theorem dX4_tryUntilHeld_51 : decode cX4_tryUntilHeld 51 = .ok (.iload_n 2, 1) := by decide +kernel
theorem dX4_tryUntilHeld_52 : decode cX4_tryUntilHeld 52 = .ok (.ireturn, 1) := by decide +kernel
theorem dX4_tryUntilHeld_53 : decode cX4_tryUntilHeld 53 = .ok (.iinc 2 1, 3) := by decide +kernel
theorem dX4_tryUntilHeld_56 : decode cX4_tryUntilHeld 56 = .ok (.goto (-31), 3) := by decide +kernel
theorem dX4_tryUntilHeld_59 : decode cX4_tryUntilHeld 59 = .ok (.iconst (-1), 1) := by decide +kernel
theorem dX4_tryUntilHeld_60 : decode cX4_tryUntilHeld 60 = .ok (.ireturn, 1) := by decide +kernel
theorem dX4_measurePays_0 : decode cX4_measurePays 0 = .ok (.aload_n 0, 1) := by decide +kernel
theorem dX4_measurePays_1 : decode cX4_measurePays 1 = .ok (.getfield 36, 3) := by decide +kernel
theorem dX4_measurePays_4 : decode cX4_measurePays 4 = .ok (.aload_n 0, 1) := by decide +kernel
theorem dX4_measurePays_5 : decode cX4_measurePays 5 = .ok (.getfield 12, 3) := by decide +kernel
theorem dX4_measurePays_8 : decode cX4_measurePays 8 = .ok (.getfield 135, 3) := by decide +kernel
theorem dX4_measurePays_11 : decode cX4_measurePays 11 = .ok (.iload_n 1, 1) := by decide +kernel
theorem dX4_measurePays_12 : decode cX4_measurePays 12 = .ok (.invokevirtual 150, 3) := by decide +kernel
theorem dX4_measurePays_15 : decode cX4_measurePays 15 = .ok (.iconst 0, 1) := by decide +kernel
theorem dX4_measurePays_16 : decode cX4_measurePays 16 = .ok (.istore_n 2, 1) := by decide +kernel
theorem dX4_measurePays_17 : decode cX4_measurePays 17 = .ok (.iconst 0, 1) := by decide +kernel
theorem dX4_measurePays_18 : decode cX4_measurePays 18 = .ok (.istore_n 3, 1) := by decide +kernel
theorem dX4_measurePays_19 : decode cX4_measurePays 19 = .ok (.iconst 0, 1) := by decide +kernel
theorem dX4_measurePays_20 : decode cX4_measurePays 20 = .ok (.istore 4, 2) := by decide +kernel
theorem dX4_measurePays_22 : decode cX4_measurePays 22 = .ok (.iload 4, 2) := by decide +kernel
theorem dX4_measurePays_24 : decode cX4_measurePays 24 = .ok (.bipush 7, 2) := by decide +kernel
theorem dX4_measurePays_26 : decode cX4_measurePays 26 = .ok (.if_icmp .ge 58, 3) := by decide +kernel
theorem dX4_measurePays_29 : decode cX4_measurePays 29 = .ok (.iload_n 2, 1) := by decide +kernel
theorem dX4_measurePays_30 : decode cX4_measurePays 30 = .ok (.aload_n 0, 1) := by decide +kernel
theorem dX4_measurePays_31 : decode cX4_measurePays 31 = .ok (.getfield 36, 3) := by decide +kernel
theorem dX4_measurePays_34 : decode cX4_measurePays 34 = .ok (.getfield 154, 3) := by decide +kernel
theorem dX4_measurePays_37 : decode cX4_measurePays 37 = .ok (.iload 4, 2) := by decide +kernel
theorem dX4_measurePays_39 : decode cX4_measurePays 39 = .ok (.iaload, 1) := by decide +kernel
theorem dX4_measurePays_40 : decode cX4_measurePays 40 = .ok (.iadd, 1) := by decide +kernel
theorem dX4_measurePays_41 : decode cX4_measurePays 41 = .ok (.istore_n 2, 1) := by decide +kernel
theorem dX4_measurePays_42 : decode cX4_measurePays 42 = .ok (.aload_n 0, 1) := by decide +kernel
theorem dX4_measurePays_43 : decode cX4_measurePays 43 = .ok (.getfield 12, 3) := by decide +kernel
theorem dX4_measurePays_46 : decode cX4_measurePays 46 = .ok (.iload 4, 2) := by decide +kernel
theorem dX4_measurePays_48 : decode cX4_measurePays 48 = .ok (.invokevirtual 229, 3) := by decide +kernel
theorem dX4_measurePays_51 : decode cX4_measurePays 51 = .ok (.ifCond .eq 27, 3) := by decide +kernel
theorem dX4_measurePays_54 : decode cX4_measurePays 54 = .ok (.iload_n 3, 1) := by decide +kernel
theorem dX4_measurePays_55 : decode cX4_measurePays 55 = .ok (.aload_n 0, 1) := by decide +kernel
theorem dX4_measurePays_56 : decode cX4_measurePays 56 = .ok (.getfield 36, 3) := by decide +kernel
theorem dX4_measurePays_59 : decode cX4_measurePays 59 = .ok (.getfield 154, 3) := by decide +kernel
theorem dX4_measurePays_62 : decode cX4_measurePays 62 = .ok (.iload 4, 2) := by decide +kernel
theorem dX4_measurePays_64 : decode cX4_measurePays 64 = .ok (.iaload, 1) := by decide +kernel
theorem dX4_measurePays_65 : decode cX4_measurePays 65 = .ok (.aload_n 0, 1) := by decide +kernel
theorem dX4_measurePays_66 : decode cX4_measurePays 66 = .ok (.getfield 12, 3) := by decide +kernel
theorem dX4_measurePays_69 : decode cX4_measurePays 69 = .ok (.getfield 232, 3) := by decide +kernel
theorem dX4_measurePays_72 : decode cX4_measurePays 72 = .ok (.iload 4, 2) := by decide +kernel
theorem dX4_measurePays_74 : decode cX4_measurePays 74 = .ok (.iaload, 1) := by decide +kernel
theorem dX4_measurePays_75 : decode cX4_measurePays 75 = .ok (.imul, 1) := by decide +kernel
theorem dX4_measurePays_76 : decode cX4_measurePays 76 = .ok (.iadd, 1) := by decide +kernel
theorem dX4_measurePays_77 : decode cX4_measurePays 77 = .ok (.istore_n 3, 1) := by decide +kernel
theorem dX4_measurePays_78 : decode cX4_measurePays 78 = .ok (.iinc 4 1, 3) := by decide +kernel
theorem dX4_measurePays_81 : decode cX4_measurePays 81 = .ok (.goto (-59), 3) := by decide +kernel
theorem dX4_measurePays_84 : decode cX4_measurePays 84 = .ok (.iload_n 2, 1) := by decide +kernel
theorem dX4_measurePays_85 : decode cX4_measurePays 85 = .ok (.ifCond .le 13, 3) := by decide +kernel
theorem dX4_measurePays_88 : decode cX4_measurePays 88 = .ok (.iload_n 3, 1) := by decide +kernel
theorem dX4_measurePays_89 : decode cX4_measurePays 89 = .ok (.sipush 1000, 3) := by decide +kernel
theorem dX4_measurePays_92 : decode cX4_measurePays 92 = .ok (.imul, 1) := by decide +kernel
theorem dX4_measurePays_93 : decode cX4_measurePays 93 = .ok (.iload_n 2, 1) := by decide +kernel
theorem dX4_measurePays_94 : decode cX4_measurePays 94 = .ok (.idiv, 1) := by decide +kernel
theorem dX4_measurePays_95 : decode cX4_measurePays 95 = .ok (.goto 4, 3) := by decide +kernel
theorem dX4_measurePays_98 : decode cX4_measurePays 98 = .ok (.iconst 0, 1) := by decide +kernel
theorem dX4_measurePays_99 : decode cX4_measurePays 99 = .ok (.ireturn, 1) := by decide +kernel
theorem dX4_bounce_0 : decode cX4_bounce 0 = .ok (.iload_n 0, 1) := by decide +kernel
theorem dX4_bounce_1 : decode cX4_bounce 1 = .ok (.iload_n 1, 1) := by decide +kernel
theorem dX4_bounce_2 : decode cX4_bounce 2 = .ok (.iadd, 1) := by decide +kernel
theorem dX4_bounce_3 : decode cX4_bounce 3 = .ok (.istore_n 2, 1) := by decide +kernel
theorem dX4_bounce_4 : decode cX4_bounce 4 = .ok (.iload_n 2, 1) := by decide +kernel
theorem dX4_bounce_5 : decode cX4_bounce 5 = .ok (.ifCond .lt 9, 3) := by decide +kernel
theorem dX4_bounce_8 : decode cX4_bounce 8 = .ok (.iload_n 2, 1) := by decide +kernel
theorem dX4_bounce_9 : decode cX4_bounce 9 = .ok (.bipush 7, 2) := by decide +kernel
theorem dX4_bounce_11 : decode cX4_bounce 11 = .ok (.if_icmp .lt 7, 3) := by decide +kernel
theorem dX4_bounce_14 : decode cX4_bounce 14 = .ok (.iload_n 0, 1) := by decide +kernel
theorem dX4_bounce_15 : decode cX4_bounce 15 = .ok (.goto 4, 3) := by decide +kernel
theorem dX4_bounce_18 : decode cX4_bounce 18 = .ok (.iload_n 2, 1) := by decide +kernel
theorem dX4_bounce_19 : decode cX4_bounce 19 = .ok (.ireturn, 1) := by decide +kernel
theorem dJ7_fill_53178_0 : decode cJ7_fill_53178 0 = .ok (.iconst 0, 1) := by decide +kernel
theorem dJ7_fill_53178_1 : decode cJ7_fill_53178 1 = .ok (.istore_n 2, 1) := by decide +kernel
theorem dJ7_fill_53178_2 : decode cJ7_fill_53178 2 = .ok (.aload_n 0, 1) := by decide +kernel
theorem dJ7_fill_53178_3 : decode cJ7_fill_53178 3 = .ok (.arraylength, 1) := by decide +kernel
theorem dJ7_fill_53178_4 : decode cJ7_fill_53178 4 = .ok (.istore_n 3, 1) := by decide +kernel
theorem dJ7_fill_53178_5 : decode cJ7_fill_53178 5 = .ok (.iload_n 2, 1) := by decide +kernel
theorem dJ7_fill_53178_6 : decode cJ7_fill_53178 6 = .ok (.iload_n 3, 1) := by decide +kernel
theorem dJ7_fill_53178_7 : decode cJ7_fill_53178 7 = .ok (.if_icmp .ge 13, 3) := by decide +kernel
theorem dJ7_fill_53178_10 : decode cJ7_fill_53178 10 = .ok (.aload_n 0, 1) := by decide +kernel
theorem dJ7_fill_53178_11 : decode cJ7_fill_53178 11 = .ok (.iload_n 2, 1) := by decide +kernel
theorem dJ7_fill_53178_12 : decode cJ7_fill_53178 12 = .ok (.iload_n 1, 1) := by decide +kernel
theorem dJ7_fill_53178_13 : decode cJ7_fill_53178 13 = .ok (.iastore, 1) := by decide +kernel
theorem dJ7_fill_53178_14 : decode cJ7_fill_53178 14 = .ok (.iinc 2 1, 3) := by decide +kernel
theorem dJ7_fill_53178_17 : decode cJ7_fill_53178 17 = .ok (.goto (-12), 3) := by decide +kernel
theorem dJ7_fill_53178_20 : decode cJ7_fill_53178 20 = .ok (.return_, 1) := by decide +kernel
theorem dL_cell_0 : decode cL_cell 0 = .ok (.iload_n 1, 1) := by decide +kernel
theorem dL_cell_1 : decode cL_cell 1 = .ok (.aload_n 0, 1) := by decide +kernel
theorem dL_cell_2 : decode cL_cell 2 = .ok (.arraylength, 1) := by decide +kernel
theorem dL_cell_3 : decode cL_cell 3 = .ok (.if_icmp .ge 9, 3) := by decide +kernel
theorem dL_cell_6 : decode cL_cell 6 = .ok (.aload_n 0, 1) := by decide +kernel
theorem dL_cell_7 : decode cL_cell 7 = .ok (.iload_n 1, 1) := by decide +kernel
theorem dL_cell_8 : decode cL_cell 8 = .ok (.iaload, 1) := by decide +kernel
theorem dL_cell_9 : decode cL_cell 9 = .ok (.goto 9, 3) := by decide +kernel
theorem dL_cell_12 : decode cL_cell 12 = .ok (.ldc 7, 2) := by decide +kernel
theorem dL_cell_14 : decode cL_cell 14 = .ok (.iload_n 1, 1) := by decide +kernel
theorem dL_cell_15 : decode cL_cell 15 = .ok (.iconst 1, 1) := by decide +kernel
theorem dL_cell_16 : decode cL_cell 16 = .ok (.iadd, 1) := by decide +kernel
theorem dL_cell_17 : decode cL_cell 17 = .ok (.imul, 1) := by decide +kernel
theorem dL_cell_18 : decode cL_cell 18 = .ok (.ireturn, 1) := by decide +kernel
theorem dL_low_0 : decode cL_low 0 = .ok (.iload_n 0, 1) := by decide +kernel
theorem dL_low_1 : decode cL_low 1 = .ok (.ldc 8, 2) := by decide +kernel
theorem dL_low_3 : decode cL_low 3 = .ok (.iand, 1) := by decide +kernel
theorem dL_low_4 : decode cL_low 4 = .ok (.iload_n 1, 1) := by decide +kernel
theorem dL_low_5 : decode cL_low 5 = .ok (.irem, 1) := by decide +kernel
theorem dL_low_6 : decode cL_low 6 = .ok (.ireturn, 1) := by decide +kernel
theorem dL_bend_0 : decode cL_bend 0 = .ok (.aload_n 0, 1) := by decide +kernel
theorem dL_bend_1 : decode cL_bend 1 = .ok (.iload_n 1, 1) := by decide +kernel
theorem dL_bend_2 : decode cL_bend 2 = .ok (.iload_n 2, 1) := by decide +kernel
theorem dL_bend_3 : decode cL_bend 3 = .ok (.iload_n 3, 1) := by decide +kernel
theorem dL_bend_4 : decode cL_bend 4 = .ok (.invokevirtual 9, 3) := by decide +kernel
theorem dL_bend_7 : decode cL_bend 7 = .ok (.istore 4, 2) := by decide +kernel
theorem dL_bend_9 : decode cL_bend 9 = .ok (.goto 13, 3) := by decide +kernel
theorem dL_bend_12 : decode cL_bend 12 = .ok (.astore 5, 2) := by decide +kernel
theorem dL_bend_14 : decode cL_bend 14 = .ok (.bipush (-31), 2) := by decide +kernel
theorem dL_bend_16 : decode cL_bend 16 = .ok (.ireturn, 1) := by decide +kernel
theorem dL_bend_17 : decode cL_bend 17 = .ok (.astore 5, 2) := by decide +kernel
theorem dL_bend_19 : decode cL_bend 19 = .ok (.bipush (-32), 2) := by decide +kernel
theorem dL_bend_21 : decode cL_bend 21 = .ok (.ireturn, 1) := by decide +kernel
theorem dL_bend_22 : decode cL_bend 22 = .ok (.iload 4, 2) := by decide +kernel
theorem dL_bend_24 : decode cL_bend 24 = .ok (.ireturn, 1) := by decide +kernel
theorem dL_pocket_0 : decode cL_pocket 0 = .ok (.aload_n 0, 1) := by decide +kernel
theorem dL_pocket_1 : decode cL_pocket 1 = .ok (.iload_n 1, 1) := by decide +kernel
theorem dL_pocket_2 : decode cL_pocket 2 = .ok (.iload_n 2, 1) := by decide +kernel
theorem dL_pocket_3 : decode cL_pocket 3 = .ok (.iload_n 3, 1) := by decide +kernel
theorem dL_pocket_4 : decode cL_pocket 4 = .ok (.invokevirtual 19, 3) := by decide +kernel
theorem dL_pocket_7 : decode cL_pocket 7 = .ok (.istore 4, 2) := by decide +kernel
theorem dL_pocket_9 : decode cL_pocket 9 = .ok (.goto 13, 3) := by decide +kernel
theorem dL_pocket_12 : decode cL_pocket 12 = .ok (.astore 5, 2) := by decide +kernel
theorem dL_pocket_14 : decode cL_pocket 14 = .ok (.bipush (-31), 2) := by decide +kernel
theorem dL_pocket_16 : decode cL_pocket 16 = .ok (.ireturn, 1) := by decide +kernel
theorem dL_pocket_17 : decode cL_pocket 17 = .ok (.astore 5, 2) := by decide +kernel
theorem dL_pocket_19 : decode cL_pocket 19 = .ok (.bipush (-32), 2) := by decide +kernel
theorem dL_pocket_21 : decode cL_pocket 21 = .ok (.ireturn, 1) := by decide +kernel
theorem dL_pocket_22 : decode cL_pocket 22 = .ok (.iload 4, 2) := by decide +kernel
theorem dL_pocket_24 : decode cL_pocket 24 = .ok (.ireturn, 1) := by decide +kernel
theorem dL_start_0 : decode cL_start 0 = .ok (.aload_n 0, 1) := by decide +kernel
theorem dL_start_1 : decode cL_start 1 = .ok (.iload_n 1, 1) := by decide +kernel
theorem dL_start_2 : decode cL_start 2 = .ok (.invokevirtual 22, 3) := by decide +kernel
theorem dL_start_5 : decode cL_start 5 = .ok (.istore_n 2, 1) := by decide +kernel
theorem dL_start_6 : decode cL_start 6 = .ok (.goto 7, 3) := by decide +kernel
theorem dL_start_9 : decode cL_start 9 = .ok (.astore_n 3, 1) := by decide +kernel
theorem dL_start_10 : decode cL_start 10 = .ok (.bipush (-31), 2) := by decide +kernel
theorem dL_start_12 : decode cL_start 12 = .ok (.ireturn, 1) := by decide +kernel
theorem dL_start_13 : decode cL_start 13 = .ok (.iload_n 2, 1) := by decide +kernel
theorem dL_start_14 : decode cL_start 14 = .ok (.ireturn, 1) := by decide +kernel
theorem dL_set_0 : decode cL_set 0 = .ok (.aload_n 0, 1) := by decide +kernel
theorem dL_set_1 : decode cL_set 1 = .ok (.iload_n 1, 1) := by decide +kernel
theorem dL_set_2 : decode cL_set 2 = .ok (.iload_n 2, 1) := by decide +kernel
theorem dL_set_3 : decode cL_set 3 = .ok (.invokevirtual 26, 3) := by decide +kernel
theorem dL_set_6 : decode cL_set 6 = .ok (.istore_n 3, 1) := by decide +kernel
theorem dL_set_7 : decode cL_set 7 = .ok (.goto 13, 3) := by decide +kernel
theorem dL_set_10 : decode cL_set 10 = .ok (.astore 4, 2) := by decide +kernel
theorem dL_set_12 : decode cL_set 12 = .ok (.bipush (-31), 2) := by decide +kernel
theorem dL_set_14 : decode cL_set 14 = .ok (.ireturn, 1) := by decide +kernel
theorem dL_set_15 : decode cL_set 15 = .ok (.astore 4, 2) := by decide +kernel
theorem dL_set_17 : decode cL_set 17 = .ok (.bipush (-32), 2) := by decide +kernel
theorem dL_set_19 : decode cL_set 19 = .ok (.ireturn, 1) := by decide +kernel
theorem dL_set_20 : decode cL_set 20 = .ok (.iload_n 3, 1) := by decide +kernel
theorem dL_set_21 : decode cL_set 21 = .ok (.ireturn, 1) := by decide +kernel
theorem dL_shuffle_0 : decode cL_shuffle 0 = .ok (.aload_n 0, 1) := by decide +kernel
theorem dL_shuffle_1 : decode cL_shuffle 1 = .ok (.iload_n 1, 1) := by decide +kernel
theorem dL_shuffle_2 : decode cL_shuffle 2 = .ok (.invokevirtual 30, 3) := by decide +kernel
theorem dL_shuffle_5 : decode cL_shuffle 5 = .ok (.istore_n 2, 1) := by decide +kernel
theorem dL_shuffle_6 : decode cL_shuffle 6 = .ok (.goto 7, 3) := by decide +kernel
theorem dL_shuffle_9 : decode cL_shuffle 9 = .ok (.astore_n 3, 1) := by decide +kernel
theorem dL_shuffle_10 : decode cL_shuffle 10 = .ok (.bipush (-32), 2) := by decide +kernel
theorem dL_shuffle_12 : decode cL_shuffle 12 = .ok (.ireturn, 1) := by decide +kernel
theorem dL_shuffle_13 : decode cL_shuffle 13 = .ok (.iload_n 2, 1) := by decide +kernel
theorem dL_shuffle_14 : decode cL_shuffle 14 = .ok (.ireturn, 1) := by decide +kernel
theorem dL_buy_0 : decode cL_buy 0 = .ok (.aload_n 0, 1) := by decide +kernel
theorem dL_buy_1 : decode cL_buy 1 = .ok (.iload_n 1, 1) := by decide +kernel
theorem dL_buy_2 : decode cL_buy 2 = .ok (.invokevirtual 33, 3) := by decide +kernel
theorem dL_buy_5 : decode cL_buy 5 = .ok (.istore_n 2, 1) := by decide +kernel
theorem dL_buy_6 : decode cL_buy 6 = .ok (.goto 7, 3) := by decide +kernel
theorem dL_buy_9 : decode cL_buy 9 = .ok (.astore_n 3, 1) := by decide +kernel
theorem dL_buy_10 : decode cL_buy 10 = .ok (.bipush (-32), 2) := by decide +kernel
theorem dL_buy_12 : decode cL_buy 12 = .ok (.ireturn, 1) := by decide +kernel
theorem dL_buy_13 : decode cL_buy 13 = .ok (.iload_n 2, 1) := by decide +kernel
theorem dL_buy_14 : decode cL_buy 14 = .ok (.ireturn, 1) := by decide +kernel
theorem dL_launch_0 : decode cL_launch 0 = .ok (.aload_n 0, 1) := by decide +kernel
theorem dL_launch_1 : decode cL_launch 1 = .ok (.iload_n 1, 1) := by decide +kernel
theorem dL_launch_2 : decode cL_launch 2 = .ok (.invokevirtual 36, 3) := by decide +kernel
theorem dL_launch_5 : decode cL_launch 5 = .ok (.istore_n 2, 1) := by decide +kernel
theorem dL_launch_6 : decode cL_launch 6 = .ok (.goto 11, 3) := by decide +kernel
theorem dL_launch_9 : decode cL_launch 9 = .ok (.astore_n 3, 1) := by decide +kernel
theorem dL_launch_10 : decode cL_launch 10 = .ok (.bipush (-31), 2) := by decide +kernel
theorem dL_launch_12 : decode cL_launch 12 = .ok (.ireturn, 1) := by decide +kernel
theorem dL_launch_13 : decode cL_launch 13 = .ok (.astore_n 3, 1) := by decide +kernel
theorem dL_launch_14 : decode cL_launch 14 = .ok (.bipush (-33), 2) := by decide +kernel
theorem dL_launch_16 : decode cL_launch 16 = .ok (.ireturn, 1) := by decide +kernel
theorem dL_launch_17 : decode cL_launch 17 = .ok (.iload_n 2, 1) := by decide +kernel
theorem dL_launch_18 : decode cL_launch 18 = .ok (.ireturn, 1) := by decide +kernel
theorem dL_play_0 : decode cL_play 0 = .ok (.aload_n 0, 1) := by decide +kernel
theorem dL_play_1 : decode cL_play 1 = .ok (.iload_n 1, 1) := by decide +kernel
theorem dL_play_2 : decode cL_play 2 = .ok (.iload_n 2, 1) := by decide +kernel
theorem dL_play_3 : decode cL_play 3 = .ok (.invokevirtual 41, 3) := by decide +kernel
theorem dL_play_6 : decode cL_play 6 = .ok (.istore_n 3, 1) := by decide +kernel
theorem dL_play_7 : decode cL_play 7 = .ok (.goto 13, 3) := by decide +kernel
theorem dL_play_10 : decode cL_play 10 = .ok (.astore 4, 2) := by decide +kernel
theorem dL_play_12 : decode cL_play 12 = .ok (.bipush (-31), 2) := by decide +kernel
theorem dL_play_14 : decode cL_play 14 = .ok (.ireturn, 1) := by decide +kernel
theorem dL_play_15 : decode cL_play 15 = .ok (.astore 4, 2) := by decide +kernel
theorem dL_play_17 : decode cL_play 17 = .ok (.bipush (-32), 2) := by decide +kernel
theorem dL_play_19 : decode cL_play 19 = .ok (.ireturn, 1) := by decide +kernel
theorem dL_play_20 : decode cL_play 20 = .ok (.iload_n 3, 1) := by decide +kernel
theorem dL_play_21 : decode cL_play 21 = .ok (.ireturn, 1) := by decide +kernel
theorem dL_undo_0 : decode cL_undo 0 = .ok (.aload_n 0, 1) := by decide +kernel
theorem dL_undo_1 : decode cL_undo 1 = .ok (.invokevirtual 44, 3) := by decide +kernel
theorem dL_undo_4 : decode cL_undo 4 = .ok (.istore_n 1, 1) := by decide +kernel
theorem dL_undo_5 : decode cL_undo 5 = .ok (.goto 7, 3) := by decide +kernel
theorem dL_undo_8 : decode cL_undo 8 = .ok (.astore_n 2, 1) := by decide +kernel
theorem dL_undo_9 : decode cL_undo 9 = .ok (.bipush (-33), 2) := by decide +kernel
theorem dL_undo_11 : decode cL_undo 11 = .ok (.ireturn, 1) := by decide +kernel
theorem dL_undo_12 : decode cL_undo 12 = .ok (.iload_n 1, 1) := by decide +kernel
theorem dL_undo_13 : decode cL_undo 13 = .ok (.ireturn, 1) := by decide +kernel
theorem dL_restore_0 : decode cL_restore 0 = .ok (.aload_n 0, 1) := by decide +kernel
theorem dL_restore_1 : decode cL_restore 1 = .ok (.invokevirtual 48, 3) := by decide +kernel
theorem dL_restore_4 : decode cL_restore 4 = .ok (.istore_n 1, 1) := by decide +kernel
theorem dL_restore_5 : decode cL_restore 5 = .ok (.goto 7, 3) := by decide +kernel
theorem dL_restore_8 : decode cL_restore 8 = .ok (.astore_n 2, 1) := by decide +kernel
theorem dL_restore_9 : decode cL_restore 9 = .ok (.bipush (-33), 2) := by decide +kernel
theorem dL_restore_11 : decode cL_restore 11 = .ok (.ireturn, 1) := by decide +kernel
theorem dL_restore_12 : decode cL_restore 12 = .ok (.iload_n 1, 1) := by decide +kernel
theorem dL_restore_13 : decode cL_restore 13 = .ok (.ireturn, 1) := by decide +kernel
theorem dL_draw_0 : decode cL_draw 0 = .ok (.aload_n 0, 1) := by decide +kernel
theorem dL_draw_1 : decode cL_draw 1 = .ok (.bipush 13, 2) := by decide +kernel
theorem dL_draw_3 : decode cL_draw 3 = .ok (.aload_n 0, 1) := by decide +kernel
theorem dL_draw_4 : decode cL_draw 4 = .ok (.bipush 13, 2) := by decide +kernel
theorem dL_draw_6 : decode cL_draw 6 = .ok (.iaload, 1) := by decide +kernel
theorem dL_draw_7 : decode cL_draw 7 = .ok (.i2l, 1) := by decide +kernel
theorem dL_draw_8 : decode cL_draw 8 = .ok (.ldc2_w 51, 3) := by decide +kernel
theorem dL_draw_11 : decode cL_draw 11 = .ok (.lmul, 1) := by decide +kernel
theorem dL_draw_12 : decode cL_draw 12 = .ok (.ldc2_w 53, 3) := by decide +kernel
theorem dL_draw_15 : decode cL_draw 15 = .ok (.ladd, 1) := by decide +kernel
theorem dL_draw_16 : decode cL_draw 16 = .ok (.ldc2_w 55, 3) := by decide +kernel
theorem dL_draw_19 : decode cL_draw 19 = .ok (.land, 1) := by decide +kernel
theorem dL_draw_20 : decode cL_draw 20 = .ok (.l2i, 1) := by decide +kernel
theorem dL_draw_21 : decode cL_draw 21 = .ok (.iastore, 1) := by decide +kernel
theorem dL_draw_22 : decode cL_draw 22 = .ok (.aload_n 0, 1) := by decide +kernel
theorem dL_draw_23 : decode cL_draw 23 = .ok (.bipush 13, 2) := by decide +kernel
theorem dL_draw_25 : decode cL_draw 25 = .ok (.iaload, 1) := by decide +kernel
theorem dL_draw_26 : decode cL_draw 26 = .ok (.bipush 16, 2) := by decide +kernel
theorem dL_draw_28 : decode cL_draw 28 = .ok (.ishr, 1) := by decide +kernel
theorem dL_draw_29 : decode cL_draw 29 = .ok (.iload_n 1, 1) := by decide +kernel
theorem dL_draw_30 : decode cL_draw 30 = .ok (.irem, 1) := by decide +kernel
theorem dL_draw_31 : decode cL_draw 31 = .ok (.ireturn, 1) := by decide +kernel
theorem dL_spin_0 : decode cL_spin 0 = .ok (.aload_n 0, 1) := by decide +kernel
theorem dL_spin_1 : decode cL_spin 1 = .ok (.bipush 10, 2) := by decide +kernel
theorem dL_spin_3 : decode cL_spin 3 = .ok (.iaload, 1) := by decide +kernel
theorem dL_spin_4 : decode cL_spin 4 = .ok (.ifCond .le 7, 3) := by decide +kernel
theorem dL_spin_7 : decode cL_spin 7 = .ok (.iconst 4, 1) := by decide +kernel
theorem dL_spin_8 : decode cL_spin 8 = .ok (.goto 5, 3) := by decide +kernel
theorem dL_spin_11 : decode cL_spin 11 = .ok (.bipush 8, 2) := by decide +kernel
theorem dL_spin_13 : decode cL_spin 13 = .ok (.istore_n 1, 1) := by decide +kernel
theorem dL_spin_14 : decode cL_spin 14 = .ok (.aload_n 0, 1) := by decide +kernel
theorem dL_spin_15 : decode cL_spin 15 = .ok (.bipush 6, 2) := by decide +kernel
theorem dL_spin_17 : decode cL_spin 17 = .ok (.dup2, 1) := by decide +kernel
theorem dL_spin_18 : decode cL_spin 18 = .ok (.iaload, 1) := by decide +kernel
theorem dL_spin_19 : decode cL_spin 19 = .ok (.iconst 1, 1) := by decide +kernel
theorem dL_spin_20 : decode cL_spin 20 = .ok (.isub, 1) := by decide +kernel
theorem dL_spin_21 : decode cL_spin 21 = .ok (.iastore, 1) := by decide +kernel
theorem dL_spin_22 : decode cL_spin 22 = .ok (.aload_n 0, 1) := by decide +kernel
theorem dL_spin_23 : decode cL_spin 23 = .ok (.bipush 7, 2) := by decide +kernel
theorem dL_spin_25 : decode cL_spin 25 = .ok (.dup2, 1) := by decide +kernel
theorem dL_spin_26 : decode cL_spin 26 = .ok (.iaload, 1) := by decide +kernel
theorem dL_spin_27 : decode cL_spin 27 = .ok (.iconst 1, 1) := by decide +kernel
theorem dL_spin_28 : decode cL_spin 28 = .ok (.iadd, 1) := by decide +kernel
theorem dL_spin_29 : decode cL_spin 29 = .ok (.iastore, 1) := by decide +kernel
theorem dL_spin_30 : decode cL_spin 30 = .ok (.aload_n 0, 1) := by decide +kernel
theorem dL_spin_31 : decode cL_spin 31 = .ok (.bipush 10, 2) := by decide +kernel
theorem dL_spin_33 : decode cL_spin 33 = .ok (.aload_n 0, 1) := by decide +kernel
theorem dL_spin_34 : decode cL_spin 34 = .ok (.bipush 10, 2) := by decide +kernel
theorem dL_spin_36 : decode cL_spin 36 = .ok (.iaload, 1) := by decide +kernel
theorem dL_spin_37 : decode cL_spin 37 = .ok (.ifCond .le 12, 3) := by decide +kernel
theorem dL_spin_40 : decode cL_spin 40 = .ok (.aload_n 0, 1) := by decide +kernel
theorem dL_spin_41 : decode cL_spin 41 = .ok (.bipush 10, 2) := by decide +kernel
theorem dL_spin_43 : decode cL_spin 43 = .ok (.iaload, 1) := by decide +kernel
theorem dL_spin_44 : decode cL_spin 44 = .ok (.iconst 1, 1) := by decide +kernel
theorem dL_spin_45 : decode cL_spin 45 = .ok (.isub, 1) := by decide +kernel
theorem dL_spin_46 : decode cL_spin 46 = .ok (.goto 4, 3) := by decide +kernel
theorem dL_spin_49 : decode cL_spin 49 = .ok (.iconst 0, 1) := by decide +kernel
theorem dL_spin_50 : decode cL_spin 50 = .ok (.iastore, 1) := by decide +kernel
theorem dL_spin_51 : decode cL_spin 51 = .ok (.bipush 16, 2) := by decide +kernel
theorem dL_spin_53 : decode cL_spin 53 = .ok (.istore_n 2, 1) := by decide +kernel
theorem dL_spin_54 : decode cL_spin 54 = .ok (.iload_n 2, 1) := by decide +kernel
theorem dL_spin_55 : decode cL_spin 55 = .ok (.bipush 19, 2) := by decide +kernel
theorem dL_spin_57 : decode cL_spin 57 = .ok (.if_icmp .ge 17, 3) := by decide +kernel
theorem dL_spin_60 : decode cL_spin 60 = .ok (.aload_n 0, 1) := by decide +kernel
theorem dL_spin_61 : decode cL_spin 61 = .ok (.iload_n 2, 1) := by decide +kernel
theorem dL_spin_62 : decode cL_spin 62 = .ok (.aload_n 0, 1) := by decide +kernel
theorem dL_spin_63 : decode cL_spin 63 = .ok (.iload_n 1, 1) := by decide +kernel
theorem dL_spin_64 : decode cL_spin 64 = .ok (.invokestatic 57, 3) := by decide +kernel
theorem dL_spin_67 : decode cL_spin 67 = .ok (.iastore, 1) := by decide +kernel
theorem dL_spin_68 : decode cL_spin 68 = .ok (.iinc 2 1, 3) := by decide +kernel
theorem dL_spin_71 : decode cL_spin 71 = .ok (.goto (-17), 3) := by decide +kernel
theorem dL_spin_74 : decode cL_spin 74 = .ok (.aload_n 0, 1) := by decide +kernel
theorem dL_spin_75 : decode cL_spin 75 = .ok (.bipush 16, 2) := by decide +kernel
theorem dL_spin_77 : decode cL_spin 77 = .ok (.iaload, 1) := by decide +kernel
theorem dL_spin_78 : decode cL_spin 78 = .ok (.aload_n 0, 1) := by decide +kernel
theorem dL_spin_79 : decode cL_spin 79 = .ok (.bipush 17, 2) := by decide +kernel
theorem dL_spin_81 : decode cL_spin 81 = .ok (.iaload, 1) := by decide +kernel
theorem dL_spin_82 : decode cL_spin 82 = .ok (.if_icmp .ne 18, 3) := by decide +kernel
theorem dL_spin_85 : decode cL_spin 85 = .ok (.aload_n 0, 1) := by decide +kernel
theorem dL_spin_86 : decode cL_spin 86 = .ok (.bipush 17, 2) := by decide +kernel
theorem dL_spin_88 : decode cL_spin 88 = .ok (.iaload, 1) := by decide +kernel
theorem dL_spin_89 : decode cL_spin 89 = .ok (.aload_n 0, 1) := by decide +kernel
theorem dL_spin_90 : decode cL_spin 90 = .ok (.bipush 18, 2) := by decide +kernel
theorem dL_spin_92 : decode cL_spin 92 = .ok (.iaload, 1) := by decide +kernel
theorem dL_spin_93 : decode cL_spin 93 = .ok (.if_icmp .ne 7, 3) := by decide +kernel
theorem dL_spin_96 : decode cL_spin 96 = .ok (.iconst 1, 1) := by decide +kernel
theorem dL_spin_97 : decode cL_spin 97 = .ok (.goto 4, 3) := by decide +kernel
theorem dL_spin_100 : decode cL_spin 100 = .ok (.iconst 0, 1) := by decide +kernel
theorem dL_spin_101 : decode cL_spin 101 = .ok (.istore_n 2, 1) := by decide +kernel
theorem dL_spin_102 : decode cL_spin 102 = .ok (.aload_n 0, 1) := by decide +kernel
theorem dL_spin_103 : decode cL_spin 103 = .ok (.bipush 9, 2) := by decide +kernel
theorem dL_spin_105 : decode cL_spin 105 = .ok (.iload_n 2, 1) := by decide +kernel
theorem dL_spin_106 : decode cL_spin 106 = .ok (.ifCond .eq 10, 3) := by decide +kernel
theorem dL_spin_109 : decode cL_spin 109 = .ok (.aload_n 0, 1) := by decide +kernel
theorem dL_spin_110 : decode cL_spin 110 = .ok (.bipush 14, 2) := by decide +kernel
theorem dL_spin_112 : decode cL_spin 112 = .ok (.iaload, 1) := by decide +kernel
theorem dL_spin_113 : decode cL_spin 113 = .ok (.goto 4, 3) := by decide +kernel
theorem dL_spin_116 : decode cL_spin 116 = .ok (.iconst 0, 1) := by decide +kernel
theorem dL_spin_117 : decode cL_spin 117 = .ok (.iastore, 1) := by decide +kernel
theorem dL_spin_118 : decode cL_spin 118 = .ok (.aload_n 0, 1) := by decide +kernel
theorem dL_spin_119 : decode cL_spin 119 = .ok (.bipush 8, 2) := by decide +kernel
theorem dL_spin_121 : decode cL_spin 121 = .ok (.dup2, 1) := by decide +kernel
theorem dL_spin_122 : decode cL_spin 122 = .ok (.iaload, 1) := by decide +kernel
theorem dL_spin_123 : decode cL_spin 123 = .ok (.iload_n 2, 1) := by decide +kernel
theorem dL_spin_124 : decode cL_spin 124 = .ok (.ifCond .eq 7, 3) := by decide +kernel
theorem dL_spin_127 : decode cL_spin 127 = .ok (.iconst 1, 1) := by decide +kernel
theorem dL_spin_128 : decode cL_spin 128 = .ok (.goto 4, 3) := by decide +kernel
theorem dL_spin_131 : decode cL_spin 131 = .ok (.iconst 0, 1) := by decide +kernel
theorem dL_spin_132 : decode cL_spin 132 = .ok (.iadd, 1) := by decide +kernel
theorem dL_spin_133 : decode cL_spin 133 = .ok (.iastore, 1) := by decide +kernel
theorem dL_spin_134 : decode cL_spin 134 = .ok (.aload_n 0, 1) := by decide +kernel
theorem dL_spin_135 : decode cL_spin 135 = .ok (.bipush 10, 2) := by decide +kernel
theorem dL_spin_137 : decode cL_spin 137 = .ok (.iload_n 2, 1) := by decide +kernel
theorem dL_spin_138 : decode cL_spin 138 = .ok (.ifCond .eq 10, 3) := by decide +kernel
theorem dL_spin_141 : decode cL_spin 141 = .ok (.aload_n 0, 1) := by decide +kernel
theorem dL_spin_142 : decode cL_spin 142 = .ok (.bipush 15, 2) := by decide +kernel
theorem dL_spin_144 : decode cL_spin 144 = .ok (.iaload, 1) := by decide +kernel
theorem dL_spin_145 : decode cL_spin 145 = .ok (.goto 7, 3) := by decide +kernel
theorem dL_spin_148 : decode cL_spin 148 = .ok (.aload_n 0, 1) := by decide +kernel
theorem dL_spin_149 : decode cL_spin 149 = .ok (.bipush 10, 2) := by decide +kernel
theorem dL_spin_151 : decode cL_spin 151 = .ok (.iaload, 1) := by decide +kernel
theorem dL_spin_152 : decode cL_spin 152 = .ok (.iastore, 1) := by decide +kernel
theorem dL_spin_153 : decode cL_spin 153 = .ok (.return_, 1) := by decide +kernel
theorem dL_isOpen_0 : decode cL_isOpen 0 = .ok (.aload_n 2, 1) := by decide +kernel
theorem dL_isOpen_1 : decode cL_isOpen 1 = .ok (.iconst 5, 1) := by decide +kernel
theorem dL_isOpen_2 : decode cL_isOpen 2 = .ok (.iload_n 0, 1) := by decide +kernel
theorem dL_isOpen_3 : decode cL_isOpen 3 = .ok (.imul, 1) := by decide +kernel
theorem dL_isOpen_4 : decode cL_isOpen 4 = .ok (.iaload, 1) := by decide +kernel
theorem dL_isOpen_5 : decode cL_isOpen 5 = .ok (.ifCond .eq 39, 3) := by decide +kernel
theorem dL_isOpen_8 : decode cL_isOpen 8 = .ok (.aload_n 2, 1) := by decide +kernel
theorem dL_isOpen_9 : decode cL_isOpen 9 = .ok (.iconst 5, 1) := by decide +kernel
theorem dL_isOpen_10 : decode cL_isOpen 10 = .ok (.iload_n 0, 1) := by decide +kernel
theorem dL_isOpen_11 : decode cL_isOpen 11 = .ok (.imul, 1) := by decide +kernel
theorem dL_isOpen_12 : decode cL_isOpen 12 = .ok (.iaload, 1) := by decide +kernel
theorem dL_isOpen_13 : decode cL_isOpen 13 = .ok (.iconst 1, 1) := by decide +kernel
theorem dL_isOpen_14 : decode cL_isOpen 14 = .ok (.if_icmp .ne 10, 3) := by decide +kernel
theorem dL_isOpen_17 : decode cL_isOpen 17 = .ok (.aload_n 1, 1) := by decide +kernel
theorem dL_isOpen_18 : decode cL_isOpen 18 = .ok (.bipush 9, 2) := by decide +kernel
theorem dL_isOpen_20 : decode cL_isOpen 20 = .ok (.iaload, 1) := by decide +kernel
theorem dL_isOpen_21 : decode cL_isOpen 21 = .ok (.ifCond .gt 23, 3) := by decide +kernel
theorem dL_isOpen_24 : decode cL_isOpen 24 = .ok (.aload_n 2, 1) := by decide +kernel
theorem dL_isOpen_25 : decode cL_isOpen 25 = .ok (.iconst 5, 1) := by decide +kernel
theorem dL_isOpen_26 : decode cL_isOpen 26 = .ok (.iload_n 0, 1) := by decide +kernel
theorem dL_isOpen_27 : decode cL_isOpen 27 = .ok (.imul, 1) := by decide +kernel
theorem dL_isOpen_28 : decode cL_isOpen 28 = .ok (.iaload, 1) := by decide +kernel
theorem dL_isOpen_29 : decode cL_isOpen 29 = .ok (.iconst 2, 1) := by decide +kernel
theorem dL_isOpen_30 : decode cL_isOpen 30 = .ok (.if_icmp .ne 18, 3) := by decide +kernel
theorem dL_isOpen_33 : decode cL_isOpen 33 = .ok (.aload_n 2, 1) := by decide +kernel
theorem dL_isOpen_34 : decode cL_isOpen 34 = .ok (.iconst 5, 1) := by decide +kernel
theorem dL_isOpen_35 : decode cL_isOpen 35 = .ok (.iload_n 0, 1) := by decide +kernel
theorem dL_isOpen_36 : decode cL_isOpen 36 = .ok (.imul, 1) := by decide +kernel
theorem dL_isOpen_37 : decode cL_isOpen 37 = .ok (.iconst 2, 1) := by decide +kernel
theorem dL_isOpen_38 : decode cL_isOpen 38 = .ok (.iadd, 1) := by decide +kernel
theorem dL_isOpen_39 : decode cL_isOpen 39 = .ok (.iaload, 1) := by decide +kernel
theorem dL_isOpen_40 : decode cL_isOpen 40 = .ok (.iconst 1, 1) := by decide +kernel
theorem dL_isOpen_41 : decode cL_isOpen 41 = .ok (.if_icmp .ne 7, 3) := by decide +kernel
theorem dL_isOpen_44 : decode cL_isOpen 44 = .ok (.iconst 1, 1) := by decide +kernel
theorem dL_isOpen_45 : decode cL_isOpen 45 = .ok (.goto 4, 3) := by decide +kernel
theorem dL_isOpen_48 : decode cL_isOpen 48 = .ok (.iconst 0, 1) := by decide +kernel
theorem dL_isOpen_49 : decode cL_isOpen 49 = .ok (.ireturn, 1) := by decide +kernel
theorem dL_launched_0 : decode cL_launched 0 = .ok (.aload_n 1, 1) := by decide +kernel
theorem dL_launched_1 : decode cL_launched 1 = .ok (.iconst 0, 1) := by decide +kernel
theorem dL_launched_2 : decode cL_launched 2 = .ok (.dup2, 1) := by decide +kernel
theorem dL_launched_3 : decode cL_launched 3 = .ok (.iaload, 1) := by decide +kernel
theorem dL_launched_4 : decode cL_launched 4 = .ok (.iconst 1, 1) := by decide +kernel
theorem dL_launched_5 : decode cL_launched 5 = .ok (.isub, 1) := by decide +kernel
theorem dL_launched_6 : decode cL_launched 6 = .ok (.iastore, 1) := by decide +kernel
theorem dL_launched_7 : decode cL_launched 7 = .ok (.aload_n 1, 1) := by decide +kernel
theorem dL_launched_8 : decode cL_launched 8 = .ok (.iconst 2, 1) := by decide +kernel
theorem dL_launched_9 : decode cL_launched 9 = .ok (.dup2, 1) := by decide +kernel
theorem dL_launched_10 : decode cL_launched 10 = .ok (.iaload, 1) := by decide +kernel
theorem dL_launched_11 : decode cL_launched 11 = .ok (.iconst 1, 1) := by decide +kernel
theorem dL_launched_12 : decode cL_launched 12 = .ok (.iadd, 1) := by decide +kernel
theorem dL_launched_13 : decode cL_launched 13 = .ok (.iastore, 1) := by decide +kernel
theorem dL_launched_14 : decode cL_launched 14 = .ok (.aload_n 1, 1) := by decide +kernel
theorem dL_launched_15 : decode cL_launched 15 = .ok (.bipush 6, 2) := by decide +kernel
theorem dL_launched_17 : decode cL_launched 17 = .ok (.iaload, 1) := by decide +kernel
theorem dL_launched_18 : decode cL_launched 18 = .ok (.ifCond .le 14, 3) := by decide +kernel
theorem dL_launched_21 : decode cL_launched 21 = .ok (.aload_n 1, 1) := by decide +kernel
theorem dL_launched_22 : decode cL_launched 22 = .ok (.bipush 9, 2) := by decide +kernel
theorem dL_launched_24 : decode cL_launched 24 = .ok (.iaload, 1) := by decide +kernel
theorem dL_launched_25 : decode cL_launched 25 = .ok (.ifCond .ne 7, 3) := by decide +kernel
theorem dL_launched_28 : decode cL_launched 28 = .ok (.aload_n 1, 1) := by decide +kernel
theorem dL_launched_29 : decode cL_launched 29 = .ok (.invokestatic 63, 3) := by decide +kernel
theorem dL_launched_32 : decode cL_launched 32 = .ok (.iload_n 0, 1) := by decide +kernel
theorem dL_launched_33 : decode cL_launched 33 = .ok (.istore 5, 2) := by decide +kernel
theorem dL_launched_35 : decode cL_launched 35 = .ok (.iconst 0, 1) := by decide +kernel
theorem dL_launched_36 : decode cL_launched 36 = .ok (.istore 6, 2) := by decide +kernel
theorem dL_launched_38 : decode cL_launched 38 = .ok (.iload 6, 2) := by decide +kernel
theorem dL_launched_40 : decode cL_launched 40 = .ok (.bipush 8, 2) := by decide +kernel
theorem dL_launched_42 : decode cL_launched 42 = .ok (.if_icmp .ge 84, 3) := by decide +kernel
theorem dL_launched_45 : decode cL_launched 45 = .ok (.aload 4, 2) := by decide +kernel
theorem dL_launched_47 : decode cL_launched 47 = .ok (.iload 6, 2) := by decide +kernel
theorem dL_launched_49 : decode cL_launched 49 = .ok (.bipush 7, 2) := by decide +kernel
theorem dL_launched_51 : decode cL_launched 51 = .ok (.iload 6, 2) := by decide +kernel
theorem dL_launched_53 : decode cL_launched 53 = .ok (.imul, 1) := by decide +kernel
theorem dL_launched_54 : decode cL_launched 54 = .ok (.iload 5, 2) := by decide +kernel
theorem dL_launched_56 : decode cL_launched 56 = .ok (.iadd, 1) := by decide +kernel
theorem dL_launched_57 : decode cL_launched 57 = .ok (.iastore, 1) := by decide +kernel
theorem dL_launched_58 : decode cL_launched 58 = .ok (.aload_n 2, 1) := by decide +kernel
theorem dL_launched_59 : decode cL_launched 59 = .ok (.bipush 7, 2) := by decide +kernel
theorem dL_launched_61 : decode cL_launched 61 = .ok (.iload 6, 2) := by decide +kernel
theorem dL_launched_63 : decode cL_launched 63 = .ok (.imul, 1) := by decide +kernel
theorem dL_launched_64 : decode cL_launched 64 = .ok (.iload 5, 2) := by decide +kernel
theorem dL_launched_66 : decode cL_launched 66 = .ok (.iadd, 1) := by decide +kernel
theorem dL_launched_67 : decode cL_launched 67 = .ok (.iaload, 1) := by decide +kernel
theorem dL_launched_68 : decode cL_launched 68 = .ok (.istore 7, 2) := by decide +kernel
theorem dL_launched_70 : decode cL_launched 70 = .ok (.iload 7, 2) := by decide +kernel
theorem dL_launched_72 : decode cL_launched 72 = .ok (.ifCond .ne 18, 3) := by decide +kernel
theorem dL_launched_75 : decode cL_launched 75 = .ok (.aload_n 1, 1) := by decide +kernel
theorem dL_launched_76 : decode cL_launched 76 = .ok (.iconst 2, 1) := by decide +kernel
theorem dL_launched_77 : decode cL_launched 77 = .ok (.invokestatic 57, 3) := by decide +kernel
theorem dL_launched_80 : decode cL_launched 80 = .ok (.ifCond .ne 7, 3) := by decide +kernel
theorem dL_launched_83 : decode cL_launched 83 = .ok (.iconst (-1), 1) := by decide +kernel
theorem dL_launched_84 : decode cL_launched 84 = .ok (.goto 4, 3) := by decide +kernel
theorem dL_launched_87 : decode cL_launched 87 = .ok (.iconst 1, 1) := by decide +kernel
theorem dL_launched_88 : decode cL_launched 88 = .ok (.istore 7, 2) := by decide +kernel
theorem dL_launched_90 : decode cL_launched 90 = .ok (.iload 5, 2) := by decide +kernel
theorem dL_launched_92 : decode cL_launched 92 = .ok (.iload 7, 2) := by decide +kernel
theorem dL_launched_94 : decode cL_launched 94 = .ok (.iadd, 1) := by decide +kernel
theorem dL_launched_95 : decode cL_launched 95 = .ok (.ifCond .lt 13, 3) := by decide +kernel
theorem dL_launched_98 : decode cL_launched 98 = .ok (.iload 5, 2) := by decide +kernel
theorem dL_launched_100 : decode cL_launched 100 = .ok (.iload 7, 2) := by decide +kernel
theorem dL_launched_102 : decode cL_launched 102 = .ok (.iadd, 1) := by decide +kernel
theorem dL_launched_103 : decode cL_launched 103 = .ok (.bipush 6, 2) := by decide +kernel
theorem dL_launched_105 : decode cL_launched 105 = .ok (.if_icmp .le 8, 3) := by decide +kernel
theorem dL_launched_108 : decode cL_launched 108 = .ok (.iload 5, 2) := by decide +kernel
theorem dL_launched_110 : decode cL_launched 110 = .ok (.goto 8, 3) := by decide +kernel
theorem dL_launched_113 : decode cL_launched 113 = .ok (.iload 5, 2) := by decide +kernel
theorem dL_launched_115 : decode cL_launched 115 = .ok (.iload 7, 2) := by decide +kernel
theorem dL_launched_117 : decode cL_launched 117 = .ok (.iadd, 1) := by decide +kernel
theorem dL_launched_118 : decode cL_launched 118 = .ok (.istore 5, 2) := by decide +kernel
theorem dL_launched_120 : decode cL_launched 120 = .ok (.iinc 6 1, 3) := by decide +kernel
theorem dL_launched_123 : decode cL_launched 123 = .ok (.goto (-85), 3) := by decide +kernel
theorem dL_launched_126 : decode cL_launched 126 = .ok (.iload 5, 2) := by decide +kernel
theorem dL_launched_128 : decode cL_launched 128 = .ok (.aload_n 1, 1) := by decide +kernel
theorem dL_launched_129 : decode cL_launched 129 = .ok (.aload_n 3, 1) := by decide +kernel
theorem dL_launched_130 : decode cL_launched 130 = .ok (.invokestatic 67, 3) := by decide +kernel
theorem dL_launched_133 : decode cL_launched 133 = .ok (.istore 6, 2) := by decide +kernel
theorem dL_launched_135 : decode cL_launched 135 = .ok (.iload 6, 2) := by decide +kernel
theorem dL_launched_137 : decode cL_launched 137 = .ok (.ifCond .eq 14, 3) := by decide +kernel
theorem dL_launched_140 : decode cL_launched 140 = .ok (.aload_n 3, 1) := by decide +kernel
theorem dL_launched_141 : decode cL_launched 141 = .ok (.iconst 5, 1) := by decide +kernel
theorem dL_launched_142 : decode cL_launched 142 = .ok (.iload 5, 2) := by decide +kernel
theorem dL_launched_144 : decode cL_launched 144 = .ok (.imul, 1) := by decide +kernel
theorem dL_launched_145 : decode cL_launched 145 = .ok (.iconst 1, 1) := by decide +kernel
theorem dL_launched_146 : decode cL_launched 146 = .ok (.iadd, 1) := by decide +kernel
theorem dL_launched_147 : decode cL_launched 147 = .ok (.iaload, 1) := by decide +kernel
theorem dL_launched_148 : decode cL_launched 148 = .ok (.goto 4, 3) := by decide +kernel
theorem dL_launched_151 : decode cL_launched 151 = .ok (.iconst 0, 1) := by decide +kernel
theorem dL_launched_152 : decode cL_launched 152 = .ok (.istore 7, 2) := by decide +kernel
theorem dL_launched_154 : decode cL_launched 154 = .ok (.aload_n 3, 1) := by decide +kernel
theorem dL_launched_155 : decode cL_launched 155 = .ok (.iconst 5, 1) := by decide +kernel
theorem dL_launched_156 : decode cL_launched 156 = .ok (.iload 5, 2) := by decide +kernel
theorem dL_launched_158 : decode cL_launched 158 = .ok (.imul, 1) := by decide +kernel
theorem dL_launched_159 : decode cL_launched 159 = .ok (.iaload, 1) := by decide +kernel
theorem dL_launched_160 : decode cL_launched 160 = .ok (.iconst 2, 1) := by decide +kernel
theorem dL_launched_161 : decode cL_launched 161 = .ok (.if_icmp .ne 21, 3) := by decide +kernel
theorem dL_launched_164 : decode cL_launched 164 = .ok (.aload_n 3, 1) := by decide +kernel
theorem dL_launched_165 : decode cL_launched 165 = .ok (.iconst 5, 1) := by decide +kernel
theorem dL_launched_166 : decode cL_launched 166 = .ok (.iload 5, 2) := by decide +kernel
theorem dL_launched_168 : decode cL_launched 168 = .ok (.imul, 1) := by decide +kernel
theorem dL_launched_169 : decode cL_launched 169 = .ok (.iconst 2, 1) := by decide +kernel
theorem dL_launched_170 : decode cL_launched 170 = .ok (.iadd, 1) := by decide +kernel
theorem dL_launched_171 : decode cL_launched 171 = .ok (.iconst 1, 1) := by decide +kernel
theorem dL_launched_172 : decode cL_launched 172 = .ok (.aload_n 3, 1) := by decide +kernel
theorem dL_launched_173 : decode cL_launched 173 = .ok (.iconst 5, 1) := by decide +kernel
theorem dL_launched_174 : decode cL_launched 174 = .ok (.iload 5, 2) := by decide +kernel
theorem dL_launched_176 : decode cL_launched 176 = .ok (.imul, 1) := by decide +kernel
theorem dL_launched_177 : decode cL_launched 177 = .ok (.iconst 2, 1) := by decide +kernel
theorem dL_launched_178 : decode cL_launched 178 = .ok (.iadd, 1) := by decide +kernel
theorem dL_launched_179 : decode cL_launched 179 = .ok (.iaload, 1) := by decide +kernel
theorem dL_launched_180 : decode cL_launched 180 = .ok (.isub, 1) := by decide +kernel
theorem dL_launched_181 : decode cL_launched 181 = .ok (.iastore, 1) := by decide +kernel
theorem dL_launched_182 : decode cL_launched 182 = .ok (.aload_n 3, 1) := by decide +kernel
theorem dL_launched_183 : decode cL_launched 183 = .ok (.iconst 5, 1) := by decide +kernel
theorem dL_launched_184 : decode cL_launched 184 = .ok (.iload 5, 2) := by decide +kernel
theorem dL_launched_186 : decode cL_launched 186 = .ok (.imul, 1) := by decide +kernel
theorem dL_launched_187 : decode cL_launched 187 = .ok (.iaload, 1) := by decide +kernel
theorem dL_launched_188 : decode cL_launched 188 = .ok (.iconst 1, 1) := by decide +kernel
theorem dL_launched_189 : decode cL_launched 189 = .ok (.if_icmp .ne 16, 3) := by decide +kernel
theorem dL_launched_192 : decode cL_launched 192 = .ok (.iload 6, 2) := by decide +kernel
theorem dL_launched_194 : decode cL_launched 194 = .ok (.ifCond .eq 11, 3) := by decide +kernel
theorem dL_launched_197 : decode cL_launched 197 = .ok (.aload_n 1, 1) := by decide +kernel
theorem dL_launched_198 : decode cL_launched 198 = .ok (.bipush 9, 2) := by decide +kernel
theorem dL_launched_200 : decode cL_launched 200 = .ok (.dup2, 1) := by decide +kernel
theorem dL_launched_201 : decode cL_launched 201 = .ok (.iaload, 1) := by decide +kernel
theorem dL_launched_202 : decode cL_launched 202 = .ok (.iconst 1, 1) := by decide +kernel
theorem dL_launched_203 : decode cL_launched 203 = .ok (.isub, 1) := by decide +kernel
theorem dL_launched_204 : decode cL_launched 204 = .ok (.iastore, 1) := by decide +kernel
theorem dL_launched_205 : decode cL_launched 205 = .ok (.aload_n 1, 1) := by decide +kernel
theorem dL_launched_206 : decode cL_launched 206 = .ok (.iconst 0, 1) := by decide +kernel
theorem dL_launched_207 : decode cL_launched 207 = .ok (.dup2, 1) := by decide +kernel
theorem dL_launched_208 : decode cL_launched 208 = .ok (.iaload, 1) := by decide +kernel
theorem dL_launched_209 : decode cL_launched 209 = .ok (.iload 7, 2) := by decide +kernel
theorem dL_launched_211 : decode cL_launched 211 = .ok (.iadd, 1) := by decide +kernel
theorem dL_launched_212 : decode cL_launched 212 = .ok (.iastore, 1) := by decide +kernel
theorem dL_launched_213 : decode cL_launched 213 = .ok (.aload_n 1, 1) := by decide +kernel
theorem dL_launched_214 : decode cL_launched 214 = .ok (.iconst 3, 1) := by decide +kernel
theorem dL_launched_215 : decode cL_launched 215 = .ok (.dup2, 1) := by decide +kernel
theorem dL_launched_216 : decode cL_launched 216 = .ok (.iaload, 1) := by decide +kernel
theorem dL_launched_217 : decode cL_launched 217 = .ok (.iload 7, 2) := by decide +kernel
theorem dL_launched_219 : decode cL_launched 219 = .ok (.iadd, 1) := by decide +kernel
theorem dL_launched_220 : decode cL_launched 220 = .ok (.iastore, 1) := by decide +kernel
theorem dL_launched_221 : decode cL_launched 221 = .ok (.aload_n 1, 1) := by decide +kernel
theorem dL_launched_222 : decode cL_launched 222 = .ok (.iconst 4, 1) := by decide +kernel
theorem dL_launched_223 : decode cL_launched 223 = .ok (.dup2, 1) := by decide +kernel
theorem dL_launched_224 : decode cL_launched 224 = .ok (.iaload, 1) := by decide +kernel
theorem dL_launched_225 : decode cL_launched 225 = .ok (.iload 6, 2) := by decide +kernel
theorem dL_launched_227 : decode cL_launched 227 = .ok (.ifCond .eq 7, 3) := by decide +kernel
theorem dL_launched_230 : decode cL_launched 230 = .ok (.iconst 0, 1) := by decide +kernel
theorem dL_launched_231 : decode cL_launched 231 = .ok (.goto 4, 3) := by decide +kernel
theorem dL_launched_234 : decode cL_launched 234 = .ok (.iconst 1, 1) := by decide +kernel
theorem dL_launched_235 : decode cL_launched 235 = .ok (.iadd, 1) := by decide +kernel
theorem dL_launched_236 : decode cL_launched 236 = .ok (.iastore, 1) := by decide +kernel
theorem dL_launched_237 : decode cL_launched 237 = .ok (.aload_n 1, 1) := by decide +kernel
theorem dL_launched_238 : decode cL_launched 238 = .ok (.iconst 5, 1) := by decide +kernel
theorem dL_launched_239 : decode cL_launched 239 = .ok (.dup2, 1) := by decide +kernel
theorem dL_launched_240 : decode cL_launched 240 = .ok (.iaload, 1) := by decide +kernel
theorem dL_launched_241 : decode cL_launched 241 = .ok (.iload 6, 2) := by decide +kernel
theorem dL_launched_243 : decode cL_launched 243 = .ok (.ifCond .eq 12, 3) := by decide +kernel
theorem dL_launched_246 : decode cL_launched 246 = .ok (.iload 7, 2) := by decide +kernel
theorem dL_launched_248 : decode cL_launched 248 = .ok (.ifCond .ne 7, 3) := by decide +kernel
theorem dL_launched_251 : decode cL_launched 251 = .ok (.iconst 1, 1) := by decide +kernel
theorem dL_launched_252 : decode cL_launched 252 = .ok (.goto 4, 3) := by decide +kernel
theorem dL_launched_255 : decode cL_launched 255 = .ok (.iconst 0, 1) := by decide +kernel
theorem dL_launched_256 : decode cL_launched 256 = .ok (.iadd, 1) := by decide +kernel
theorem dL_launched_257 : decode cL_launched 257 = .ok (.iastore, 1) := by decide +kernel
theorem dL_launched_258 : decode cL_launched 258 = .ok (.aload_n 3, 1) := by decide +kernel
theorem dL_launched_259 : decode cL_launched 259 = .ok (.iconst 5, 1) := by decide +kernel
theorem dL_launched_260 : decode cL_launched 260 = .ok (.iload 5, 2) := by decide +kernel
theorem dL_launched_262 : decode cL_launched 262 = .ok (.imul, 1) := by decide +kernel
theorem dL_launched_263 : decode cL_launched 263 = .ok (.iconst 3, 1) := by decide +kernel
theorem dL_launched_264 : decode cL_launched 264 = .ok (.iadd, 1) := by decide +kernel
theorem dL_launched_265 : decode cL_launched 265 = .ok (.dup2, 1) := by decide +kernel
theorem dL_launched_266 : decode cL_launched 266 = .ok (.iaload, 1) := by decide +kernel
theorem dL_launched_267 : decode cL_launched 267 = .ok (.iconst 1, 1) := by decide +kernel
theorem dL_launched_268 : decode cL_launched 268 = .ok (.iadd, 1) := by decide +kernel
theorem dL_launched_269 : decode cL_launched 269 = .ok (.iastore, 1) := by decide +kernel
theorem dL_launched_270 : decode cL_launched 270 = .ok (.aload_n 3, 1) := by decide +kernel
theorem dL_launched_271 : decode cL_launched 271 = .ok (.iconst 5, 1) := by decide +kernel
theorem dL_launched_272 : decode cL_launched 272 = .ok (.iload 5, 2) := by decide +kernel
theorem dL_launched_274 : decode cL_launched 274 = .ok (.imul, 1) := by decide +kernel
theorem dL_launched_275 : decode cL_launched 275 = .ok (.iconst 4, 1) := by decide +kernel
theorem dL_launched_276 : decode cL_launched 276 = .ok (.iadd, 1) := by decide +kernel
theorem dL_launched_277 : decode cL_launched 277 = .ok (.dup2, 1) := by decide +kernel
theorem dL_launched_278 : decode cL_launched 278 = .ok (.iaload, 1) := by decide +kernel
theorem dL_launched_279 : decode cL_launched 279 = .ok (.iload 7, 2) := by decide +kernel
theorem dL_launched_281 : decode cL_launched 281 = .ok (.iadd, 1) := by decide +kernel
theorem dL_launched_282 : decode cL_launched 282 = .ok (.iastore, 1) := by decide +kernel
theorem dL_launched_283 : decode cL_launched 283 = .ok (.aload_n 1, 1) := by decide +kernel
theorem dL_launched_284 : decode cL_launched 284 = .ok (.bipush 11, 2) := by decide +kernel
theorem dL_launched_286 : decode cL_launched 286 = .ok (.iload 5, 2) := by decide +kernel
theorem dL_launched_288 : decode cL_launched 288 = .ok (.iastore, 1) := by decide +kernel
theorem dL_launched_289 : decode cL_launched 289 = .ok (.iload 5, 2) := by decide +kernel
theorem dL_launched_291 : decode cL_launched 291 = .ok (.aload_n 1, 1) := by decide +kernel
theorem dL_launched_292 : decode cL_launched 292 = .ok (.bipush 12, 2) := by decide +kernel
theorem dL_launched_294 : decode cL_launched 294 = .ok (.iaload, 1) := by decide +kernel
theorem dL_launched_295 : decode cL_launched 295 = .ok (.if_icmp .ne 19, 3) := by decide +kernel
theorem dL_launched_298 : decode cL_launched 298 = .ok (.aload_n 1, 1) := by decide +kernel
theorem dL_launched_299 : decode cL_launched 299 = .ok (.bipush 6, 2) := by decide +kernel
theorem dL_launched_301 : decode cL_launched 301 = .ok (.iaload, 1) := by decide +kernel
theorem dL_launched_302 : decode cL_launched 302 = .ok (.iconst 4, 1) := by decide +kernel
theorem dL_launched_303 : decode cL_launched 303 = .ok (.if_icmp .ge 11, 3) := by decide +kernel
theorem dL_launched_306 : decode cL_launched 306 = .ok (.aload_n 1, 1) := by decide +kernel
theorem dL_launched_307 : decode cL_launched 307 = .ok (.bipush 6, 2) := by decide +kernel
theorem dL_launched_309 : decode cL_launched 309 = .ok (.dup2, 1) := by decide +kernel
theorem dL_launched_310 : decode cL_launched 310 = .ok (.iaload, 1) := by decide +kernel
theorem dL_launched_311 : decode cL_launched 311 = .ok (.iconst 1, 1) := by decide +kernel
theorem dL_launched_312 : decode cL_launched 312 = .ok (.iadd, 1) := by decide +kernel
theorem dL_launched_313 : decode cL_launched 313 = .ok (.iastore, 1) := by decide +kernel
theorem dL_launched_314 : decode cL_launched 314 = .ok (.iload 7, 2) := by decide +kernel
theorem dL_launched_316 : decode cL_launched 316 = .ok (.ireturn, 1) := by decide +kernel
theorem dL_copy_0 : decode cL_copy 0 = .ok (.iconst 0, 1) := by decide +kernel
theorem dL_copy_1 : decode cL_copy 1 = .ok (.istore_n 2, 1) := by decide +kernel
theorem dL_copy_2 : decode cL_copy 2 = .ok (.iload_n 2, 1) := by decide +kernel
theorem dL_copy_3 : decode cL_copy 3 = .ok (.aload_n 0, 1) := by decide +kernel
theorem dL_copy_4 : decode cL_copy 4 = .ok (.arraylength, 1) := by decide +kernel
theorem dL_copy_5 : decode cL_copy 5 = .ok (.if_icmp .ge 15, 3) := by decide +kernel
theorem dL_copy_8 : decode cL_copy 8 = .ok (.aload_n 1, 1) := by decide +kernel
theorem dL_copy_9 : decode cL_copy 9 = .ok (.iload_n 2, 1) := by decide +kernel
theorem dL_copy_10 : decode cL_copy 10 = .ok (.aload_n 0, 1) := by decide +kernel
theorem dL_copy_11 : decode cL_copy 11 = .ok (.iload_n 2, 1) := by decide +kernel
theorem dL_copy_12 : decode cL_copy 12 = .ok (.iaload, 1) := by decide +kernel
theorem dL_copy_13 : decode cL_copy 13 = .ok (.iastore, 1) := by decide +kernel
theorem dL_copy_14 : decode cL_copy 14 = .ok (.iinc 2 1, 3) := by decide +kernel
theorem dL_copy_17 : decode cL_copy 17 = .ok (.goto (-15), 3) := by decide +kernel
theorem dL_copy_20 : decode cL_copy 20 = .ok (.return_, 1) := by decide +kernel
theorem dL_ways_0 : decode cL_ways 0 = .ok (.iconst 0, 1) := by decide +kernel
theorem dL_ways_1 : decode cL_ways 1 = .ok (.istore_n 3, 1) := by decide +kernel
theorem dL_ways_2 : decode cL_ways 2 = .ok (.iload_n 3, 1) := by decide +kernel
theorem dL_ways_3 : decode cL_ways 3 = .ok (.bipush 8, 2) := by decide +kernel
theorem dL_ways_5 : decode cL_ways 5 = .ok (.if_icmp .ge 13, 3) := by decide +kernel
theorem dL_ways_8 : decode cL_ways 8 = .ok (.aload_n 2, 1) := by decide +kernel
theorem dL_ways_9 : decode cL_ways 9 = .ok (.iload_n 3, 1) := by decide +kernel
theorem dL_ways_10 : decode cL_ways 10 = .ok (.iconst 0, 1) := by decide +kernel
theorem dL_ways_11 : decode cL_ways 11 = .ok (.iastore, 1) := by decide +kernel
theorem dL_ways_12 : decode cL_ways 12 = .ok (.iinc 3 1, 3) := by decide +kernel
theorem dL_ways_15 : decode cL_ways 15 = .ok (.goto (-13), 3) := by decide +kernel
theorem dL_ways_18 : decode cL_ways 18 = .ok (.iconst 0, 1) := by decide +kernel
theorem dL_ways_19 : decode cL_ways 19 = .ok (.istore_n 3, 1) := by decide +kernel
theorem dL_ways_20 : decode cL_ways 20 = .ok (.iload_n 3, 1) := by decide +kernel
theorem dL_ways_21 : decode cL_ways 21 = .ok (.sipush 256, 3) := by decide +kernel
theorem dL_ways_24 : decode cL_ways 24 = .ok (.if_icmp .ge 148, 3) := by decide +kernel
theorem dL_ways_27 : decode cL_ways 27 = .ok (.iload_n 0, 1) := by decide +kernel
theorem dL_ways_28 : decode cL_ways 28 = .ok (.istore 4, 2) := by decide +kernel
theorem dL_ways_30 : decode cL_ways 30 = .ok (.iconst 1, 1) := by decide +kernel
theorem dL_ways_31 : decode cL_ways 31 = .ok (.istore 5, 2) := by decide +kernel
theorem dL_ways_33 : decode cL_ways 33 = .ok (.iconst 0, 1) := by decide +kernel
theorem dL_ways_34 : decode cL_ways 34 = .ok (.istore 6, 2) := by decide +kernel
theorem dL_ways_36 : decode cL_ways 36 = .ok (.iload 6, 2) := by decide +kernel
theorem dL_ways_38 : decode cL_ways 38 = .ok (.bipush 8, 2) := by decide +kernel
theorem dL_ways_40 : decode cL_ways 40 = .ok (.if_icmp .ge 92, 3) := by decide +kernel
theorem dL_ways_43 : decode cL_ways 43 = .ok (.iload_n 3, 1) := by decide +kernel
theorem dL_ways_44 : decode cL_ways 44 = .ok (.iload 6, 2) := by decide +kernel
theorem dL_ways_46 : decode cL_ways 46 = .ok (.ishr, 1) := by decide +kernel
theorem dL_ways_47 : decode cL_ways 47 = .ok (.iconst 1, 1) := by decide +kernel
theorem dL_ways_48 : decode cL_ways 48 = .ok (.iand, 1) := by decide +kernel
theorem dL_ways_49 : decode cL_ways 49 = .ok (.iconst 1, 1) := by decide +kernel
theorem dL_ways_50 : decode cL_ways 50 = .ok (.if_icmp .ne 7, 3) := by decide +kernel
theorem dL_ways_53 : decode cL_ways 53 = .ok (.iconst 1, 1) := by decide +kernel
theorem dL_ways_54 : decode cL_ways 54 = .ok (.goto 4, 3) := by decide +kernel
theorem dL_ways_57 : decode cL_ways 57 = .ok (.iconst (-1), 1) := by decide +kernel
theorem dL_ways_58 : decode cL_ways 58 = .ok (.istore 7, 2) := by decide +kernel
theorem dL_ways_60 : decode cL_ways 60 = .ok (.aload_n 1, 1) := by decide +kernel
theorem dL_ways_61 : decode cL_ways 61 = .ok (.bipush 7, 2) := by decide +kernel
theorem dL_ways_63 : decode cL_ways 63 = .ok (.iload 6, 2) := by decide +kernel
theorem dL_ways_65 : decode cL_ways 65 = .ok (.imul, 1) := by decide +kernel
theorem dL_ways_66 : decode cL_ways 66 = .ok (.iload 4, 2) := by decide +kernel
theorem dL_ways_68 : decode cL_ways 68 = .ok (.iadd, 1) := by decide +kernel
theorem dL_ways_69 : decode cL_ways 69 = .ok (.iaload, 1) := by decide +kernel
theorem dL_ways_70 : decode cL_ways 70 = .ok (.istore 8, 2) := by decide +kernel
theorem dL_ways_72 : decode cL_ways 72 = .ok (.iload 5, 2) := by decide +kernel
theorem dL_ways_74 : decode cL_ways 74 = .ok (.ifCond .eq 19, 3) := by decide +kernel
theorem dL_ways_77 : decode cL_ways 77 = .ok (.iload 8, 2) := by decide +kernel
theorem dL_ways_79 : decode cL_ways 79 = .ok (.ifCond .eq 10, 3) := by decide +kernel
theorem dL_ways_82 : decode cL_ways 82 = .ok (.iload 8, 2) := by decide +kernel
theorem dL_ways_84 : decode cL_ways 84 = .ok (.iload 7, 2) := by decide +kernel
theorem dL_ways_86 : decode cL_ways 86 = .ok (.if_icmp .ne 7, 3) := by decide +kernel
theorem dL_ways_89 : decode cL_ways 89 = .ok (.iconst 1, 1) := by decide +kernel
theorem dL_ways_90 : decode cL_ways 90 = .ok (.goto 4, 3) := by decide +kernel
theorem dL_ways_93 : decode cL_ways 93 = .ok (.iconst 0, 1) := by decide +kernel
theorem dL_ways_94 : decode cL_ways 94 = .ok (.istore 5, 2) := by decide +kernel
theorem dL_ways_96 : decode cL_ways 96 = .ok (.iload 4, 2) := by decide +kernel
theorem dL_ways_98 : decode cL_ways 98 = .ok (.iload 7, 2) := by decide +kernel
theorem dL_ways_100 : decode cL_ways 100 = .ok (.iadd, 1) := by decide +kernel
theorem dL_ways_101 : decode cL_ways 101 = .ok (.ifCond .lt 13, 3) := by decide +kernel
theorem dL_ways_104 : decode cL_ways 104 = .ok (.iload 4, 2) := by decide +kernel
theorem dL_ways_106 : decode cL_ways 106 = .ok (.iload 7, 2) := by decide +kernel
theorem dL_ways_108 : decode cL_ways 108 = .ok (.iadd, 1) := by decide +kernel
theorem dL_ways_109 : decode cL_ways 109 = .ok (.bipush 6, 2) := by decide +kernel
theorem dL_ways_111 : decode cL_ways 111 = .ok (.if_icmp .le 8, 3) := by decide +kernel
theorem dL_ways_114 : decode cL_ways 114 = .ok (.iload 4, 2) := by decide +kernel
theorem dL_ways_116 : decode cL_ways 116 = .ok (.goto 8, 3) := by decide +kernel
theorem dL_ways_119 : decode cL_ways 119 = .ok (.iload 4, 2) := by decide +kernel
theorem dL_ways_121 : decode cL_ways 121 = .ok (.iload 7, 2) := by decide +kernel
theorem dL_ways_123 : decode cL_ways 123 = .ok (.iadd, 1) := by decide +kernel
theorem dL_ways_124 : decode cL_ways 124 = .ok (.istore 4, 2) := by decide +kernel
theorem dL_ways_126 : decode cL_ways 126 = .ok (.iinc 6 1, 3) := by decide +kernel
theorem dL_ways_129 : decode cL_ways 129 = .ok (.goto (-93), 3) := by decide +kernel
theorem dL_ways_132 : decode cL_ways 132 = .ok (.aload_n 2, 1) := by decide +kernel
theorem dL_ways_133 : decode cL_ways 133 = .ok (.iload 4, 2) := by decide +kernel
theorem dL_ways_135 : decode cL_ways 135 = .ok (.dup2, 1) := by decide +kernel
theorem dL_ways_136 : decode cL_ways 136 = .ok (.iaload, 1) := by decide +kernel
theorem dL_ways_137 : decode cL_ways 137 = .ok (.iload 5, 2) := by decide +kernel
theorem dL_ways_139 : decode cL_ways 139 = .ok (.ifCond .eq 7, 3) := by decide +kernel
theorem dL_ways_142 : decode cL_ways 142 = .ok (.iconst 1, 1) := by decide +kernel
theorem dL_ways_143 : decode cL_ways 143 = .ok (.goto 4, 3) := by decide +kernel
theorem dL_ways_146 : decode cL_ways 146 = .ok (.iconst 0, 1) := by decide +kernel
theorem dL_ways_147 : decode cL_ways 147 = .ok (.iadd, 1) := by decide +kernel
theorem dL_ways_148 : decode cL_ways 148 = .ok (.iastore, 1) := by decide +kernel
theorem dL_ways_149 : decode cL_ways 149 = .ok (.aload_n 2, 1) := by decide +kernel
theorem dL_ways_150 : decode cL_ways 150 = .ok (.bipush 7, 2) := by decide +kernel
theorem dL_ways_152 : decode cL_ways 152 = .ok (.dup2, 1) := by decide +kernel
theorem dL_ways_153 : decode cL_ways 153 = .ok (.iaload, 1) := by decide +kernel
theorem dL_ways_154 : decode cL_ways 154 = .ok (.iload 5, 2) := by decide +kernel
theorem dL_ways_156 : decode cL_ways 156 = .ok (.ifCond .eq 7, 3) := by decide +kernel
theorem dL_ways_159 : decode cL_ways 159 = .ok (.iconst 1, 1) := by decide +kernel
theorem dL_ways_160 : decode cL_ways 160 = .ok (.goto 4, 3) := by decide +kernel
theorem dL_ways_163 : decode cL_ways 163 = .ok (.iconst 0, 1) := by decide +kernel
theorem dL_ways_164 : decode cL_ways 164 = .ok (.iadd, 1) := by decide +kernel
theorem dL_ways_165 : decode cL_ways 165 = .ok (.iastore, 1) := by decide +kernel
theorem dL_ways_166 : decode cL_ways 166 = .ok (.iinc 3 1, 3) := by decide +kernel
theorem dL_ways_169 : decode cL_ways 169 = .ok (.goto (-149), 3) := by decide +kernel
theorem dL_ways_172 : decode cL_ways 172 = .ok (.return_, 1) := by decide +kernel
theorem dL_isAhead_0 : decode cL_isAhead 0 = .ok (.bipush 19, 2) := by decide +kernel
theorem dL_isAhead_2 : decode cL_isAhead 2 = .ok (.newarray .int, 2) := by decide +kernel
theorem dL_isAhead_4 : decode cL_isAhead 4 = .ok (.astore 6, 2) := by decide +kernel
theorem dL_isAhead_6 : decode cL_isAhead 6 = .ok (.bipush 35, 2) := by decide +kernel
theorem dL_isAhead_8 : decode cL_isAhead 8 = .ok (.newarray .int, 2) := by decide +kernel
theorem dL_isAhead_10 : decode cL_isAhead 10 = .ok (.astore 7, 2) := by decide +kernel
theorem dL_isAhead_12 : decode cL_isAhead 12 = .ok (.bipush 8, 2) := by decide +kernel
theorem dL_isAhead_14 : decode cL_isAhead 14 = .ok (.newarray .int, 2) := by decide +kernel
theorem dL_isAhead_16 : decode cL_isAhead 16 = .ok (.astore 8, 2) := by decide +kernel
theorem dL_isAhead_18 : decode cL_isAhead 18 = .ok (.aload_n 2, 1) := by decide +kernel
theorem dL_isAhead_19 : decode cL_isAhead 19 = .ok (.aload 6, 2) := by decide +kernel
theorem dL_isAhead_21 : decode cL_isAhead 21 = .ok (.invokestatic 71, 3) := by decide +kernel
theorem dL_isAhead_24 : decode cL_isAhead 24 = .ok (.aload 4, 2) := by decide +kernel
theorem dL_isAhead_26 : decode cL_isAhead 26 = .ok (.aload 7, 2) := by decide +kernel
theorem dL_isAhead_28 : decode cL_isAhead 28 = .ok (.invokestatic 71, 3) := by decide +kernel
theorem dL_isAhead_31 : decode cL_isAhead 31 = .ok (.aload 5, 2) := by decide +kernel
theorem dL_isAhead_33 : decode cL_isAhead 33 = .ok (.aload 8, 2) := by decide +kernel
theorem dL_isAhead_35 : decode cL_isAhead 35 = .ok (.invokestatic 71, 3) := by decide +kernel
theorem dL_isAhead_38 : decode cL_isAhead 38 = .ok (.iload_n 1, 1) := by decide +kernel
theorem dL_isAhead_39 : decode cL_isAhead 39 = .ok (.aload 6, 2) := by decide +kernel
theorem dL_isAhead_41 : decode cL_isAhead 41 = .ok (.aload_n 3, 1) := by decide +kernel
theorem dL_isAhead_42 : decode cL_isAhead 42 = .ok (.aload 7, 2) := by decide +kernel
theorem dL_isAhead_44 : decode cL_isAhead 44 = .ok (.aload 8, 2) := by decide +kernel
theorem dL_isAhead_46 : decode cL_isAhead 46 = .ok (.invokestatic 75, 3) := by decide +kernel
theorem dL_isAhead_49 : decode cL_isAhead 49 = .ok (.istore 9, 2) := by decide +kernel
theorem dL_isAhead_51 : decode cL_isAhead 51 = .ok (.aload_n 0, 1) := by decide +kernel
theorem dL_isAhead_52 : decode cL_isAhead 52 = .ok (.iload_n 1, 1) := by decide +kernel
theorem dL_isAhead_53 : decode cL_isAhead 53 = .ok (.iconst 0, 1) := by decide +kernel
theorem dL_isAhead_54 : decode cL_isAhead 54 = .ok (.invokevirtual 79, 3) := by decide +kernel
theorem dL_isAhead_57 : decode cL_isAhead 57 = .ok (.aload 6, 2) := by decide +kernel
theorem dL_isAhead_59 : decode cL_isAhead 59 = .ok (.bipush 11, 2) := by decide +kernel
theorem dL_isAhead_61 : decode cL_isAhead 61 = .ok (.iaload, 1) := by decide +kernel
theorem dL_isAhead_62 : decode cL_isAhead 62 = .ok (.if_icmp .ne 42, 3) := by decide +kernel
theorem dL_isAhead_65 : decode cL_isAhead 65 = .ok (.aload_n 0, 1) := by decide +kernel
theorem dL_isAhead_66 : decode cL_isAhead 66 = .ok (.iload_n 1, 1) := by decide +kernel
theorem dL_isAhead_67 : decode cL_isAhead 67 = .ok (.iconst 1, 1) := by decide +kernel
theorem dL_isAhead_68 : decode cL_isAhead 68 = .ok (.invokevirtual 79, 3) := by decide +kernel
theorem dL_isAhead_71 : decode cL_isAhead 71 = .ok (.iload 9, 2) := by decide +kernel
theorem dL_isAhead_73 : decode cL_isAhead 73 = .ok (.if_icmp .ne 31, 3) := by decide +kernel
theorem dL_isAhead_76 : decode cL_isAhead 76 = .ok (.aload_n 0, 1) := by decide +kernel
theorem dL_isAhead_77 : decode cL_isAhead 77 = .ok (.iload_n 1, 1) := by decide +kernel
theorem dL_isAhead_78 : decode cL_isAhead 78 = .ok (.iconst 2, 1) := by decide +kernel
theorem dL_isAhead_79 : decode cL_isAhead 79 = .ok (.invokevirtual 79, 3) := by decide +kernel
theorem dL_isAhead_82 : decode cL_isAhead 82 = .ok (.aload 6, 2) := by decide +kernel
theorem dL_isAhead_84 : decode cL_isAhead 84 = .ok (.bipush 6, 2) := by decide +kernel
theorem dL_isAhead_86 : decode cL_isAhead 86 = .ok (.iaload, 1) := by decide +kernel
theorem dL_isAhead_87 : decode cL_isAhead 87 = .ok (.if_icmp .ne 17, 3) := by decide +kernel
theorem dL_isAhead_90 : decode cL_isAhead 90 = .ok (.aload_n 0, 1) := by decide +kernel
theorem dL_isAhead_91 : decode cL_isAhead 91 = .ok (.iload_n 1, 1) := by decide +kernel
theorem dL_isAhead_92 : decode cL_isAhead 92 = .ok (.iconst 3, 1) := by decide +kernel
theorem dL_isAhead_93 : decode cL_isAhead 93 = .ok (.invokevirtual 79, 3) := by decide +kernel
theorem dL_isAhead_96 : decode cL_isAhead 96 = .ok (.aload 6, 2) := by decide +kernel
theorem dL_isAhead_98 : decode cL_isAhead 98 = .ok (.bipush 9, 2) := by decide +kernel
theorem dL_isAhead_100 : decode cL_isAhead 100 = .ok (.iaload, 1) := by decide +kernel
theorem dL_isAhead_101 : decode cL_isAhead 101 = .ok (.if_icmp .eq 5, 3) := by decide +kernel
theorem dL_isAhead_104 : decode cL_isAhead 104 = .ok (.iconst 0, 1) := by decide +kernel
theorem dL_isAhead_105 : decode cL_isAhead 105 = .ok (.ireturn, 1) := by decide +kernel
theorem dL_isAhead_106 : decode cL_isAhead 106 = .ok (.aload_n 2, 1) := by decide +kernel
theorem dL_isAhead_107 : decode cL_isAhead 107 = .ok (.aload 6, 2) := by decide +kernel
theorem dL_isAhead_109 : decode cL_isAhead 109 = .ok (.invokestatic 71, 3) := by decide +kernel
theorem dL_isAhead_112 : decode cL_isAhead 112 = .ok (.aload 4, 2) := by decide +kernel
theorem dL_isAhead_114 : decode cL_isAhead 114 = .ok (.aload 7, 2) := by decide +kernel
theorem dL_isAhead_116 : decode cL_isAhead 116 = .ok (.invokestatic 71, 3) := by decide +kernel
theorem dL_isAhead_119 : decode cL_isAhead 119 = .ok (.iconst 0, 1) := by decide +kernel
theorem dL_isAhead_120 : decode cL_isAhead 120 = .ok (.istore 10, 2) := by decide +kernel
theorem dL_isAhead_122 : decode cL_isAhead 122 = .ok (.aload 6, 2) := by decide +kernel
theorem dL_isAhead_124 : decode cL_isAhead 124 = .ok (.bipush 9, 2) := by decide +kernel
theorem dL_isAhead_126 : decode cL_isAhead 126 = .ok (.iaload, 1) := by decide +kernel
theorem dL_isAhead_127 : decode cL_isAhead 127 = .ok (.ifCond .ne 29, 3) := by decide +kernel
theorem dL_isAhead_130 : decode cL_isAhead 130 = .ok (.iload 10, 2) := by decide +kernel
theorem dL_isAhead_132 : decode cL_isAhead 132 = .ok (.sipush 201, 3) := by decide +kernel
theorem dL_isAhead_135 : decode cL_isAhead 135 = .ok (.if_icmp .ge 21, 3) := by decide +kernel
theorem dL_isAhead_138 : decode cL_isAhead 138 = .ok (.iload_n 1, 1) := by decide +kernel
theorem dL_isAhead_139 : decode cL_isAhead 139 = .ok (.aload 6, 2) := by decide +kernel
theorem dL_isAhead_141 : decode cL_isAhead 141 = .ok (.aload_n 3, 1) := by decide +kernel
theorem dL_isAhead_142 : decode cL_isAhead 142 = .ok (.aload 7, 2) := by decide +kernel
theorem dL_isAhead_144 : decode cL_isAhead 144 = .ok (.aload 8, 2) := by decide +kernel
theorem dL_isAhead_146 : decode cL_isAhead 146 = .ok (.invokestatic 75, 3) := by decide +kernel
theorem dL_isAhead_149 : decode cL_isAhead 149 = .ok (.pop, 1) := by decide +kernel
theorem dL_isAhead_150 : decode cL_isAhead 150 = .ok (.iinc 10 1, 3) := by decide +kernel
theorem dL_isAhead_153 : decode cL_isAhead 153 = .ok (.goto (-31), 3) := by decide +kernel
theorem dL_isAhead_156 : decode cL_isAhead 156 = .ok (.aload_n 0, 1) := by decide +kernel
theorem dL_isAhead_157 : decode cL_isAhead 157 = .ok (.iload_n 1, 1) := by decide +kernel
theorem dL_isAhead_158 : decode cL_isAhead 158 = .ok (.invokevirtual 82, 3) := by decide +kernel
theorem dL_isAhead_161 : decode cL_isAhead 161 = .ok (.iload 10, 2) := by decide +kernel
theorem dL_isAhead_163 : decode cL_isAhead 163 = .ok (.sipush 200, 3) := by decide +kernel
theorem dL_isAhead_166 : decode cL_isAhead 166 = .ok (.if_icmp .le 7, 3) := by decide +kernel
theorem dL_isAhead_169 : decode cL_isAhead 169 = .ok (.iconst (-1), 1) := by decide +kernel
theorem dL_isAhead_170 : decode cL_isAhead 170 = .ok (.goto 5, 3) := by decide +kernel
theorem dL_isAhead_173 : decode cL_isAhead 173 = .ok (.iload 10, 2) := by decide +kernel
theorem dL_isAhead_175 : decode cL_isAhead 175 = .ok (.if_icmp .ne 7, 3) := by decide +kernel
theorem dL_isAhead_178 : decode cL_isAhead 178 = .ok (.iconst 1, 1) := by decide +kernel
theorem dL_isAhead_179 : decode cL_isAhead 179 = .ok (.goto 4, 3) := by decide +kernel
theorem dL_isAhead_182 : decode cL_isAhead 182 = .ok (.iconst 0, 1) := by decide +kernel
theorem dL_isAhead_183 : decode cL_isAhead 183 = .ok (.ireturn, 1) := by decide +kernel
theorem dL_isBest_0 : decode cL_isBest 0 = .ok (.bipush 8, 2) := by decide +kernel
theorem dL_isBest_2 : decode cL_isBest 2 = .ok (.newarray .int, 2) := by decide +kernel
theorem dL_isBest_4 : decode cL_isBest 4 = .ok (.astore 4, 2) := by decide +kernel
theorem dL_isBest_6 : decode cL_isBest 6 = .ok (.iconst (-1), 1) := by decide +kernel
theorem dL_isBest_7 : decode cL_isBest 7 = .ok (.istore 5, 2) := by decide +kernel
theorem dL_isBest_9 : decode cL_isBest 9 = .ok (.iconst (-1), 1) := by decide +kernel
theorem dL_isBest_10 : decode cL_isBest 10 = .ok (.istore 6, 2) := by decide +kernel
theorem dL_isBest_12 : decode cL_isBest 12 = .ok (.iconst 0, 1) := by decide +kernel
theorem dL_isBest_13 : decode cL_isBest 13 = .ok (.istore 7, 2) := by decide +kernel
theorem dL_isBest_15 : decode cL_isBest 15 = .ok (.iload 7, 2) := by decide +kernel
theorem dL_isBest_17 : decode cL_isBest 17 = .ok (.bipush 7, 2) := by decide +kernel
theorem dL_isBest_19 : decode cL_isBest 19 = .ok (.if_icmp .ge 138, 3) := by decide +kernel
theorem dL_isBest_22 : decode cL_isBest 22 = .ok (.iload 7, 2) := by decide +kernel
theorem dL_isBest_24 : decode cL_isBest 24 = .ok (.aload_n 2, 1) := by decide +kernel
theorem dL_isBest_25 : decode cL_isBest 25 = .ok (.aload 4, 2) := by decide +kernel
theorem dL_isBest_27 : decode cL_isBest 27 = .ok (.invokestatic 85, 3) := by decide +kernel
theorem dL_isBest_30 : decode cL_isBest 30 = .ok (.iconst 0, 1) := by decide +kernel
theorem dL_isBest_31 : decode cL_isBest 31 = .ok (.istore 8, 2) := by decide +kernel
theorem dL_isBest_33 : decode cL_isBest 33 = .ok (.iconst 0, 1) := by decide +kernel
theorem dL_isBest_34 : decode cL_isBest 34 = .ok (.istore 9, 2) := by decide +kernel
theorem dL_isBest_36 : decode cL_isBest 36 = .ok (.iload 9, 2) := by decide +kernel
theorem dL_isBest_38 : decode cL_isBest 38 = .ok (.bipush 7, 2) := by decide +kernel
theorem dL_isBest_40 : decode cL_isBest 40 = .ok (.if_icmp .ge 76, 3) := by decide +kernel
theorem dL_isBest_43 : decode cL_isBest 43 = .ok (.aload_n 0, 1) := by decide +kernel
theorem dL_isBest_44 : decode cL_isBest 44 = .ok (.iload 7, 2) := by decide +kernel
theorem dL_isBest_46 : decode cL_isBest 46 = .ok (.iload 9, 2) := by decide +kernel
theorem dL_isBest_48 : decode cL_isBest 48 = .ok (.invokevirtual 89, 3) := by decide +kernel
theorem dL_isBest_51 : decode cL_isBest 51 = .ok (.aload 4, 2) := by decide +kernel
theorem dL_isBest_53 : decode cL_isBest 53 = .ok (.iload 9, 2) := by decide +kernel
theorem dL_isBest_55 : decode cL_isBest 55 = .ok (.iaload, 1) := by decide +kernel
theorem dL_isBest_56 : decode cL_isBest 56 = .ok (.if_icmp .ne 19, 3) := by decide +kernel
theorem dL_isBest_59 : decode cL_isBest 59 = .ok (.aload_n 0, 1) := by decide +kernel
theorem dL_isBest_60 : decode cL_isBest 60 = .ok (.iload 7, 2) := by decide +kernel
theorem dL_isBest_62 : decode cL_isBest 62 = .ok (.iload 9, 2) := by decide +kernel
theorem dL_isBest_64 : decode cL_isBest 64 = .ok (.invokevirtual 91, 3) := by decide +kernel
theorem dL_isBest_67 : decode cL_isBest 67 = .ok (.aload 4, 2) := by decide +kernel
theorem dL_isBest_69 : decode cL_isBest 69 = .ok (.iload 9, 2) := by decide +kernel
theorem dL_isBest_71 : decode cL_isBest 71 = .ok (.iaload, 1) := by decide +kernel
theorem dL_isBest_72 : decode cL_isBest 72 = .ok (.if_icmp .eq 5, 3) := by decide +kernel
theorem dL_isBest_75 : decode cL_isBest 75 = .ok (.iconst 0, 1) := by decide +kernel
theorem dL_isBest_76 : decode cL_isBest 76 = .ok (.ireturn, 1) := by decide +kernel
theorem dL_isBest_77 : decode cL_isBest 77 = .ok (.iload 8, 2) := by decide +kernel
theorem dL_isBest_79 : decode cL_isBest 79 = .ok (.iload 9, 2) := by decide +kernel
theorem dL_isBest_81 : decode cL_isBest 81 = .ok (.aload_n 1, 1) := by decide +kernel
theorem dL_isBest_82 : decode cL_isBest 82 = .ok (.aload_n 3, 1) := by decide +kernel
theorem dL_isBest_83 : decode cL_isBest 83 = .ok (.invokestatic 67, 3) := by decide +kernel
theorem dL_isBest_86 : decode cL_isBest 86 = .ok (.ifCond .eq 20, 3) := by decide +kernel
theorem dL_isBest_89 : decode cL_isBest 89 = .ok (.aload 4, 2) := by decide +kernel
theorem dL_isBest_91 : decode cL_isBest 91 = .ok (.iload 9, 2) := by decide +kernel
theorem dL_isBest_93 : decode cL_isBest 93 = .ok (.iaload, 1) := by decide +kernel
theorem dL_isBest_94 : decode cL_isBest 94 = .ok (.aload_n 3, 1) := by decide +kernel
theorem dL_isBest_95 : decode cL_isBest 95 = .ok (.iconst 5, 1) := by decide +kernel
theorem dL_isBest_96 : decode cL_isBest 96 = .ok (.iload 9, 2) := by decide +kernel
theorem dL_isBest_98 : decode cL_isBest 98 = .ok (.imul, 1) := by decide +kernel
theorem dL_isBest_99 : decode cL_isBest 99 = .ok (.iconst 1, 1) := by decide +kernel
theorem dL_isBest_100 : decode cL_isBest 100 = .ok (.iadd, 1) := by decide +kernel
theorem dL_isBest_101 : decode cL_isBest 101 = .ok (.iaload, 1) := by decide +kernel
theorem dL_isBest_102 : decode cL_isBest 102 = .ok (.imul, 1) := by decide +kernel
theorem dL_isBest_103 : decode cL_isBest 103 = .ok (.goto 4, 3) := by decide +kernel
theorem dL_isBest_106 : decode cL_isBest 106 = .ok (.iconst 0, 1) := by decide +kernel
theorem dL_isBest_107 : decode cL_isBest 107 = .ok (.iadd, 1) := by decide +kernel
theorem dL_isBest_108 : decode cL_isBest 108 = .ok (.istore 8, 2) := by decide +kernel
theorem dL_isBest_110 : decode cL_isBest 110 = .ok (.iinc 9 1, 3) := by decide +kernel
theorem dL_isBest_113 : decode cL_isBest 113 = .ok (.goto (-77), 3) := by decide +kernel
theorem dL_isBest_116 : decode cL_isBest 116 = .ok (.sipush 1000, 3) := by decide +kernel
theorem dL_isBest_119 : decode cL_isBest 119 = .ok (.iload 8, 2) := by decide +kernel
theorem dL_isBest_121 : decode cL_isBest 121 = .ok (.imul, 1) := by decide +kernel
theorem dL_isBest_122 : decode cL_isBest 122 = .ok (.aload 4, 2) := by decide +kernel
theorem dL_isBest_124 : decode cL_isBest 124 = .ok (.bipush 7, 2) := by decide +kernel
theorem dL_isBest_126 : decode cL_isBest 126 = .ok (.iaload, 1) := by decide +kernel
theorem dL_isBest_127 : decode cL_isBest 127 = .ok (.idiv, 1) := by decide +kernel
theorem dL_isBest_128 : decode cL_isBest 128 = .ok (.iload 6, 2) := by decide +kernel
theorem dL_isBest_130 : decode cL_isBest 130 = .ok (.if_icmp .le 21, 3) := by decide +kernel
theorem dL_isBest_133 : decode cL_isBest 133 = .ok (.iload 7, 2) := by decide +kernel
theorem dL_isBest_135 : decode cL_isBest 135 = .ok (.istore 5, 2) := by decide +kernel
theorem dL_isBest_137 : decode cL_isBest 137 = .ok (.sipush 1000, 3) := by decide +kernel
theorem dL_isBest_140 : decode cL_isBest 140 = .ok (.iload 8, 2) := by decide +kernel
theorem dL_isBest_142 : decode cL_isBest 142 = .ok (.imul, 1) := by decide +kernel
theorem dL_isBest_143 : decode cL_isBest 143 = .ok (.aload 4, 2) := by decide +kernel
theorem dL_isBest_145 : decode cL_isBest 145 = .ok (.bipush 7, 2) := by decide +kernel
theorem dL_isBest_147 : decode cL_isBest 147 = .ok (.iaload, 1) := by decide +kernel
theorem dL_isBest_148 : decode cL_isBest 148 = .ok (.idiv, 1) := by decide +kernel
theorem dL_isBest_149 : decode cL_isBest 149 = .ok (.istore 6, 2) := by decide +kernel
theorem dL_isBest_151 : decode cL_isBest 151 = .ok (.iinc 7 1, 3) := by decide +kernel
theorem dL_isBest_154 : decode cL_isBest 154 = .ok (.goto (-139), 3) := by decide +kernel
theorem dL_isBest_157 : decode cL_isBest 157 = .ok (.aload_n 0, 1) := by decide +kernel
theorem dL_isBest_158 : decode cL_isBest 158 = .ok (.invokevirtual 94, 3) := by decide +kernel
theorem dL_isBest_161 : decode cL_isBest 161 = .ok (.iload 5, 2) := by decide +kernel
theorem dL_isBest_163 : decode cL_isBest 163 = .ok (.if_icmp .ne 7, 3) := by decide +kernel
theorem dL_isBest_166 : decode cL_isBest 166 = .ok (.iconst 1, 1) := by decide +kernel
theorem dL_isBest_167 : decode cL_isBest 167 = .ok (.goto 4, 3) := by decide +kernel
theorem dL_isBest_170 : decode cL_isBest 170 = .ok (.iconst 0, 1) := by decide +kernel
theorem dL_isBest_171 : decode cL_isBest 171 = .ok (.ireturn, 1) := by decide +kernel
theorem dL_isSo_0 : decode cL_isSo 0 = .ok (.iconst 0, 1) := by decide +kernel
theorem dL_isSo_1 : decode cL_isSo 1 = .ok (.istore 5, 2) := by decide +kernel
theorem dL_isSo_3 : decode cL_isSo 3 = .ok (.iconst 0, 1) := by decide +kernel
theorem dL_isSo_4 : decode cL_isSo 4 = .ok (.istore 6, 2) := by decide +kernel
theorem dL_isSo_6 : decode cL_isSo 6 = .ok (.iload 6, 2) := by decide +kernel
theorem dL_isSo_8 : decode cL_isSo 8 = .ok (.bipush 56, 2) := by decide +kernel
theorem dL_isSo_10 : decode cL_isSo 10 = .ok (.if_icmp .ge 51, 3) := by decide +kernel
theorem dL_isSo_13 : decode cL_isSo 13 = .ok (.iload 5, 2) := by decide +kernel
theorem dL_isSo_15 : decode cL_isSo 15 = .ok (.aload_n 2, 1) := by decide +kernel
theorem dL_isSo_16 : decode cL_isSo 16 = .ok (.iload 6, 2) := by decide +kernel
theorem dL_isSo_18 : decode cL_isSo 18 = .ok (.iaload, 1) := by decide +kernel
theorem dL_isSo_19 : decode cL_isSo 19 = .ok (.ifCond .eq 7, 3) := by decide +kernel
theorem dL_isSo_22 : decode cL_isSo 22 = .ok (.iconst 1, 1) := by decide +kernel
theorem dL_isSo_23 : decode cL_isSo 23 = .ok (.goto 4, 3) := by decide +kernel
theorem dL_isSo_26 : decode cL_isSo 26 = .ok (.iconst 0, 1) := by decide +kernel
theorem dL_isSo_27 : decode cL_isSo 27 = .ok (.iadd, 1) := by decide +kernel
theorem dL_isSo_28 : decode cL_isSo 28 = .ok (.istore 5, 2) := by decide +kernel
theorem dL_isSo_30 : decode cL_isSo 30 = .ok (.aload_n 0, 1) := by decide +kernel
theorem dL_isSo_31 : decode cL_isSo 31 = .ok (.iload 6, 2) := by decide +kernel
theorem dL_isSo_33 : decode cL_isSo 33 = .ok (.bipush 7, 2) := by decide +kernel
theorem dL_isSo_35 : decode cL_isSo 35 = .ok (.idiv, 1) := by decide +kernel
theorem dL_isSo_36 : decode cL_isSo 36 = .ok (.iload 6, 2) := by decide +kernel
theorem dL_isSo_38 : decode cL_isSo 38 = .ok (.bipush 7, 2) := by decide +kernel
theorem dL_isSo_40 : decode cL_isSo 40 = .ok (.irem, 1) := by decide +kernel
theorem dL_isSo_41 : decode cL_isSo 41 = .ok (.invokevirtual 97, 3) := by decide +kernel
theorem dL_isSo_44 : decode cL_isSo 44 = .ok (.aload_n 2, 1) := by decide +kernel
theorem dL_isSo_45 : decode cL_isSo 45 = .ok (.iload 6, 2) := by decide +kernel
theorem dL_isSo_47 : decode cL_isSo 47 = .ok (.iaload, 1) := by decide +kernel
theorem dL_isSo_48 : decode cL_isSo 48 = .ok (.iconst 1, 1) := by decide +kernel
theorem dL_isSo_49 : decode cL_isSo 49 = .ok (.iadd, 1) := by decide +kernel
theorem dL_isSo_50 : decode cL_isSo 50 = .ok (.if_icmp .eq 5, 3) := by decide +kernel
theorem dL_isSo_53 : decode cL_isSo 53 = .ok (.iconst 0, 1) := by decide +kernel
theorem dL_isSo_54 : decode cL_isSo 54 = .ok (.ireturn, 1) := by decide +kernel
theorem dL_isSo_55 : decode cL_isSo 55 = .ok (.iinc 6 1, 3) := by decide +kernel
theorem dL_isSo_58 : decode cL_isSo 58 = .ok (.goto (-52), 3) := by decide +kernel
theorem dL_isSo_61 : decode cL_isSo 61 = .ok (.iconst 0, 1) := by decide +kernel
theorem dL_isSo_62 : decode cL_isSo 62 = .ok (.istore 6, 2) := by decide +kernel
theorem dL_isSo_64 : decode cL_isSo 64 = .ok (.iload 6, 2) := by decide +kernel
theorem dL_isSo_66 : decode cL_isSo 66 = .ok (.bipush 16, 2) := by decide +kernel
theorem dL_isSo_68 : decode cL_isSo 68 = .ok (.if_icmp .ge 24, 3) := by decide +kernel
theorem dL_isSo_71 : decode cL_isSo 71 = .ok (.aload_n 0, 1) := by decide +kernel
theorem dL_isSo_72 : decode cL_isSo 72 = .ok (.iload 6, 2) := by decide +kernel
theorem dL_isSo_74 : decode cL_isSo 74 = .ok (.invokevirtual 100, 3) := by decide +kernel
theorem dL_isSo_77 : decode cL_isSo 77 = .ok (.aload_n 1, 1) := by decide +kernel
theorem dL_isSo_78 : decode cL_isSo 78 = .ok (.iload 6, 2) := by decide +kernel
theorem dL_isSo_80 : decode cL_isSo 80 = .ok (.iaload, 1) := by decide +kernel
theorem dL_isSo_81 : decode cL_isSo 81 = .ok (.if_icmp .eq 5, 3) := by decide +kernel
theorem dL_isSo_84 : decode cL_isSo 84 = .ok (.iconst 0, 1) := by decide +kernel
theorem dL_isSo_85 : decode cL_isSo 85 = .ok (.ireturn, 1) := by decide +kernel
theorem dL_isSo_86 : decode cL_isSo 86 = .ok (.iinc 6 1, 3) := by decide +kernel
theorem dL_isSo_89 : decode cL_isSo 89 = .ok (.goto (-25), 3) := by decide +kernel
theorem dL_isSo_92 : decode cL_isSo 92 = .ok (.iconst 0, 1) := by decide +kernel
theorem dL_isSo_93 : decode cL_isSo 93 = .ok (.istore 6, 2) := by decide +kernel
theorem dL_isSo_95 : decode cL_isSo 95 = .ok (.iload 6, 2) := by decide +kernel
theorem dL_isSo_97 : decode cL_isSo 97 = .ok (.iconst 3, 1) := by decide +kernel
theorem dL_isSo_98 : decode cL_isSo 98 = .ok (.if_icmp .ge 27, 3) := by decide +kernel
theorem dL_isSo_101 : decode cL_isSo 101 = .ok (.aload_n 0, 1) := by decide +kernel
theorem dL_isSo_102 : decode cL_isSo 102 = .ok (.iload 6, 2) := by decide +kernel
theorem dL_isSo_104 : decode cL_isSo 104 = .ok (.invokevirtual 103, 3) := by decide +kernel
theorem dL_isSo_107 : decode cL_isSo 107 = .ok (.aload_n 1, 1) := by decide +kernel
theorem dL_isSo_108 : decode cL_isSo 108 = .ok (.bipush 16, 2) := by decide +kernel
theorem dL_isSo_110 : decode cL_isSo 110 = .ok (.iload 6, 2) := by decide +kernel
theorem dL_isSo_112 : decode cL_isSo 112 = .ok (.iadd, 1) := by decide +kernel
theorem dL_isSo_113 : decode cL_isSo 113 = .ok (.iaload, 1) := by decide +kernel
theorem dL_isSo_114 : decode cL_isSo 114 = .ok (.if_icmp .eq 5, 3) := by decide +kernel
theorem dL_isSo_117 : decode cL_isSo 117 = .ok (.iconst 0, 1) := by decide +kernel
theorem dL_isSo_118 : decode cL_isSo 118 = .ok (.ireturn, 1) := by decide +kernel
theorem dL_isSo_119 : decode cL_isSo 119 = .ok (.iinc 6 1, 3) := by decide +kernel
theorem dL_isSo_122 : decode cL_isSo 122 = .ok (.goto (-27), 3) := by decide +kernel
theorem dL_isSo_125 : decode cL_isSo 125 = .ok (.iconst 0, 1) := by decide +kernel
theorem dL_isSo_126 : decode cL_isSo 126 = .ok (.istore 6, 2) := by decide +kernel
theorem dL_isSo_128 : decode cL_isSo 128 = .ok (.iload 6, 2) := by decide +kernel
theorem dL_isSo_130 : decode cL_isSo 130 = .ok (.bipush 8, 2) := by decide +kernel
theorem dL_isSo_132 : decode cL_isSo 132 = .ok (.if_icmp .ge 25, 3) := by decide +kernel
theorem dL_isSo_135 : decode cL_isSo 135 = .ok (.aload_n 0, 1) := by decide +kernel
theorem dL_isSo_136 : decode cL_isSo 136 = .ok (.iload 6, 2) := by decide +kernel
theorem dL_isSo_138 : decode cL_isSo 138 = .ok (.invokevirtual 106, 3) := by decide +kernel
theorem dL_isSo_141 : decode cL_isSo 141 = .ok (.aload 4, 2) := by decide +kernel
theorem dL_isSo_143 : decode cL_isSo 143 = .ok (.iload 6, 2) := by decide +kernel
theorem dL_isSo_145 : decode cL_isSo 145 = .ok (.iaload, 1) := by decide +kernel
theorem dL_isSo_146 : decode cL_isSo 146 = .ok (.if_icmp .eq 5, 3) := by decide +kernel
theorem dL_isSo_149 : decode cL_isSo 149 = .ok (.iconst 0, 1) := by decide +kernel
theorem dL_isSo_150 : decode cL_isSo 150 = .ok (.ireturn, 1) := by decide +kernel
theorem dL_isSo_151 : decode cL_isSo 151 = .ok (.iinc 6 1, 3) := by decide +kernel
theorem dL_isSo_154 : decode cL_isSo 154 = .ok (.goto (-26), 3) := by decide +kernel
theorem dL_isSo_157 : decode cL_isSo 157 = .ok (.iconst 0, 1) := by decide +kernel
theorem dL_isSo_158 : decode cL_isSo 158 = .ok (.istore 6, 2) := by decide +kernel
theorem dL_isSo_160 : decode cL_isSo 160 = .ok (.iload 6, 2) := by decide +kernel
theorem dL_isSo_162 : decode cL_isSo 162 = .ok (.bipush 7, 2) := by decide +kernel
theorem dL_isSo_164 : decode cL_isSo 164 = .ok (.if_icmp .ge 106, 3) := by decide +kernel
theorem dL_isSo_167 : decode cL_isSo 167 = .ok (.aload_n 0, 1) := by decide +kernel
theorem dL_isSo_168 : decode cL_isSo 168 = .ok (.iload 6, 2) := by decide +kernel
theorem dL_isSo_170 : decode cL_isSo 170 = .ok (.iconst 0, 1) := by decide +kernel
theorem dL_isSo_171 : decode cL_isSo 171 = .ok (.invokevirtual 109, 3) := by decide +kernel
theorem dL_isSo_174 : decode cL_isSo 174 = .ok (.aload_n 3, 1) := by decide +kernel
theorem dL_isSo_175 : decode cL_isSo 175 = .ok (.iconst 5, 1) := by decide +kernel
theorem dL_isSo_176 : decode cL_isSo 176 = .ok (.iload 6, 2) := by decide +kernel
theorem dL_isSo_178 : decode cL_isSo 178 = .ok (.imul, 1) := by decide +kernel
theorem dL_isSo_179 : decode cL_isSo 179 = .ok (.iaload, 1) := by decide +kernel
theorem dL_isSo_180 : decode cL_isSo 180 = .ok (.if_icmp .ne 82, 3) := by decide +kernel
theorem dL_isSo_183 : decode cL_isSo 183 = .ok (.aload_n 0, 1) := by decide +kernel
theorem dL_isSo_184 : decode cL_isSo 184 = .ok (.iload 6, 2) := by decide +kernel
theorem dL_isSo_186 : decode cL_isSo 186 = .ok (.iconst 1, 1) := by decide +kernel
theorem dL_isSo_187 : decode cL_isSo 187 = .ok (.invokevirtual 109, 3) := by decide +kernel
theorem dL_isSo_190 : decode cL_isSo 190 = .ok (.aload_n 3, 1) := by decide +kernel
theorem dL_isSo_191 : decode cL_isSo 191 = .ok (.iconst 5, 1) := by decide +kernel
theorem dL_isSo_192 : decode cL_isSo 192 = .ok (.iload 6, 2) := by decide +kernel
theorem dL_isSo_194 : decode cL_isSo 194 = .ok (.imul, 1) := by decide +kernel
theorem dL_isSo_195 : decode cL_isSo 195 = .ok (.iconst 1, 1) := by decide +kernel
theorem dL_isSo_196 : decode cL_isSo 196 = .ok (.iadd, 1) := by decide +kernel
theorem dL_isSo_197 : decode cL_isSo 197 = .ok (.iaload, 1) := by decide +kernel
theorem dL_isSo_198 : decode cL_isSo 198 = .ok (.if_icmp .ne 64, 3) := by decide +kernel
theorem dL_isSo_201 : decode cL_isSo 201 = .ok (.aload_n 0, 1) := by decide +kernel
theorem dL_isSo_202 : decode cL_isSo 202 = .ok (.iload 6, 2) := by decide +kernel
theorem dL_isSo_204 : decode cL_isSo 204 = .ok (.iconst 2, 1) := by decide +kernel
theorem dL_isSo_205 : decode cL_isSo 205 = .ok (.invokevirtual 109, 3) := by decide +kernel
theorem dL_isSo_208 : decode cL_isSo 208 = .ok (.iload 6, 2) := by decide +kernel
theorem dL_isSo_210 : decode cL_isSo 210 = .ok (.aload_n 1, 1) := by decide +kernel
theorem dL_isSo_211 : decode cL_isSo 211 = .ok (.aload_n 3, 1) := by decide +kernel
theorem dL_isSo_212 : decode cL_isSo 212 = .ok (.invokestatic 67, 3) := by decide +kernel
theorem dL_isSo_215 : decode cL_isSo 215 = .ok (.ifCond .eq 7, 3) := by decide +kernel
theorem dL_isSo_218 : decode cL_isSo 218 = .ok (.iconst 1, 1) := by decide +kernel
theorem dL_isSo_219 : decode cL_isSo 219 = .ok (.goto 4, 3) := by decide +kernel
theorem dL_isSo_222 : decode cL_isSo 222 = .ok (.iconst 0, 1) := by decide +kernel
theorem dL_isSo_223 : decode cL_isSo 223 = .ok (.if_icmp .ne 39, 3) := by decide +kernel
theorem dL_isSo_226 : decode cL_isSo 226 = .ok (.aload_n 0, 1) := by decide +kernel
theorem dL_isSo_227 : decode cL_isSo 227 = .ok (.iload 6, 2) := by decide +kernel
theorem dL_isSo_229 : decode cL_isSo 229 = .ok (.iconst 3, 1) := by decide +kernel
theorem dL_isSo_230 : decode cL_isSo 230 = .ok (.invokevirtual 109, 3) := by decide +kernel
theorem dL_isSo_233 : decode cL_isSo 233 = .ok (.aload_n 3, 1) := by decide +kernel
theorem dL_isSo_234 : decode cL_isSo 234 = .ok (.iconst 5, 1) := by decide +kernel
theorem dL_isSo_235 : decode cL_isSo 235 = .ok (.iload 6, 2) := by decide +kernel
theorem dL_isSo_237 : decode cL_isSo 237 = .ok (.imul, 1) := by decide +kernel
theorem dL_isSo_238 : decode cL_isSo 238 = .ok (.iconst 3, 1) := by decide +kernel
theorem dL_isSo_239 : decode cL_isSo 239 = .ok (.iadd, 1) := by decide +kernel
theorem dL_isSo_240 : decode cL_isSo 240 = .ok (.iaload, 1) := by decide +kernel
theorem dL_isSo_241 : decode cL_isSo 241 = .ok (.if_icmp .ne 21, 3) := by decide +kernel
theorem dL_isSo_244 : decode cL_isSo 244 = .ok (.aload_n 0, 1) := by decide +kernel
theorem dL_isSo_245 : decode cL_isSo 245 = .ok (.iload 6, 2) := by decide +kernel
theorem dL_isSo_247 : decode cL_isSo 247 = .ok (.iconst 4, 1) := by decide +kernel
theorem dL_isSo_248 : decode cL_isSo 248 = .ok (.invokevirtual 109, 3) := by decide +kernel
theorem dL_isSo_251 : decode cL_isSo 251 = .ok (.aload_n 3, 1) := by decide +kernel
theorem dL_isSo_252 : decode cL_isSo 252 = .ok (.iconst 5, 1) := by decide +kernel
theorem dL_isSo_253 : decode cL_isSo 253 = .ok (.iload 6, 2) := by decide +kernel
theorem dL_isSo_255 : decode cL_isSo 255 = .ok (.imul, 1) := by decide +kernel
theorem dL_isSo_256 : decode cL_isSo 256 = .ok (.iconst 4, 1) := by decide +kernel
theorem dL_isSo_257 : decode cL_isSo 257 = .ok (.iadd, 1) := by decide +kernel
theorem dL_isSo_258 : decode cL_isSo 258 = .ok (.iaload, 1) := by decide +kernel
theorem dL_isSo_259 : decode cL_isSo 259 = .ok (.if_icmp .eq 5, 3) := by decide +kernel
theorem dL_isSo_262 : decode cL_isSo 262 = .ok (.iconst 0, 1) := by decide +kernel
theorem dL_isSo_263 : decode cL_isSo 263 = .ok (.ireturn, 1) := by decide +kernel
theorem dL_isSo_264 : decode cL_isSo 264 = .ok (.iinc 6 1, 3) := by decide +kernel
theorem dL_isSo_267 : decode cL_isSo 267 = .ok (.goto (-107), 3) := by decide +kernel
theorem dL_isSo_270 : decode cL_isSo 270 = .ok (.aload_n 0, 1) := by decide +kernel
theorem dL_isSo_271 : decode cL_isSo 271 = .ok (.bipush 16, 2) := by decide +kernel
theorem dL_isSo_273 : decode cL_isSo 273 = .ok (.invokevirtual 100, 3) := by decide +kernel
theorem dL_isSo_276 : decode cL_isSo 276 = .ok (.iload 5, 2) := by decide +kernel
theorem dL_isSo_278 : decode cL_isSo 278 = .ok (.if_icmp .ne 51, 3) := by decide +kernel
theorem dL_isSo_281 : decode cL_isSo 281 = .ok (.aload_n 0, 1) := by decide +kernel
theorem dL_isSo_282 : decode cL_isSo 282 = .ok (.invokevirtual 112, 3) := by decide +kernel
theorem dL_isSo_285 : decode cL_isSo 285 = .ok (.aload_n 1, 1) := by decide +kernel
theorem dL_isSo_286 : decode cL_isSo 286 = .ok (.iconst 2, 1) := by decide +kernel
theorem dL_isSo_287 : decode cL_isSo 287 = .ok (.iaload, 1) := by decide +kernel
theorem dL_isSo_288 : decode cL_isSo 288 = .ok (.ifCond .ne 7, 3) := by decide +kernel
theorem dL_isSo_291 : decode cL_isSo 291 = .ok (.dconst 0, 1) := by decide +kernel
theorem dL_isSo_292 : decode cL_isSo 292 = .ok (.goto 12, 3) := by decide +kernel
theorem dL_isSo_295 : decode cL_isSo 295 = .ok (.aload_n 1, 1) := by decide +kernel
theorem dL_isSo_296 : decode cL_isSo 296 = .ok (.iconst 3, 1) := by decide +kernel
theorem dL_isSo_297 : decode cL_isSo 297 = .ok (.iaload, 1) := by decide +kernel
theorem dL_isSo_298 : decode cL_isSo 298 = .ok (.i2d, 1) := by decide +kernel
theorem dL_isSo_299 : decode cL_isSo 299 = .ok (.aload_n 1, 1) := by decide +kernel
theorem dL_isSo_300 : decode cL_isSo 300 = .ok (.iconst 2, 1) := by decide +kernel
theorem dL_isSo_301 : decode cL_isSo 301 = .ok (.iaload, 1) := by decide +kernel
theorem dL_isSo_302 : decode cL_isSo 302 = .ok (.i2d, 1) := by decide +kernel
theorem dL_isSo_303 : decode cL_isSo 303 = .ok (.ddiv, 1) := by decide +kernel
theorem dL_isSo_304 : decode cL_isSo 304 = .ok (.dcmp .l, 1) := by decide +kernel
theorem dL_isSo_305 : decode cL_isSo 305 = .ok (.ifCond .ne 24, 3) := by decide +kernel
theorem dL_isSo_308 : decode cL_isSo 308 = .ok (.aload_n 1, 1) := by decide +kernel
theorem dL_isSo_309 : decode cL_isSo 309 = .ok (.iconst 0, 1) := by decide +kernel
theorem dL_isSo_310 : decode cL_isSo 310 = .ok (.iaload, 1) := by decide +kernel
theorem dL_isSo_311 : decode cL_isSo 311 = .ok (.aload_n 1, 1) := by decide +kernel
theorem dL_isSo_312 : decode cL_isSo 312 = .ok (.iconst 1, 1) := by decide +kernel
theorem dL_isSo_313 : decode cL_isSo 313 = .ok (.iaload, 1) := by decide +kernel
theorem dL_isSo_314 : decode cL_isSo 314 = .ok (.aload_n 1, 1) := by decide +kernel
theorem dL_isSo_315 : decode cL_isSo 315 = .ok (.iconst 3, 1) := by decide +kernel
theorem dL_isSo_316 : decode cL_isSo 316 = .ok (.iaload, 1) := by decide +kernel
theorem dL_isSo_317 : decode cL_isSo 317 = .ok (.iadd, 1) := by decide +kernel
theorem dL_isSo_318 : decode cL_isSo 318 = .ok (.aload_n 1, 1) := by decide +kernel
theorem dL_isSo_319 : decode cL_isSo 319 = .ok (.iconst 2, 1) := by decide +kernel
theorem dL_isSo_320 : decode cL_isSo 320 = .ok (.iaload, 1) := by decide +kernel
theorem dL_isSo_321 : decode cL_isSo 321 = .ok (.isub, 1) := by decide +kernel
theorem dL_isSo_322 : decode cL_isSo 322 = .ok (.if_icmp .ne 7, 3) := by decide +kernel
theorem dL_isSo_325 : decode cL_isSo 325 = .ok (.iconst 1, 1) := by decide +kernel
theorem dL_isSo_326 : decode cL_isSo 326 = .ok (.goto 4, 3) := by decide +kernel
theorem dL_isSo_329 : decode cL_isSo 329 = .ok (.iconst 0, 1) := by decide +kernel
theorem dL_isSo_330 : decode cL_isSo 330 = .ok (.ireturn, 1) := by decide +kernel
theorem dL_act_0 : decode cL_act 0 = .ok (.iload_n 1, 1) := by decide +kernel
theorem dL_act_1 : decode cL_act 1 = .ok (.bipush 14, 2) := by decide +kernel
theorem dL_act_3 : decode cL_act 3 = .ok (.invokestatic 116, 3) := by decide +kernel
theorem dL_act_6 : decode cL_act 6 = .ok (.istore 7, 2) := by decide +kernel
theorem dL_act_8 : decode cL_act 8 = .ok (.iload_n 2, 1) := by decide +kernel
theorem dL_act_9 : decode cL_act 9 = .ok (.bipush 7, 2) := by decide +kernel
theorem dL_act_11 : decode cL_act 11 = .ok (.invokestatic 116, 3) := by decide +kernel
theorem dL_act_14 : decode cL_act 14 = .ok (.istore 8, 2) := by decide +kernel
theorem dL_act_16 : decode cL_act 16 = .ok (.iload 7, 2) := by decide +kernel
theorem dL_act_18 : decode cL_act 18 = .ok (.iconst 3, 1) := by decide +kernel
theorem dL_act_19 : decode cL_act 19 = .ok (.if_icmp .ge 100, 3) := by decide +kernel
theorem dL_act_22 : decode cL_act 22 = .ok (.iload_n 2, 1) := by decide +kernel
theorem dL_act_23 : decode cL_act 23 = .ok (.iconst 3, 1) := by decide +kernel
theorem dL_act_24 : decode cL_act 24 = .ok (.ishr, 1) := by decide +kernel
theorem dL_act_25 : decode cL_act 25 = .ok (.bipush 8, 2) := by decide +kernel
theorem dL_act_27 : decode cL_act 27 = .ok (.invokestatic 116, 3) := by decide +kernel
theorem dL_act_30 : decode cL_act 30 = .ok (.istore 9, 2) := by decide +kernel
theorem dL_act_32 : decode cL_act 32 = .ok (.iload_n 2, 1) := by decide +kernel
theorem dL_act_33 : decode cL_act 33 = .ok (.bipush 6, 2) := by decide +kernel
theorem dL_act_35 : decode cL_act 35 = .ok (.ishr, 1) := by decide +kernel
theorem dL_act_36 : decode cL_act 36 = .ok (.iconst 3, 1) := by decide +kernel
theorem dL_act_37 : decode cL_act 37 = .ok (.invokestatic 116, 3) := by decide +kernel
theorem dL_act_40 : decode cL_act 40 = .ok (.iconst 1, 1) := by decide +kernel
theorem dL_act_41 : decode cL_act 41 = .ok (.isub, 1) := by decide +kernel
theorem dL_act_42 : decode cL_act 42 = .ok (.istore 10, 2) := by decide +kernel
theorem dL_act_44 : decode cL_act 44 = .ok (.aload 4, 2) := by decide +kernel
theorem dL_act_46 : decode cL_act 46 = .ok (.bipush 7, 2) := by decide +kernel
theorem dL_act_48 : decode cL_act 48 = .ok (.iload 9, 2) := by decide +kernel
theorem dL_act_50 : decode cL_act 50 = .ok (.imul, 1) := by decide +kernel
theorem dL_act_51 : decode cL_act 51 = .ok (.iload 8, 2) := by decide +kernel
theorem dL_act_53 : decode cL_act 53 = .ok (.iadd, 1) := by decide +kernel
theorem dL_act_54 : decode cL_act 54 = .ok (.iaload, 1) := by decide +kernel
theorem dL_act_55 : decode cL_act 55 = .ok (.istore 11, 2) := by decide +kernel
theorem dL_act_57 : decode cL_act 57 = .ok (.aload 4, 2) := by decide +kernel
theorem dL_act_59 : decode cL_act 59 = .ok (.bipush 7, 2) := by decide +kernel
theorem dL_act_61 : decode cL_act 61 = .ok (.iload 9, 2) := by decide +kernel
theorem dL_act_63 : decode cL_act 63 = .ok (.imul, 1) := by decide +kernel
theorem dL_act_64 : decode cL_act 64 = .ok (.iload 8, 2) := by decide +kernel
theorem dL_act_66 : decode cL_act 66 = .ok (.iadd, 1) := by decide +kernel
theorem dL_act_67 : decode cL_act 67 = .ok (.iload 10, 2) := by decide +kernel
theorem dL_act_69 : decode cL_act 69 = .ok (.iastore, 1) := by decide +kernel
theorem dL_act_70 : decode cL_act 70 = .ok (.aload_n 0, 1) := by decide +kernel
theorem dL_act_71 : decode cL_act 71 = .ok (.iload 9, 2) := by decide +kernel
theorem dL_act_73 : decode cL_act 73 = .ok (.iload 8, 2) := by decide +kernel
theorem dL_act_75 : decode cL_act 75 = .ok (.iload 10, 2) := by decide +kernel
theorem dL_act_77 : decode cL_act 77 = .ok (.invokestatic 119, 3) := by decide +kernel
theorem dL_act_80 : decode cL_act 80 = .ok (.iload 11, 2) := by decide +kernel
theorem dL_act_82 : decode cL_act 82 = .ok (.iconst 1, 1) := by decide +kernel
theorem dL_act_83 : decode cL_act 83 = .ok (.iadd, 1) := by decide +kernel
theorem dL_act_84 : decode cL_act 84 = .ok (.if_icmp .ne 33, 3) := by decide +kernel
theorem dL_act_87 : decode cL_act 87 = .ok (.aload_n 0, 1) := by decide +kernel
theorem dL_act_88 : decode cL_act 88 = .ok (.bipush 8, 2) := by decide +kernel
theorem dL_act_90 : decode cL_act 90 = .ok (.iconst 0, 1) := by decide +kernel
theorem dL_act_91 : decode cL_act 91 = .ok (.iconst 2, 1) := by decide +kernel
theorem dL_act_92 : decode cL_act 92 = .ok (.invokestatic 119, 3) := by decide +kernel
theorem dL_act_95 : decode cL_act 95 = .ok (.bipush (-31), 2) := by decide +kernel
theorem dL_act_97 : decode cL_act 97 = .ok (.if_icmp .ne 20, 3) := by decide +kernel
theorem dL_act_100 : decode cL_act 100 = .ok (.aload_n 0, 1) := by decide +kernel
theorem dL_act_101 : decode cL_act 101 = .ok (.iconst 0, 1) := by decide +kernel
theorem dL_act_102 : decode cL_act 102 = .ok (.iconst 0, 1) := by decide +kernel
theorem dL_act_103 : decode cL_act 103 = .ok (.bipush (-2), 2) := by decide +kernel
theorem dL_act_105 : decode cL_act 105 = .ok (.invokestatic 119, 3) := by decide +kernel
theorem dL_act_108 : decode cL_act 108 = .ok (.bipush (-32), 2) := by decide +kernel
theorem dL_act_110 : decode cL_act 110 = .ok (.if_icmp .ne 7, 3) := by decide +kernel
theorem dL_act_113 : decode cL_act 113 = .ok (.iconst 1, 1) := by decide +kernel
theorem dL_act_114 : decode cL_act 114 = .ok (.goto 4, 3) := by decide +kernel
theorem dL_act_117 : decode cL_act 117 = .ok (.iconst 0, 1) := by decide +kernel
theorem dL_act_118 : decode cL_act 118 = .ok (.ireturn, 1) := by decide +kernel
theorem dL_act_119 : decode cL_act 119 = .ok (.iload 7, 2) := by decide +kernel
theorem dL_act_121 : decode cL_act 121 = .ok (.iconst 5, 1) := by decide +kernel
theorem dL_act_122 : decode cL_act 122 = .ok (.if_icmp .ge 139, 3) := by decide +kernel
theorem dL_act_125 : decode cL_act 125 = .ok (.iload_n 2, 1) := by decide +kernel
theorem dL_act_126 : decode cL_act 126 = .ok (.iconst 3, 1) := by decide +kernel
theorem dL_act_127 : decode cL_act 127 = .ok (.ishr, 1) := by decide +kernel
theorem dL_act_128 : decode cL_act 128 = .ok (.iconst 3, 1) := by decide +kernel
theorem dL_act_129 : decode cL_act 129 = .ok (.invokestatic 116, 3) := by decide +kernel
theorem dL_act_132 : decode cL_act 132 = .ok (.istore 9, 2) := by decide +kernel
theorem dL_act_134 : decode cL_act 134 = .ok (.iload_n 2, 1) := by decide +kernel
theorem dL_act_135 : decode cL_act 135 = .ok (.iconst 5, 1) := by decide +kernel
theorem dL_act_136 : decode cL_act 136 = .ok (.ishr, 1) := by decide +kernel
theorem dL_act_137 : decode cL_act 137 = .ok (.bipush 16, 2) := by decide +kernel
theorem dL_act_139 : decode cL_act 139 = .ok (.invokestatic 116, 3) := by decide +kernel
theorem dL_act_142 : decode cL_act 142 = .ok (.istore 10, 2) := by decide +kernel
theorem dL_act_144 : decode cL_act 144 = .ok (.aload 5, 2) := by decide +kernel
theorem dL_act_146 : decode cL_act 146 = .ok (.iconst 5, 1) := by decide +kernel
theorem dL_act_147 : decode cL_act 147 = .ok (.iload 8, 2) := by decide +kernel
theorem dL_act_149 : decode cL_act 149 = .ok (.imul, 1) := by decide +kernel
theorem dL_act_150 : decode cL_act 150 = .ok (.iconst 1, 1) := by decide +kernel
theorem dL_act_151 : decode cL_act 151 = .ok (.iadd, 1) := by decide +kernel
theorem dL_act_152 : decode cL_act 152 = .ok (.iaload, 1) := by decide +kernel
theorem dL_act_153 : decode cL_act 153 = .ok (.istore 11, 2) := by decide +kernel
theorem dL_act_155 : decode cL_act 155 = .ok (.aload 5, 2) := by decide +kernel
theorem dL_act_157 : decode cL_act 157 = .ok (.iconst 5, 1) := by decide +kernel
theorem dL_act_158 : decode cL_act 158 = .ok (.iload 8, 2) := by decide +kernel
theorem dL_act_160 : decode cL_act 160 = .ok (.imul, 1) := by decide +kernel
theorem dL_act_161 : decode cL_act 161 = .ok (.iconst 2, 1) := by decide +kernel
theorem dL_act_162 : decode cL_act 162 = .ok (.iadd, 1) := by decide +kernel
theorem dL_act_163 : decode cL_act 163 = .ok (.iload 9, 2) := by decide +kernel
theorem dL_act_165 : decode cL_act 165 = .ok (.iconst 2, 1) := by decide +kernel
theorem dL_act_166 : decode cL_act 166 = .ok (.if_icmp .ne 26, 3) := by decide +kernel
theorem dL_act_169 : decode cL_act 169 = .ok (.aload 5, 2) := by decide +kernel
theorem dL_act_171 : decode cL_act 171 = .ok (.iconst 5, 1) := by decide +kernel
theorem dL_act_172 : decode cL_act 172 = .ok (.iload 8, 2) := by decide +kernel
theorem dL_act_174 : decode cL_act 174 = .ok (.imul, 1) := by decide +kernel
theorem dL_act_175 : decode cL_act 175 = .ok (.iaload, 1) := by decide +kernel
theorem dL_act_176 : decode cL_act 176 = .ok (.iconst 2, 1) := by decide +kernel
theorem dL_act_177 : decode cL_act 177 = .ok (.if_icmp .ne 15, 3) := by decide +kernel
theorem dL_act_180 : decode cL_act 180 = .ok (.aload 5, 2) := by decide +kernel
theorem dL_act_182 : decode cL_act 182 = .ok (.iconst 5, 1) := by decide +kernel
theorem dL_act_183 : decode cL_act 183 = .ok (.iload 8, 2) := by decide +kernel
theorem dL_act_185 : decode cL_act 185 = .ok (.imul, 1) := by decide +kernel
theorem dL_act_186 : decode cL_act 186 = .ok (.iconst 2, 1) := by decide +kernel
theorem dL_act_187 : decode cL_act 187 = .ok (.iadd, 1) := by decide +kernel
theorem dL_act_188 : decode cL_act 188 = .ok (.iaload, 1) := by decide +kernel
theorem dL_act_189 : decode cL_act 189 = .ok (.goto 4, 3) := by decide +kernel
theorem dL_act_192 : decode cL_act 192 = .ok (.iconst 0, 1) := by decide +kernel
theorem dL_act_193 : decode cL_act 193 = .ok (.iastore, 1) := by decide +kernel
theorem dL_act_194 : decode cL_act 194 = .ok (.aload 5, 2) := by decide +kernel
theorem dL_act_196 : decode cL_act 196 = .ok (.iconst 5, 1) := by decide +kernel
theorem dL_act_197 : decode cL_act 197 = .ok (.iload 8, 2) := by decide +kernel
theorem dL_act_199 : decode cL_act 199 = .ok (.imul, 1) := by decide +kernel
theorem dL_act_200 : decode cL_act 200 = .ok (.iload 9, 2) := by decide +kernel
theorem dL_act_202 : decode cL_act 202 = .ok (.iastore, 1) := by decide +kernel
theorem dL_act_203 : decode cL_act 203 = .ok (.aload 5, 2) := by decide +kernel
theorem dL_act_205 : decode cL_act 205 = .ok (.iconst 5, 1) := by decide +kernel
theorem dL_act_206 : decode cL_act 206 = .ok (.iload 8, 2) := by decide +kernel
theorem dL_act_208 : decode cL_act 208 = .ok (.imul, 1) := by decide +kernel
theorem dL_act_209 : decode cL_act 209 = .ok (.iconst 1, 1) := by decide +kernel
theorem dL_act_210 : decode cL_act 210 = .ok (.iadd, 1) := by decide +kernel
theorem dL_act_211 : decode cL_act 211 = .ok (.iload 10, 2) := by decide +kernel
theorem dL_act_213 : decode cL_act 213 = .ok (.iastore, 1) := by decide +kernel
theorem dL_act_214 : decode cL_act 214 = .ok (.aload_n 0, 1) := by decide +kernel
theorem dL_act_215 : decode cL_act 215 = .ok (.iload 8, 2) := by decide +kernel
theorem dL_act_217 : decode cL_act 217 = .ok (.iload 9, 2) := by decide +kernel
theorem dL_act_219 : decode cL_act 219 = .ok (.iload 10, 2) := by decide +kernel
theorem dL_act_221 : decode cL_act 221 = .ok (.invokestatic 122, 3) := by decide +kernel
theorem dL_act_224 : decode cL_act 224 = .ok (.iload 11, 2) := by decide +kernel
theorem dL_act_226 : decode cL_act 226 = .ok (.if_icmp .ne 33, 3) := by decide +kernel
theorem dL_act_229 : decode cL_act 229 = .ok (.aload_n 0, 1) := by decide +kernel
theorem dL_act_230 : decode cL_act 230 = .ok (.bipush 7, 2) := by decide +kernel
theorem dL_act_232 : decode cL_act 232 = .ok (.iconst 3, 1) := by decide +kernel
theorem dL_act_233 : decode cL_act 233 = .ok (.iconst 0, 1) := by decide +kernel
theorem dL_act_234 : decode cL_act 234 = .ok (.invokestatic 122, 3) := by decide +kernel
theorem dL_act_237 : decode cL_act 237 = .ok (.bipush (-31), 2) := by decide +kernel
theorem dL_act_239 : decode cL_act 239 = .ok (.if_icmp .ne 20, 3) := by decide +kernel
theorem dL_act_242 : decode cL_act 242 = .ok (.aload_n 0, 1) := by decide +kernel
theorem dL_act_243 : decode cL_act 243 = .ok (.iconst 0, 1) := by decide +kernel
theorem dL_act_244 : decode cL_act 244 = .ok (.iconst 0, 1) := by decide +kernel
theorem dL_act_245 : decode cL_act 245 = .ok (.bipush 16, 2) := by decide +kernel
theorem dL_act_247 : decode cL_act 247 = .ok (.invokestatic 122, 3) := by decide +kernel
theorem dL_act_250 : decode cL_act 250 = .ok (.bipush (-32), 2) := by decide +kernel
theorem dL_act_252 : decode cL_act 252 = .ok (.if_icmp .ne 7, 3) := by decide +kernel
theorem dL_act_255 : decode cL_act 255 = .ok (.iconst 1, 1) := by decide +kernel
theorem dL_act_256 : decode cL_act 256 = .ok (.goto 4, 3) := by decide +kernel
theorem dL_act_259 : decode cL_act 259 = .ok (.iconst 0, 1) := by decide +kernel
theorem dL_act_260 : decode cL_act 260 = .ok (.ireturn, 1) := by decide +kernel
theorem dL_act_261 : decode cL_act 261 = .ok (.iload 7, 2) := by decide +kernel
theorem dL_act_263 : decode cL_act 263 = .ok (.iconst 5, 1) := by decide +kernel
theorem dL_act_264 : decode cL_act 264 = .ok (.if_icmp .ne 43, 3) := by decide +kernel
theorem dL_act_267 : decode cL_act 267 = .ok (.aload_n 3, 1) := by decide +kernel
theorem dL_act_268 : decode cL_act 268 = .ok (.bipush 12, 2) := by decide +kernel
theorem dL_act_270 : decode cL_act 270 = .ok (.iaload, 1) := by decide +kernel
theorem dL_act_271 : decode cL_act 271 = .ok (.istore 9, 2) := by decide +kernel
theorem dL_act_273 : decode cL_act 273 = .ok (.aload_n 3, 1) := by decide +kernel
theorem dL_act_274 : decode cL_act 274 = .ok (.bipush 12, 2) := by decide +kernel
theorem dL_act_276 : decode cL_act 276 = .ok (.iload 8, 2) := by decide +kernel
theorem dL_act_278 : decode cL_act 278 = .ok (.iastore, 1) := by decide +kernel
theorem dL_act_279 : decode cL_act 279 = .ok (.aload_n 0, 1) := by decide +kernel
theorem dL_act_280 : decode cL_act 280 = .ok (.iload 8, 2) := by decide +kernel
theorem dL_act_282 : decode cL_act 282 = .ok (.invokestatic 124, 3) := by decide +kernel
theorem dL_act_285 : decode cL_act 285 = .ok (.iload 9, 2) := by decide +kernel
theorem dL_act_287 : decode cL_act 287 = .ok (.if_icmp .ne 18, 3) := by decide +kernel
theorem dL_act_290 : decode cL_act 290 = .ok (.aload_n 0, 1) := by decide +kernel
theorem dL_act_291 : decode cL_act 291 = .ok (.bipush 7, 2) := by decide +kernel
theorem dL_act_293 : decode cL_act 293 = .ok (.invokestatic 124, 3) := by decide +kernel
theorem dL_act_296 : decode cL_act 296 = .ok (.bipush (-31), 2) := by decide +kernel
theorem dL_act_298 : decode cL_act 298 = .ok (.if_icmp .ne 7, 3) := by decide +kernel
theorem dL_act_301 : decode cL_act 301 = .ok (.iconst 1, 1) := by decide +kernel
theorem dL_act_302 : decode cL_act 302 = .ok (.goto 4, 3) := by decide +kernel
theorem dL_act_305 : decode cL_act 305 = .ok (.iconst 0, 1) := by decide +kernel
theorem dL_act_306 : decode cL_act 306 = .ok (.ireturn, 1) := by decide +kernel
theorem dL_act_307 : decode cL_act 307 = .ok (.iload 7, 2) := by decide +kernel
theorem dL_act_309 : decode cL_act 309 = .ok (.bipush 6, 2) := by decide +kernel
theorem dL_act_311 : decode cL_act 311 = .ok (.if_icmp .ne 98, 3) := by decide +kernel
theorem dL_act_314 : decode cL_act 314 = .ok (.iload_n 2, 1) := by decide +kernel
theorem dL_act_315 : decode cL_act 315 = .ok (.iconst 2, 1) := by decide +kernel
theorem dL_act_316 : decode cL_act 316 = .ok (.invokestatic 116, 3) := by decide +kernel
theorem dL_act_319 : decode cL_act 319 = .ok (.istore 9, 2) := by decide +kernel
theorem dL_act_321 : decode cL_act 321 = .ok (.aload_n 3, 1) := by decide +kernel
theorem dL_act_322 : decode cL_act 322 = .ok (.bipush 14, 2) := by decide +kernel
theorem dL_act_324 : decode cL_act 324 = .ok (.iload 9, 2) := by decide +kernel
theorem dL_act_326 : decode cL_act 326 = .ok (.iadd, 1) := by decide +kernel
theorem dL_act_327 : decode cL_act 327 = .ok (.iaload, 1) := by decide +kernel
theorem dL_act_328 : decode cL_act 328 = .ok (.istore 10, 2) := by decide +kernel
theorem dL_act_330 : decode cL_act 330 = .ok (.aload_n 3, 1) := by decide +kernel
theorem dL_act_331 : decode cL_act 331 = .ok (.bipush 14, 2) := by decide +kernel
theorem dL_act_333 : decode cL_act 333 = .ok (.iload 9, 2) := by decide +kernel
theorem dL_act_335 : decode cL_act 335 = .ok (.iadd, 1) := by decide +kernel
theorem dL_act_336 : decode cL_act 336 = .ok (.iload 9, 2) := by decide +kernel
theorem dL_act_338 : decode cL_act 338 = .ok (.ifCond .ne 16, 3) := by decide +kernel
theorem dL_act_341 : decode cL_act 341 = .ok (.iconst 1, 1) := by decide +kernel
theorem dL_act_342 : decode cL_act 342 = .ok (.iload_n 2, 1) := by decide +kernel
theorem dL_act_343 : decode cL_act 343 = .ok (.iconst 1, 1) := by decide +kernel
theorem dL_act_344 : decode cL_act 344 = .ok (.ishr, 1) := by decide +kernel
theorem dL_act_345 : decode cL_act 345 = .ok (.bipush 10, 2) := by decide +kernel
theorem dL_act_347 : decode cL_act 347 = .ok (.invokestatic 116, 3) := by decide +kernel
theorem dL_act_350 : decode cL_act 350 = .ok (.iadd, 1) := by decide +kernel
theorem dL_act_351 : decode cL_act 351 = .ok (.goto 11, 3) := by decide +kernel
theorem dL_act_354 : decode cL_act 354 = .ok (.iload_n 2, 1) := by decide +kernel
theorem dL_act_355 : decode cL_act 355 = .ok (.iconst 1, 1) := by decide +kernel
theorem dL_act_356 : decode cL_act 356 = .ok (.ishr, 1) := by decide +kernel
theorem dL_act_357 : decode cL_act 357 = .ok (.bipush 21, 2) := by decide +kernel
theorem dL_act_359 : decode cL_act 359 = .ok (.invokestatic 116, 3) := by decide +kernel
theorem dL_act_362 : decode cL_act 362 = .ok (.iastore, 1) := by decide +kernel
theorem dL_act_363 : decode cL_act 363 = .ok (.aload_n 0, 1) := by decide +kernel
theorem dL_act_364 : decode cL_act 364 = .ok (.iload 9, 2) := by decide +kernel
theorem dL_act_366 : decode cL_act 366 = .ok (.aload_n 3, 1) := by decide +kernel
theorem dL_act_367 : decode cL_act 367 = .ok (.bipush 14, 2) := by decide +kernel
theorem dL_act_369 : decode cL_act 369 = .ok (.iload 9, 2) := by decide +kernel
theorem dL_act_371 : decode cL_act 371 = .ok (.iadd, 1) := by decide +kernel
theorem dL_act_372 : decode cL_act 372 = .ok (.iaload, 1) := by decide +kernel
theorem dL_act_373 : decode cL_act 373 = .ok (.invokestatic 127, 3) := by decide +kernel
theorem dL_act_376 : decode cL_act 376 = .ok (.iload 10, 2) := by decide +kernel
theorem dL_act_378 : decode cL_act 378 = .ok (.if_icmp .ne 29, 3) := by decide +kernel
theorem dL_act_381 : decode cL_act 381 = .ok (.aload_n 0, 1) := by decide +kernel
theorem dL_act_382 : decode cL_act 382 = .ok (.iconst 0, 1) := by decide +kernel
theorem dL_act_383 : decode cL_act 383 = .ok (.iconst 0, 1) := by decide +kernel
theorem dL_act_384 : decode cL_act 384 = .ok (.invokestatic 127, 3) := by decide +kernel
theorem dL_act_387 : decode cL_act 387 = .ok (.bipush (-32), 2) := by decide +kernel
theorem dL_act_389 : decode cL_act 389 = .ok (.if_icmp .ne 18, 3) := by decide +kernel
theorem dL_act_392 : decode cL_act 392 = .ok (.aload_n 0, 1) := by decide +kernel
theorem dL_act_393 : decode cL_act 393 = .ok (.iconst 2, 1) := by decide +kernel
theorem dL_act_394 : decode cL_act 394 = .ok (.iconst 0, 1) := by decide +kernel
theorem dL_act_395 : decode cL_act 395 = .ok (.invokestatic 127, 3) := by decide +kernel
theorem dL_act_398 : decode cL_act 398 = .ok (.bipush (-31), 2) := by decide +kernel
theorem dL_act_400 : decode cL_act 400 = .ok (.if_icmp .ne 7, 3) := by decide +kernel
theorem dL_act_403 : decode cL_act 403 = .ok (.iconst 1, 1) := by decide +kernel
theorem dL_act_404 : decode cL_act 404 = .ok (.goto 4, 3) := by decide +kernel
theorem dL_act_407 : decode cL_act 407 = .ok (.iconst 0, 1) := by decide +kernel
theorem dL_act_408 : decode cL_act 408 = .ok (.ireturn, 1) := by decide +kernel
theorem dL_act_409 : decode cL_act 409 = .ok (.iload 7, 2) := by decide +kernel
theorem dL_act_411 : decode cL_act 411 = .ok (.bipush 7, 2) := by decide +kernel
theorem dL_act_413 : decode cL_act 413 = .ok (.if_icmp .ne 46, 3) := by decide +kernel
theorem dL_act_416 : decode cL_act 416 = .ok (.aload_n 3, 1) := by decide +kernel
theorem dL_act_417 : decode cL_act 417 = .ok (.bipush 13, 2) := by decide +kernel
theorem dL_act_419 : decode cL_act 419 = .ok (.iaload, 1) := by decide +kernel
theorem dL_act_420 : decode cL_act 420 = .ok (.istore 9, 2) := by decide +kernel
theorem dL_act_422 : decode cL_act 422 = .ok (.aload_n 3, 1) := by decide +kernel
theorem dL_act_423 : decode cL_act 423 = .ok (.bipush 13, 2) := by decide +kernel
theorem dL_act_425 : decode cL_act 425 = .ok (.iload_n 2, 1) := by decide +kernel
theorem dL_act_426 : decode cL_act 426 = .ok (.ldc 8, 2) := by decide +kernel
theorem dL_act_428 : decode cL_act 428 = .ok (.iand, 1) := by decide +kernel
theorem dL_act_429 : decode cL_act 429 = .ok (.iastore, 1) := by decide +kernel
theorem dL_act_430 : decode cL_act 430 = .ok (.aload_n 0, 1) := by decide +kernel
theorem dL_act_431 : decode cL_act 431 = .ok (.aload_n 3, 1) := by decide +kernel
theorem dL_act_432 : decode cL_act 432 = .ok (.bipush 13, 2) := by decide +kernel
theorem dL_act_434 : decode cL_act 434 = .ok (.iaload, 1) := by decide +kernel
theorem dL_act_435 : decode cL_act 435 = .ok (.invokestatic 130, 3) := by decide +kernel
theorem dL_act_438 : decode cL_act 438 = .ok (.iload 9, 2) := by decide +kernel
theorem dL_act_440 : decode cL_act 440 = .ok (.if_icmp .ne 17, 3) := by decide +kernel
theorem dL_act_443 : decode cL_act 443 = .ok (.aload_n 0, 1) := by decide +kernel
theorem dL_act_444 : decode cL_act 444 = .ok (.iconst (-1), 1) := by decide +kernel
theorem dL_act_445 : decode cL_act 445 = .ok (.invokestatic 130, 3) := by decide +kernel
theorem dL_act_448 : decode cL_act 448 = .ok (.bipush (-32), 2) := by decide +kernel
theorem dL_act_450 : decode cL_act 450 = .ok (.if_icmp .ne 7, 3) := by decide +kernel
theorem dL_act_453 : decode cL_act 453 = .ok (.iconst 1, 1) := by decide +kernel
theorem dL_act_454 : decode cL_act 454 = .ok (.goto 4, 3) := by decide +kernel
theorem dL_act_457 : decode cL_act 457 = .ok (.iconst 0, 1) := by decide +kernel
theorem dL_act_458 : decode cL_act 458 = .ok (.ireturn, 1) := by decide +kernel
theorem dL_act_459 : decode cL_act 459 = .ok (.iload 7, 2) := by decide +kernel
theorem dL_act_461 : decode cL_act 461 = .ok (.bipush 8, 2) := by decide +kernel
theorem dL_act_463 : decode cL_act 463 = .ok (.if_icmp .ne 58, 3) := by decide +kernel
theorem dL_act_466 : decode cL_act 466 = .ok (.iconst 1, 1) := by decide +kernel
theorem dL_act_467 : decode cL_act 467 = .ok (.iload_n 2, 1) := by decide +kernel
theorem dL_act_468 : decode cL_act 468 = .ok (.bipush 99, 2) := by decide +kernel
theorem dL_act_470 : decode cL_act 470 = .ok (.invokestatic 116, 3) := by decide +kernel
theorem dL_act_473 : decode cL_act 473 = .ok (.iadd, 1) := by decide +kernel
theorem dL_act_474 : decode cL_act 474 = .ok (.istore 9, 2) := by decide +kernel
theorem dL_act_476 : decode cL_act 476 = .ok (.aload_n 3, 1) := by decide +kernel
theorem dL_act_477 : decode cL_act 477 = .ok (.iconst 0, 1) := by decide +kernel
theorem dL_act_478 : decode cL_act 478 = .ok (.dup2, 1) := by decide +kernel
theorem dL_act_479 : decode cL_act 479 = .ok (.iaload, 1) := by decide +kernel
theorem dL_act_480 : decode cL_act 480 = .ok (.iload 9, 2) := by decide +kernel
theorem dL_act_482 : decode cL_act 482 = .ok (.iadd, 1) := by decide +kernel
theorem dL_act_483 : decode cL_act 483 = .ok (.iastore, 1) := by decide +kernel
theorem dL_act_484 : decode cL_act 484 = .ok (.aload_n 3, 1) := by decide +kernel
theorem dL_act_485 : decode cL_act 485 = .ok (.iconst 1, 1) := by decide +kernel
theorem dL_act_486 : decode cL_act 486 = .ok (.dup2, 1) := by decide +kernel
theorem dL_act_487 : decode cL_act 487 = .ok (.iaload, 1) := by decide +kernel
theorem dL_act_488 : decode cL_act 488 = .ok (.iload 9, 2) := by decide +kernel
theorem dL_act_490 : decode cL_act 490 = .ok (.iadd, 1) := by decide +kernel
theorem dL_act_491 : decode cL_act 491 = .ok (.iastore, 1) := by decide +kernel
theorem dL_act_492 : decode cL_act 492 = .ok (.aload_n 0, 1) := by decide +kernel
theorem dL_act_493 : decode cL_act 493 = .ok (.iload 9, 2) := by decide +kernel
theorem dL_act_495 : decode cL_act 495 = .ok (.invokestatic 132, 3) := by decide +kernel
theorem dL_act_498 : decode cL_act 498 = .ok (.aload_n 3, 1) := by decide +kernel
theorem dL_act_499 : decode cL_act 499 = .ok (.iconst 0, 1) := by decide +kernel
theorem dL_act_500 : decode cL_act 500 = .ok (.iaload, 1) := by decide +kernel
theorem dL_act_501 : decode cL_act 501 = .ok (.if_icmp .ne 18, 3) := by decide +kernel
theorem dL_act_504 : decode cL_act 504 = .ok (.aload_n 0, 1) := by decide +kernel
theorem dL_act_505 : decode cL_act 505 = .ok (.bipush 100, 2) := by decide +kernel
theorem dL_act_507 : decode cL_act 507 = .ok (.invokestatic 132, 3) := by decide +kernel
theorem dL_act_510 : decode cL_act 510 = .ok (.bipush (-32), 2) := by decide +kernel
theorem dL_act_512 : decode cL_act 512 = .ok (.if_icmp .ne 7, 3) := by decide +kernel
theorem dL_act_515 : decode cL_act 515 = .ok (.iconst 1, 1) := by decide +kernel
theorem dL_act_516 : decode cL_act 516 = .ok (.goto 4, 3) := by decide +kernel
theorem dL_act_519 : decode cL_act 519 = .ok (.iconst 0, 1) := by decide +kernel
theorem dL_act_520 : decode cL_act 520 = .ok (.ireturn, 1) := by decide +kernel
theorem dL_act_521 : decode cL_act 521 = .ok (.iload 7, 2) := by decide +kernel
theorem dL_act_523 : decode cL_act 523 = .ok (.bipush 11, 2) := by decide +kernel
theorem dL_act_525 : decode cL_act 525 = .ok (.if_icmp .ge 68, 3) := by decide +kernel
theorem dL_act_528 : decode cL_act 528 = .ok (.aload_n 3, 1) := by decide +kernel
theorem dL_act_529 : decode cL_act 529 = .ok (.iconst 0, 1) := by decide +kernel
theorem dL_act_530 : decode cL_act 530 = .ok (.iaload, 1) := by decide +kernel
theorem dL_act_531 : decode cL_act 531 = .ok (.ifCond .ne 30, 3) := by decide +kernel
theorem dL_act_534 : decode cL_act 534 = .ok (.aload_n 0, 1) := by decide +kernel
theorem dL_act_535 : decode cL_act 535 = .ok (.iload 8, 2) := by decide +kernel
theorem dL_act_537 : decode cL_act 537 = .ok (.invokestatic 134, 3) := by decide +kernel
theorem dL_act_540 : decode cL_act 540 = .ok (.bipush (-33), 2) := by decide +kernel
theorem dL_act_542 : decode cL_act 542 = .ok (.if_icmp .ne 17, 3) := by decide +kernel
theorem dL_act_545 : decode cL_act 545 = .ok (.aload_n 0, 1) := by decide +kernel
theorem dL_act_546 : decode cL_act 546 = .ok (.iconst (-1), 1) := by decide +kernel
theorem dL_act_547 : decode cL_act 547 = .ok (.invokestatic 134, 3) := by decide +kernel
theorem dL_act_550 : decode cL_act 550 = .ok (.bipush (-31), 2) := by decide +kernel
theorem dL_act_552 : decode cL_act 552 = .ok (.if_icmp .ne 7, 3) := by decide +kernel
theorem dL_act_555 : decode cL_act 555 = .ok (.iconst 1, 1) := by decide +kernel
theorem dL_act_556 : decode cL_act 556 = .ok (.goto 4, 3) := by decide +kernel
theorem dL_act_559 : decode cL_act 559 = .ok (.iconst 0, 1) := by decide +kernel
theorem dL_act_560 : decode cL_act 560 = .ok (.ireturn, 1) := by decide +kernel
theorem dL_act_561 : decode cL_act 561 = .ok (.iload 8, 2) := by decide +kernel
theorem dL_act_563 : decode cL_act 563 = .ok (.aload_n 3, 1) := by decide +kernel
theorem dL_act_564 : decode cL_act 564 = .ok (.aload 4, 2) := by decide +kernel
theorem dL_act_566 : decode cL_act 566 = .ok (.aload 5, 2) := by decide +kernel
theorem dL_act_568 : decode cL_act 568 = .ok (.aload 6, 2) := by decide +kernel
theorem dL_act_570 : decode cL_act 570 = .ok (.invokestatic 75, 3) := by decide +kernel
theorem dL_act_573 : decode cL_act 573 = .ok (.pop, 1) := by decide +kernel
theorem dL_act_574 : decode cL_act 574 = .ok (.aload_n 0, 1) := by decide +kernel
theorem dL_act_575 : decode cL_act 575 = .ok (.iload 8, 2) := by decide +kernel
theorem dL_act_577 : decode cL_act 577 = .ok (.invokestatic 134, 3) := by decide +kernel
theorem dL_act_580 : decode cL_act 580 = .ok (.aload_n 3, 1) := by decide +kernel
theorem dL_act_581 : decode cL_act 581 = .ok (.bipush 11, 2) := by decide +kernel
theorem dL_act_583 : decode cL_act 583 = .ok (.iaload, 1) := by decide +kernel
theorem dL_act_584 : decode cL_act 584 = .ok (.if_icmp .ne 7, 3) := by decide +kernel
theorem dL_act_587 : decode cL_act 587 = .ok (.iconst 1, 1) := by decide +kernel
theorem dL_act_588 : decode cL_act 588 = .ok (.goto 4, 3) := by decide +kernel
theorem dL_act_591 : decode cL_act 591 = .ok (.iconst 0, 1) := by decide +kernel
theorem dL_act_592 : decode cL_act 592 = .ok (.ireturn, 1) := by decide +kernel
theorem dL_act_593 : decode cL_act 593 = .ok (.iconst 1, 1) := by decide +kernel
theorem dL_act_594 : decode cL_act 594 = .ok (.iload_n 2, 1) := by decide +kernel
theorem dL_act_595 : decode cL_act 595 = .ok (.iconst 3, 1) := by decide +kernel
theorem dL_act_596 : decode cL_act 596 = .ok (.ishr, 1) := by decide +kernel
theorem dL_act_597 : decode cL_act 597 = .ok (.bipush 30, 2) := by decide +kernel
theorem dL_act_599 : decode cL_act 599 = .ok (.invokestatic 116, 3) := by decide +kernel
theorem dL_act_602 : decode cL_act 602 = .ok (.iadd, 1) := by decide +kernel
theorem dL_act_603 : decode cL_act 603 = .ok (.istore 9, 2) := by decide +kernel
theorem dL_act_605 : decode cL_act 605 = .ok (.iconst 0, 1) := by decide +kernel
theorem dL_act_606 : decode cL_act 606 = .ok (.istore 10, 2) := by decide +kernel
theorem dL_act_608 : decode cL_act 608 = .ok (.iconst 0, 1) := by decide +kernel
theorem dL_act_609 : decode cL_act 609 = .ok (.istore 11, 2) := by decide +kernel
theorem dL_act_611 : decode cL_act 611 = .ok (.iload 11, 2) := by decide +kernel
theorem dL_act_613 : decode cL_act 613 = .ok (.iload 9, 2) := by decide +kernel
theorem dL_act_615 : decode cL_act 615 = .ok (.if_icmp .ge 32, 3) := by decide +kernel
theorem dL_act_618 : decode cL_act 618 = .ok (.aload_n 3, 1) := by decide +kernel
theorem dL_act_619 : decode cL_act 619 = .ok (.iconst 0, 1) := by decide +kernel
theorem dL_act_620 : decode cL_act 620 = .ok (.iaload, 1) := by decide +kernel
theorem dL_act_621 : decode cL_act 621 = .ok (.ifCond .le 26, 3) := by decide +kernel
theorem dL_act_624 : decode cL_act 624 = .ok (.iload 10, 2) := by decide +kernel
theorem dL_act_626 : decode cL_act 626 = .ok (.iload 8, 2) := by decide +kernel
theorem dL_act_628 : decode cL_act 628 = .ok (.aload_n 3, 1) := by decide +kernel
theorem dL_act_629 : decode cL_act 629 = .ok (.aload 4, 2) := by decide +kernel
theorem dL_act_631 : decode cL_act 631 = .ok (.aload 5, 2) := by decide +kernel
theorem dL_act_633 : decode cL_act 633 = .ok (.aload 6, 2) := by decide +kernel
theorem dL_act_635 : decode cL_act 635 = .ok (.invokestatic 75, 3) := by decide +kernel
theorem dL_act_638 : decode cL_act 638 = .ok (.iadd, 1) := by decide +kernel
theorem dL_act_639 : decode cL_act 639 = .ok (.istore 10, 2) := by decide +kernel
theorem dL_act_641 : decode cL_act 641 = .ok (.iinc 11 1, 3) := by decide +kernel
theorem dL_act_644 : decode cL_act 644 = .ok (.goto (-33), 3) := by decide +kernel
theorem dL_act_647 : decode cL_act 647 = .ok (.aload_n 0, 1) := by decide +kernel
theorem dL_act_648 : decode cL_act 648 = .ok (.iload 8, 2) := by decide +kernel
theorem dL_act_650 : decode cL_act 650 = .ok (.iload 9, 2) := by decide +kernel
theorem dL_act_652 : decode cL_act 652 = .ok (.invokestatic 136, 3) := by decide +kernel
theorem dL_act_655 : decode cL_act 655 = .ok (.iload 10, 2) := by decide +kernel
theorem dL_act_657 : decode cL_act 657 = .ok (.if_icmp .ne 32, 3) := by decide +kernel
theorem dL_act_660 : decode cL_act 660 = .ok (.aload_n 0, 1) := by decide +kernel
theorem dL_act_661 : decode cL_act 661 = .ok (.iload 8, 2) := by decide +kernel
theorem dL_act_663 : decode cL_act 663 = .ok (.bipush 31, 2) := by decide +kernel
theorem dL_act_665 : decode cL_act 665 = .ok (.invokestatic 136, 3) := by decide +kernel
theorem dL_act_668 : decode cL_act 668 = .ok (.bipush (-32), 2) := by decide +kernel
theorem dL_act_670 : decode cL_act 670 = .ok (.if_icmp .ne 19, 3) := by decide +kernel
theorem dL_act_673 : decode cL_act 673 = .ok (.aload_n 0, 1) := by decide +kernel
theorem dL_act_674 : decode cL_act 674 = .ok (.bipush 7, 2) := by decide +kernel
theorem dL_act_676 : decode cL_act 676 = .ok (.iconst 0, 1) := by decide +kernel
theorem dL_act_677 : decode cL_act 677 = .ok (.invokestatic 136, 3) := by decide +kernel
theorem dL_act_680 : decode cL_act 680 = .ok (.bipush (-31), 2) := by decide +kernel
theorem dL_act_682 : decode cL_act 682 = .ok (.if_icmp .ne 7, 3) := by decide +kernel
theorem dL_act_685 : decode cL_act 685 = .ok (.iconst 1, 1) := by decide +kernel
theorem dL_act_686 : decode cL_act 686 = .ok (.goto 4, 3) := by decide +kernel
theorem dL_act_689 : decode cL_act 689 = .ok (.iconst 0, 1) := by decide +kernel
theorem dL_act_690 : decode cL_act 690 = .ok (.ireturn, 1) := by decide +kernel
theorem dL_law_0 : decode cL_law 0 = .ok (.new 10, 3) := by decide +kernel
theorem dL_law_3 : decode cL_law 3 = .ok (.dup, 1) := by decide +kernel
theorem dL_law_4 : decode cL_law 4 = .ok (.invokespecial 138, 3) := by decide +kernel
theorem dL_law_7 : decode cL_law 7 = .ok (.astore_n 1, 1) := by decide +kernel
theorem dL_law_8 : decode cL_law 8 = .ok (.bipush 19, 2) := by decide +kernel
theorem dL_law_10 : decode cL_law 10 = .ok (.newarray .int, 2) := by decide +kernel
theorem dL_law_12 : decode cL_law 12 = .ok (.astore_n 2, 1) := by decide +kernel
theorem dL_law_13 : decode cL_law 13 = .ok (.bipush 56, 2) := by decide +kernel
theorem dL_law_15 : decode cL_law 15 = .ok (.newarray .int, 2) := by decide +kernel
theorem dL_law_17 : decode cL_law 17 = .ok (.astore_n 3, 1) := by decide +kernel
theorem dL_law_18 : decode cL_law 18 = .ok (.bipush 35, 2) := by decide +kernel
theorem dL_law_20 : decode cL_law 20 = .ok (.newarray .int, 2) := by decide +kernel
theorem dL_law_22 : decode cL_law 22 = .ok (.astore 4, 2) := by decide +kernel
theorem dL_law_24 : decode cL_law 24 = .ok (.bipush 8, 2) := by decide +kernel
theorem dL_law_26 : decode cL_law 26 = .ok (.newarray .int, 2) := by decide +kernel
theorem dL_law_28 : decode cL_law 28 = .ok (.astore 5, 2) := by decide +kernel
theorem dL_law_30 : decode cL_law 30 = .ok (.aload_n 2, 1) := by decide +kernel
theorem dL_law_31 : decode cL_law 31 = .ok (.bipush 11, 2) := by decide +kernel
theorem dL_law_33 : decode cL_law 33 = .ok (.iconst (-1), 1) := by decide +kernel
