theorem dX0_init_0 : decode cX0_init 0 = .ok (.aload_n 0, 1) := by decide +kernel
theorem dX0_init_1 : decode cX0_init 1 = .ok (.invokespecial 3, 3) := by decide +kernel
theorem dX0_init_4 : decode cX0_init 4 = .ok (.aload_n 0, 1) := by decide +kernel
theorem dX0_init_5 : decode cX0_init 5 = .ok (.bipush 17, 2) := by decide +kernel
theorem dX0_init_7 : decode cX0_init 7 = .ok (.newarray .int, 2) := by decide +kernel
theorem dX0_init_9 : decode cX0_init 9 = .ok (.putfield 9, 3) := by decide +kernel
theorem dX0_init_12 : decode cX0_init 12 = .ok (.aload_n 0, 1) := by decide +kernel
theorem dX0_init_13 : decode cX0_init 13 = .ok (.bipush 56, 2) := by decide +kernel
theorem dX0_init_15 : decode cX0_init 15 = .ok (.newarray .int, 2) := by decide +kernel
theorem dX0_init_17 : decode cX0_init 17 = .ok (.putfield 15, 3) := by decide +kernel
theorem dX0_init_20 : decode cX0_init 20 = .ok (.aload_n 0, 1) := by decide +kernel
theorem dX0_init_21 : decode cX0_init 21 = .ok (.bipush 56, 2) := by decide +kernel
theorem dX0_init_23 : decode cX0_init 23 = .ok (.newarray .int, 2) := by decide +kernel
theorem dX0_init_25 : decode cX0_init 25 = .ok (.putfield 18, 3) := by decide +kernel
theorem dX0_init_28 : decode cX0_init 28 = .ok (.aload_n 0, 1) := by decide +kernel
theorem dX0_init_29 : decode cX0_init 29 = .ok (.bipush 8, 2) := by decide +kernel
theorem dX0_init_31 : decode cX0_init 31 = .ok (.newarray .int, 2) := by decide +kernel
theorem dX0_init_33 : decode cX0_init 33 = .ok (.putfield 21, 3) := by decide +kernel
theorem dX0_init_36 : decode cX0_init 36 = .ok (.aload_n 0, 1) := by decide +kernel
theorem dX0_init_37 : decode cX0_init 37 = .ok (.bipush 7, 2) := by decide +kernel
theorem dX0_init_39 : decode cX0_init 39 = .ok (.newarray .int, 2) := by decide +kernel
theorem dX0_init_41 : decode cX0_init 41 = .ok (.putfield 24, 3) := by decide +kernel
theorem dX0_init_44 : decode cX0_init 44 = .ok (.aload_n 0, 1) := by decide +kernel
theorem dX0_init_45 : decode cX0_init 45 = .ok (.bipush 7, 2) := by decide +kernel
theorem dX0_init_47 : decode cX0_init 47 = .ok (.newarray .int, 2) := by decide +kernel
theorem dX0_init_49 : decode cX0_init 49 = .ok (.putfield 27, 3) := by decide +kernel
theorem dX0_init_52 : decode cX0_init 52 = .ok (.aload_n 0, 1) := by decide +kernel
theorem dX0_init_53 : decode cX0_init 53 = .ok (.bipush 7, 2) := by decide +kernel
theorem dX0_init_55 : decode cX0_init 55 = .ok (.newarray .int, 2) := by decide +kernel
theorem dX0_init_57 : decode cX0_init 57 = .ok (.putfield 30, 3) := by decide +kernel
theorem dX0_init_60 : decode cX0_init 60 = .ok (.aload_n 0, 1) := by decide +kernel
theorem dX0_init_61 : decode cX0_init 61 = .ok (.bipush 7, 2) := by decide +kernel
theorem dX0_init_63 : decode cX0_init 63 = .ok (.newarray .int, 2) := by decide +kernel
theorem dX0_init_65 : decode cX0_init 65 = .ok (.putfield 33, 3) := by decide +kernel
theorem dX0_init_68 : decode cX0_init 68 = .ok (.aload_n 0, 1) := by decide +kernel
theorem dX0_init_69 : decode cX0_init 69 = .ok (.bipush 7, 2) := by decide +kernel
theorem dX0_init_71 : decode cX0_init 71 = .ok (.newarray .int, 2) := by decide +kernel
theorem dX0_init_73 : decode cX0_init 73 = .ok (.putfield 36, 3) := by decide +kernel
theorem dX0_init_76 : decode cX0_init 76 = .ok (.aload_n 0, 1) := by decide +kernel
theorem dX0_init_77 : decode cX0_init 77 = .ok (.iconst 3, 1) := by decide +kernel
theorem dX0_init_78 : decode cX0_init 78 = .ok (.newarray .int, 2) := by decide +kernel
theorem dX0_init_80 : decode cX0_init 80 = .ok (.putfield 39, 3) := by decide +kernel
theorem dX0_init_83 : decode cX0_init 83 = .ok (.aload_n 0, 1) := by decide +kernel
theorem dX0_init_84 : decode cX0_init 84 = .ok (.getfield 9, 3) := by decide +kernel
theorem dX0_init_87 : decode cX0_init 87 = .ok (.bipush 11, 2) := by decide +kernel
theorem dX0_init_89 : decode cX0_init 89 = .ok (.iconst (-1), 1) := by decide +kernel
theorem dX0_init_90 : decode cX0_init 90 = .ok (.iastore, 1) := by decide +kernel
theorem dX0_init_91 : decode cX0_init 91 = .ok (.aload_n 0, 1) := by decide +kernel
theorem dX0_init_92 : decode cX0_init 92 = .ok (.getfield 9, 3) := by decide +kernel
theorem dX0_init_95 : decode cX0_init 95 = .ok (.bipush 12, 2) := by decide +kernel
theorem dX0_init_97 : decode cX0_init 97 = .ok (.iconst 3, 1) := by decide +kernel
theorem dX0_init_98 : decode cX0_init 98 = .ok (.iastore, 1) := by decide +kernel
theorem dX0_init_99 : decode cX0_init 99 = .ok (.aload_n 0, 1) := by decide +kernel
theorem dX0_init_100 : decode cX0_init 100 = .ok (.getfield 9, 3) := by decide +kernel
theorem dX0_init_103 : decode cX0_init 103 = .ok (.bipush 13, 2) := by decide +kernel
theorem dX0_init_105 : decode cX0_init 105 = .ok (.iconst 1, 1) := by decide +kernel
theorem dX0_init_106 : decode cX0_init 106 = .ok (.iastore, 1) := by decide +kernel
theorem dX0_init_107 : decode cX0_init 107 = .ok (.aload_n 0, 1) := by decide +kernel
theorem dX0_init_108 : decode cX0_init 108 = .ok (.getfield 9, 3) := by decide +kernel
theorem dX0_init_111 : decode cX0_init 111 = .ok (.bipush 14, 2) := by decide +kernel
theorem dX0_init_113 : decode cX0_init 113 = .ok (.bipush 6, 2) := by decide +kernel
theorem dX0_init_115 : decode cX0_init 115 = .ok (.iastore, 1) := by decide +kernel
theorem dX0_init_116 : decode cX0_init 116 = .ok (.aload_n 0, 1) := by decide +kernel
theorem dX0_init_117 : decode cX0_init 117 = .ok (.getfield 9, 3) := by decide +kernel
theorem dX0_init_120 : decode cX0_init 120 = .ok (.bipush 15, 2) := by decide +kernel
theorem dX0_init_122 : decode cX0_init 122 = .ok (.bipush 8, 2) := by decide +kernel
theorem dX0_init_124 : decode cX0_init 124 = .ok (.iastore, 1) := by decide +kernel
theorem dX0_init_125 : decode cX0_init 125 = .ok (.aload_n 0, 1) := by decide +kernel
theorem dX0_init_126 : decode cX0_init 126 = .ok (.getfield 21, 3) := by decide +kernel
theorem dX0_init_129 : decode cX0_init 129 = .ok (.iconst (-1), 1) := by decide +kernel
theorem dX0_init_130 : decode cX0_init 130 = .ok (.invokestatic 42, 3) := by decide +kernel
theorem dX0_init_133 : decode cX0_init 133 = .ok (.getstatic 48, 3) := by decide +kernel
theorem dX0_init_136 : decode cX0_init 136 = .ok (.iconst 0, 1) := by decide +kernel
theorem dX0_init_137 : decode cX0_init 137 = .ok (.aload_n 0, 1) := by decide +kernel
theorem dX0_init_138 : decode cX0_init 138 = .ok (.getfield 24, 3) := by decide +kernel
theorem dX0_init_141 : decode cX0_init 141 = .ok (.iconst 0, 1) := by decide +kernel
theorem dX0_init_142 : decode cX0_init 142 = .ok (.bipush 7, 2) := by decide +kernel
theorem dX0_init_144 : decode cX0_init 144 = .ok (.invokestatic 51, 3) := by decide +kernel
theorem dX0_init_147 : decode cX0_init 147 = .ok (.getstatic 57, 3) := by decide +kernel
theorem dX0_init_150 : decode cX0_init 150 = .ok (.iconst 0, 1) := by decide +kernel
theorem dX0_init_151 : decode cX0_init 151 = .ok (.aload_n 0, 1) := by decide +kernel
theorem dX0_init_152 : decode cX0_init 152 = .ok (.getfield 27, 3) := by decide +kernel
theorem dX0_init_155 : decode cX0_init 155 = .ok (.iconst 0, 1) := by decide +kernel
theorem dX0_init_156 : decode cX0_init 156 = .ok (.bipush 7, 2) := by decide +kernel
theorem dX0_init_158 : decode cX0_init 158 = .ok (.invokestatic 51, 3) := by decide +kernel
theorem dX0_init_161 : decode cX0_init 161 = .ok (.iconst 0, 1) := by decide +kernel
theorem dX0_init_162 : decode cX0_init 162 = .ok (.istore_n 1, 1) := by decide +kernel
theorem dX0_init_163 : decode cX0_init 163 = .ok (.iload_n 1, 1) := by decide +kernel
theorem dX0_init_164 : decode cX0_init 164 = .ok (.iconst 3, 1) := by decide +kernel
theorem dX0_init_165 : decode cX0_init 165 = .ok (.if_icmp .ge 16, 3) := by decide +kernel
theorem dX0_init_168 : decode cX0_init 168 = .ok (.aload_n 0, 1) := by decide +kernel
theorem dX0_init_169 : decode cX0_init 169 = .ok (.getfield 39, 3) := by decide +kernel
theorem dX0_init_172 : decode cX0_init 172 = .ok (.iload_n 1, 1) := by decide +kernel
theorem dX0_init_173 : decode cX0_init 173 = .ok (.iload_n 1, 1) := by decide +kernel
theorem dX0_init_174 : decode cX0_init 174 = .ok (.iastore, 1) := by decide +kernel
theorem dX0_init_175 : decode cX0_init 175 = .ok (.iinc 1 1, 3) := by decide +kernel
theorem dX0_init_178 : decode cX0_init 178 = .ok (.goto (-15), 3) := by decide +kernel
theorem dX0_init_181 : decode cX0_init 181 = .ok (.return_, 1) := by decide +kernel
theorem dX0_copyFrom_0 : decode cX0_copyFrom 0 = .ok (.aload_n 1, 1) := by decide +kernel
theorem dX0_copyFrom_1 : decode cX0_copyFrom 1 = .ok (.getfield 9, 3) := by decide +kernel
theorem dX0_copyFrom_4 : decode cX0_copyFrom 4 = .ok (.iconst 0, 1) := by decide +kernel
theorem dX0_copyFrom_5 : decode cX0_copyFrom 5 = .ok (.aload_n 0, 1) := by decide +kernel
theorem dX0_copyFrom_6 : decode cX0_copyFrom 6 = .ok (.getfield 9, 3) := by decide +kernel
theorem dX0_copyFrom_9 : decode cX0_copyFrom 9 = .ok (.iconst 0, 1) := by decide +kernel
theorem dX0_copyFrom_10 : decode cX0_copyFrom 10 = .ok (.bipush 17, 2) := by decide +kernel
theorem dX0_copyFrom_12 : decode cX0_copyFrom 12 = .ok (.invokestatic 51, 3) := by decide +kernel
theorem dX0_copyFrom_15 : decode cX0_copyFrom 15 = .ok (.aload_n 1, 1) := by decide +kernel
theorem dX0_copyFrom_16 : decode cX0_copyFrom 16 = .ok (.getfield 15, 3) := by decide +kernel
theorem dX0_copyFrom_19 : decode cX0_copyFrom 19 = .ok (.iconst 0, 1) := by decide +kernel
theorem dX0_copyFrom_20 : decode cX0_copyFrom 20 = .ok (.aload_n 0, 1) := by decide +kernel
theorem dX0_copyFrom_21 : decode cX0_copyFrom 21 = .ok (.getfield 15, 3) := by decide +kernel
theorem dX0_copyFrom_24 : decode cX0_copyFrom 24 = .ok (.iconst 0, 1) := by decide +kernel
theorem dX0_copyFrom_25 : decode cX0_copyFrom 25 = .ok (.bipush 56, 2) := by decide +kernel
theorem dX0_copyFrom_27 : decode cX0_copyFrom 27 = .ok (.invokestatic 51, 3) := by decide +kernel
theorem dX0_copyFrom_30 : decode cX0_copyFrom 30 = .ok (.aload_n 1, 1) := by decide +kernel
theorem dX0_copyFrom_31 : decode cX0_copyFrom 31 = .ok (.getfield 18, 3) := by decide +kernel
theorem dX0_copyFrom_34 : decode cX0_copyFrom 34 = .ok (.iconst 0, 1) := by decide +kernel
theorem dX0_copyFrom_35 : decode cX0_copyFrom 35 = .ok (.aload_n 0, 1) := by decide +kernel
theorem dX0_copyFrom_36 : decode cX0_copyFrom 36 = .ok (.getfield 18, 3) := by decide +kernel
theorem dX0_copyFrom_39 : decode cX0_copyFrom 39 = .ok (.iconst 0, 1) := by decide +kernel
theorem dX0_copyFrom_40 : decode cX0_copyFrom 40 = .ok (.bipush 56, 2) := by decide +kernel
theorem dX0_copyFrom_42 : decode cX0_copyFrom 42 = .ok (.invokestatic 51, 3) := by decide +kernel
theorem dX0_copyFrom_45 : decode cX0_copyFrom 45 = .ok (.aload_n 1, 1) := by decide +kernel
theorem dX0_copyFrom_46 : decode cX0_copyFrom 46 = .ok (.getfield 21, 3) := by decide +kernel
theorem dX0_copyFrom_49 : decode cX0_copyFrom 49 = .ok (.iconst 0, 1) := by decide +kernel
theorem dX0_copyFrom_50 : decode cX0_copyFrom 50 = .ok (.aload_n 0, 1) := by decide +kernel
theorem dX0_copyFrom_51 : decode cX0_copyFrom 51 = .ok (.getfield 21, 3) := by decide +kernel
theorem dX0_copyFrom_54 : decode cX0_copyFrom 54 = .ok (.iconst 0, 1) := by decide +kernel
theorem dX0_copyFrom_55 : decode cX0_copyFrom 55 = .ok (.bipush 8, 2) := by decide +kernel
theorem dX0_copyFrom_57 : decode cX0_copyFrom 57 = .ok (.invokestatic 51, 3) := by decide +kernel
theorem dX0_copyFrom_60 : decode cX0_copyFrom 60 = .ok (.aload_n 1, 1) := by decide +kernel
theorem dX0_copyFrom_61 : decode cX0_copyFrom 61 = .ok (.getfield 24, 3) := by decide +kernel
theorem dX0_copyFrom_64 : decode cX0_copyFrom 64 = .ok (.iconst 0, 1) := by decide +kernel
theorem dX0_copyFrom_65 : decode cX0_copyFrom 65 = .ok (.aload_n 0, 1) := by decide +kernel
theorem dX0_copyFrom_66 : decode cX0_copyFrom 66 = .ok (.getfield 24, 3) := by decide +kernel
theorem dX0_copyFrom_69 : decode cX0_copyFrom 69 = .ok (.iconst 0, 1) := by decide +kernel
theorem dX0_copyFrom_70 : decode cX0_copyFrom 70 = .ok (.bipush 7, 2) := by decide +kernel
theorem dX0_copyFrom_72 : decode cX0_copyFrom 72 = .ok (.invokestatic 51, 3) := by decide +kernel
theorem dX0_copyFrom_75 : decode cX0_copyFrom 75 = .ok (.aload_n 1, 1) := by decide +kernel
theorem dX0_copyFrom_76 : decode cX0_copyFrom 76 = .ok (.getfield 27, 3) := by decide +kernel
theorem dX0_copyFrom_79 : decode cX0_copyFrom 79 = .ok (.iconst 0, 1) := by decide +kernel
theorem dX0_copyFrom_80 : decode cX0_copyFrom 80 = .ok (.aload_n 0, 1) := by decide +kernel
theorem dX0_copyFrom_81 : decode cX0_copyFrom 81 = .ok (.getfield 27, 3) := by decide +kernel
theorem dX0_copyFrom_84 : decode cX0_copyFrom 84 = .ok (.iconst 0, 1) := by decide +kernel
theorem dX0_copyFrom_85 : decode cX0_copyFrom 85 = .ok (.bipush 7, 2) := by decide +kernel
theorem dX0_copyFrom_87 : decode cX0_copyFrom 87 = .ok (.invokestatic 51, 3) := by decide +kernel
theorem dX0_copyFrom_90 : decode cX0_copyFrom 90 = .ok (.aload_n 1, 1) := by decide +kernel
theorem dX0_copyFrom_91 : decode cX0_copyFrom 91 = .ok (.getfield 30, 3) := by decide +kernel
theorem dX0_copyFrom_94 : decode cX0_copyFrom 94 = .ok (.iconst 0, 1) := by decide +kernel
theorem dX0_copyFrom_95 : decode cX0_copyFrom 95 = .ok (.aload_n 0, 1) := by decide +kernel
theorem dX0_copyFrom_96 : decode cX0_copyFrom 96 = .ok (.getfield 30, 3) := by decide +kernel
theorem dX0_copyFrom_99 : decode cX0_copyFrom 99 = .ok (.iconst 0, 1) := by decide +kernel
theorem dX0_copyFrom_100 : decode cX0_copyFrom 100 = .ok (.bipush 7, 2) := by decide +kernel
theorem dX0_copyFrom_102 : decode cX0_copyFrom 102 = .ok (.invokestatic 51, 3) := by decide +kernel
theorem dX0_copyFrom_105 : decode cX0_copyFrom 105 = .ok (.aload_n 1, 1) := by decide +kernel
theorem dX0_copyFrom_106 : decode cX0_copyFrom 106 = .ok (.getfield 33, 3) := by decide +kernel
theorem dX0_copyFrom_109 : decode cX0_copyFrom 109 = .ok (.iconst 0, 1) := by decide +kernel
theorem dX0_copyFrom_110 : decode cX0_copyFrom 110 = .ok (.aload_n 0, 1) := by decide +kernel
theorem dX0_copyFrom_111 : decode cX0_copyFrom 111 = .ok (.getfield 33, 3) := by decide +kernel
theorem dX0_copyFrom_114 : decode cX0_copyFrom 114 = .ok (.iconst 0, 1) := by decide +kernel
theorem dX0_copyFrom_115 : decode cX0_copyFrom 115 = .ok (.bipush 7, 2) := by decide +kernel
theorem dX0_copyFrom_117 : decode cX0_copyFrom 117 = .ok (.invokestatic 51, 3) := by decide +kernel
theorem dX0_copyFrom_120 : decode cX0_copyFrom 120 = .ok (.aload_n 1, 1) := by decide +kernel
theorem dX0_copyFrom_121 : decode cX0_copyFrom 121 = .ok (.getfield 36, 3) := by decide +kernel
theorem dX0_copyFrom_124 : decode cX0_copyFrom 124 = .ok (.iconst 0, 1) := by decide +kernel
theorem dX0_copyFrom_125 : decode cX0_copyFrom 125 = .ok (.aload_n 0, 1) := by decide +kernel
theorem dX0_copyFrom_126 : decode cX0_copyFrom 126 = .ok (.getfield 36, 3) := by decide +kernel
theorem dX0_copyFrom_129 : decode cX0_copyFrom 129 = .ok (.iconst 0, 1) := by decide +kernel
theorem dX0_copyFrom_130 : decode cX0_copyFrom 130 = .ok (.bipush 7, 2) := by decide +kernel
theorem dX0_copyFrom_132 : decode cX0_copyFrom 132 = .ok (.invokestatic 51, 3) := by decide +kernel
theorem dX0_copyFrom_135 : decode cX0_copyFrom 135 = .ok (.aload_n 1, 1) := by decide +kernel
theorem dX0_copyFrom_136 : decode cX0_copyFrom 136 = .ok (.getfield 39, 3) := by decide +kernel
theorem dX0_copyFrom_139 : decode cX0_copyFrom 139 = .ok (.iconst 0, 1) := by decide +kernel
theorem dX0_copyFrom_140 : decode cX0_copyFrom 140 = .ok (.aload_n 0, 1) := by decide +kernel
theorem dX0_copyFrom_141 : decode cX0_copyFrom 141 = .ok (.getfield 39, 3) := by decide +kernel
theorem dX0_copyFrom_144 : decode cX0_copyFrom 144 = .ok (.iconst 0, 1) := by decide +kernel
theorem dX0_copyFrom_145 : decode cX0_copyFrom 145 = .ok (.iconst 3, 1) := by decide +kernel
theorem dX0_copyFrom_146 : decode cX0_copyFrom 146 = .ok (.invokestatic 51, 3) := by decide +kernel
theorem dX0_copyFrom_149 : decode cX0_copyFrom 149 = .ok (.return_, 1) := by decide +kernel
theorem dX0_change_0 : decode cX0_change 0 = .ok (.aload_n 0, 1) := by decide +kernel
theorem dX0_change_1 : decode cX0_change 1 = .ok (.getfield 9, 3) := by decide +kernel
theorem dX0_change_4 : decode cX0_change 4 = .ok (.iload_n 1, 1) := by decide +kernel
theorem dX0_change_5 : decode cX0_change 5 = .ok (.iaload, 1) := by decide +kernel
theorem dX0_change_6 : decode cX0_change 6 = .ok (.istore_n 3, 1) := by decide +kernel
theorem dX0_change_7 : decode cX0_change 7 = .ok (.aload_n 0, 1) := by decide +kernel
theorem dX0_change_8 : decode cX0_change 8 = .ok (.getfield 9, 3) := by decide +kernel
theorem dX0_change_11 : decode cX0_change 11 = .ok (.iload_n 1, 1) := by decide +kernel
theorem dX0_change_12 : decode cX0_change 12 = .ok (.iload_n 2, 1) := by decide +kernel
theorem dX0_change_13 : decode cX0_change 13 = .ok (.iastore, 1) := by decide +kernel
theorem dX0_change_14 : decode cX0_change 14 = .ok (.iload_n 3, 1) := by decide +kernel
theorem dX0_change_15 : decode cX0_change 15 = .ok (.ireturn, 1) := by decide +kernel
theorem dX0_bendPin_0 : decode cX0_bendPin 0 = .ok (.aload_n 0, 1) := by decide +kernel
theorem dX0_bendPin_1 : decode cX0_bendPin 1 = .ok (.getfield 15, 3) := by decide +kernel
theorem dX0_bendPin_4 : decode cX0_bendPin 4 = .ok (.iload_n 1, 1) := by decide +kernel
theorem dX0_bendPin_5 : decode cX0_bendPin 5 = .ok (.iaload, 1) := by decide +kernel
theorem dX0_bendPin_6 : decode cX0_bendPin 6 = .ok (.istore_n 3, 1) := by decide +kernel
theorem dX0_bendPin_7 : decode cX0_bendPin 7 = .ok (.aload_n 0, 1) := by decide +kernel
theorem dX0_bendPin_8 : decode cX0_bendPin 8 = .ok (.getfield 15, 3) := by decide +kernel
theorem dX0_bendPin_11 : decode cX0_bendPin 11 = .ok (.iload_n 1, 1) := by decide +kernel
theorem dX0_bendPin_12 : decode cX0_bendPin 12 = .ok (.iload_n 2, 1) := by decide +kernel
theorem dX0_bendPin_13 : decode cX0_bendPin 13 = .ok (.iastore, 1) := by decide +kernel
theorem dX0_bendPin_14 : decode cX0_bendPin 14 = .ok (.iload_n 3, 1) := by decide +kernel
theorem dX0_bendPin_15 : decode cX0_bendPin 15 = .ok (.ifCond .ne 15, 3) := by decide +kernel
theorem dX0_bendPin_18 : decode cX0_bendPin 18 = .ok (.iload_n 2, 1) := by decide +kernel
theorem dX0_bendPin_19 : decode cX0_bendPin 19 = .ok (.ifCond .eq 11, 3) := by decide +kernel
theorem dX0_bendPin_22 : decode cX0_bendPin 22 = .ok (.aload_n 0, 1) := by decide +kernel
theorem dX0_bendPin_23 : decode cX0_bendPin 23 = .ok (.iload_n 1, 1) := by decide +kernel
theorem dX0_bendPin_24 : decode cX0_bendPin 24 = .ok (.invokevirtual 60, 3) := by decide +kernel
theorem dX0_bendPin_27 : decode cX0_bendPin 27 = .ok (.goto 16, 3) := by decide +kernel
theorem dX0_bendPin_30 : decode cX0_bendPin 30 = .ok (.iload_n 3, 1) := by decide +kernel
theorem dX0_bendPin_31 : decode cX0_bendPin 31 = .ok (.ifCond .eq 12, 3) := by decide +kernel
theorem dX0_bendPin_34 : decode cX0_bendPin 34 = .ok (.iload_n 2, 1) := by decide +kernel
theorem dX0_bendPin_35 : decode cX0_bendPin 35 = .ok (.ifCond .ne 8, 3) := by decide +kernel
theorem dX0_bendPin_38 : decode cX0_bendPin 38 = .ok (.aload_n 0, 1) := by decide +kernel
theorem dX0_bendPin_39 : decode cX0_bendPin 39 = .ok (.iload_n 1, 1) := by decide +kernel
theorem dX0_bendPin_40 : decode cX0_bendPin 40 = .ok (.invokevirtual 64, 3) := by decide +kernel
theorem dX0_bendPin_43 : decode cX0_bendPin 43 = .ok (.iload_n 3, 1) := by decide +kernel
theorem dX0_bendPin_44 : decode cX0_bendPin 44 = .ok (.ireturn, 1) := by decide +kernel
theorem dX0_addBentPin_0 : decode cX0_addBentPin 0 = .ok (.aload_n 0, 1) := by decide +kernel
theorem dX0_addBentPin_1 : decode cX0_addBentPin 1 = .ok (.getfield 9, 3) := by decide +kernel
theorem dX0_addBentPin_4 : decode cX0_addBentPin 4 = .ok (.bipush 16, 2) := by decide +kernel
theorem dX0_addBentPin_6 : decode cX0_addBentPin 6 = .ok (.iaload, 1) := by decide +kernel
theorem dX0_addBentPin_7 : decode cX0_addBentPin 7 = .ok (.istore_n 2, 1) := by decide +kernel
theorem dX0_addBentPin_8 : decode cX0_addBentPin 8 = .ok (.iload_n 2, 1) := by decide +kernel
theorem dX0_addBentPin_9 : decode cX0_addBentPin 9 = .ok (.bipush 56, 2) := by decide +kernel
theorem dX0_addBentPin_11 : decode cX0_addBentPin 11 = .ok (.if_icmp .ge 20, 3) := by decide +kernel
theorem dX0_addBentPin_14 : decode cX0_addBentPin 14 = .ok (.aload_n 0, 1) := by decide +kernel
theorem dX0_addBentPin_15 : decode cX0_addBentPin 15 = .ok (.getfield 18, 3) := by decide +kernel
theorem dX0_addBentPin_18 : decode cX0_addBentPin 18 = .ok (.iload_n 2, 1) := by decide +kernel
theorem dX0_addBentPin_19 : decode cX0_addBentPin 19 = .ok (.iload_n 1, 1) := by decide +kernel
theorem dX0_addBentPin_20 : decode cX0_addBentPin 20 = .ok (.iastore, 1) := by decide +kernel
theorem dX0_addBentPin_21 : decode cX0_addBentPin 21 = .ok (.aload_n 0, 1) := by decide +kernel
theorem dX0_addBentPin_22 : decode cX0_addBentPin 22 = .ok (.getfield 9, 3) := by decide +kernel
theorem dX0_addBentPin_25 : decode cX0_addBentPin 25 = .ok (.bipush 16, 2) := by decide +kernel
theorem dX0_addBentPin_27 : decode cX0_addBentPin 27 = .ok (.iload_n 2, 1) := by decide +kernel
theorem dX0_addBentPin_28 : decode cX0_addBentPin 28 = .ok (.iconst 1, 1) := by decide +kernel
theorem dX0_addBentPin_29 : decode cX0_addBentPin 29 = .ok (.iadd, 1) := by decide +kernel
theorem dX0_addBentPin_30 : decode cX0_addBentPin 30 = .ok (.iastore, 1) := by decide +kernel
theorem dX0_addBentPin_31 : decode cX0_addBentPin 31 = .ok (.return_, 1) := by decide +kernel
theorem dX0_removeBentPin_0 : decode cX0_removeBentPin 0 = .ok (.iconst 0, 1) := by decide +kernel
theorem dX0_removeBentPin_1 : decode cX0_removeBentPin 1 = .ok (.istore_n 2, 1) := by decide +kernel
theorem dX0_removeBentPin_2 : decode cX0_removeBentPin 2 = .ok (.iconst 0, 1) := by decide +kernel
theorem dX0_removeBentPin_3 : decode cX0_removeBentPin 3 = .ok (.istore_n 3, 1) := by decide +kernel
theorem dX0_removeBentPin_4 : decode cX0_removeBentPin 4 = .ok (.iload_n 3, 1) := by decide +kernel
theorem dX0_removeBentPin_5 : decode cX0_removeBentPin 5 = .ok (.aload_n 0, 1) := by decide +kernel
theorem dX0_removeBentPin_6 : decode cX0_removeBentPin 6 = .ok (.getfield 9, 3) := by decide +kernel
theorem dX0_removeBentPin_9 : decode cX0_removeBentPin 9 = .ok (.bipush 16, 2) := by decide +kernel
theorem dX0_removeBentPin_11 : decode cX0_removeBentPin 11 = .ok (.iaload, 1) := by decide +kernel
theorem dX0_removeBentPin_12 : decode cX0_removeBentPin 12 = .ok (.if_icmp .ge 34, 3) := by decide +kernel
theorem dX0_removeBentPin_15 : decode cX0_removeBentPin 15 = .ok (.aload_n 0, 1) := by decide +kernel
theorem dX0_removeBentPin_16 : decode cX0_removeBentPin 16 = .ok (.getfield 18, 3) := by decide +kernel
theorem dX0_removeBentPin_19 : decode cX0_removeBentPin 19 = .ok (.iload_n 3, 1) := by decide +kernel
theorem dX0_removeBentPin_20 : decode cX0_removeBentPin 20 = .ok (.iaload, 1) := by decide +kernel
theorem dX0_removeBentPin_21 : decode cX0_removeBentPin 21 = .ok (.iload_n 1, 1) := by decide +kernel
theorem dX0_removeBentPin_22 : decode cX0_removeBentPin 22 = .ok (.if_icmp .eq 18, 3) := by decide +kernel
theorem dX0_removeBentPin_25 : decode cX0_removeBentPin 25 = .ok (.aload_n 0, 1) := by decide +kernel
theorem dX0_removeBentPin_26 : decode cX0_removeBentPin 26 = .ok (.getfield 18, 3) := by decide +kernel
theorem dX0_removeBentPin_29 : decode cX0_removeBentPin 29 = .ok (.iload_n 2, 1) := by decide +kernel
theorem dX0_removeBentPin_30 : decode cX0_removeBentPin 30 = .ok (.aload_n 0, 1) := by decide +kernel
theorem dX0_removeBentPin_31 : decode cX0_removeBentPin 31 = .ok (.getfield 18, 3) := by decide +kernel
theorem dX0_removeBentPin_34 : decode cX0_removeBentPin 34 = .ok (.iload_n 3, 1) := by decide +kernel
theorem dX0_removeBentPin_35 : decode cX0_removeBentPin 35 = .ok (.iaload, 1) := by decide +kernel
theorem dX0_removeBentPin_36 : decode cX0_removeBentPin 36 = .ok (.iastore, 1) := by decide +kernel
theorem dX0_removeBentPin_37 : decode cX0_removeBentPin 37 = .ok (.iinc 2 1, 3) := by decide +kernel
theorem dX0_removeBentPin_40 : decode cX0_removeBentPin 40 = .ok (.iinc 3 1, 3) := by decide +kernel
theorem dX0_removeBentPin_43 : decode cX0_removeBentPin 43 = .ok (.goto (-39), 3) := by decide +kernel
theorem dX0_removeBentPin_46 : decode cX0_removeBentPin 46 = .ok (.aload_n 0, 1) := by decide +kernel
theorem dX0_removeBentPin_47 : decode cX0_removeBentPin 47 = .ok (.getfield 9, 3) := by decide +kernel
theorem dX0_removeBentPin_50 : decode cX0_removeBentPin 50 = .ok (.bipush 16, 2) := by decide +kernel
theorem dX0_removeBentPin_52 : decode cX0_removeBentPin 52 = .ok (.iload_n 2, 1) := by decide +kernel
theorem dX0_removeBentPin_53 : decode cX0_removeBentPin 53 = .ok (.iastore, 1) := by decide +kernel
theorem dX0_removeBentPin_54 : decode cX0_removeBentPin 54 = .ok (.return_, 1) := by decide +kernel
theorem dX0_bentPin_0 : decode cX0_bentPin 0 = .ok (.iload_n 1, 1) := by decide +kernel
theorem dX0_bentPin_1 : decode cX0_bentPin 1 = .ok (.aload_n 0, 1) := by decide +kernel
theorem dX0_bentPin_2 : decode cX0_bentPin 2 = .ok (.getfield 9, 3) := by decide +kernel
theorem dX0_bentPin_5 : decode cX0_bentPin 5 = .ok (.bipush 16, 2) := by decide +kernel
theorem dX0_bentPin_7 : decode cX0_bentPin 7 = .ok (.iaload, 1) := by decide +kernel
theorem dX0_bentPin_8 : decode cX0_bentPin 8 = .ok (.if_icmp .ge 12, 3) := by decide +kernel
theorem dX0_bentPin_11 : decode cX0_bentPin 11 = .ok (.aload_n 0, 1) := by decide +kernel
theorem dX0_bentPin_12 : decode cX0_bentPin 12 = .ok (.getfield 18, 3) := by decide +kernel
theorem dX0_bentPin_15 : decode cX0_bentPin 15 = .ok (.iload_n 1, 1) := by decide +kernel
theorem dX0_bentPin_16 : decode cX0_bentPin 16 = .ok (.iaload, 1) := by decide +kernel
theorem dX0_bentPin_17 : decode cX0_bentPin 17 = .ok (.goto 4, 3) := by decide +kernel
theorem dX0_bentPin_20 : decode cX0_bentPin 20 = .ok (.iconst (-1), 1) := by decide +kernel
theorem dX0_bentPin_21 : decode cX0_bentPin 21 = .ok (.ireturn, 1) := by decide +kernel
theorem dX0_changePocket_0 : decode cX0_changePocket 0 = .ok (.aload_n 0, 1) := by decide +kernel
theorem dX0_changePocket_1 : decode cX0_changePocket 1 = .ok (.getfield 27, 3) := by decide +kernel
theorem dX0_changePocket_4 : decode cX0_changePocket 4 = .ok (.iload_n 1, 1) := by decide +kernel
theorem dX0_changePocket_5 : decode cX0_changePocket 5 = .ok (.iaload, 1) := by decide +kernel
theorem dX0_changePocket_6 : decode cX0_changePocket 6 = .ok (.istore 4, 2) := by decide +kernel
theorem dX0_changePocket_8 : decode cX0_changePocket 8 = .ok (.aload_n 0, 1) := by decide +kernel
theorem dX0_changePocket_9 : decode cX0_changePocket 9 = .ok (.getfield 24, 3) := by decide +kernel
theorem dX0_changePocket_12 : decode cX0_changePocket 12 = .ok (.iload_n 1, 1) := by decide +kernel
theorem dX0_changePocket_13 : decode cX0_changePocket 13 = .ok (.iaload, 1) := by decide +kernel
theorem dX0_changePocket_14 : decode cX0_changePocket 14 = .ok (.iconst 2, 1) := by decide +kernel
theorem dX0_changePocket_15 : decode cX0_changePocket 15 = .ok (.if_icmp .eq 10, 3) := by decide +kernel
theorem dX0_changePocket_18 : decode cX0_changePocket 18 = .ok (.aload_n 0, 1) := by decide +kernel
theorem dX0_changePocket_19 : decode cX0_changePocket 19 = .ok (.getfield 30, 3) := by decide +kernel
theorem dX0_changePocket_22 : decode cX0_changePocket 22 = .ok (.iload_n 1, 1) := by decide +kernel
theorem dX0_changePocket_23 : decode cX0_changePocket 23 = .ok (.iconst 0, 1) := by decide +kernel
theorem dX0_changePocket_24 : decode cX0_changePocket 24 = .ok (.iastore, 1) := by decide +kernel
theorem dX0_changePocket_25 : decode cX0_changePocket 25 = .ok (.aload_n 0, 1) := by decide +kernel
theorem dX0_changePocket_26 : decode cX0_changePocket 26 = .ok (.getfield 24, 3) := by decide +kernel
theorem dX0_changePocket_29 : decode cX0_changePocket 29 = .ok (.iload_n 1, 1) := by decide +kernel
theorem dX0_changePocket_30 : decode cX0_changePocket 30 = .ok (.iload_n 2, 1) := by decide +kernel
theorem dX0_changePocket_31 : decode cX0_changePocket 31 = .ok (.iastore, 1) := by decide +kernel
theorem dX0_changePocket_32 : decode cX0_changePocket 32 = .ok (.aload_n 0, 1) := by decide +kernel
theorem dX0_changePocket_33 : decode cX0_changePocket 33 = .ok (.getfield 27, 3) := by decide +kernel
theorem dX0_changePocket_36 : decode cX0_changePocket 36 = .ok (.iload_n 1, 1) := by decide +kernel
theorem dX0_changePocket_37 : decode cX0_changePocket 37 = .ok (.iload_n 3, 1) := by decide +kernel
theorem dX0_changePocket_38 : decode cX0_changePocket 38 = .ok (.iastore, 1) := by decide +kernel
theorem dX0_changePocket_39 : decode cX0_changePocket 39 = .ok (.iload 4, 2) := by decide +kernel
theorem dX0_changePocket_41 : decode cX0_changePocket 41 = .ok (.ireturn, 1) := by decide +kernel
theorem dX0_tellPocket_0 : decode cX0_tellPocket 0 = .ok (.iload_n 2, 1) := by decide +kernel
theorem dX0_tellPocket_1 : decode cX0_tellPocket 1 = .ok (.tableswitch 66 0 3 #[31, 38, 45, 59], 31) := by decide +kernel
theorem dX0_tellPocket_32 : decode cX0_tellPocket 32 = .ok (.aload_n 0, 1) := by decide +kernel
theorem dX0_tellPocket_33 : decode cX0_tellPocket 33 = .ok (.getfield 24, 3) := by decide +kernel
theorem dX0_tellPocket_36 : decode cX0_tellPocket 36 = .ok (.iload_n 1, 1) := by decide +kernel
theorem dX0_tellPocket_37 : decode cX0_tellPocket 37 = .ok (.iaload, 1) := by decide +kernel
theorem dX0_tellPocket_38 : decode cX0_tellPocket 38 = .ok (.ireturn, 1) := by decide +kernel
theorem dX0_tellPocket_39 : decode cX0_tellPocket 39 = .ok (.aload_n 0, 1) := by decide +kernel
theorem dX0_tellPocket_40 : decode cX0_tellPocket 40 = .ok (.getfield 27, 3) := by decide +kernel
theorem dX0_tellPocket_43 : decode cX0_tellPocket 43 = .ok (.iload_n 1, 1) := by decide +kernel
theorem dX0_tellPocket_44 : decode cX0_tellPocket 44 = .ok (.iaload, 1) := by decide +kernel
theorem dX0_tellPocket_45 : decode cX0_tellPocket 45 = .ok (.ireturn, 1) := by decide +kernel
theorem dX0_tellPocket_46 : decode cX0_tellPocket 46 = .ok (.aload_n 0, 1) := by decide +kernel
theorem dX0_tellPocket_47 : decode cX0_tellPocket 47 = .ok (.iload_n 1, 1) := by decide +kernel
theorem dX0_tellPocket_48 : decode cX0_tellPocket 48 = .ok (.invokevirtual 67, 3) := by decide +kernel
theorem dX0_tellPocket_51 : decode cX0_tellPocket 51 = .ok (.ifCond .eq 7, 3) := by decide +kernel
theorem dX0_tellPocket_54 : decode cX0_tellPocket 54 = .ok (.iconst 1, 1) := by decide +kernel
theorem dX0_tellPocket_55 : decode cX0_tellPocket 55 = .ok (.goto 4, 3) := by decide +kernel
theorem dX0_tellPocket_58 : decode cX0_tellPocket 58 = .ok (.iconst 0, 1) := by decide +kernel
theorem dX0_tellPocket_59 : decode cX0_tellPocket 59 = .ok (.ireturn, 1) := by decide +kernel
theorem dX0_tellPocket_60 : decode cX0_tellPocket 60 = .ok (.aload_n 0, 1) := by decide +kernel
theorem dX0_tellPocket_61 : decode cX0_tellPocket 61 = .ok (.getfield 33, 3) := by decide +kernel
theorem dX0_tellPocket_64 : decode cX0_tellPocket 64 = .ok (.iload_n 1, 1) := by decide +kernel
theorem dX0_tellPocket_65 : decode cX0_tellPocket 65 = .ok (.iaload, 1) := by decide +kernel
theorem dX0_tellPocket_66 : decode cX0_tellPocket 66 = .ok (.ireturn, 1) := by decide +kernel
theorem dX0_tellPocket_67 : decode cX0_tellPocket 67 = .ok (.aload_n 0, 1) := by decide +kernel
theorem dX0_tellPocket_68 : decode cX0_tellPocket 68 = .ok (.getfield 36, 3) := by decide +kernel
theorem dX0_tellPocket_71 : decode cX0_tellPocket 71 = .ok (.iload_n 1, 1) := by decide +kernel
theorem dX0_tellPocket_72 : decode cX0_tellPocket 72 = .ok (.iaload, 1) := by decide +kernel
theorem dX0_tellPocket_73 : decode cX0_tellPocket 73 = .ok (.ireturn, 1) := by decide +kernel
theorem dX0_isHeldOpen_0 : decode cX0_isHeldOpen 0 = .ok (.aload_n 0, 1) := by decide +kernel
theorem dX0_isHeldOpen_1 : decode cX0_isHeldOpen 1 = .ok (.getfield 9, 3) := by decide +kernel
theorem dX0_isHeldOpen_4 : decode cX0_isHeldOpen 4 = .ok (.bipush 9, 2) := by decide +kernel
theorem dX0_isHeldOpen_6 : decode cX0_isHeldOpen 6 = .ok (.iaload, 1) := by decide +kernel
theorem dX0_isHeldOpen_7 : decode cX0_isHeldOpen 7 = .ok (.ifCond .le 7, 3) := by decide +kernel
theorem dX0_isHeldOpen_10 : decode cX0_isHeldOpen 10 = .ok (.iconst 1, 1) := by decide +kernel
theorem dX0_isHeldOpen_11 : decode cX0_isHeldOpen 11 = .ok (.goto 4, 3) := by decide +kernel
theorem dX0_isHeldOpen_14 : decode cX0_isHeldOpen 14 = .ok (.iconst 0, 1) := by decide +kernel
theorem dX0_isHeldOpen_15 : decode cX0_isHeldOpen 15 = .ok (.ireturn, 1) := by decide +kernel
theorem dX0_isOpen_0 : decode cX0_isOpen 0 = .ok (.aload_n 0, 1) := by decide +kernel
theorem dX0_isOpen_1 : decode cX0_isOpen 1 = .ok (.getfield 24, 3) := by decide +kernel
theorem dX0_isOpen_4 : decode cX0_isOpen 4 = .ok (.iload_n 1, 1) := by decide +kernel
theorem dX0_isOpen_5 : decode cX0_isOpen 5 = .ok (.iaload, 1) := by decide +kernel
theorem dX0_isOpen_6 : decode cX0_isOpen 6 = .ok (.lookupswitch 47 #[(1, 26), (2, 31)], 26) := by decide +kernel
theorem dX0_isOpen_32 : decode cX0_isOpen 32 = .ok (.aload_n 0, 1) := by decide +kernel
theorem dX0_isOpen_33 : decode cX0_isOpen 33 = .ok (.invokevirtual 71, 3) := by decide +kernel
theorem dX0_isOpen_36 : decode cX0_isOpen 36 = .ok (.ireturn, 1) := by decide +kernel
theorem dX0_isOpen_37 : decode cX0_isOpen 37 = .ok (.aload_n 0, 1) := by decide +kernel
theorem dX0_isOpen_38 : decode cX0_isOpen 38 = .ok (.getfield 30, 3) := by decide +kernel
theorem dX0_isOpen_41 : decode cX0_isOpen 41 = .ok (.iload_n 1, 1) := by decide +kernel
theorem dX0_isOpen_42 : decode cX0_isOpen 42 = .ok (.iaload, 1) := by decide +kernel
theorem dX0_isOpen_43 : decode cX0_isOpen 43 = .ok (.iconst 1, 1) := by decide +kernel
theorem dX0_isOpen_44 : decode cX0_isOpen 44 = .ok (.if_icmp .ne 7, 3) := by decide +kernel
theorem dX0_isOpen_47 : decode cX0_isOpen 47 = .ok (.iconst 1, 1) := by decide +kernel
theorem dX0_isOpen_48 : decode cX0_isOpen 48 = .ok (.goto 4, 3) := by decide +kernel
theorem dX0_isOpen_51 : decode cX0_isOpen 51 = .ok (.iconst 0, 1) := by decide +kernel
theorem dX0_isOpen_52 : decode cX0_isOpen 52 = .ok (.ireturn, 1) := by decide +kernel
theorem dX0_isOpen_53 : decode cX0_isOpen 53 = .ok (.iconst 1, 1) := by decide +kernel
theorem dX0_isOpen_54 : decode cX0_isOpen 54 = .ok (.ireturn, 1) := by decide +kernel
theorem dX0_buyBalls_0 : decode cX0_buyBalls 0 = .ok (.aload_n 0, 1) := by decide +kernel
theorem dX0_buyBalls_1 : decode cX0_buyBalls 1 = .ok (.getfield 9, 3) := by decide +kernel
theorem dX0_buyBalls_4 : decode cX0_buyBalls 4 = .ok (.iconst 0, 1) := by decide +kernel
theorem dX0_buyBalls_5 : decode cX0_buyBalls 5 = .ok (.dup2, 1) := by decide +kernel
theorem dX0_buyBalls_6 : decode cX0_buyBalls 6 = .ok (.iaload, 1) := by decide +kernel
theorem dX0_buyBalls_7 : decode cX0_buyBalls 7 = .ok (.iload_n 1, 1) := by decide +kernel
theorem dX0_buyBalls_8 : decode cX0_buyBalls 8 = .ok (.iadd, 1) := by decide +kernel
theorem dX0_buyBalls_9 : decode cX0_buyBalls 9 = .ok (.iastore, 1) := by decide +kernel
theorem dX0_buyBalls_10 : decode cX0_buyBalls 10 = .ok (.aload_n 0, 1) := by decide +kernel
theorem dX0_buyBalls_11 : decode cX0_buyBalls 11 = .ok (.getfield 9, 3) := by decide +kernel
theorem dX0_buyBalls_14 : decode cX0_buyBalls 14 = .ok (.iconst 1, 1) := by decide +kernel
theorem dX0_buyBalls_15 : decode cX0_buyBalls 15 = .ok (.dup2, 1) := by decide +kernel
theorem dX0_buyBalls_16 : decode cX0_buyBalls 16 = .ok (.iaload, 1) := by decide +kernel
theorem dX0_buyBalls_17 : decode cX0_buyBalls 17 = .ok (.iload_n 1, 1) := by decide +kernel
theorem dX0_buyBalls_18 : decode cX0_buyBalls 18 = .ok (.iadd, 1) := by decide +kernel
theorem dX0_buyBalls_19 : decode cX0_buyBalls 19 = .ok (.iastore, 1) := by decide +kernel
theorem dX0_buyBalls_20 : decode cX0_buyBalls 20 = .ok (.return_, 1) := by decide +kernel
theorem dX0_launchBalls_0 : decode cX0_launchBalls 0 = .ok (.iconst 0, 1) := by decide +kernel
theorem dX0_launchBalls_1 : decode cX0_launchBalls 1 = .ok (.istore_n 3, 1) := by decide +kernel
theorem dX0_launchBalls_2 : decode cX0_launchBalls 2 = .ok (.iconst 0, 1) := by decide +kernel
theorem dX0_launchBalls_3 : decode cX0_launchBalls 3 = .ok (.istore 4, 2) := by decide +kernel
theorem dX0_launchBalls_5 : decode cX0_launchBalls 5 = .ok (.iload 4, 2) := by decide +kernel
theorem dX0_launchBalls_7 : decode cX0_launchBalls 7 = .ok (.iload_n 2, 1) := by decide +kernel
theorem dX0_launchBalls_8 : decode cX0_launchBalls 8 = .ok (.if_icmp .ge 26, 3) := by decide +kernel
theorem dX0_launchBalls_11 : decode cX0_launchBalls 11 = .ok (.aload_n 0, 1) := by decide +kernel
theorem dX0_launchBalls_12 : decode cX0_launchBalls 12 = .ok (.getfield 9, 3) := by decide +kernel
theorem dX0_launchBalls_15 : decode cX0_launchBalls 15 = .ok (.iconst 0, 1) := by decide +kernel
theorem dX0_launchBalls_16 : decode cX0_launchBalls 16 = .ok (.iaload, 1) := by decide +kernel
theorem dX0_launchBalls_17 : decode cX0_launchBalls 17 = .ok (.ifCond .le 17, 3) := by decide +kernel
theorem dX0_launchBalls_20 : decode cX0_launchBalls 20 = .ok (.iload_n 3, 1) := by decide +kernel
theorem dX0_launchBalls_21 : decode cX0_launchBalls 21 = .ok (.aload_n 0, 1) := by decide +kernel
theorem dX0_launchBalls_22 : decode cX0_launchBalls 22 = .ok (.iload_n 1, 1) := by decide +kernel
theorem dX0_launchBalls_23 : decode cX0_launchBalls 23 = .ok (.invokevirtual 75, 3) := by decide +kernel
theorem dX0_launchBalls_26 : decode cX0_launchBalls 26 = .ok (.iadd, 1) := by decide +kernel
theorem dX0_launchBalls_27 : decode cX0_launchBalls 27 = .ok (.istore_n 3, 1) := by decide +kernel
theorem dX0_launchBalls_28 : decode cX0_launchBalls 28 = .ok (.iinc 4 1, 3) := by decide +kernel
theorem dX0_launchBalls_31 : decode cX0_launchBalls 31 = .ok (.goto (-26), 3) := by decide +kernel
theorem dX0_launchBalls_34 : decode cX0_launchBalls 34 = .ok (.iload_n 3, 1) := by decide +kernel
theorem dX0_launchBalls_35 : decode cX0_launchBalls 35 = .ok (.ireturn, 1) := by decide +kernel
theorem dX0_launchBall_0 : decode cX0_launchBall 0 = .ok (.aload_n 0, 1) := by decide +kernel
theorem dX0_launchBall_1 : decode cX0_launchBall 1 = .ok (.getfield 9, 3) := by decide +kernel
theorem dX0_launchBall_4 : decode cX0_launchBall 4 = .ok (.iconst 0, 1) := by decide +kernel
theorem dX0_launchBall_5 : decode cX0_launchBall 5 = .ok (.dup2, 1) := by decide +kernel
theorem dX0_launchBall_6 : decode cX0_launchBall 6 = .ok (.iaload, 1) := by decide +kernel
theorem dX0_launchBall_7 : decode cX0_launchBall 7 = .ok (.iconst 1, 1) := by decide +kernel
theorem dX0_launchBall_8 : decode cX0_launchBall 8 = .ok (.isub, 1) := by decide +kernel
theorem dX0_launchBall_9 : decode cX0_launchBall 9 = .ok (.iastore, 1) := by decide +kernel
theorem dX0_launchBall_10 : decode cX0_launchBall 10 = .ok (.aload_n 0, 1) := by decide +kernel
theorem dX0_launchBall_11 : decode cX0_launchBall 11 = .ok (.getfield 9, 3) := by decide +kernel
theorem dX0_launchBall_14 : decode cX0_launchBall 14 = .ok (.iconst 2, 1) := by decide +kernel
theorem dX0_launchBall_15 : decode cX0_launchBall 15 = .ok (.dup2, 1) := by decide +kernel
theorem dX0_launchBall_16 : decode cX0_launchBall 16 = .ok (.iaload, 1) := by decide +kernel
theorem dX0_launchBall_17 : decode cX0_launchBall 17 = .ok (.iconst 1, 1) := by decide +kernel
theorem dX0_launchBall_18 : decode cX0_launchBall 18 = .ok (.iadd, 1) := by decide +kernel
theorem dX0_launchBall_19 : decode cX0_launchBall 19 = .ok (.iastore, 1) := by decide +kernel
theorem dX0_launchBall_20 : decode cX0_launchBall 20 = .ok (.aload_n 0, 1) := by decide +kernel
theorem dX0_launchBall_21 : decode cX0_launchBall 21 = .ok (.getfield 9, 3) := by decide +kernel
theorem dX0_launchBall_24 : decode cX0_launchBall 24 = .ok (.bipush 6, 2) := by decide +kernel
theorem dX0_launchBall_26 : decode cX0_launchBall 26 = .ok (.iaload, 1) := by decide +kernel
theorem dX0_launchBall_27 : decode cX0_launchBall 27 = .ok (.ifCond .le 25, 3) := by decide +kernel
theorem dX0_launchBall_30 : decode cX0_launchBall 30 = .ok (.aload_n 0, 1) := by decide +kernel
theorem dX0_launchBall_31 : decode cX0_launchBall 31 = .ok (.invokevirtual 71, 3) := by decide +kernel
theorem dX0_launchBall_34 : decode cX0_launchBall 34 = .ok (.ifCond .ne 18, 3) := by decide +kernel
theorem dX0_launchBall_37 : decode cX0_launchBall 37 = .ok (.aload_n 0, 1) := by decide +kernel
theorem dX0_launchBall_38 : decode cX0_launchBall 38 = .ok (.getfield 9, 3) := by decide +kernel
theorem dX0_launchBall_41 : decode cX0_launchBall 41 = .ok (.bipush 6, 2) := by decide +kernel
theorem dX0_launchBall_43 : decode cX0_launchBall 43 = .ok (.dup2, 1) := by decide +kernel
theorem dX0_launchBall_44 : decode cX0_launchBall 44 = .ok (.iaload, 1) := by decide +kernel
theorem dX0_launchBall_45 : decode cX0_launchBall 45 = .ok (.iconst 1, 1) := by decide +kernel
theorem dX0_launchBall_46 : decode cX0_launchBall 46 = .ok (.isub, 1) := by decide +kernel
theorem dX0_launchBall_47 : decode cX0_launchBall 47 = .ok (.iastore, 1) := by decide +kernel
theorem dX0_launchBall_48 : decode cX0_launchBall 48 = .ok (.aload_n 0, 1) := by decide +kernel
theorem dX0_launchBall_49 : decode cX0_launchBall 49 = .ok (.invokevirtual 79, 3) := by decide +kernel
theorem dX0_launchBall_52 : decode cX0_launchBall 52 = .ok (.aload_n 0, 1) := by decide +kernel
theorem dX0_launchBall_53 : decode cX0_launchBall 53 = .ok (.iload_n 1, 1) := by decide +kernel
theorem dX0_launchBall_54 : decode cX0_launchBall 54 = .ok (.invokevirtual 82, 3) := by decide +kernel
theorem dX0_launchBall_57 : decode cX0_launchBall 57 = .ok (.istore_n 2, 1) := by decide +kernel
theorem dX0_launchBall_58 : decode cX0_launchBall 58 = .ok (.aload_n 0, 1) := by decide +kernel
theorem dX0_launchBall_59 : decode cX0_launchBall 59 = .ok (.getfield 9, 3) := by decide +kernel
theorem dX0_launchBall_62 : decode cX0_launchBall 62 = .ok (.bipush 11, 2) := by decide +kernel
theorem dX0_launchBall_64 : decode cX0_launchBall 64 = .ok (.iload_n 2, 1) := by decide +kernel
theorem dX0_launchBall_65 : decode cX0_launchBall 65 = .ok (.iastore, 1) := by decide +kernel
theorem dX0_launchBall_66 : decode cX0_launchBall 66 = .ok (.aload_n 0, 1) := by decide +kernel
theorem dX0_launchBall_67 : decode cX0_launchBall 67 = .ok (.iload_n 2, 1) := by decide +kernel
theorem dX0_launchBall_68 : decode cX0_launchBall 68 = .ok (.invokevirtual 85, 3) := by decide +kernel
theorem dX0_launchBall_71 : decode cX0_launchBall 71 = .ok (.istore_n 3, 1) := by decide +kernel
theorem dX0_launchBall_72 : decode cX0_launchBall 72 = .ok (.iload_n 2, 1) := by decide +kernel
theorem dX0_launchBall_73 : decode cX0_launchBall 73 = .ok (.aload_n 0, 1) := by decide +kernel
theorem dX0_launchBall_74 : decode cX0_launchBall 74 = .ok (.getfield 9, 3) := by decide +kernel
theorem dX0_launchBall_77 : decode cX0_launchBall 77 = .ok (.bipush 12, 2) := by decide +kernel
theorem dX0_launchBall_79 : decode cX0_launchBall 79 = .ok (.iaload, 1) := by decide +kernel
theorem dX0_launchBall_80 : decode cX0_launchBall 80 = .ok (.if_icmp .ne 25, 3) := by decide +kernel
theorem dX0_launchBall_83 : decode cX0_launchBall 83 = .ok (.aload_n 0, 1) := by decide +kernel
theorem dX0_launchBall_84 : decode cX0_launchBall 84 = .ok (.getfield 9, 3) := by decide +kernel
theorem dX0_launchBall_87 : decode cX0_launchBall 87 = .ok (.bipush 6, 2) := by decide +kernel
theorem dX0_launchBall_89 : decode cX0_launchBall 89 = .ok (.iaload, 1) := by decide +kernel
theorem dX0_launchBall_90 : decode cX0_launchBall 90 = .ok (.iconst 4, 1) := by decide +kernel
theorem dX0_launchBall_91 : decode cX0_launchBall 91 = .ok (.if_icmp .ge 14, 3) := by decide +kernel
theorem dX0_launchBall_94 : decode cX0_launchBall 94 = .ok (.aload_n 0, 1) := by decide +kernel
theorem dX0_launchBall_95 : decode cX0_launchBall 95 = .ok (.getfield 9, 3) := by decide +kernel
theorem dX0_launchBall_98 : decode cX0_launchBall 98 = .ok (.bipush 6, 2) := by decide +kernel
theorem dX0_launchBall_100 : decode cX0_launchBall 100 = .ok (.dup2, 1) := by decide +kernel
theorem dX0_launchBall_101 : decode cX0_launchBall 101 = .ok (.iaload, 1) := by decide +kernel
theorem dX0_launchBall_102 : decode cX0_launchBall 102 = .ok (.iconst 1, 1) := by decide +kernel
theorem dX0_launchBall_103 : decode cX0_launchBall 103 = .ok (.iadd, 1) := by decide +kernel
theorem dX0_launchBall_104 : decode cX0_launchBall 104 = .ok (.iastore, 1) := by decide +kernel
theorem dX0_launchBall_105 : decode cX0_launchBall 105 = .ok (.iload_n 3, 1) := by decide +kernel
theorem dX0_launchBall_106 : decode cX0_launchBall 106 = .ok (.ireturn, 1) := by decide +kernel
theorem dX0_drawBelow_0 : decode cX0_drawBelow 0 = .ok (.ldc2_w 88, 3) := by decide +kernel
theorem dX0_drawBelow_3 : decode cX0_drawBelow 3 = .ok (.aload_n 0, 1) := by decide +kernel
theorem dX0_drawBelow_4 : decode cX0_drawBelow 4 = .ok (.getfield 9, 3) := by decide +kernel
theorem dX0_drawBelow_7 : decode cX0_drawBelow 7 = .ok (.bipush 13, 2) := by decide +kernel
theorem dX0_drawBelow_9 : decode cX0_drawBelow 9 = .ok (.iaload, 1) := by decide +kernel
theorem dX0_drawBelow_10 : decode cX0_drawBelow 10 = .ok (.i2l, 1) := by decide +kernel
theorem dX0_drawBelow_11 : decode cX0_drawBelow 11 = .ok (.lmul, 1) := by decide +kernel
theorem dX0_drawBelow_12 : decode cX0_drawBelow 12 = .ok (.ldc2_w 90, 3) := by decide +kernel
theorem dX0_drawBelow_15 : decode cX0_drawBelow 15 = .ok (.ladd, 1) := by decide +kernel
theorem dX0_drawBelow_16 : decode cX0_drawBelow 16 = .ok (.ldc2_w 92, 3) := by decide +kernel
theorem dX0_drawBelow_19 : decode cX0_drawBelow 19 = .ok (.lrem, 1) := by decide +kernel
theorem dX0_drawBelow_20 : decode cX0_drawBelow 20 = .ok (.lstore_n 2, 1) := by decide +kernel
theorem dX0_drawBelow_21 : decode cX0_drawBelow 21 = .ok (.aload_n 0, 1) := by decide +kernel
theorem dX0_drawBelow_22 : decode cX0_drawBelow 22 = .ok (.getfield 9, 3) := by decide +kernel
theorem dX0_drawBelow_25 : decode cX0_drawBelow 25 = .ok (.bipush 13, 2) := by decide +kernel
theorem dX0_drawBelow_27 : decode cX0_drawBelow 27 = .ok (.lload_n 2, 1) := by decide +kernel
theorem dX0_drawBelow_28 : decode cX0_drawBelow 28 = .ok (.l2i, 1) := by decide +kernel
theorem dX0_drawBelow_29 : decode cX0_drawBelow 29 = .ok (.iastore, 1) := by decide +kernel
theorem dX0_drawBelow_30 : decode cX0_drawBelow 30 = .ok (.iload_n 1, 1) := by decide +kernel
theorem dX0_drawBelow_31 : decode cX0_drawBelow 31 = .ok (.ifCond .le 15, 3) := by decide +kernel
theorem dX0_drawBelow_34 : decode cX0_drawBelow 34 = .ok (.lload_n 2, 1) := by decide +kernel
theorem dX0_drawBelow_35 : decode cX0_drawBelow 35 = .ok (.ldc2_w 94, 3) := by decide +kernel
theorem dX0_drawBelow_38 : decode cX0_drawBelow 38 = .ok (.ldiv, 1) := by decide +kernel
theorem dX0_drawBelow_39 : decode cX0_drawBelow 39 = .ok (.iload_n 1, 1) := by decide +kernel
theorem dX0_drawBelow_40 : decode cX0_drawBelow 40 = .ok (.i2l, 1) := by decide +kernel
theorem dX0_drawBelow_41 : decode cX0_drawBelow 41 = .ok (.lrem, 1) := by decide +kernel
theorem dX0_drawBelow_42 : decode cX0_drawBelow 42 = .ok (.l2i, 1) := by decide +kernel
theorem dX0_drawBelow_43 : decode cX0_drawBelow 43 = .ok (.goto 4, 3) := by decide +kernel
theorem dX0_drawBelow_46 : decode cX0_drawBelow 46 = .ok (.iconst 0, 1) := by decide +kernel
theorem dX0_drawBelow_47 : decode cX0_drawBelow 47 = .ok (.ireturn, 1) := by decide +kernel
theorem dX0_spinReels_0 : decode cX0_spinReels 0 = .ok (.aload_n 0, 1) := by decide +kernel
theorem dX0_spinReels_1 : decode cX0_spinReels 1 = .ok (.getfield 9, 3) := by decide +kernel
theorem dX0_spinReels_4 : decode cX0_spinReels 4 = .ok (.bipush 10, 2) := by decide +kernel
theorem dX0_spinReels_6 : decode cX0_spinReels 6 = .ok (.iaload, 1) := by decide +kernel
theorem dX0_spinReels_7 : decode cX0_spinReels 7 = .ok (.ifCond .le 7, 3) := by decide +kernel
theorem dX0_spinReels_10 : decode cX0_spinReels 10 = .ok (.iconst 4, 1) := by decide +kernel
theorem dX0_spinReels_11 : decode cX0_spinReels 11 = .ok (.goto 5, 3) := by decide +kernel
theorem dX0_spinReels_14 : decode cX0_spinReels 14 = .ok (.bipush 8, 2) := by decide +kernel
theorem dX0_spinReels_16 : decode cX0_spinReels 16 = .ok (.istore_n 1, 1) := by decide +kernel
theorem dX0_spinReels_17 : decode cX0_spinReels 17 = .ok (.aload_n 0, 1) := by decide +kernel
theorem dX0_spinReels_18 : decode cX0_spinReels 18 = .ok (.getfield 9, 3) := by decide +kernel
theorem dX0_spinReels_21 : decode cX0_spinReels 21 = .ok (.bipush 10, 2) := by decide +kernel
theorem dX0_spinReels_23 : decode cX0_spinReels 23 = .ok (.iaload, 1) := by decide +kernel
theorem dX0_spinReels_24 : decode cX0_spinReels 24 = .ok (.ifCond .le 14, 3) := by decide +kernel
theorem dX0_spinReels_27 : decode cX0_spinReels 27 = .ok (.aload_n 0, 1) := by decide +kernel
theorem dX0_spinReels_28 : decode cX0_spinReels 28 = .ok (.getfield 9, 3) := by decide +kernel
theorem dX0_spinReels_31 : decode cX0_spinReels 31 = .ok (.bipush 10, 2) := by decide +kernel
theorem dX0_spinReels_33 : decode cX0_spinReels 33 = .ok (.dup2, 1) := by decide +kernel
theorem dX0_spinReels_34 : decode cX0_spinReels 34 = .ok (.iaload, 1) := by decide +kernel
theorem dX0_spinReels_35 : decode cX0_spinReels 35 = .ok (.iconst 1, 1) := by decide +kernel
theorem dX0_spinReels_36 : decode cX0_spinReels 36 = .ok (.isub, 1) := by decide +kernel
theorem dX0_spinReels_37 : decode cX0_spinReels 37 = .ok (.iastore, 1) := by decide +kernel
theorem dX0_spinReels_38 : decode cX0_spinReels 38 = .ok (.iconst 0, 1) := by decide +kernel
theorem dX0_spinReels_39 : decode cX0_spinReels 39 = .ok (.istore_n 2, 1) := by decide +kernel
theorem dX0_spinReels_40 : decode cX0_spinReels 40 = .ok (.iload_n 2, 1) := by decide +kernel
theorem dX0_spinReels_41 : decode cX0_spinReels 41 = .ok (.iconst 3, 1) := by decide +kernel
theorem dX0_spinReels_42 : decode cX0_spinReels 42 = .ok (.if_icmp .ge 20, 3) := by decide +kernel
theorem dX0_spinReels_45 : decode cX0_spinReels 45 = .ok (.aload_n 0, 1) := by decide +kernel
theorem dX0_spinReels_46 : decode cX0_spinReels 46 = .ok (.getfield 39, 3) := by decide +kernel
theorem dX0_spinReels_49 : decode cX0_spinReels 49 = .ok (.iload_n 2, 1) := by decide +kernel
theorem dX0_spinReels_50 : decode cX0_spinReels 50 = .ok (.aload_n 0, 1) := by decide +kernel
theorem dX0_spinReels_51 : decode cX0_spinReels 51 = .ok (.iload_n 1, 1) := by decide +kernel
theorem dX0_spinReels_52 : decode cX0_spinReels 52 = .ok (.invokevirtual 96, 3) := by decide +kernel
theorem dX0_spinReels_55 : decode cX0_spinReels 55 = .ok (.iastore, 1) := by decide +kernel
theorem dX0_spinReels_56 : decode cX0_spinReels 56 = .ok (.iinc 2 1, 3) := by decide +kernel
theorem dX0_spinReels_59 : decode cX0_spinReels 59 = .ok (.goto (-19), 3) := by decide +kernel
theorem dX0_spinReels_62 : decode cX0_spinReels 62 = .ok (.aload_n 0, 1) := by decide +kernel
theorem dX0_spinReels_63 : decode cX0_spinReels 63 = .ok (.getfield 9, 3) := by decide +kernel
theorem dX0_spinReels_66 : decode cX0_spinReels 66 = .ok (.bipush 7, 2) := by decide +kernel
theorem dX0_spinReels_68 : decode cX0_spinReels 68 = .ok (.dup2, 1) := by decide +kernel
theorem dX0_spinReels_69 : decode cX0_spinReels 69 = .ok (.iaload, 1) := by decide +kernel
theorem dX0_spinReels_70 : decode cX0_spinReels 70 = .ok (.iconst 1, 1) := by decide +kernel
theorem dX0_spinReels_71 : decode cX0_spinReels 71 = .ok (.iadd, 1) := by decide +kernel
theorem dX0_spinReels_72 : decode cX0_spinReels 72 = .ok (.iastore, 1) := by decide +kernel
theorem dX0_spinReels_73 : decode cX0_spinReels 73 = .ok (.aload_n 0, 1) := by decide +kernel
theorem dX0_spinReels_74 : decode cX0_spinReels 74 = .ok (.getfield 39, 3) := by decide +kernel
theorem dX0_spinReels_77 : decode cX0_spinReels 77 = .ok (.iconst 0, 1) := by decide +kernel
theorem dX0_spinReels_78 : decode cX0_spinReels 78 = .ok (.iaload, 1) := by decide +kernel
theorem dX0_spinReels_79 : decode cX0_spinReels 79 = .ok (.aload_n 0, 1) := by decide +kernel
theorem dX0_spinReels_80 : decode cX0_spinReels 80 = .ok (.getfield 39, 3) := by decide +kernel
theorem dX0_spinReels_83 : decode cX0_spinReels 83 = .ok (.iconst 1, 1) := by decide +kernel
theorem dX0_spinReels_84 : decode cX0_spinReels 84 = .ok (.iaload, 1) := by decide +kernel
theorem dX0_spinReels_85 : decode cX0_spinReels 85 = .ok (.if_icmp .ne 60, 3) := by decide +kernel
theorem dX0_spinReels_88 : decode cX0_spinReels 88 = .ok (.aload_n 0, 1) := by decide +kernel
theorem dX0_spinReels_89 : decode cX0_spinReels 89 = .ok (.getfield 39, 3) := by decide +kernel
theorem dX0_spinReels_92 : decode cX0_spinReels 92 = .ok (.iconst 1, 1) := by decide +kernel
theorem dX0_spinReels_93 : decode cX0_spinReels 93 = .ok (.iaload, 1) := by decide +kernel
theorem dX0_spinReels_94 : decode cX0_spinReels 94 = .ok (.aload_n 0, 1) := by decide +kernel
theorem dX0_spinReels_95 : decode cX0_spinReels 95 = .ok (.getfield 39, 3) := by decide +kernel
theorem dX0_spinReels_98 : decode cX0_spinReels 98 = .ok (.iconst 2, 1) := by decide +kernel
theorem dX0_spinReels_99 : decode cX0_spinReels 99 = .ok (.iaload, 1) := by decide +kernel
theorem dX0_spinReels_100 : decode cX0_spinReels 100 = .ok (.if_icmp .ne 45, 3) := by decide +kernel
theorem dX0_spinReels_103 : decode cX0_spinReels 103 = .ok (.aload_n 0, 1) := by decide +kernel
theorem dX0_spinReels_104 : decode cX0_spinReels 104 = .ok (.getfield 9, 3) := by decide +kernel
theorem dX0_spinReels_107 : decode cX0_spinReels 107 = .ok (.bipush 8, 2) := by decide +kernel
theorem dX0_spinReels_109 : decode cX0_spinReels 109 = .ok (.dup2, 1) := by decide +kernel
theorem dX0_spinReels_110 : decode cX0_spinReels 110 = .ok (.iaload, 1) := by decide +kernel
theorem dX0_spinReels_111 : decode cX0_spinReels 111 = .ok (.iconst 1, 1) := by decide +kernel
theorem dX0_spinReels_112 : decode cX0_spinReels 112 = .ok (.iadd, 1) := by decide +kernel
theorem dX0_spinReels_113 : decode cX0_spinReels 113 = .ok (.iastore, 1) := by decide +kernel
theorem dX0_spinReels_114 : decode cX0_spinReels 114 = .ok (.aload_n 0, 1) := by decide +kernel
theorem dX0_spinReels_115 : decode cX0_spinReels 115 = .ok (.getfield 9, 3) := by decide +kernel
theorem dX0_spinReels_118 : decode cX0_spinReels 118 = .ok (.bipush 9, 2) := by decide +kernel
theorem dX0_spinReels_120 : decode cX0_spinReels 120 = .ok (.aload_n 0, 1) := by decide +kernel
theorem dX0_spinReels_121 : decode cX0_spinReels 121 = .ok (.getfield 9, 3) := by decide +kernel
theorem dX0_spinReels_124 : decode cX0_spinReels 124 = .ok (.bipush 14, 2) := by decide +kernel
theorem dX0_spinReels_126 : decode cX0_spinReels 126 = .ok (.iaload, 1) := by decide +kernel
theorem dX0_spinReels_127 : decode cX0_spinReels 127 = .ok (.iastore, 1) := by decide +kernel
theorem dX0_spinReels_128 : decode cX0_spinReels 128 = .ok (.aload_n 0, 1) := by decide +kernel
theorem dX0_spinReels_129 : decode cX0_spinReels 129 = .ok (.getfield 9, 3) := by decide +kernel
theorem dX0_spinReels_132 : decode cX0_spinReels 132 = .ok (.bipush 10, 2) := by decide +kernel
theorem dX0_spinReels_134 : decode cX0_spinReels 134 = .ok (.aload_n 0, 1) := by decide +kernel
theorem dX0_spinReels_135 : decode cX0_spinReels 135 = .ok (.getfield 9, 3) := by decide +kernel
theorem dX0_spinReels_138 : decode cX0_spinReels 138 = .ok (.bipush 15, 2) := by decide +kernel
theorem dX0_spinReels_140 : decode cX0_spinReels 140 = .ok (.iaload, 1) := by decide +kernel
theorem dX0_spinReels_141 : decode cX0_spinReels 141 = .ok (.iastore, 1) := by decide +kernel
theorem dX0_spinReels_142 : decode cX0_spinReels 142 = .ok (.goto 11, 3) := by decide +kernel
theorem dX0_spinReels_145 : decode cX0_spinReels 145 = .ok (.aload_n 0, 1) := by decide +kernel
theorem dX0_spinReels_146 : decode cX0_spinReels 146 = .ok (.getfield 9, 3) := by decide +kernel
theorem dX0_spinReels_149 : decode cX0_spinReels 149 = .ok (.bipush 9, 2) := by decide +kernel
theorem dX0_spinReels_151 : decode cX0_spinReels 151 = .ok (.iconst 0, 1) := by decide +kernel
theorem dX0_spinReels_152 : decode cX0_spinReels 152 = .ok (.iastore, 1) := by decide +kernel
theorem dX0_spinReels_153 : decode cX0_spinReels 153 = .ok (.return_, 1) := by decide +kernel
theorem dX0_fallFrom_0 : decode cX0_fallFrom 0 = .ok (.iload_n 1, 1) := by decide +kernel
theorem dX0_fallFrom_1 : decode cX0_fallFrom 1 = .ok (.istore_n 2, 1) := by decide +kernel
theorem dX0_fallFrom_2 : decode cX0_fallFrom 2 = .ok (.iconst 0, 1) := by decide +kernel
theorem dX0_fallFrom_3 : decode cX0_fallFrom 3 = .ok (.istore_n 3, 1) := by decide +kernel
theorem dX0_fallFrom_4 : decode cX0_fallFrom 4 = .ok (.iload_n 3, 1) := by decide +kernel
theorem dX0_fallFrom_5 : decode cX0_fallFrom 5 = .ok (.bipush 8, 2) := by decide +kernel
theorem dX0_fallFrom_7 : decode cX0_fallFrom 7 = .ok (.if_icmp .ge 61, 3) := by decide +kernel
theorem dX0_fallFrom_10 : decode cX0_fallFrom 10 = .ok (.iload_n 3, 1) := by decide +kernel
theorem dX0_fallFrom_11 : decode cX0_fallFrom 11 = .ok (.bipush 7, 2) := by decide +kernel
theorem dX0_fallFrom_13 : decode cX0_fallFrom 13 = .ok (.imul, 1) := by decide +kernel
theorem dX0_fallFrom_14 : decode cX0_fallFrom 14 = .ok (.iload_n 2, 1) := by decide +kernel
theorem dX0_fallFrom_15 : decode cX0_fallFrom 15 = .ok (.iadd, 1) := by decide +kernel
theorem dX0_fallFrom_16 : decode cX0_fallFrom 16 = .ok (.istore 4, 2) := by decide +kernel
theorem dX0_fallFrom_18 : decode cX0_fallFrom 18 = .ok (.aload_n 0, 1) := by decide +kernel
theorem dX0_fallFrom_19 : decode cX0_fallFrom 19 = .ok (.getfield 21, 3) := by decide +kernel
theorem dX0_fallFrom_22 : decode cX0_fallFrom 22 = .ok (.iload_n 3, 1) := by decide +kernel
theorem dX0_fallFrom_23 : decode cX0_fallFrom 23 = .ok (.iload 4, 2) := by decide +kernel
theorem dX0_fallFrom_25 : decode cX0_fallFrom 25 = .ok (.iastore, 1) := by decide +kernel
theorem dX0_fallFrom_26 : decode cX0_fallFrom 26 = .ok (.aload_n 0, 1) := by decide +kernel
theorem dX0_fallFrom_27 : decode cX0_fallFrom 27 = .ok (.getfield 15, 3) := by decide +kernel
theorem dX0_fallFrom_30 : decode cX0_fallFrom 30 = .ok (.iload 4, 2) := by decide +kernel
theorem dX0_fallFrom_32 : decode cX0_fallFrom 32 = .ok (.iaload, 1) := by decide +kernel
theorem dX0_fallFrom_33 : decode cX0_fallFrom 33 = .ok (.istore 5, 2) := by decide +kernel
theorem dX0_fallFrom_35 : decode cX0_fallFrom 35 = .ok (.iload 5, 2) := by decide +kernel
theorem dX0_fallFrom_37 : decode cX0_fallFrom 37 = .ok (.ifCond .ne 18, 3) := by decide +kernel
theorem dX0_fallFrom_40 : decode cX0_fallFrom 40 = .ok (.aload_n 0, 1) := by decide +kernel
theorem dX0_fallFrom_41 : decode cX0_fallFrom 41 = .ok (.iconst 2, 1) := by decide +kernel
theorem dX0_fallFrom_42 : decode cX0_fallFrom 42 = .ok (.invokevirtual 96, 3) := by decide +kernel
theorem dX0_fallFrom_45 : decode cX0_fallFrom 45 = .ok (.ifCond .ne 7, 3) := by decide +kernel
theorem dX0_fallFrom_48 : decode cX0_fallFrom 48 = .ok (.iconst (-1), 1) := by decide +kernel
theorem dX0_fallFrom_49 : decode cX0_fallFrom 49 = .ok (.goto 4, 3) := by decide +kernel
theorem dX0_fallFrom_52 : decode cX0_fallFrom 52 = .ok (.iconst 1, 1) := by decide +kernel
theorem dX0_fallFrom_53 : decode cX0_fallFrom 53 = .ok (.istore 5, 2) := by decide +kernel
theorem dX0_fallFrom_55 : decode cX0_fallFrom 55 = .ok (.iload_n 2, 1) := by decide +kernel
theorem dX0_fallFrom_56 : decode cX0_fallFrom 56 = .ok (.iload 5, 2) := by decide +kernel
theorem dX0_fallFrom_58 : decode cX0_fallFrom 58 = .ok (.invokestatic 99, 3) := by decide +kernel
theorem dX0_fallFrom_61 : decode cX0_fallFrom 61 = .ok (.istore_n 2, 1) := by decide +kernel
theorem dX0_fallFrom_62 : decode cX0_fallFrom 62 = .ok (.iinc 3 1, 3) := by decide +kernel
theorem dX0_fallFrom_65 : decode cX0_fallFrom 65 = .ok (.goto (-61), 3) := by decide +kernel
theorem dX0_fallFrom_68 : decode cX0_fallFrom 68 = .ok (.iload_n 2, 1) := by decide +kernel
theorem dX0_fallFrom_69 : decode cX0_fallFrom 69 = .ok (.ireturn, 1) := by decide +kernel
theorem dX0_comeTo_0 : decode cX0_comeTo 0 = .ok (.aload_n 0, 1) := by decide +kernel
theorem dX0_comeTo_1 : decode cX0_comeTo 1 = .ok (.iload_n 1, 1) := by decide +kernel
theorem dX0_comeTo_2 : decode cX0_comeTo 2 = .ok (.invokevirtual 67, 3) := by decide +kernel
theorem dX0_comeTo_5 : decode cX0_comeTo 5 = .ok (.istore_n 2, 1) := by decide +kernel
theorem dX0_comeTo_6 : decode cX0_comeTo 6 = .ok (.aload_n 0, 1) := by decide +kernel
theorem dX0_comeTo_7 : decode cX0_comeTo 7 = .ok (.getfield 33, 3) := by decide +kernel
theorem dX0_comeTo_10 : decode cX0_comeTo 10 = .ok (.iload_n 1, 1) := by decide +kernel
theorem dX0_comeTo_11 : decode cX0_comeTo 11 = .ok (.dup2, 1) := by decide +kernel
theorem dX0_comeTo_12 : decode cX0_comeTo 12 = .ok (.iaload, 1) := by decide +kernel
theorem dX0_comeTo_13 : decode cX0_comeTo 13 = .ok (.iconst 1, 1) := by decide +kernel
theorem dX0_comeTo_14 : decode cX0_comeTo 14 = .ok (.iadd, 1) := by decide +kernel
theorem dX0_comeTo_15 : decode cX0_comeTo 15 = .ok (.iastore, 1) := by decide +kernel
theorem dX0_comeTo_16 : decode cX0_comeTo 16 = .ok (.aload_n 0, 1) := by decide +kernel
theorem dX0_comeTo_17 : decode cX0_comeTo 17 = .ok (.getfield 24, 3) := by decide +kernel
theorem dX0_comeTo_20 : decode cX0_comeTo 20 = .ok (.iload_n 1, 1) := by decide +kernel
theorem dX0_comeTo_21 : decode cX0_comeTo 21 = .ok (.iaload, 1) := by decide +kernel
theorem dX0_comeTo_22 : decode cX0_comeTo 22 = .ok (.iconst 2, 1) := by decide +kernel
theorem dX0_comeTo_23 : decode cX0_comeTo 23 = .ok (.if_icmp .ne 21, 3) := by decide +kernel
theorem dX0_comeTo_26 : decode cX0_comeTo 26 = .ok (.aload_n 0, 1) := by decide +kernel
theorem dX0_comeTo_27 : decode cX0_comeTo 27 = .ok (.getfield 30, 3) := by decide +kernel
theorem dX0_comeTo_30 : decode cX0_comeTo 30 = .ok (.iload_n 1, 1) := by decide +kernel
theorem dX0_comeTo_31 : decode cX0_comeTo 31 = .ok (.iload_n 2, 1) := by decide +kernel
theorem dX0_comeTo_32 : decode cX0_comeTo 32 = .ok (.ifCond .eq 7, 3) := by decide +kernel
theorem dX0_comeTo_35 : decode cX0_comeTo 35 = .ok (.iconst 0, 1) := by decide +kernel
theorem dX0_comeTo_36 : decode cX0_comeTo 36 = .ok (.goto 4, 3) := by decide +kernel
theorem dX0_comeTo_39 : decode cX0_comeTo 39 = .ok (.iconst 1, 1) := by decide +kernel
theorem dX0_comeTo_40 : decode cX0_comeTo 40 = .ok (.iastore, 1) := by decide +kernel
theorem dX0_comeTo_41 : decode cX0_comeTo 41 = .ok (.goto 28, 3) := by decide +kernel
theorem dX0_comeTo_44 : decode cX0_comeTo 44 = .ok (.aload_n 0, 1) := by decide +kernel
theorem dX0_comeTo_45 : decode cX0_comeTo 45 = .ok (.getfield 24, 3) := by decide +kernel
theorem dX0_comeTo_48 : decode cX0_comeTo 48 = .ok (.iload_n 1, 1) := by decide +kernel
theorem dX0_comeTo_49 : decode cX0_comeTo 49 = .ok (.iaload, 1) := by decide +kernel
theorem dX0_comeTo_50 : decode cX0_comeTo 50 = .ok (.iconst 1, 1) := by decide +kernel
theorem dX0_comeTo_51 : decode cX0_comeTo 51 = .ok (.if_icmp .ne 18, 3) := by decide +kernel
theorem dX0_comeTo_54 : decode cX0_comeTo 54 = .ok (.iload_n 2, 1) := by decide +kernel
theorem dX0_comeTo_55 : decode cX0_comeTo 55 = .ok (.ifCond .eq 14, 3) := by decide +kernel
theorem dX0_comeTo_58 : decode cX0_comeTo 58 = .ok (.aload_n 0, 1) := by decide +kernel
theorem dX0_comeTo_59 : decode cX0_comeTo 59 = .ok (.getfield 9, 3) := by decide +kernel
theorem dX0_comeTo_62 : decode cX0_comeTo 62 = .ok (.bipush 9, 2) := by decide +kernel
theorem dX0_comeTo_64 : decode cX0_comeTo 64 = .ok (.dup2, 1) := by decide +kernel
theorem dX0_comeTo_65 : decode cX0_comeTo 65 = .ok (.iaload, 1) := by decide +kernel
theorem dX0_comeTo_66 : decode cX0_comeTo 66 = .ok (.iconst 1, 1) := by decide +kernel
theorem dX0_comeTo_67 : decode cX0_comeTo 67 = .ok (.isub, 1) := by decide +kernel
theorem dX0_comeTo_68 : decode cX0_comeTo 68 = .ok (.iastore, 1) := by decide +kernel
theorem dX0_comeTo_69 : decode cX0_comeTo 69 = .ok (.iload_n 2, 1) := by decide +kernel
theorem dX0_comeTo_70 : decode cX0_comeTo 70 = .ok (.ifCond .ne 15, 3) := by decide +kernel
theorem dX0_comeTo_73 : decode cX0_comeTo 73 = .ok (.aload_n 0, 1) := by decide +kernel
theorem dX0_comeTo_74 : decode cX0_comeTo 74 = .ok (.getfield 9, 3) := by decide +kernel
theorem dX0_comeTo_77 : decode cX0_comeTo 77 = .ok (.iconst 4, 1) := by decide +kernel
theorem dX0_comeTo_78 : decode cX0_comeTo 78 = .ok (.dup2, 1) := by decide +kernel
theorem dX0_comeTo_79 : decode cX0_comeTo 79 = .ok (.iaload, 1) := by decide +kernel
theorem dX0_comeTo_80 : decode cX0_comeTo 80 = .ok (.iconst 1, 1) := by decide +kernel
theorem dX0_comeTo_81 : decode cX0_comeTo 81 = .ok (.iadd, 1) := by decide +kernel
theorem dX0_comeTo_82 : decode cX0_comeTo 82 = .ok (.iastore, 1) := by decide +kernel
theorem dX0_comeTo_83 : decode cX0_comeTo 83 = .ok (.iconst 0, 1) := by decide +kernel
theorem dX0_comeTo_84 : decode cX0_comeTo 84 = .ok (.ireturn, 1) := by decide +kernel
theorem dX0_comeTo_85 : decode cX0_comeTo 85 = .ok (.aload_n 0, 1) := by decide +kernel
theorem dX0_comeTo_86 : decode cX0_comeTo 86 = .ok (.iload_n 1, 1) := by decide +kernel
theorem dX0_comeTo_87 : decode cX0_comeTo 87 = .ok (.invokevirtual 103, 3) := by decide +kernel
theorem dX0_comeTo_90 : decode cX0_comeTo 90 = .ok (.ireturn, 1) := by decide +kernel
theorem dX0_payFrom_0 : decode cX0_payFrom 0 = .ok (.aload_n 0, 1) := by decide +kernel
theorem dX0_payFrom_1 : decode cX0_payFrom 1 = .ok (.getfield 27, 3) := by decide +kernel
theorem dX0_payFrom_4 : decode cX0_payFrom 4 = .ok (.iload_n 1, 1) := by decide +kernel
theorem dX0_payFrom_5 : decode cX0_payFrom 5 = .ok (.iaload, 1) := by decide +kernel
theorem dX0_payFrom_6 : decode cX0_payFrom 6 = .ok (.istore_n 2, 1) := by decide +kernel
theorem dX0_payFrom_7 : decode cX0_payFrom 7 = .ok (.iload_n 2, 1) := by decide +kernel
theorem dX0_payFrom_8 : decode cX0_payFrom 8 = .ok (.ifCond .ne 13, 3) := by decide +kernel
theorem dX0_payFrom_11 : decode cX0_payFrom 11 = .ok (.aload_n 0, 1) := by decide +kernel
theorem dX0_payFrom_12 : decode cX0_payFrom 12 = .ok (.getfield 9, 3) := by decide +kernel
theorem dX0_payFrom_15 : decode cX0_payFrom 15 = .ok (.iconst 5, 1) := by decide +kernel
theorem dX0_payFrom_16 : decode cX0_payFrom 16 = .ok (.dup2, 1) := by decide +kernel
theorem dX0_payFrom_17 : decode cX0_payFrom 17 = .ok (.iaload, 1) := by decide +kernel
theorem dX0_payFrom_18 : decode cX0_payFrom 18 = .ok (.iconst 1, 1) := by decide +kernel
theorem dX0_payFrom_19 : decode cX0_payFrom 19 = .ok (.iadd, 1) := by decide +kernel
theorem dX0_payFrom_20 : decode cX0_payFrom 20 = .ok (.iastore, 1) := by decide +kernel
theorem dX0_payFrom_21 : decode cX0_payFrom 21 = .ok (.aload_n 0, 1) := by decide +kernel
theorem dX0_payFrom_22 : decode cX0_payFrom 22 = .ok (.getfield 9, 3) := by decide +kernel
theorem dX0_payFrom_25 : decode cX0_payFrom 25 = .ok (.iconst 0, 1) := by decide +kernel
theorem dX0_payFrom_26 : decode cX0_payFrom 26 = .ok (.dup2, 1) := by decide +kernel
theorem dX0_payFrom_27 : decode cX0_payFrom 27 = .ok (.iaload, 1) := by decide +kernel
theorem dX0_payFrom_28 : decode cX0_payFrom 28 = .ok (.iload_n 2, 1) := by decide +kernel
theorem dX0_payFrom_29 : decode cX0_payFrom 29 = .ok (.iadd, 1) := by decide +kernel
theorem dX0_payFrom_30 : decode cX0_payFrom 30 = .ok (.iastore, 1) := by decide +kernel
theorem dX0_payFrom_31 : decode cX0_payFrom 31 = .ok (.aload_n 0, 1) := by decide +kernel
theorem dX0_payFrom_32 : decode cX0_payFrom 32 = .ok (.getfield 9, 3) := by decide +kernel
theorem dX0_payFrom_35 : decode cX0_payFrom 35 = .ok (.iconst 3, 1) := by decide +kernel
theorem dX0_payFrom_36 : decode cX0_payFrom 36 = .ok (.dup2, 1) := by decide +kernel
theorem dX0_payFrom_37 : decode cX0_payFrom 37 = .ok (.iaload, 1) := by decide +kernel
theorem dX0_payFrom_38 : decode cX0_payFrom 38 = .ok (.iload_n 2, 1) := by decide +kernel
theorem dX0_payFrom_39 : decode cX0_payFrom 39 = .ok (.iadd, 1) := by decide +kernel
theorem dX0_payFrom_40 : decode cX0_payFrom 40 = .ok (.iastore, 1) := by decide +kernel
theorem dX0_payFrom_41 : decode cX0_payFrom 41 = .ok (.aload_n 0, 1) := by decide +kernel
theorem dX0_payFrom_42 : decode cX0_payFrom 42 = .ok (.getfield 36, 3) := by decide +kernel
theorem dX0_payFrom_45 : decode cX0_payFrom 45 = .ok (.iload_n 1, 1) := by decide +kernel
theorem dX0_payFrom_46 : decode cX0_payFrom 46 = .ok (.dup2, 1) := by decide +kernel
theorem dX0_payFrom_47 : decode cX0_payFrom 47 = .ok (.iaload, 1) := by decide +kernel
theorem dX0_payFrom_48 : decode cX0_payFrom 48 = .ok (.iload_n 2, 1) := by decide +kernel
theorem dX0_payFrom_49 : decode cX0_payFrom 49 = .ok (.iadd, 1) := by decide +kernel
theorem dX0_payFrom_50 : decode cX0_payFrom 50 = .ok (.iastore, 1) := by decide +kernel
theorem dX0_payFrom_51 : decode cX0_payFrom 51 = .ok (.iload_n 2, 1) := by decide +kernel
theorem dX0_payFrom_52 : decode cX0_payFrom 52 = .ok (.ireturn, 1) := by decide +kernel
theorem dX1_init_0 : decode cX1_init 0 = .ok (.aload_n 0, 1) := by decide +kernel
theorem dX1_init_1 : decode cX1_init 1 = .ok (.invokespecial 3, 3) := by decide +kernel
theorem dX1_init_4 : decode cX1_init 4 = .ok (.aload_n 0, 1) := by decide +kernel
theorem dX1_init_5 : decode cX1_init 5 = .ok (.bipush 6, 2) := by decide +kernel
theorem dX1_init_7 : decode cX1_init 7 = .ok (.anewarray 9, 3) := by decide +kernel
theorem dX1_init_10 : decode cX1_init 10 = .ok (.putfield 11, 3) := by decide +kernel
theorem dX1_init_13 : decode cX1_init 13 = .ok (.aload_n 0, 1) := by decide +kernel
theorem dX1_init_14 : decode cX1_init 14 = .ok (.iconst 0, 1) := by decide +kernel
theorem dX1_init_15 : decode cX1_init 15 = .ok (.putfield 17, 3) := by decide +kernel
theorem dX1_init_18 : decode cX1_init 18 = .ok (.aload_n 0, 1) := by decide +kernel
theorem dX1_init_19 : decode cX1_init 19 = .ok (.iconst 0, 1) := by decide +kernel
theorem dX1_init_20 : decode cX1_init 20 = .ok (.putfield 21, 3) := by decide +kernel
theorem dX1_init_23 : decode cX1_init 23 = .ok (.return_, 1) := by decide +kernel
theorem dX1_save_0 : decode cX1_save 0 = .ok (.aload_n 0, 1) := by decide +kernel
theorem dX1_save_1 : decode cX1_save 1 = .ok (.getfield 17, 3) := by decide +kernel
theorem dX1_save_4 : decode cX1_save 4 = .ok (.aload_n 0, 1) := by decide +kernel
theorem dX1_save_5 : decode cX1_save 5 = .ok (.getfield 21, 3) := by decide +kernel
theorem dX1_save_8 : decode cX1_save 8 = .ok (.iadd, 1) := by decide +kernel
theorem dX1_save_9 : decode cX1_save 9 = .ok (.bipush 6, 2) := by decide +kernel
theorem dX1_save_11 : decode cX1_save 11 = .ok (.irem, 1) := by decide +kernel
theorem dX1_save_12 : decode cX1_save 12 = .ok (.istore_n 2, 1) := by decide +kernel
theorem dX1_save_13 : decode cX1_save 13 = .ok (.aload_n 0, 1) := by decide +kernel
theorem dX1_save_14 : decode cX1_save 14 = .ok (.getfield 11, 3) := by decide +kernel
theorem dX1_save_17 : decode cX1_save 17 = .ok (.iload_n 2, 1) := by decide +kernel
theorem dX1_save_18 : decode cX1_save 18 = .ok (.aaload, 1) := by decide +kernel
theorem dX1_save_19 : decode cX1_save 19 = .ok (.ifnonnull 16, 3) := by decide +kernel
theorem dX1_save_22 : decode cX1_save 22 = .ok (.aload_n 0, 1) := by decide +kernel
theorem dX1_save_23 : decode cX1_save 23 = .ok (.getfield 11, 3) := by decide +kernel
theorem dX1_save_26 : decode cX1_save 26 = .ok (.iload_n 2, 1) := by decide +kernel
theorem dX1_save_27 : decode cX1_save 27 = .ok (.new 9, 3) := by decide +kernel
theorem dX1_save_30 : decode cX1_save 30 = .ok (.dup, 1) := by decide +kernel
theorem dX1_save_31 : decode cX1_save 31 = .ok (.invokespecial 24, 3) := by decide +kernel
theorem dX1_save_34 : decode cX1_save 34 = .ok (.aastore, 1) := by decide +kernel
theorem dX1_save_35 : decode cX1_save 35 = .ok (.aload_n 0, 1) := by decide +kernel
theorem dX1_save_36 : decode cX1_save 36 = .ok (.getfield 11, 3) := by decide +kernel
theorem dX1_save_39 : decode cX1_save 39 = .ok (.iload_n 2, 1) := by decide +kernel
theorem dX1_save_40 : decode cX1_save 40 = .ok (.aaload, 1) := by decide +kernel
theorem dX1_save_41 : decode cX1_save 41 = .ok (.aload_n 1, 1) := by decide +kernel
theorem dX1_save_42 : decode cX1_save 42 = .ok (.invokevirtual 25, 3) := by decide +kernel
theorem dX1_save_45 : decode cX1_save 45 = .ok (.aload_n 0, 1) := by decide +kernel
theorem dX1_save_46 : decode cX1_save 46 = .ok (.getfield 21, 3) := by decide +kernel
theorem dX1_save_49 : decode cX1_save 49 = .ok (.bipush 6, 2) := by decide +kernel
theorem dX1_save_51 : decode cX1_save 51 = .ok (.if_icmp .ge 16, 3) := by decide +kernel
theorem dX1_save_54 : decode cX1_save 54 = .ok (.aload_n 0, 1) := by decide +kernel
theorem dX1_save_55 : decode cX1_save 55 = .ok (.dup, 1) := by decide +kernel
theorem dX1_save_56 : decode cX1_save 56 = .ok (.getfield 21, 3) := by decide +kernel
theorem dX1_save_59 : decode cX1_save 59 = .ok (.iconst 1, 1) := by decide +kernel
theorem dX1_save_60 : decode cX1_save 60 = .ok (.iadd, 1) := by decide +kernel
theorem dX1_save_61 : decode cX1_save 61 = .ok (.putfield 21, 3) := by decide +kernel
theorem dX1_save_64 : decode cX1_save 64 = .ok (.goto 16, 3) := by decide +kernel
theorem dX1_save_67 : decode cX1_save 67 = .ok (.aload_n 0, 1) := by decide +kernel
theorem dX1_save_68 : decode cX1_save 68 = .ok (.aload_n 0, 1) := by decide +kernel
theorem dX1_save_69 : decode cX1_save 69 = .ok (.getfield 17, 3) := by decide +kernel
theorem dX1_save_72 : decode cX1_save 72 = .ok (.iconst 1, 1) := by decide +kernel
theorem dX1_save_73 : decode cX1_save 73 = .ok (.iadd, 1) := by decide +kernel
theorem dX1_save_74 : decode cX1_save 74 = .ok (.bipush 6, 2) := by decide +kernel
theorem dX1_save_76 : decode cX1_save 76 = .ok (.irem, 1) := by decide +kernel
theorem dX1_save_77 : decode cX1_save 77 = .ok (.putfield 17, 3) := by decide +kernel
theorem dX1_save_80 : decode cX1_save 80 = .ok (.return_, 1) := by decide +kernel
theorem dX1_takeLatest_0 : decode cX1_takeLatest 0 = .ok (.aload_n 0, 1) := by decide +kernel
theorem dX1_takeLatest_1 : decode cX1_takeLatest 1 = .ok (.getfield 21, 3) := by decide +kernel
theorem dX1_takeLatest_4 : decode cX1_takeLatest 4 = .ok (.ifCond .ne 5, 3) := by decide +kernel
theorem dX1_takeLatest_7 : decode cX1_takeLatest 7 = .ok (.iconst 0, 1) := by decide +kernel
theorem dX1_takeLatest_8 : decode cX1_takeLatest 8 = .ok (.ireturn, 1) := by decide +kernel
theorem dX1_takeLatest_9 : decode cX1_takeLatest 9 = .ok (.aload_n 0, 1) := by decide +kernel
theorem dX1_takeLatest_10 : decode cX1_takeLatest 10 = .ok (.getfield 11, 3) := by decide +kernel
theorem dX1_takeLatest_13 : decode cX1_takeLatest 13 = .ok (.aload_n 0, 1) := by decide +kernel
theorem dX1_takeLatest_14 : decode cX1_takeLatest 14 = .ok (.getfield 17, 3) := by decide +kernel
theorem dX1_takeLatest_17 : decode cX1_takeLatest 17 = .ok (.aload_n 0, 1) := by decide +kernel
theorem dX1_takeLatest_18 : decode cX1_takeLatest 18 = .ok (.getfield 21, 3) := by decide +kernel
theorem dX1_takeLatest_21 : decode cX1_takeLatest 21 = .ok (.iadd, 1) := by decide +kernel
theorem dX1_takeLatest_22 : decode cX1_takeLatest 22 = .ok (.iconst 1, 1) := by decide +kernel
theorem dX1_takeLatest_23 : decode cX1_takeLatest 23 = .ok (.isub, 1) := by decide +kernel
theorem dX1_takeLatest_24 : decode cX1_takeLatest 24 = .ok (.bipush 6, 2) := by decide +kernel
theorem dX1_takeLatest_26 : decode cX1_takeLatest 26 = .ok (.irem, 1) := by decide +kernel
theorem dX1_takeLatest_27 : decode cX1_takeLatest 27 = .ok (.aaload, 1) := by decide +kernel
theorem dX1_takeLatest_28 : decode cX1_takeLatest 28 = .ok (.astore_n 2, 1) := by decide +kernel
theorem dX1_takeLatest_29 : decode cX1_takeLatest 29 = .ok (.aload_n 2, 1) := by decide +kernel
theorem dX1_takeLatest_30 : decode cX1_takeLatest 30 = .ok (.ifnonnull 5, 3) := by decide +kernel
theorem dX1_takeLatest_33 : decode cX1_takeLatest 33 = .ok (.iconst 0, 1) := by decide +kernel
theorem dX1_takeLatest_34 : decode cX1_takeLatest 34 = .ok (.ireturn, 1) := by decide +kernel
theorem dX1_takeLatest_35 : decode cX1_takeLatest 35 = .ok (.aload_n 1, 1) := by decide +kernel
theorem dX1_takeLatest_36 : decode cX1_takeLatest 36 = .ok (.aload_n 2, 1) := by decide +kernel
theorem dX1_takeLatest_37 : decode cX1_takeLatest 37 = .ok (.invokevirtual 25, 3) := by decide +kernel
theorem dX1_takeLatest_40 : decode cX1_takeLatest 40 = .ok (.aload_n 0, 1) := by decide +kernel
theorem dX1_takeLatest_41 : decode cX1_takeLatest 41 = .ok (.dup, 1) := by decide +kernel
theorem dX1_takeLatest_42 : decode cX1_takeLatest 42 = .ok (.getfield 21, 3) := by decide +kernel
theorem dX1_takeLatest_45 : decode cX1_takeLatest 45 = .ok (.iconst 1, 1) := by decide +kernel
theorem dX1_takeLatest_46 : decode cX1_takeLatest 46 = .ok (.isub, 1) := by decide +kernel
theorem dX1_takeLatest_47 : decode cX1_takeLatest 47 = .ok (.putfield 21, 3) := by decide +kernel
theorem dX1_takeLatest_50 : decode cX1_takeLatest 50 = .ok (.iconst 1, 1) := by decide +kernel
theorem dX1_takeLatest_51 : decode cX1_takeLatest 51 = .ok (.ireturn, 1) := by decide +kernel
theorem dX2_init_0 : decode cX2_init 0 = .ok (.aload_n 0, 1) := by decide +kernel
theorem dX2_init_1 : decode cX2_init 1 = .ok (.invokespecial 3, 3) := by decide +kernel
theorem dX2_init_4 : decode cX2_init 4 = .ok (.aload_n 0, 1) := by decide +kernel
theorem dX2_init_5 : decode cX2_init 5 = .ok (.bipush 7, 2) := by decide +kernel
theorem dX2_init_7 : decode cX2_init 7 = .ok (.newarray .int, 2) := by decide +kernel
theorem dX2_init_9 : decode cX2_init 9 = .ok (.putfield 9, 3) := by decide +kernel
theorem dX2_init_12 : decode cX2_init 12 = .ok (.aload_n 0, 1) := by decide +kernel
theorem dX2_init_13 : decode cX2_init 13 = .ok (.bipush 7, 2) := by decide +kernel
theorem dX2_init_15 : decode cX2_init 15 = .ok (.newarray .int, 2) := by decide +kernel
theorem dX2_init_17 : decode cX2_init 17 = .ok (.putfield 15, 3) := by decide +kernel
theorem dX2_init_20 : decode cX2_init 20 = .ok (.aload_n 0, 1) := by decide +kernel
theorem dX2_init_21 : decode cX2_init 21 = .ok (.bipush 7, 2) := by decide +kernel
theorem dX2_init_23 : decode cX2_init 23 = .ok (.newarray .int, 2) := by decide +kernel
theorem dX2_init_25 : decode cX2_init 25 = .ok (.putfield 18, 3) := by decide +kernel
theorem dX2_init_28 : decode cX2_init 28 = .ok (.return_, 1) := by decide +kernel
theorem dX2_countByRows_0 : decode cX2_countByRows 0 = .ok (.aload_n 0, 1) := by decide +kernel
theorem dX2_countByRows_1 : decode cX2_countByRows 1 = .ok (.getfield 9, 3) := by decide +kernel
theorem dX2_countByRows_4 : decode cX2_countByRows 4 = .ok (.iconst 0, 1) := by decide +kernel
theorem dX2_countByRows_5 : decode cX2_countByRows 5 = .ok (.invokestatic 21, 3) := by decide +kernel
theorem dX2_countByRows_8 : decode cX2_countByRows 8 = .ok (.aload_n 0, 1) := by decide +kernel
theorem dX2_countByRows_9 : decode cX2_countByRows 9 = .ok (.getfield 9, 3) := by decide +kernel
theorem dX2_countByRows_12 : decode cX2_countByRows 12 = .ok (.iload_n 2, 1) := by decide +kernel
theorem dX2_countByRows_13 : decode cX2_countByRows 13 = .ok (.iconst 1, 1) := by decide +kernel
theorem dX2_countByRows_14 : decode cX2_countByRows 14 = .ok (.iastore, 1) := by decide +kernel
theorem dX2_countByRows_15 : decode cX2_countByRows 15 = .ok (.iconst 0, 1) := by decide +kernel
theorem dX2_countByRows_16 : decode cX2_countByRows 16 = .ok (.istore_n 3, 1) := by decide +kernel
theorem dX2_countByRows_17 : decode cX2_countByRows 17 = .ok (.iload_n 3, 1) := by decide +kernel
theorem dX2_countByRows_18 : decode cX2_countByRows 18 = .ok (.bipush 8, 2) := by decide +kernel
theorem dX2_countByRows_20 : decode cX2_countByRows 20 = .ok (.if_icmp .ge 15, 3) := by decide +kernel
theorem dX2_countByRows_23 : decode cX2_countByRows 23 = .ok (.aload_n 0, 1) := by decide +kernel
theorem dX2_countByRows_24 : decode cX2_countByRows 24 = .ok (.aload_n 1, 1) := by decide +kernel
theorem dX2_countByRows_25 : decode cX2_countByRows 25 = .ok (.iload_n 3, 1) := by decide +kernel
theorem dX2_countByRows_26 : decode cX2_countByRows 26 = .ok (.invokevirtual 27, 3) := by decide +kernel
theorem dX2_countByRows_29 : decode cX2_countByRows 29 = .ok (.iinc 3 1, 3) := by decide +kernel
theorem dX2_countByRows_32 : decode cX2_countByRows 32 = .ok (.goto (-15), 3) := by decide +kernel
theorem dX2_countByRows_35 : decode cX2_countByRows 35 = .ok (.return_, 1) := by decide +kernel
theorem dX2_countRow_0 : decode cX2_countRow 0 = .ok (.aload_n 0, 1) := by decide +kernel
theorem dX2_countRow_1 : decode cX2_countRow 1 = .ok (.getfield 18, 3) := by decide +kernel
theorem dX2_countRow_4 : decode cX2_countRow 4 = .ok (.iconst 0, 1) := by decide +kernel
theorem dX2_countRow_5 : decode cX2_countRow 5 = .ok (.invokestatic 21, 3) := by decide +kernel
theorem dX2_countRow_8 : decode cX2_countRow 8 = .ok (.iconst 0, 1) := by decide +kernel
theorem dX2_countRow_9 : decode cX2_countRow 9 = .ok (.istore_n 3, 1) := by decide +kernel
theorem dX2_countRow_10 : decode cX2_countRow 10 = .ok (.iload_n 3, 1) := by decide +kernel
theorem dX2_countRow_11 : decode cX2_countRow 11 = .ok (.bipush 7, 2) := by decide +kernel
theorem dX2_countRow_13 : decode cX2_countRow 13 = .ok (.if_icmp .ge 67, 3) := by decide +kernel
theorem dX2_countRow_16 : decode cX2_countRow 16 = .ok (.aload_n 1, 1) := by decide +kernel
theorem dX2_countRow_17 : decode cX2_countRow 17 = .ok (.iload_n 2, 1) := by decide +kernel
theorem dX2_countRow_18 : decode cX2_countRow 18 = .ok (.bipush 7, 2) := by decide +kernel
theorem dX2_countRow_20 : decode cX2_countRow 20 = .ok (.imul, 1) := by decide +kernel
theorem dX2_countRow_21 : decode cX2_countRow 21 = .ok (.iload_n 3, 1) := by decide +kernel
theorem dX2_countRow_22 : decode cX2_countRow 22 = .ok (.iadd, 1) := by decide +kernel
theorem dX2_countRow_23 : decode cX2_countRow 23 = .ok (.iaload, 1) := by decide +kernel
theorem dX2_countRow_24 : decode cX2_countRow 24 = .ok (.istore 4, 2) := by decide +kernel
theorem dX2_countRow_26 : decode cX2_countRow 26 = .ok (.iload 4, 2) := by decide +kernel
theorem dX2_countRow_28 : decode cX2_countRow 28 = .ok (.ifCond .gt 22, 3) := by decide +kernel
theorem dX2_countRow_31 : decode cX2_countRow 31 = .ok (.aload_n 0, 1) := by decide +kernel
theorem dX2_countRow_32 : decode cX2_countRow 32 = .ok (.getfield 18, 3) := by decide +kernel
theorem dX2_countRow_35 : decode cX2_countRow 35 = .ok (.iload_n 3, 1) := by decide +kernel
theorem dX2_countRow_36 : decode cX2_countRow 36 = .ok (.iconst (-1), 1) := by decide +kernel
theorem dX2_countRow_37 : decode cX2_countRow 37 = .ok (.invokestatic 30, 3) := by decide +kernel
theorem dX2_countRow_40 : decode cX2_countRow 40 = .ok (.dup2, 1) := by decide +kernel
theorem dX2_countRow_41 : decode cX2_countRow 41 = .ok (.iaload, 1) := by decide +kernel
theorem dX2_countRow_42 : decode cX2_countRow 42 = .ok (.aload_n 0, 1) := by decide +kernel
theorem dX2_countRow_43 : decode cX2_countRow 43 = .ok (.getfield 9, 3) := by decide +kernel
theorem dX2_countRow_46 : decode cX2_countRow 46 = .ok (.iload_n 3, 1) := by decide +kernel
theorem dX2_countRow_47 : decode cX2_countRow 47 = .ok (.iaload, 1) := by decide +kernel
theorem dX2_countRow_48 : decode cX2_countRow 48 = .ok (.iadd, 1) := by decide +kernel
theorem dX2_countRow_49 : decode cX2_countRow 49 = .ok (.iastore, 1) := by decide +kernel
theorem dX2_countRow_50 : decode cX2_countRow 50 = .ok (.iload 4, 2) := by decide +kernel
theorem dX2_countRow_52 : decode cX2_countRow 52 = .ok (.ifCond .lt 22, 3) := by decide +kernel
theorem dX2_countRow_55 : decode cX2_countRow 55 = .ok (.aload_n 0, 1) := by decide +kernel
theorem dX2_countRow_56 : decode cX2_countRow 56 = .ok (.getfield 18, 3) := by decide +kernel
theorem dX2_countRow_59 : decode cX2_countRow 59 = .ok (.iload_n 3, 1) := by decide +kernel
theorem dX2_countRow_60 : decode cX2_countRow 60 = .ok (.iconst 1, 1) := by decide +kernel
theorem dX2_countRow_61 : decode cX2_countRow 61 = .ok (.invokestatic 30, 3) := by decide +kernel
theorem dX2_countRow_64 : decode cX2_countRow 64 = .ok (.dup2, 1) := by decide +kernel
theorem dX2_countRow_65 : decode cX2_countRow 65 = .ok (.iaload, 1) := by decide +kernel
theorem dX2_countRow_66 : decode cX2_countRow 66 = .ok (.aload_n 0, 1) := by decide +kernel
theorem dX2_countRow_67 : decode cX2_countRow 67 = .ok (.getfield 9, 3) := by decide +kernel
theorem dX2_countRow_70 : decode cX2_countRow 70 = .ok (.iload_n 3, 1) := by decide +kernel
theorem dX2_countRow_71 : decode cX2_countRow 71 = .ok (.iaload, 1) := by decide +kernel
theorem dX2_countRow_72 : decode cX2_countRow 72 = .ok (.iadd, 1) := by decide +kernel
theorem dX2_countRow_73 : decode cX2_countRow 73 = .ok (.iastore, 1) := by decide +kernel
theorem dX2_countRow_74 : decode cX2_countRow 74 = .ok (.iinc 3 1, 3) := by decide +kernel
theorem dX2_countRow_77 : decode cX2_countRow 77 = .ok (.goto (-67), 3) := by decide +kernel
theorem dX2_countRow_80 : decode cX2_countRow 80 = .ok (.aload_n 0, 1) := by decide +kernel
theorem dX2_countRow_81 : decode cX2_countRow 81 = .ok (.getfield 18, 3) := by decide +kernel
theorem dX2_countRow_84 : decode cX2_countRow 84 = .ok (.iconst 0, 1) := by decide +kernel
theorem dX2_countRow_85 : decode cX2_countRow 85 = .ok (.aload_n 0, 1) := by decide +kernel
theorem dX2_countRow_86 : decode cX2_countRow 86 = .ok (.getfield 9, 3) := by decide +kernel
theorem dX2_countRow_89 : decode cX2_countRow 89 = .ok (.iconst 0, 1) := by decide +kernel
theorem dX2_countRow_90 : decode cX2_countRow 90 = .ok (.bipush 7, 2) := by decide +kernel
theorem dX2_countRow_92 : decode cX2_countRow 92 = .ok (.invokestatic 34, 3) := by decide +kernel
theorem dX2_countRow_95 : decode cX2_countRow 95 = .ok (.return_, 1) := by decide +kernel
theorem dX2_goAllWays_0 : decode cX2_goAllWays 0 = .ok (.aload_n 0, 1) := by decide +kernel
theorem dX2_goAllWays_1 : decode cX2_goAllWays 1 = .ok (.getfield 15, 3) := by decide +kernel
theorem dX2_goAllWays_4 : decode cX2_goAllWays 4 = .ok (.iconst 0, 1) := by decide +kernel
theorem dX2_goAllWays_5 : decode cX2_goAllWays 5 = .ok (.invokestatic 21, 3) := by decide +kernel
theorem dX2_goAllWays_8 : decode cX2_goAllWays 8 = .ok (.aload_n 1, 1) := by decide +kernel
theorem dX2_goAllWays_9 : decode cX2_goAllWays 9 = .ok (.iconst 0, 1) := by decide +kernel
theorem dX2_goAllWays_10 : decode cX2_goAllWays 10 = .ok (.iload_n 2, 1) := by decide +kernel
theorem dX2_goAllWays_11 : decode cX2_goAllWays 11 = .ok (.aload_n 0, 1) := by decide +kernel
theorem dX2_goAllWays_12 : decode cX2_goAllWays 12 = .ok (.getfield 15, 3) := by decide +kernel
theorem dX2_goAllWays_15 : decode cX2_goAllWays 15 = .ok (.invokestatic 40, 3) := by decide +kernel
theorem dX2_goAllWays_18 : decode cX2_goAllWays 18 = .ok (.return_, 1) := by decide +kernel
theorem dX2_goOn_0 : decode cX2_goOn 0 = .ok (.iload_n 1, 1) := by decide +kernel
theorem dX2_goOn_1 : decode cX2_goOn 1 = .ok (.bipush 8, 2) := by decide +kernel
theorem dX2_goOn_3 : decode cX2_goOn 3 = .ok (.if_icmp .lt 11, 3) := by decide +kernel
theorem dX2_goOn_6 : decode cX2_goOn 6 = .ok (.aload_n 3, 1) := by decide +kernel
theorem dX2_goOn_7 : decode cX2_goOn 7 = .ok (.iload_n 2, 1) := by decide +kernel
theorem dX2_goOn_8 : decode cX2_goOn 8 = .ok (.dup2, 1) := by decide +kernel
theorem dX2_goOn_9 : decode cX2_goOn 9 = .ok (.iaload, 1) := by decide +kernel
theorem dX2_goOn_10 : decode cX2_goOn 10 = .ok (.iconst 1, 1) := by decide +kernel
theorem dX2_goOn_11 : decode cX2_goOn 11 = .ok (.iadd, 1) := by decide +kernel
theorem dX2_goOn_12 : decode cX2_goOn 12 = .ok (.iastore, 1) := by decide +kernel
theorem dX2_goOn_13 : decode cX2_goOn 13 = .ok (.return_, 1) := by decide +kernel
theorem dX2_goOn_14 : decode cX2_goOn 14 = .ok (.aload_n 0, 1) := by decide +kernel
theorem dX2_goOn_15 : decode cX2_goOn 15 = .ok (.iload_n 1, 1) := by decide +kernel
theorem dX2_goOn_16 : decode cX2_goOn 16 = .ok (.bipush 7, 2) := by decide +kernel
theorem dX2_goOn_18 : decode cX2_goOn 18 = .ok (.imul, 1) := by decide +kernel
theorem dX2_goOn_19 : decode cX2_goOn 19 = .ok (.iload_n 2, 1) := by decide +kernel
theorem dX2_goOn_20 : decode cX2_goOn 20 = .ok (.iadd, 1) := by decide +kernel
theorem dX2_goOn_21 : decode cX2_goOn 21 = .ok (.iaload, 1) := by decide +kernel
theorem dX2_goOn_22 : decode cX2_goOn 22 = .ok (.istore 4, 2) := by decide +kernel
theorem dX2_goOn_24 : decode cX2_goOn 24 = .ok (.iload 4, 2) := by decide +kernel
theorem dX2_goOn_26 : decode cX2_goOn 26 = .ok (.ifCond .gt 16, 3) := by decide +kernel
theorem dX2_goOn_29 : decode cX2_goOn 29 = .ok (.aload_n 0, 1) := by decide +kernel
theorem dX2_goOn_30 : decode cX2_goOn 30 = .ok (.iload_n 1, 1) := by decide +kernel
theorem dX2_goOn_31 : decode cX2_goOn 31 = .ok (.iconst 1, 1) := by decide +kernel
theorem dX2_goOn_32 : decode cX2_goOn 32 = .ok (.iadd, 1) := by decide +kernel
theorem dX2_goOn_33 : decode cX2_goOn 33 = .ok (.iload_n 2, 1) := by decide +kernel
theorem dX2_goOn_34 : decode cX2_goOn 34 = .ok (.iconst (-1), 1) := by decide +kernel
theorem dX2_goOn_35 : decode cX2_goOn 35 = .ok (.invokestatic 30, 3) := by decide +kernel
theorem dX2_goOn_38 : decode cX2_goOn 38 = .ok (.aload_n 3, 1) := by decide +kernel
theorem dX2_goOn_39 : decode cX2_goOn 39 = .ok (.invokestatic 40, 3) := by decide +kernel
theorem dX2_goOn_42 : decode cX2_goOn 42 = .ok (.iload 4, 2) := by decide +kernel
theorem dX2_goOn_44 : decode cX2_goOn 44 = .ok (.ifCond .lt 16, 3) := by decide +kernel
theorem dX2_goOn_47 : decode cX2_goOn 47 = .ok (.aload_n 0, 1) := by decide +kernel
theorem dX2_goOn_48 : decode cX2_goOn 48 = .ok (.iload_n 1, 1) := by decide +kernel
theorem dX2_goOn_49 : decode cX2_goOn 49 = .ok (.iconst 1, 1) := by decide +kernel
theorem dX2_goOn_50 : decode cX2_goOn 50 = .ok (.iadd, 1) := by decide +kernel
theorem dX2_goOn_51 : decode cX2_goOn 51 = .ok (.iload_n 2, 1) := by decide +kernel
theorem dX2_goOn_52 : decode cX2_goOn 52 = .ok (.iconst 1, 1) := by decide +kernel
theorem dX2_goOn_53 : decode cX2_goOn 53 = .ok (.invokestatic 30, 3) := by decide +kernel
theorem dX2_goOn_56 : decode cX2_goOn 56 = .ok (.aload_n 3, 1) := by decide +kernel
theorem dX2_goOn_57 : decode cX2_goOn 57 = .ok (.invokestatic 40, 3) := by decide +kernel
theorem dX2_goOn_60 : decode cX2_goOn 60 = .ok (.return_, 1) := by decide +kernel
theorem dX3_init_0 : decode cX3_init 0 = .ok (.aload_n 0, 1) := by decide +kernel
theorem dX3_init_1 : decode cX3_init 1 = .ok (.invokespecial 3, 3) := by decide +kernel
theorem dX3_init_4 : decode cX3_init 4 = .ok (.aload_n 0, 1) := by decide +kernel
theorem dX3_init_5 : decode cX3_init 5 = .ok (.bipush 60, 2) := by decide +kernel
theorem dX3_init_7 : decode cX3_init 7 = .ok (.newarray .int, 2) := by decide +kernel
theorem dX3_init_9 : decode cX3_init 9 = .ok (.putfield 9, 3) := by decide +kernel
theorem dX3_init_12 : decode cX3_init 12 = .ok (.aload_n 0, 1) := by decide +kernel
theorem dX3_init_13 : decode cX3_init 13 = .ok (.iconst 0, 1) := by decide +kernel
theorem dX3_init_14 : decode cX3_init 14 = .ok (.putfield 15, 3) := by decide +kernel
theorem dX3_init_17 : decode cX3_init 17 = .ok (.return_, 1) := by decide +kernel
theorem dX3_add_0 : decode cX3_add 0 = .ok (.aload_n 0, 1) := by decide +kernel
theorem dX3_add_1 : decode cX3_add 1 = .ok (.getfield 15, 3) := by decide +kernel
theorem dX3_add_4 : decode cX3_add 4 = .ok (.bipush 60, 2) := by decide +kernel
theorem dX3_add_6 : decode cX3_add 6 = .ok (.if_icmp .lt 5, 3) := by decide +kernel
theorem dX3_add_9 : decode cX3_add 9 = .ok (.iconst 0, 1) := by decide +kernel
theorem dX3_add_10 : decode cX3_add 10 = .ok (.ireturn, 1) := by decide +kernel
theorem dX3_add_11 : decode cX3_add 11 = .ok (.aload_n 0, 1) := by decide +kernel
theorem dX3_add_12 : decode cX3_add 12 = .ok (.getfield 9, 3) := by decide +kernel
theorem dX3_add_15 : decode cX3_add 15 = .ok (.aload_n 0, 1) := by decide +kernel
theorem dX3_add_16 : decode cX3_add 16 = .ok (.getfield 15, 3) := by decide +kernel
theorem dX3_add_19 : decode cX3_add 19 = .ok (.iload_n 1, 1) := by decide +kernel
theorem dX3_add_20 : decode cX3_add 20 = .ok (.iastore, 1) := by decide +kernel
theorem dX3_add_21 : decode cX3_add 21 = .ok (.aload_n 0, 1) := by decide +kernel
theorem dX3_add_22 : decode cX3_add 22 = .ok (.dup, 1) := by decide +kernel
theorem dX3_add_23 : decode cX3_add 23 = .ok (.getfield 15, 3) := by decide +kernel
theorem dX3_add_26 : decode cX3_add 26 = .ok (.iconst 1, 1) := by decide +kernel
theorem dX3_add_27 : decode cX3_add 27 = .ok (.iadd, 1) := by decide +kernel
theorem dX3_add_28 : decode cX3_add 28 = .ok (.putfield 15, 3) := by decide +kernel
theorem dX3_add_31 : decode cX3_add 31 = .ok (.iconst 1, 1) := by decide +kernel
theorem dX3_add_32 : decode cX3_add 32 = .ok (.ireturn, 1) := by decide +kernel
theorem dX3_clear_0 : decode cX3_clear 0 = .ok (.aload_n 0, 1) := by decide +kernel
theorem dX3_clear_1 : decode cX3_clear 1 = .ok (.getfield 15, 3) := by decide +kernel
theorem dX3_clear_4 : decode cX3_clear 4 = .ok (.istore_n 1, 1) := by decide +kernel
theorem dX3_clear_5 : decode cX3_clear 5 = .ok (.aload_n 0, 1) := by decide +kernel
theorem dX3_clear_6 : decode cX3_clear 6 = .ok (.iconst 0, 1) := by decide +kernel
theorem dX3_clear_7 : decode cX3_clear 7 = .ok (.putfield 15, 3) := by decide +kernel
theorem dX3_clear_10 : decode cX3_clear 10 = .ok (.iload_n 1, 1) := by decide +kernel
theorem dX3_clear_11 : decode cX3_clear 11 = .ok (.ireturn, 1) := by decide +kernel
theorem dX3_placeOfError_0 : decode cX3_placeOfError 0 = .ok (.iconst 0, 1) := by decide +kernel
theorem dX3_placeOfError_1 : decode cX3_placeOfError 1 = .ok (.istore_n 1, 1) := by decide +kernel
theorem dX3_placeOfError_2 : decode cX3_placeOfError 2 = .ok (.iconst 0, 1) := by decide +kernel
theorem dX3_placeOfError_3 : decode cX3_placeOfError 3 = .ok (.istore_n 2, 1) := by decide +kernel
theorem dX3_placeOfError_4 : decode cX3_placeOfError 4 = .ok (.iload_n 2, 1) := by decide +kernel
theorem dX3_placeOfError_5 : decode cX3_placeOfError 5 = .ok (.aload_n 0, 1) := by decide +kernel
theorem dX3_placeOfError_6 : decode cX3_placeOfError 6 = .ok (.getfield 15, 3) := by decide +kernel
theorem dX3_placeOfError_9 : decode cX3_placeOfError 9 = .ok (.if_icmp .ge 27, 3) := by decide +kernel
theorem dX3_placeOfError_12 : decode cX3_placeOfError 12 = .ok (.iload_n 1, 1) := by decide +kernel
theorem dX3_placeOfError_13 : decode cX3_placeOfError 13 = .ok (.aload_n 0, 1) := by decide +kernel
theorem dX3_placeOfError_14 : decode cX3_placeOfError 14 = .ok (.getfield 9, 3) := by decide +kernel
theorem dX3_placeOfError_17 : decode cX3_placeOfError 17 = .ok (.iload_n 2, 1) := by decide +kernel
theorem dX3_placeOfError_18 : decode cX3_placeOfError 18 = .ok (.iaload, 1) := by decide +kernel
theorem dX3_placeOfError_19 : decode cX3_placeOfError 19 = .ok (.invokestatic 19, 3) := by decide +kernel
theorem dX3_placeOfError_22 : decode cX3_placeOfError 22 = .ok (.istore_n 1, 1) := by decide +kernel
theorem dX3_placeOfError_23 : decode cX3_placeOfError 23 = .ok (.iload_n 1, 1) := by decide +kernel
theorem dX3_placeOfError_24 : decode cX3_placeOfError 24 = .ok (.iconst (-1), 1) := by decide +kernel
theorem dX3_placeOfError_25 : decode cX3_placeOfError 25 = .ok (.if_icmp .ne 5, 3) := by decide +kernel
theorem dX3_placeOfError_28 : decode cX3_placeOfError 28 = .ok (.iload_n 2, 1) := by decide +kernel
theorem dX3_placeOfError_29 : decode cX3_placeOfError 29 = .ok (.ireturn, 1) := by decide +kernel
theorem dX3_placeOfError_30 : decode cX3_placeOfError 30 = .ok (.iinc 2 1, 3) := by decide +kernel
theorem dX3_placeOfError_33 : decode cX3_placeOfError 33 = .ok (.goto (-29), 3) := by decide +kernel
theorem dX3_placeOfError_36 : decode cX3_placeOfError 36 = .ok (.aload_n 0, 1) := by decide +kernel
theorem dX3_placeOfError_37 : decode cX3_placeOfError 37 = .ok (.getfield 15, 3) := by decide +kernel
theorem dX3_placeOfError_40 : decode cX3_placeOfError 40 = .ok (.ireturn, 1) := by decide +kernel
theorem dX3_isComplete_0 : decode cX3_isComplete 0 = .ok (.iconst 0, 1) := by decide +kernel
theorem dX3_isComplete_1 : decode cX3_isComplete 1 = .ok (.istore_n 1, 1) := by decide +kernel
theorem dX3_isComplete_2 : decode cX3_isComplete 2 = .ok (.iconst 0, 1) := by decide +kernel
theorem dX3_isComplete_3 : decode cX3_isComplete 3 = .ok (.istore_n 2, 1) := by decide +kernel
theorem dX3_isComplete_4 : decode cX3_isComplete 4 = .ok (.iload_n 2, 1) := by decide +kernel
theorem dX3_isComplete_5 : decode cX3_isComplete 5 = .ok (.aload_n 0, 1) := by decide +kernel
theorem dX3_isComplete_6 : decode cX3_isComplete 6 = .ok (.getfield 15, 3) := by decide +kernel
theorem dX3_isComplete_9 : decode cX3_isComplete 9 = .ok (.if_icmp .ge 20, 3) := by decide +kernel
theorem dX3_isComplete_12 : decode cX3_isComplete 12 = .ok (.iload_n 1, 1) := by decide +kernel
theorem dX3_isComplete_13 : decode cX3_isComplete 13 = .ok (.aload_n 0, 1) := by decide +kernel
theorem dX3_isComplete_14 : decode cX3_isComplete 14 = .ok (.getfield 9, 3) := by decide +kernel
theorem dX3_isComplete_17 : decode cX3_isComplete 17 = .ok (.iload_n 2, 1) := by decide +kernel
theorem dX3_isComplete_18 : decode cX3_isComplete 18 = .ok (.iaload, 1) := by decide +kernel
theorem dX3_isComplete_19 : decode cX3_isComplete 19 = .ok (.invokestatic 19, 3) := by decide +kernel
theorem dX3_isComplete_22 : decode cX3_isComplete 22 = .ok (.istore_n 1, 1) := by decide +kernel
theorem dX3_isComplete_23 : decode cX3_isComplete 23 = .ok (.iinc 2 1, 3) := by decide +kernel
theorem dX3_isComplete_26 : decode cX3_isComplete 26 = .ok (.goto (-22), 3) := by decide +kernel
theorem dX3_isComplete_29 : decode cX3_isComplete 29 = .ok (.iload_n 1, 1) := by decide +kernel
theorem dX3_isComplete_30 : decode cX3_isComplete 30 = .ok (.bipush 8, 2) := by decide +kernel
theorem dX3_isComplete_32 : decode cX3_isComplete 32 = .ok (.if_icmp .lt 7, 3) := by decide +kernel
theorem dX3_isComplete_35 : decode cX3_isComplete 35 = .ok (.iconst 1, 1) := by decide +kernel
theorem dX3_isComplete_36 : decode cX3_isComplete 36 = .ok (.goto 4, 3) := by decide +kernel
theorem dX3_isComplete_39 : decode cX3_isComplete 39 = .ok (.iconst 0, 1) := by decide +kernel
theorem dX3_isComplete_40 : decode cX3_isComplete 40 = .ok (.ireturn, 1) := by decide +kernel
theorem dX3_stateBehind_0 : decode cX3_stateBehind 0 = .ok (.iload_n 0, 1) := by decide +kernel
theorem dX3_stateBehind_1 : decode cX3_stateBehind 1 = .ok (.tableswitch 223 0 10 #[59, 64, 82, 94, 99, 117, 136, 161, 180, 202, 218], 59) := by decide +kernel
theorem dX3_stateBehind_60 : decode cX3_stateBehind 60 = .ok (.iload_n 1, 1) := by decide +kernel
theorem dX3_stateBehind_61 : decode cX3_stateBehind 61 = .ok (.invokestatic 23, 3) := by decide +kernel
theorem dX3_stateBehind_64 : decode cX3_stateBehind 64 = .ok (.ireturn, 1) := by decide +kernel
theorem dX3_stateBehind_65 : decode cX3_stateBehind 65 = .ok (.iload_n 1, 1) := by decide +kernel
theorem dX3_stateBehind_66 : decode cX3_stateBehind 66 = .ok (.bipush 48, 2) := by decide +kernel
theorem dX3_stateBehind_68 : decode cX3_stateBehind 68 = .ok (.if_icmp .lt 13, 3) := by decide +kernel
theorem dX3_stateBehind_71 : decode cX3_stateBehind 71 = .ok (.iload_n 1, 1) := by decide +kernel
theorem dX3_stateBehind_72 : decode cX3_stateBehind 72 = .ok (.bipush 54, 2) := by decide +kernel
theorem dX3_stateBehind_74 : decode cX3_stateBehind 74 = .ok (.if_icmp .gt 7, 3) := by decide +kernel
theorem dX3_stateBehind_77 : decode cX3_stateBehind 77 = .ok (.iconst 2, 1) := by decide +kernel
theorem dX3_stateBehind_78 : decode cX3_stateBehind 78 = .ok (.goto 4, 3) := by decide +kernel
theorem dX3_stateBehind_81 : decode cX3_stateBehind 81 = .ok (.iconst (-1), 1) := by decide +kernel
theorem dX3_stateBehind_82 : decode cX3_stateBehind 82 = .ok (.ireturn, 1) := by decide +kernel
theorem dX3_stateBehind_83 : decode cX3_stateBehind 83 = .ok (.iload_n 1, 1) := by decide +kernel
theorem dX3_stateBehind_84 : decode cX3_stateBehind 84 = .ok (.bipush 120, 2) := by decide +kernel
theorem dX3_stateBehind_86 : decode cX3_stateBehind 86 = .ok (.if_icmp .ne 7, 3) := by decide +kernel
theorem dX3_stateBehind_89 : decode cX3_stateBehind 89 = .ok (.iconst 3, 1) := by decide +kernel
theorem dX3_stateBehind_90 : decode cX3_stateBehind 90 = .ok (.goto 4, 3) := by decide +kernel
theorem dX3_stateBehind_93 : decode cX3_stateBehind 93 = .ok (.iconst (-1), 1) := by decide +kernel
theorem dX3_stateBehind_94 : decode cX3_stateBehind 94 = .ok (.ireturn, 1) := by decide +kernel
theorem dX3_stateBehind_95 : decode cX3_stateBehind 95 = .ok (.iload_n 1, 1) := by decide +kernel
theorem dX3_stateBehind_96 : decode cX3_stateBehind 96 = .ok (.invokestatic 27, 3) := by decide +kernel
theorem dX3_stateBehind_99 : decode cX3_stateBehind 99 = .ok (.ireturn, 1) := by decide +kernel
theorem dX3_stateBehind_100 : decode cX3_stateBehind 100 = .ok (.iload_n 1, 1) := by decide +kernel
theorem dX3_stateBehind_101 : decode cX3_stateBehind 101 = .ok (.bipush 48, 2) := by decide +kernel
theorem dX3_stateBehind_103 : decode cX3_stateBehind 103 = .ok (.if_icmp .lt 13, 3) := by decide +kernel
theorem dX3_stateBehind_106 : decode cX3_stateBehind 106 = .ok (.iload_n 1, 1) := by decide +kernel
theorem dX3_stateBehind_107 : decode cX3_stateBehind 107 = .ok (.bipush 55, 2) := by decide +kernel
theorem dX3_stateBehind_109 : decode cX3_stateBehind 109 = .ok (.if_icmp .gt 7, 3) := by decide +kernel
theorem dX3_stateBehind_112 : decode cX3_stateBehind 112 = .ok (.iconst 5, 1) := by decide +kernel
theorem dX3_stateBehind_113 : decode cX3_stateBehind 113 = .ok (.goto 4, 3) := by decide +kernel
theorem dX3_stateBehind_116 : decode cX3_stateBehind 116 = .ok (.iconst (-1), 1) := by decide +kernel
theorem dX3_stateBehind_117 : decode cX3_stateBehind 117 = .ok (.ireturn, 1) := by decide +kernel
theorem dX3_stateBehind_118 : decode cX3_stateBehind 118 = .ok (.iload_n 1, 1) := by decide +kernel
theorem dX3_stateBehind_119 : decode cX3_stateBehind 119 = .ok (.bipush 48, 2) := by decide +kernel
theorem dX3_stateBehind_121 : decode cX3_stateBehind 121 = .ok (.if_icmp .lt 14, 3) := by decide +kernel
theorem dX3_stateBehind_124 : decode cX3_stateBehind 124 = .ok (.iload_n 1, 1) := by decide +kernel
theorem dX3_stateBehind_125 : decode cX3_stateBehind 125 = .ok (.bipush 54, 2) := by decide +kernel
theorem dX3_stateBehind_127 : decode cX3_stateBehind 127 = .ok (.if_icmp .gt 8, 3) := by decide +kernel
theorem dX3_stateBehind_130 : decode cX3_stateBehind 130 = .ok (.bipush 6, 2) := by decide +kernel
theorem dX3_stateBehind_132 : decode cX3_stateBehind 132 = .ok (.goto 4, 3) := by decide +kernel
theorem dX3_stateBehind_135 : decode cX3_stateBehind 135 = .ok (.iconst (-1), 1) := by decide +kernel
theorem dX3_stateBehind_136 : decode cX3_stateBehind 136 = .ok (.ireturn, 1) := by decide +kernel
theorem dX3_stateBehind_137 : decode cX3_stateBehind 137 = .ok (.iload_n 1, 1) := by decide +kernel
theorem dX3_stateBehind_138 : decode cX3_stateBehind 138 = .ok (.bipush 60, 2) := by decide +kernel
theorem dX3_stateBehind_140 : decode cX3_stateBehind 140 = .ok (.if_icmp .eq 15, 3) := by decide +kernel
theorem dX3_stateBehind_143 : decode cX3_stateBehind 143 = .ok (.iload_n 1, 1) := by decide +kernel
theorem dX3_stateBehind_144 : decode cX3_stateBehind 144 = .ok (.bipush 124, 2) := by decide +kernel
theorem dX3_stateBehind_146 : decode cX3_stateBehind 146 = .ok (.if_icmp .eq 9, 3) := by decide +kernel
theorem dX3_stateBehind_149 : decode cX3_stateBehind 149 = .ok (.iload_n 1, 1) := by decide +kernel
theorem dX3_stateBehind_150 : decode cX3_stateBehind 150 = .ok (.bipush 62, 2) := by decide +kernel
theorem dX3_stateBehind_152 : decode cX3_stateBehind 152 = .ok (.if_icmp .ne 8, 3) := by decide +kernel
theorem dX3_stateBehind_155 : decode cX3_stateBehind 155 = .ok (.bipush 10, 2) := by decide +kernel
theorem dX3_stateBehind_157 : decode cX3_stateBehind 157 = .ok (.goto 4, 3) := by decide +kernel
theorem dX3_stateBehind_160 : decode cX3_stateBehind 160 = .ok (.iconst (-1), 1) := by decide +kernel
theorem dX3_stateBehind_161 : decode cX3_stateBehind 161 = .ok (.ireturn, 1) := by decide +kernel
theorem dX3_stateBehind_162 : decode cX3_stateBehind 162 = .ok (.iload_n 1, 1) := by decide +kernel
theorem dX3_stateBehind_163 : decode cX3_stateBehind 163 = .ok (.bipush 49, 2) := by decide +kernel
theorem dX3_stateBehind_165 : decode cX3_stateBehind 165 = .ok (.if_icmp .lt 14, 3) := by decide +kernel
theorem dX3_stateBehind_168 : decode cX3_stateBehind 168 = .ok (.iload_n 1, 1) := by decide +kernel
theorem dX3_stateBehind_169 : decode cX3_stateBehind 169 = .ok (.bipush 57, 2) := by decide +kernel
theorem dX3_stateBehind_171 : decode cX3_stateBehind 171 = .ok (.if_icmp .gt 8, 3) := by decide +kernel
theorem dX3_stateBehind_174 : decode cX3_stateBehind 174 = .ok (.bipush 8, 2) := by decide +kernel
theorem dX3_stateBehind_176 : decode cX3_stateBehind 176 = .ok (.goto 4, 3) := by decide +kernel
theorem dX3_stateBehind_179 : decode cX3_stateBehind 179 = .ok (.iconst (-1), 1) := by decide +kernel
theorem dX3_stateBehind_180 : decode cX3_stateBehind 180 = .ok (.ireturn, 1) := by decide +kernel
theorem dX3_stateBehind_181 : decode cX3_stateBehind 181 = .ok (.iload_n 1, 1) := by decide +kernel
theorem dX3_stateBehind_182 : decode cX3_stateBehind 182 = .ok (.bipush 48, 2) := by decide +kernel
theorem dX3_stateBehind_184 : decode cX3_stateBehind 184 = .ok (.if_icmp .lt 14, 3) := by decide +kernel
theorem dX3_stateBehind_187 : decode cX3_stateBehind 187 = .ok (.iload_n 1, 1) := by decide +kernel
theorem dX3_stateBehind_188 : decode cX3_stateBehind 188 = .ok (.bipush 57, 2) := by decide +kernel
theorem dX3_stateBehind_190 : decode cX3_stateBehind 190 = .ok (.if_icmp .gt 8, 3) := by decide +kernel
theorem dX3_stateBehind_193 : decode cX3_stateBehind 193 = .ok (.bipush 10, 2) := by decide +kernel
theorem dX3_stateBehind_195 : decode cX3_stateBehind 195 = .ok (.goto 7, 3) := by decide +kernel
theorem dX3_stateBehind_198 : decode cX3_stateBehind 198 = .ok (.iload_n 1, 1) := by decide +kernel
theorem dX3_stateBehind_199 : decode cX3_stateBehind 199 = .ok (.invokestatic 30, 3) := by decide +kernel
theorem dX3_stateBehind_202 : decode cX3_stateBehind 202 = .ok (.ireturn, 1) := by decide +kernel
theorem dX3_stateBehind_203 : decode cX3_stateBehind 203 = .ok (.iload_n 1, 1) := by decide +kernel
theorem dX3_stateBehind_204 : decode cX3_stateBehind 204 = .ok (.bipush 48, 2) := by decide +kernel
theorem dX3_stateBehind_206 : decode cX3_stateBehind 206 = .ok (.if_icmp .ne 8, 3) := by decide +kernel
theorem dX3_stateBehind_209 : decode cX3_stateBehind 209 = .ok (.bipush 10, 2) := by decide +kernel
theorem dX3_stateBehind_211 : decode cX3_stateBehind 211 = .ok (.goto 7, 3) := by decide +kernel
theorem dX3_stateBehind_214 : decode cX3_stateBehind 214 = .ok (.iload_n 1, 1) := by decide +kernel
theorem dX3_stateBehind_215 : decode cX3_stateBehind 215 = .ok (.invokestatic 30, 3) := by decide +kernel
theorem dX3_stateBehind_218 : decode cX3_stateBehind 218 = .ok (.ireturn, 1) := by decide +kernel
theorem dX3_stateBehind_219 : decode cX3_stateBehind 219 = .ok (.iload_n 1, 1) := by decide +kernel
theorem dX3_stateBehind_220 : decode cX3_stateBehind 220 = .ok (.invokestatic 30, 3) := by decide +kernel
theorem dX3_stateBehind_223 : decode cX3_stateBehind 223 = .ok (.ireturn, 1) := by decide +kernel
theorem dX3_stateBehind_224 : decode cX3_stateBehind 224 = .ok (.iconst (-1), 1) := by decide +kernel
theorem dX3_stateBehind_225 : decode cX3_stateBehind 225 = .ok (.ireturn, 1) := by decide +kernel
theorem dX3_stateBehindLetter_0 : decode cX3_stateBehindLetter 0 = .ok (.iload_n 0, 1) := by decide +kernel
theorem dX3_stateBehindLetter_1 : decode cX3_stateBehindLetter 1 = .ok (.lookupswitch 42 #[(36, 39), (98, 37), (108, 35)], 35) := by decide +kernel
theorem dX3_stateBehindLetter_36 : decode cX3_stateBehindLetter 36 = .ok (.iconst 1, 1) := by decide +kernel
theorem dX3_stateBehindLetter_37 : decode cX3_stateBehindLetter 37 = .ok (.ireturn, 1) := by decide +kernel
theorem dX3_stateBehindLetter_38 : decode cX3_stateBehindLetter 38 = .ok (.iconst 4, 1) := by decide +kernel
theorem dX3_stateBehindLetter_39 : decode cX3_stateBehindLetter 39 = .ok (.ireturn, 1) := by decide +kernel
theorem dX3_stateBehindLetter_40 : decode cX3_stateBehindLetter 40 = .ok (.bipush 7, 2) := by decide +kernel
theorem dX3_stateBehindLetter_42 : decode cX3_stateBehindLetter 42 = .ok (.ireturn, 1) := by decide +kernel
theorem dX3_stateBehindLetter_43 : decode cX3_stateBehindLetter 43 = .ok (.iconst (-1), 1) := by decide +kernel
theorem dX3_stateBehindLetter_44 : decode cX3_stateBehindLetter 44 = .ok (.ireturn, 1) := by decide +kernel
theorem dX3_stateBehindLaunchDigit_0 : decode cX3_stateBehindLaunchDigit 0 = .ok (.iload_n 0, 1) := by decide +kernel
theorem dX3_stateBehindLaunchDigit_1 : decode cX3_stateBehindLaunchDigit 1 = .ok (.bipush 49, 2) := by decide +kernel
theorem dX3_stateBehindLaunchDigit_3 : decode cX3_stateBehindLaunchDigit 3 = .ok (.if_icmp .eq 9, 3) := by decide +kernel
theorem dX3_stateBehindLaunchDigit_6 : decode cX3_stateBehindLaunchDigit 6 = .ok (.iload_n 0, 1) := by decide +kernel
theorem dX3_stateBehindLaunchDigit_7 : decode cX3_stateBehindLaunchDigit 7 = .ok (.bipush 50, 2) := by decide +kernel
theorem dX3_stateBehindLaunchDigit_9 : decode cX3_stateBehindLaunchDigit 9 = .ok (.if_icmp .ne 6, 3) := by decide +kernel
theorem dX3_stateBehindLaunchDigit_12 : decode cX3_stateBehindLaunchDigit 12 = .ok (.bipush 8, 2) := by decide +kernel
theorem dX3_stateBehindLaunchDigit_14 : decode cX3_stateBehindLaunchDigit 14 = .ok (.ireturn, 1) := by decide +kernel
theorem dX3_stateBehindLaunchDigit_15 : decode cX3_stateBehindLaunchDigit 15 = .ok (.iload_n 0, 1) := by decide +kernel
theorem dX3_stateBehindLaunchDigit_16 : decode cX3_stateBehindLaunchDigit 16 = .ok (.bipush 51, 2) := by decide +kernel
theorem dX3_stateBehindLaunchDigit_18 : decode cX3_stateBehindLaunchDigit 18 = .ok (.if_icmp .ne 6, 3) := by decide +kernel
theorem dX3_stateBehindLaunchDigit_21 : decode cX3_stateBehindLaunchDigit 21 = .ok (.bipush 9, 2) := by decide +kernel
theorem dX3_stateBehindLaunchDigit_23 : decode cX3_stateBehindLaunchDigit 23 = .ok (.ireturn, 1) := by decide +kernel
theorem dX3_stateBehindLaunchDigit_24 : decode cX3_stateBehindLaunchDigit 24 = .ok (.iload_n 0, 1) := by decide +kernel
theorem dX3_stateBehindLaunchDigit_25 : decode cX3_stateBehindLaunchDigit 25 = .ok (.bipush 52, 2) := by decide +kernel
theorem dX3_stateBehindLaunchDigit_27 : decode cX3_stateBehindLaunchDigit 27 = .ok (.if_icmp .lt 14, 3) := by decide +kernel
theorem dX3_stateBehindLaunchDigit_30 : decode cX3_stateBehindLaunchDigit 30 = .ok (.iload_n 0, 1) := by decide +kernel
theorem dX3_stateBehindLaunchDigit_31 : decode cX3_stateBehindLaunchDigit 31 = .ok (.bipush 57, 2) := by decide +kernel
theorem dX3_stateBehindLaunchDigit_33 : decode cX3_stateBehindLaunchDigit 33 = .ok (.if_icmp .gt 8, 3) := by decide +kernel
theorem dX3_stateBehindLaunchDigit_36 : decode cX3_stateBehindLaunchDigit 36 = .ok (.bipush 10, 2) := by decide +kernel
theorem dX3_stateBehindLaunchDigit_38 : decode cX3_stateBehindLaunchDigit 38 = .ok (.goto 4, 3) := by decide +kernel
theorem dX3_stateBehindLaunchDigit_41 : decode cX3_stateBehindLaunchDigit 41 = .ok (.iconst (-1), 1) := by decide +kernel
theorem dX3_stateBehindLaunchDigit_42 : decode cX3_stateBehindLaunchDigit 42 = .ok (.ireturn, 1) := by decide +kernel
theorem dX3_stateBehindEnd_0 : decode cX3_stateBehindEnd 0 = .ok (.iload_n 0, 1) := by decide +kernel
theorem dX3_stateBehindEnd_1 : decode cX3_stateBehindEnd 1 = .ok (.bipush 59, 2) := by decide +kernel
theorem dX3_stateBehindEnd_3 : decode cX3_stateBehindEnd 3 = .ok (.if_icmp .ne 7, 3) := by decide +kernel
theorem dX3_stateBehindEnd_6 : decode cX3_stateBehindEnd 6 = .ok (.iconst 0, 1) := by decide +kernel
theorem dX3_stateBehindEnd_7 : decode cX3_stateBehindEnd 7 = .ok (.goto 4, 3) := by decide +kernel
theorem dX3_stateBehindEnd_10 : decode cX3_stateBehindEnd 10 = .ok (.iconst (-1), 1) := by decide +kernel
theorem dX3_stateBehindEnd_11 : decode cX3_stateBehindEnd 11 = .ok (.ireturn, 1) := by decide +kernel
theorem dX3_codeAt_0 : decode cX3_codeAt 0 = .ok (.iload_n 1, 1) := by decide +kernel
theorem dX3_codeAt_1 : decode cX3_codeAt 1 = .ok (.ifCond .lt 20, 3) := by decide +kernel
theorem dX3_codeAt_4 : decode cX3_codeAt 4 = .ok (.iload_n 1, 1) := by decide +kernel
theorem dX3_codeAt_5 : decode cX3_codeAt 5 = .ok (.aload_n 0, 1) := by decide +kernel
theorem dX3_codeAt_6 : decode cX3_codeAt 6 = .ok (.getfield 15, 3) := by decide +kernel
theorem dX3_codeAt_9 : decode cX3_codeAt 9 = .ok (.if_icmp .ge 12, 3) := by decide +kernel
theorem dX3_codeAt_12 : decode cX3_codeAt 12 = .ok (.aload_n 0, 1) := by decide +kernel
theorem dX3_codeAt_13 : decode cX3_codeAt 13 = .ok (.getfield 9, 3) := by decide +kernel
theorem dX3_codeAt_16 : decode cX3_codeAt 16 = .ok (.iload_n 1, 1) := by decide +kernel
theorem dX3_codeAt_17 : decode cX3_codeAt 17 = .ok (.iaload, 1) := by decide +kernel
theorem dX3_codeAt_18 : decode cX3_codeAt 18 = .ok (.goto 4, 3) := by decide +kernel
theorem dX3_codeAt_21 : decode cX3_codeAt 21 = .ok (.iconst (-1), 1) := by decide +kernel
theorem dX3_codeAt_22 : decode cX3_codeAt 22 = .ok (.ireturn, 1) := by decide +kernel
theorem dX3_endsPart_0 : decode cX3_endsPart 0 = .ok (.iload_n 1, 1) := by decide +kernel
theorem dX3_endsPart_1 : decode cX3_endsPart 1 = .ok (.aload_n 0, 1) := by decide +kernel
theorem dX3_endsPart_2 : decode cX3_endsPart 2 = .ok (.getfield 15, 3) := by decide +kernel
theorem dX3_endsPart_5 : decode cX3_endsPart 5 = .ok (.if_icmp .eq 13, 3) := by decide +kernel
theorem dX3_endsPart_8 : decode cX3_endsPart 8 = .ok (.aload_n 0, 1) := by decide +kernel
theorem dX3_endsPart_9 : decode cX3_endsPart 9 = .ok (.iload_n 1, 1) := by decide +kernel
theorem dX3_endsPart_10 : decode cX3_endsPart 10 = .ok (.invokevirtual 33, 3) := by decide +kernel
theorem dX3_endsPart_13 : decode cX3_endsPart 13 = .ok (.bipush 59, 2) := by decide +kernel
theorem dX3_endsPart_15 : decode cX3_endsPart 15 = .ok (.if_icmp .ne 7, 3) := by decide +kernel
theorem dX3_endsPart_18 : decode cX3_endsPart 18 = .ok (.iconst 1, 1) := by decide +kernel
theorem dX3_endsPart_19 : decode cX3_endsPart 19 = .ok (.goto 4, 3) := by decide +kernel
theorem dX3_endsPart_22 : decode cX3_endsPart 22 = .ok (.iconst 0, 1) := by decide +kernel
theorem dX3_endsPart_23 : decode cX3_endsPart 23 = .ok (.ireturn, 1) := by decide +kernel
theorem dX3_digitBelow_0 : decode cX3_digitBelow 0 = .ok (.aload_n 0, 1) := by decide +kernel
theorem dX3_digitBelow_1 : decode cX3_digitBelow 1 = .ok (.iload_n 2, 1) := by decide +kernel
theorem dX3_digitBelow_2 : decode cX3_digitBelow 2 = .ok (.invokevirtual 33, 3) := by decide +kernel
theorem dX3_digitBelow_5 : decode cX3_digitBelow 5 = .ok (.bipush 48, 2) := by decide +kernel
theorem dX3_digitBelow_7 : decode cX3_digitBelow 7 = .ok (.isub, 1) := by decide +kernel
theorem dX3_digitBelow_8 : decode cX3_digitBelow 8 = .ok (.istore_n 3, 1) := by decide +kernel
theorem dX3_digitBelow_9 : decode cX3_digitBelow 9 = .ok (.iload_n 3, 1) := by decide +kernel
theorem dX3_digitBelow_10 : decode cX3_digitBelow 10 = .ok (.ifCond .lt 12, 3) := by decide +kernel
theorem dX3_digitBelow_13 : decode cX3_digitBelow 13 = .ok (.iload_n 3, 1) := by decide +kernel
theorem dX3_digitBelow_14 : decode cX3_digitBelow 14 = .ok (.iload_n 1, 1) := by decide +kernel
theorem dX3_digitBelow_15 : decode cX3_digitBelow 15 = .ok (.if_icmp .ge 7, 3) := by decide +kernel
theorem dX3_digitBelow_18 : decode cX3_digitBelow 18 = .ok (.iload_n 3, 1) := by decide +kernel
theorem dX3_digitBelow_19 : decode cX3_digitBelow 19 = .ok (.goto 4, 3) := by decide +kernel
theorem dX3_digitBelow_22 : decode cX3_digitBelow 22 = .ok (.iconst 0, 1) := by decide +kernel
theorem dX3_digitBelow_23 : decode cX3_digitBelow 23 = .ok (.ireturn, 1) := by decide +kernel
theorem dX3_numberIn_0 : decode cX3_numberIn 0 = .ok (.iconst 0, 1) := by decide +kernel
theorem dX3_numberIn_1 : decode cX3_numberIn 1 = .ok (.istore_n 3, 1) := by decide +kernel
theorem dX3_numberIn_2 : decode cX3_numberIn 2 = .ok (.iload_n 1, 1) := by decide +kernel
theorem dX3_numberIn_3 : decode cX3_numberIn 3 = .ok (.istore 4, 2) := by decide +kernel
theorem dX3_numberIn_5 : decode cX3_numberIn 5 = .ok (.iload 4, 2) := by decide +kernel
theorem dX3_numberIn_7 : decode cX3_numberIn 7 = .ok (.iload_n 2, 1) := by decide +kernel
theorem dX3_numberIn_8 : decode cX3_numberIn 8 = .ok (.if_icmp .ge 23, 3) := by decide +kernel
theorem dX3_numberIn_11 : decode cX3_numberIn 11 = .ok (.bipush 10, 2) := by decide +kernel
theorem dX3_numberIn_13 : decode cX3_numberIn 13 = .ok (.iload_n 3, 1) := by decide +kernel
theorem dX3_numberIn_14 : decode cX3_numberIn 14 = .ok (.imul, 1) := by decide +kernel
theorem dX3_numberIn_15 : decode cX3_numberIn 15 = .ok (.aload_n 0, 1) := by decide +kernel
theorem dX3_numberIn_16 : decode cX3_numberIn 16 = .ok (.bipush 10, 2) := by decide +kernel
theorem dX3_numberIn_18 : decode cX3_numberIn 18 = .ok (.iload 4, 2) := by decide +kernel
theorem dX3_numberIn_20 : decode cX3_numberIn 20 = .ok (.invokevirtual 36, 3) := by decide +kernel
theorem dX3_numberIn_23 : decode cX3_numberIn 23 = .ok (.iadd, 1) := by decide +kernel
theorem dX3_numberIn_24 : decode cX3_numberIn 24 = .ok (.istore_n 3, 1) := by decide +kernel
theorem dX3_numberIn_25 : decode cX3_numberIn 25 = .ok (.iinc 4 1, 3) := by decide +kernel
theorem dX3_numberIn_28 : decode cX3_numberIn 28 = .ok (.goto (-23), 3) := by decide +kernel
theorem dX3_numberIn_31 : decode cX3_numberIn 31 = .ok (.iload_n 3, 1) := by decide +kernel
theorem dX3_numberIn_32 : decode cX3_numberIn 32 = .ok (.ireturn, 1) := by decide +kernel
theorem dX3_bendAt_0 : decode cX3_bendAt 0 = .ok (.aload_n 0, 1) := by decide +kernel
theorem dX3_bendAt_1 : decode cX3_bendAt 1 = .ok (.iload_n 1, 1) := by decide +kernel
theorem dX3_bendAt_2 : decode cX3_bendAt 2 = .ok (.invokevirtual 33, 3) := by decide +kernel
theorem dX3_bendAt_5 : decode cX3_bendAt 5 = .ok (.lookupswitch 31 #[(60, 27), (62, 29)], 27) := by decide +kernel
theorem dX3_bendAt_32 : decode cX3_bendAt 32 = .ok (.iconst (-1), 1) := by decide +kernel
theorem dX3_bendAt_33 : decode cX3_bendAt 33 = .ok (.ireturn, 1) := by decide +kernel
theorem dX3_bendAt_34 : decode cX3_bendAt 34 = .ok (.iconst 1, 1) := by decide +kernel
theorem dX3_bendAt_35 : decode cX3_bendAt 35 = .ok (.ireturn, 1) := by decide +kernel
theorem dX3_bendAt_36 : decode cX3_bendAt 36 = .ok (.iconst 0, 1) := by decide +kernel
theorem dX3_bendAt_37 : decode cX3_bendAt 37 = .ok (.ireturn, 1) := by decide +kernel
theorem dX4_init_0 : decode cX4_init 0 = .ok (.aload_n 0, 1) := by decide +kernel
theorem dX4_init_1 : decode cX4_init 1 = .ok (.invokespecial 3, 3) := by decide +kernel
theorem dX4_init_4 : decode cX4_init 4 = .ok (.aload_n 0, 1) := by decide +kernel
theorem dX4_init_5 : decode cX4_init 5 = .ok (.new 9, 3) := by decide +kernel
theorem dX4_init_8 : decode cX4_init 8 = .ok (.dup, 1) := by decide +kernel
theorem dX4_init_9 : decode cX4_init 9 = .ok (.invokespecial 11, 3) := by decide +kernel
theorem dX4_init_12 : decode cX4_init 12 = .ok (.putfield 12, 3) := by decide +kernel
theorem dX4_init_15 : decode cX4_init 15 = .ok (.aload_n 0, 1) := by decide +kernel
theorem dX4_init_16 : decode cX4_init 16 = .ok (.new 9, 3) := by decide +kernel
theorem dX4_init_19 : decode cX4_init 19 = .ok (.dup, 1) := by decide +kernel
theorem dX4_init_20 : decode cX4_init 20 = .ok (.invokespecial 11, 3) := by decide +kernel
theorem dX4_init_23 : decode cX4_init 23 = .ok (.putfield 16, 3) := by decide +kernel
theorem dX4_init_26 : decode cX4_init 26 = .ok (.aload_n 0, 1) := by decide +kernel
theorem dX4_init_27 : decode cX4_init 27 = .ok (.new 19, 3) := by decide +kernel
theorem dX4_init_30 : decode cX4_init 30 = .ok (.dup, 1) := by decide +kernel
theorem dX4_init_31 : decode cX4_init 31 = .ok (.invokespecial 21, 3) := by decide +kernel
theorem dX4_init_34 : decode cX4_init 34 = .ok (.putfield 22, 3) := by decide +kernel
theorem dX4_init_37 : decode cX4_init 37 = .ok (.aload_n 0, 1) := by decide +kernel
theorem dX4_init_38 : decode cX4_init 38 = .ok (.new 26, 3) := by decide +kernel
theorem dX4_init_41 : decode cX4_init 41 = .ok (.dup, 1) := by decide +kernel
theorem dX4_init_42 : decode cX4_init 42 = .ok (.invokespecial 28, 3) := by decide +kernel
theorem dX4_init_45 : decode cX4_init 45 = .ok (.putfield 29, 3) := by decide +kernel
theorem dX4_init_48 : decode cX4_init 48 = .ok (.aload_n 0, 1) := by decide +kernel
theorem dX4_init_49 : decode cX4_init 49 = .ok (.new 33, 3) := by decide +kernel
theorem dX4_init_52 : decode cX4_init 52 = .ok (.dup, 1) := by decide +kernel
theorem dX4_init_53 : decode cX4_init 53 = .ok (.invokespecial 35, 3) := by decide +kernel
theorem dX4_init_56 : decode cX4_init 56 = .ok (.putfield 36, 3) := by decide +kernel
theorem dX4_init_59 : decode cX4_init 59 = .ok (.aload_n 0, 1) := by decide +kernel
theorem dX4_init_60 : decode cX4_init 60 = .ok (.aconst_null, 1) := by decide +kernel
theorem dX4_init_61 : decode cX4_init 61 = .ok (.putfield 40, 3) := by decide +kernel
theorem dX4_init_64 : decode cX4_init 64 = .ok (.return_, 1) := by decide +kernel
theorem dX4_bend_0 : decode cX4_bend 0 = .ok (.iload_n 1, 1) := by decide +kernel
theorem dX4_bend_1 : decode cX4_bend 1 = .ok (.bipush 8, 2) := by decide +kernel
theorem dX4_bend_3 : decode cX4_bend 3 = .ok (.invokestatic 43, 3) := by decide +kernel
theorem dX4_bend_6 : decode cX4_bend 6 = .ok (.iload_n 2, 1) := by decide +kernel
theorem dX4_bend_7 : decode cX4_bend 7 = .ok (.bipush 7, 2) := by decide +kernel
theorem dX4_bend_9 : decode cX4_bend 9 = .ok (.invokestatic 43, 3) := by decide +kernel
theorem dX4_bend_12 : decode cX4_bend 12 = .ok (.iload_n 3, 1) := by decide +kernel
theorem dX4_bend_13 : decode cX4_bend 13 = .ok (.iconst (-1), 1) := by decide +kernel
theorem dX4_bend_14 : decode cX4_bend 14 = .ok (.iconst 1, 1) := by decide +kernel
theorem dX4_bend_15 : decode cX4_bend 15 = .ok (.invokestatic 47, 3) := by decide +kernel
theorem dX4_bend_18 : decode cX4_bend 18 = .ok (.aload_n 0, 1) := by decide +kernel
theorem dX4_bend_19 : decode cX4_bend 19 = .ok (.getfield 22, 3) := by decide +kernel
theorem dX4_bend_22 : decode cX4_bend 22 = .ok (.aload_n 0, 1) := by decide +kernel
theorem dX4_bend_23 : decode cX4_bend 23 = .ok (.getfield 12, 3) := by decide +kernel
theorem dX4_bend_26 : decode cX4_bend 26 = .ok (.invokevirtual 51, 3) := by decide +kernel
theorem dX4_bend_29 : decode cX4_bend 29 = .ok (.aload_n 0, 1) := by decide +kernel
theorem dX4_bend_30 : decode cX4_bend 30 = .ok (.getfield 12, 3) := by decide +kernel
theorem dX4_bend_33 : decode cX4_bend 33 = .ok (.iload_n 1, 1) := by decide +kernel
theorem dX4_bend_34 : decode cX4_bend 34 = .ok (.bipush 7, 2) := by decide +kernel
theorem dX4_bend_36 : decode cX4_bend 36 = .ok (.imul, 1) := by decide +kernel
theorem dX4_bend_37 : decode cX4_bend 37 = .ok (.iload_n 2, 1) := by decide +kernel
theorem dX4_bend_38 : decode cX4_bend 38 = .ok (.iadd, 1) := by decide +kernel
theorem dX4_bend_39 : decode cX4_bend 39 = .ok (.iload_n 3, 1) := by decide +kernel
theorem dX4_bend_40 : decode cX4_bend 40 = .ok (.invokevirtual 55, 3) := by decide +kernel
theorem dX4_bend_43 : decode cX4_bend 43 = .ok (.iconst 1, 1) := by decide +kernel
theorem dX4_bend_44 : decode cX4_bend 44 = .ok (.iadd, 1) := by decide +kernel
theorem dX4_bend_45 : decode cX4_bend 45 = .ok (.ireturn, 1) := by decide +kernel
theorem dX4_pocket_0 : decode cX4_pocket 0 = .ok (.iload_n 1, 1) := by decide +kernel
theorem dX4_pocket_1 : decode cX4_pocket 1 = .ok (.bipush 7, 2) := by decide +kernel
theorem dX4_pocket_3 : decode cX4_pocket 3 = .ok (.invokestatic 43, 3) := by decide +kernel
theorem dX4_pocket_6 : decode cX4_pocket 6 = .ok (.iload_n 2, 1) := by decide +kernel
theorem dX4_pocket_7 : decode cX4_pocket 7 = .ok (.iconst 0, 1) := by decide +kernel
theorem dX4_pocket_8 : decode cX4_pocket 8 = .ok (.iconst 2, 1) := by decide +kernel
theorem dX4_pocket_9 : decode cX4_pocket 9 = .ok (.invokestatic 47, 3) := by decide +kernel
theorem dX4_pocket_12 : decode cX4_pocket 12 = .ok (.iload_n 3, 1) := by decide +kernel
theorem dX4_pocket_13 : decode cX4_pocket 13 = .ok (.iconst 0, 1) := by decide +kernel
theorem dX4_pocket_14 : decode cX4_pocket 14 = .ok (.bipush 15, 2) := by decide +kernel
theorem dX4_pocket_16 : decode cX4_pocket 16 = .ok (.invokestatic 47, 3) := by decide +kernel
theorem dX4_pocket_19 : decode cX4_pocket 19 = .ok (.aload_n 0, 1) := by decide +kernel
theorem dX4_pocket_20 : decode cX4_pocket 20 = .ok (.getfield 22, 3) := by decide +kernel
theorem dX4_pocket_23 : decode cX4_pocket 23 = .ok (.aload_n 0, 1) := by decide +kernel
theorem dX4_pocket_24 : decode cX4_pocket 24 = .ok (.getfield 12, 3) := by decide +kernel
theorem dX4_pocket_27 : decode cX4_pocket 27 = .ok (.invokevirtual 51, 3) := by decide +kernel
theorem dX4_pocket_30 : decode cX4_pocket 30 = .ok (.aload_n 0, 1) := by decide +kernel
theorem dX4_pocket_31 : decode cX4_pocket 31 = .ok (.getfield 12, 3) := by decide +kernel
theorem dX4_pocket_34 : decode cX4_pocket 34 = .ok (.iload_n 1, 1) := by decide +kernel
theorem dX4_pocket_35 : decode cX4_pocket 35 = .ok (.iload_n 2, 1) := by decide +kernel
theorem dX4_pocket_36 : decode cX4_pocket 36 = .ok (.iload_n 3, 1) := by decide +kernel
theorem dX4_pocket_37 : decode cX4_pocket 37 = .ok (.invokevirtual 59, 3) := by decide +kernel
theorem dX4_pocket_40 : decode cX4_pocket 40 = .ok (.ireturn, 1) := by decide +kernel
theorem dX4_start_0 : decode cX4_start 0 = .ok (.iload_n 1, 1) := by decide +kernel
theorem dX4_start_1 : decode cX4_start 1 = .ok (.bipush 7, 2) := by decide +kernel
theorem dX4_start_3 : decode cX4_start 3 = .ok (.invokestatic 43, 3) := by decide +kernel
theorem dX4_start_6 : decode cX4_start 6 = .ok (.aload_n 0, 1) := by decide +kernel
theorem dX4_start_7 : decode cX4_start 7 = .ok (.getfield 22, 3) := by decide +kernel
theorem dX4_start_10 : decode cX4_start 10 = .ok (.aload_n 0, 1) := by decide +kernel
theorem dX4_start_11 : decode cX4_start 11 = .ok (.getfield 12, 3) := by decide +kernel
theorem dX4_start_14 : decode cX4_start 14 = .ok (.invokevirtual 51, 3) := by decide +kernel
theorem dX4_start_17 : decode cX4_start 17 = .ok (.aload_n 0, 1) := by decide +kernel
theorem dX4_start_18 : decode cX4_start 18 = .ok (.getfield 12, 3) := by decide +kernel
theorem dX4_start_21 : decode cX4_start 21 = .ok (.bipush 12, 2) := by decide +kernel
theorem dX4_start_23 : decode cX4_start 23 = .ok (.iload_n 1, 1) := by decide +kernel
theorem dX4_start_24 : decode cX4_start 24 = .ok (.invokevirtual 63, 3) := by decide +kernel
theorem dX4_start_27 : decode cX4_start 27 = .ok (.ireturn, 1) := by decide +kernel
theorem dX4_set_0 : decode cX4_set 0 = .ok (.iload_n 1, 1) := by decide +kernel
theorem dX4_set_1 : decode cX4_set 1 = .ok (.iconst 2, 1) := by decide +kernel
theorem dX4_set_2 : decode cX4_set 2 = .ok (.invokestatic 43, 3) := by decide +kernel
theorem dX4_set_5 : decode cX4_set 5 = .ok (.iload_n 1, 1) := by decide +kernel
theorem dX4_set_6 : decode cX4_set 6 = .ok (.ifCond .ne 13, 3) := by decide +kernel
theorem dX4_set_9 : decode cX4_set 9 = .ok (.iload_n 2, 1) := by decide +kernel
theorem dX4_set_10 : decode cX4_set 10 = .ok (.iconst 1, 1) := by decide +kernel
theorem dX4_set_11 : decode cX4_set 11 = .ok (.bipush 10, 2) := by decide +kernel
theorem dX4_set_13 : decode cX4_set 13 = .ok (.invokestatic 47, 3) := by decide +kernel
theorem dX4_set_16 : decode cX4_set 16 = .ok (.goto 10, 3) := by decide +kernel
theorem dX4_set_19 : decode cX4_set 19 = .ok (.iload_n 2, 1) := by decide +kernel
theorem dX4_set_20 : decode cX4_set 20 = .ok (.iconst 0, 1) := by decide +kernel
theorem dX4_set_21 : decode cX4_set 21 = .ok (.bipush 20, 2) := by decide +kernel
theorem dX4_set_23 : decode cX4_set 23 = .ok (.invokestatic 47, 3) := by decide +kernel
theorem dX4_set_26 : decode cX4_set 26 = .ok (.aload_n 0, 1) := by decide +kernel
theorem dX4_set_27 : decode cX4_set 27 = .ok (.getfield 22, 3) := by decide +kernel
theorem dX4_set_30 : decode cX4_set 30 = .ok (.aload_n 0, 1) := by decide +kernel
theorem dX4_set_31 : decode cX4_set 31 = .ok (.getfield 12, 3) := by decide +kernel
theorem dX4_set_34 : decode cX4_set 34 = .ok (.invokevirtual 51, 3) := by decide +kernel
theorem dX4_set_37 : decode cX4_set 37 = .ok (.aload_n 0, 1) := by decide +kernel
theorem dX4_set_38 : decode cX4_set 38 = .ok (.getfield 12, 3) := by decide +kernel
theorem dX4_set_41 : decode cX4_set 41 = .ok (.bipush 14, 2) := by decide +kernel
theorem dX4_set_43 : decode cX4_set 43 = .ok (.iload_n 1, 1) := by decide +kernel
theorem dX4_set_44 : decode cX4_set 44 = .ok (.iadd, 1) := by decide +kernel
theorem dX4_set_45 : decode cX4_set 45 = .ok (.iload_n 2, 1) := by decide +kernel
theorem dX4_set_46 : decode cX4_set 46 = .ok (.invokevirtual 63, 3) := by decide +kernel
theorem dX4_set_49 : decode cX4_set 49 = .ok (.ireturn, 1) := by decide +kernel
theorem dX4_shuffle_0 : decode cX4_shuffle 0 = .ok (.iload_n 1, 1) := by decide +kernel
theorem dX4_shuffle_1 : decode cX4_shuffle 1 = .ok (.iconst 0, 1) := by decide +kernel
theorem dX4_shuffle_2 : decode cX4_shuffle 2 = .ok (.ldc 66, 2) := by decide +kernel
theorem dX4_shuffle_4 : decode cX4_shuffle 4 = .ok (.invokestatic 47, 3) := by decide +kernel
theorem dX4_shuffle_7 : decode cX4_shuffle 7 = .ok (.aload_n 0, 1) := by decide +kernel
theorem dX4_shuffle_8 : decode cX4_shuffle 8 = .ok (.getfield 22, 3) := by decide +kernel
theorem dX4_shuffle_11 : decode cX4_shuffle 11 = .ok (.aload_n 0, 1) := by decide +kernel
theorem dX4_shuffle_12 : decode cX4_shuffle 12 = .ok (.getfield 12, 3) := by decide +kernel
theorem dX4_shuffle_15 : decode cX4_shuffle 15 = .ok (.invokevirtual 51, 3) := by decide +kernel
theorem dX4_shuffle_18 : decode cX4_shuffle 18 = .ok (.aload_n 0, 1) := by decide +kernel
theorem dX4_shuffle_19 : decode cX4_shuffle 19 = .ok (.getfield 12, 3) := by decide +kernel
theorem dX4_shuffle_22 : decode cX4_shuffle 22 = .ok (.bipush 13, 2) := by decide +kernel
theorem dX4_shuffle_24 : decode cX4_shuffle 24 = .ok (.iload_n 1, 1) := by decide +kernel
theorem dX4_shuffle_25 : decode cX4_shuffle 25 = .ok (.invokevirtual 63, 3) := by decide +kernel
theorem dX4_shuffle_28 : decode cX4_shuffle 28 = .ok (.ireturn, 1) := by decide +kernel
theorem dX4_buy_0 : decode cX4_buy 0 = .ok (.iload_n 1, 1) := by decide +kernel
theorem dX4_buy_1 : decode cX4_buy 1 = .ok (.iconst 1, 1) := by decide +kernel
theorem dX4_buy_2 : decode cX4_buy 2 = .ok (.bipush 99, 2) := by decide +kernel
theorem dX4_buy_4 : decode cX4_buy 4 = .ok (.invokestatic 47, 3) := by decide +kernel
theorem dX4_buy_7 : decode cX4_buy 7 = .ok (.aload_n 0, 1) := by decide +kernel
theorem dX4_buy_8 : decode cX4_buy 8 = .ok (.getfield 22, 3) := by decide +kernel
theorem dX4_buy_11 : decode cX4_buy 11 = .ok (.aload_n 0, 1) := by decide +kernel
theorem dX4_buy_12 : decode cX4_buy 12 = .ok (.getfield 12, 3) := by decide +kernel
theorem dX4_buy_15 : decode cX4_buy 15 = .ok (.invokevirtual 51, 3) := by decide +kernel
theorem dX4_buy_18 : decode cX4_buy 18 = .ok (.aload_n 0, 1) := by decide +kernel
theorem dX4_buy_19 : decode cX4_buy 19 = .ok (.getfield 12, 3) := by decide +kernel
theorem dX4_buy_22 : decode cX4_buy 22 = .ok (.iload_n 1, 1) := by decide +kernel
theorem dX4_buy_23 : decode cX4_buy 23 = .ok (.invokevirtual 67, 3) := by decide +kernel
theorem dX4_buy_26 : decode cX4_buy 26 = .ok (.aload_n 0, 1) := by decide +kernel
theorem dX4_buy_27 : decode cX4_buy 27 = .ok (.getfield 12, 3) := by decide +kernel
theorem dX4_buy_30 : decode cX4_buy 30 = .ok (.getfield 71, 3) := by decide +kernel
theorem dX4_buy_33 : decode cX4_buy 33 = .ok (.iconst 0, 1) := by decide +kernel
theorem dX4_buy_34 : decode cX4_buy 34 = .ok (.iaload, 1) := by decide +kernel
theorem dX4_buy_35 : decode cX4_buy 35 = .ok (.ireturn, 1) := by decide +kernel
theorem dX4_launch_0 : decode cX4_launch 0 = .ok (.iload_n 1, 1) := by decide +kernel
theorem dX4_launch_1 : decode cX4_launch 1 = .ok (.bipush 7, 2) := by decide +kernel
theorem dX4_launch_3 : decode cX4_launch 3 = .ok (.invokestatic 43, 3) := by decide +kernel
theorem dX4_launch_6 : decode cX4_launch 6 = .ok (.aload_n 0, 1) := by decide +kernel
theorem dX4_launch_7 : decode cX4_launch 7 = .ok (.getfield 12, 3) := by decide +kernel
theorem dX4_launch_10 : decode cX4_launch 10 = .ok (.getfield 71, 3) := by decide +kernel
theorem dX4_launch_13 : decode cX4_launch 13 = .ok (.iconst 0, 1) := by decide +kernel
theorem dX4_launch_14 : decode cX4_launch 14 = .ok (.iaload, 1) := by decide +kernel
theorem dX4_launch_15 : decode cX4_launch 15 = .ok (.ifCond .ne 13, 3) := by decide +kernel
theorem dX4_launch_18 : decode cX4_launch 18 = .ok (.new 75, 3) := by decide +kernel
theorem dX4_launch_21 : decode cX4_launch 21 = .ok (.dup, 1) := by decide +kernel
theorem dX4_launch_22 : decode cX4_launch 22 = .ok (.ldc 77, 2) := by decide +kernel
theorem dX4_launch_24 : decode cX4_launch 24 = .ok (.invokespecial 79, 3) := by decide +kernel
theorem dX4_launch_27 : decode cX4_launch 27 = .ok (.athrow, 1) := by decide +kernel
theorem dX4_launch_28 : decode cX4_launch 28 = .ok (.aload_n 0, 1) := by decide +kernel
theorem dX4_launch_29 : decode cX4_launch 29 = .ok (.getfield 22, 3) := by decide +kernel
theorem dX4_launch_32 : decode cX4_launch 32 = .ok (.aload_n 0, 1) := by decide +kernel
theorem dX4_launch_33 : decode cX4_launch 33 = .ok (.getfield 12, 3) := by decide +kernel
theorem dX4_launch_36 : decode cX4_launch 36 = .ok (.invokevirtual 51, 3) := by decide +kernel
theorem dX4_launch_39 : decode cX4_launch 39 = .ok (.aload_n 0, 1) := by decide +kernel
theorem dX4_launch_40 : decode cX4_launch 40 = .ok (.getfield 12, 3) := by decide +kernel
theorem dX4_launch_43 : decode cX4_launch 43 = .ok (.iload_n 1, 1) := by decide +kernel
theorem dX4_launch_44 : decode cX4_launch 44 = .ok (.invokevirtual 82, 3) := by decide +kernel
theorem dX4_launch_47 : decode cX4_launch 47 = .ok (.pop, 1) := by decide +kernel
theorem dX4_launch_48 : decode cX4_launch 48 = .ok (.aload_n 0, 1) := by decide +kernel
theorem dX4_launch_49 : decode cX4_launch 49 = .ok (.getfield 12, 3) := by decide +kernel
theorem dX4_launch_52 : decode cX4_launch 52 = .ok (.getfield 71, 3) := by decide +kernel
theorem dX4_launch_55 : decode cX4_launch 55 = .ok (.bipush 11, 2) := by decide +kernel
theorem dX4_launch_57 : decode cX4_launch 57 = .ok (.iaload, 1) := by decide +kernel
theorem dX4_launch_58 : decode cX4_launch 58 = .ok (.ireturn, 1) := by decide +kernel
theorem dX4_play_0 : decode cX4_play 0 = .ok (.iload_n 1, 1) := by decide +kernel
theorem dX4_play_1 : decode cX4_play 1 = .ok (.bipush 7, 2) := by decide +kernel
theorem dX4_play_3 : decode cX4_play 3 = .ok (.invokestatic 43, 3) := by decide +kernel
theorem dX4_play_6 : decode cX4_play 6 = .ok (.iload_n 2, 1) := by decide +kernel
theorem dX4_play_7 : decode cX4_play 7 = .ok (.iconst 1, 1) := by decide +kernel
theorem dX4_play_8 : decode cX4_play 8 = .ok (.bipush 30, 2) := by decide +kernel
theorem dX4_play_10 : decode cX4_play 10 = .ok (.invokestatic 47, 3) := by decide +kernel
theorem dX4_play_13 : decode cX4_play 13 = .ok (.aload_n 0, 1) := by decide +kernel
theorem dX4_play_14 : decode cX4_play 14 = .ok (.getfield 22, 3) := by decide +kernel
theorem dX4_play_17 : decode cX4_play 17 = .ok (.aload_n 0, 1) := by decide +kernel
theorem dX4_play_18 : decode cX4_play 18 = .ok (.getfield 12, 3) := by decide +kernel
theorem dX4_play_21 : decode cX4_play 21 = .ok (.invokevirtual 51, 3) := by decide +kernel
theorem dX4_play_24 : decode cX4_play 24 = .ok (.aload_n 0, 1) := by decide +kernel
theorem dX4_play_25 : decode cX4_play 25 = .ok (.getfield 12, 3) := by decide +kernel
theorem dX4_play_28 : decode cX4_play 28 = .ok (.iload_n 1, 1) := by decide +kernel
theorem dX4_play_29 : decode cX4_play 29 = .ok (.iload_n 2, 1) := by decide +kernel
theorem dX4_play_30 : decode cX4_play 30 = .ok (.invokevirtual 86, 3) := by decide +kernel
theorem dX4_play_33 : decode cX4_play 33 = .ok (.ireturn, 1) := by decide +kernel
theorem dX4_append_0 : decode cX4_append 0 = .ok (.iload_n 1, 1) := by decide +kernel
theorem dX4_append_1 : decode cX4_append 1 = .ok (.bipush 33, 2) := by decide +kernel
theorem dX4_append_3 : decode cX4_append 3 = .ok (.bipush 126, 2) := by decide +kernel
theorem dX4_append_5 : decode cX4_append 5 = .ok (.invokestatic 47, 3) := by decide +kernel
theorem dX4_append_8 : decode cX4_append 8 = .ok (.aload_n 0, 1) := by decide +kernel
theorem dX4_append_9 : decode cX4_append 9 = .ok (.getfield 29, 3) := by decide +kernel
theorem dX4_append_12 : decode cX4_append 12 = .ok (.iload_n 1, 1) := by decide +kernel
theorem dX4_append_13 : decode cX4_append 13 = .ok (.invokevirtual 89, 3) := by decide +kernel
theorem dX4_append_16 : decode cX4_append 16 = .ok (.ifCond .ne 13, 3) := by decide +kernel
theorem dX4_append_19 : decode cX4_append 19 = .ok (.new 75, 3) := by decide +kernel
theorem dX4_append_22 : decode cX4_append 22 = .ok (.dup, 1) := by decide +kernel
theorem dX4_append_23 : decode cX4_append 23 = .ok (.ldc 93, 2) := by decide +kernel
theorem dX4_append_25 : decode cX4_append 25 = .ok (.invokespecial 79, 3) := by decide +kernel
theorem dX4_append_28 : decode cX4_append 28 = .ok (.athrow, 1) := by decide +kernel
theorem dX4_append_29 : decode cX4_append 29 = .ok (.aload_n 0, 1) := by decide +kernel
theorem dX4_append_30 : decode cX4_append 30 = .ok (.getfield 29, 3) := by decide +kernel
theorem dX4_append_33 : decode cX4_append 33 = .ok (.getfield 95, 3) := by decide +kernel
theorem dX4_append_36 : decode cX4_append 36 = .ok (.ireturn, 1) := by decide +kernel
theorem dX4_clearBuffer_0 : decode cX4_clearBuffer 0 = .ok (.aload_n 0, 1) := by decide +kernel
theorem dX4_clearBuffer_1 : decode cX4_clearBuffer 1 = .ok (.getfield 29, 3) := by decide +kernel
theorem dX4_clearBuffer_4 : decode cX4_clearBuffer 4 = .ok (.invokevirtual 99, 3) := by decide +kernel
theorem dX4_clearBuffer_7 : decode cX4_clearBuffer 7 = .ok (.ireturn, 1) := by decide +kernel
theorem dX4_firstError_0 : decode cX4_firstError 0 = .ok (.aload_n 0, 1) := by decide +kernel
theorem dX4_firstError_1 : decode cX4_firstError 1 = .ok (.getfield 29, 3) := by decide +kernel
theorem dX4_firstError_4 : decode cX4_firstError 4 = .ok (.invokevirtual 103, 3) := by decide +kernel
theorem dX4_firstError_7 : decode cX4_firstError 7 = .ok (.ireturn, 1) := by decide +kernel
theorem dX4_work_0 : decode cX4_work 0 = .ok (.aload_n 0, 1) := by decide +kernel
theorem dX4_work_1 : decode cX4_work 1 = .ok (.getfield 29, 3) := by decide +kernel
theorem dX4_work_4 : decode cX4_work 4 = .ok (.invokevirtual 106, 3) := by decide +kernel
theorem dX4_work_7 : decode cX4_work 7 = .ok (.ifCond .ne 13, 3) := by decide +kernel
theorem dX4_work_10 : decode cX4_work 10 = .ok (.new 110, 3) := by decide +kernel
theorem dX4_work_13 : decode cX4_work 13 = .ok (.dup, 1) := by decide +kernel
theorem dX4_work_14 : decode cX4_work 14 = .ok (.ldc 112, 2) := by decide +kernel
theorem dX4_work_16 : decode cX4_work 16 = .ok (.invokespecial 114, 3) := by decide +kernel
theorem dX4_work_19 : decode cX4_work 19 = .ok (.athrow, 1) := by decide +kernel
theorem dX4_work_20 : decode cX4_work 20 = .ok (.aload_n 0, 1) := by decide +kernel
theorem dX4_work_21 : decode cX4_work 21 = .ok (.getfield 22, 3) := by decide +kernel
theorem dX4_work_24 : decode cX4_work 24 = .ok (.aload_n 0, 1) := by decide +kernel
theorem dX4_work_25 : decode cX4_work 25 = .ok (.getfield 12, 3) := by decide +kernel
theorem dX4_work_28 : decode cX4_work 28 = .ok (.invokevirtual 51, 3) := by decide +kernel
theorem dX4_work_31 : decode cX4_work 31 = .ok (.iconst 0, 1) := by decide +kernel
theorem dX4_work_32 : decode cX4_work 32 = .ok (.istore_n 1, 1) := by decide +kernel
theorem dX4_work_33 : decode cX4_work 33 = .ok (.iconst 0, 1) := by decide +kernel
theorem dX4_work_34 : decode cX4_work 34 = .ok (.istore_n 2, 1) := by decide +kernel
theorem dX4_work_35 : decode cX4_work 35 = .ok (.iconst 0, 1) := by decide +kernel
theorem dX4_work_36 : decode cX4_work 36 = .ok (.istore_n 3, 1) := by decide +kernel
theorem dX4_work_37 : decode cX4_work 37 = .ok (.iload_n 3, 1) := by decide +kernel
theorem dX4_work_38 : decode cX4_work 38 = .ok (.aload_n 0, 1) := by decide +kernel
theorem dX4_work_39 : decode cX4_work 39 = .ok (.getfield 29, 3) := by decide +kernel
theorem dX4_work_42 : decode cX4_work 42 = .ok (.getfield 95, 3) := by decide +kernel
theorem dX4_work_45 : decode cX4_work 45 = .ok (.if_icmp .gt 33, 3) := by decide +kernel
theorem dX4_work_48 : decode cX4_work 48 = .ok (.aload_n 0, 1) := by decide +kernel
theorem dX4_work_49 : decode cX4_work 49 = .ok (.getfield 29, 3) := by decide +kernel
theorem dX4_work_52 : decode cX4_work 52 = .ok (.iload_n 3, 1) := by decide +kernel
theorem dX4_work_53 : decode cX4_work 53 = .ok (.invokevirtual 115, 3) := by decide +kernel
theorem dX4_work_56 : decode cX4_work 56 = .ok (.ifCond .eq 16, 3) := by decide +kernel
theorem dX4_work_59 : decode cX4_work 59 = .ok (.iload_n 1, 1) := by decide +kernel
theorem dX4_work_60 : decode cX4_work 60 = .ok (.aload_n 0, 1) := by decide +kernel
theorem dX4_work_61 : decode cX4_work 61 = .ok (.iload_n 2, 1) := by decide +kernel
theorem dX4_work_62 : decode cX4_work 62 = .ok (.iload_n 3, 1) := by decide +kernel
theorem dX4_work_63 : decode cX4_work 63 = .ok (.invokevirtual 118, 3) := by decide +kernel
theorem dX4_work_66 : decode cX4_work 66 = .ok (.iadd, 1) := by decide +kernel
theorem dX4_work_67 : decode cX4_work 67 = .ok (.istore_n 1, 1) := by decide +kernel
theorem dX4_work_68 : decode cX4_work 68 = .ok (.iload_n 3, 1) := by decide +kernel
theorem dX4_work_69 : decode cX4_work 69 = .ok (.iconst 1, 1) := by decide +kernel
theorem dX4_work_70 : decode cX4_work 70 = .ok (.iadd, 1) := by decide +kernel
theorem dX4_work_71 : decode cX4_work 71 = .ok (.istore_n 2, 1) := by decide +kernel
theorem dX4_work_72 : decode cX4_work 72 = .ok (.iinc 3 1, 3) := by decide +kernel
theorem dX4_work_75 : decode cX4_work 75 = .ok (.goto (-38), 3) := by decide +kernel
theorem dX4_work_78 : decode cX4_work 78 = .ok (.aload_n 0, 1) := by decide +kernel
theorem dX4_work_79 : decode cX4_work 79 = .ok (.getfield 29, 3) := by decide +kernel
theorem dX4_work_82 : decode cX4_work 82 = .ok (.invokevirtual 99, 3) := by decide +kernel
theorem dX4_work_85 : decode cX4_work 85 = .ok (.pop, 1) := by decide +kernel
theorem dX4_work_86 : decode cX4_work 86 = .ok (.iload_n 1, 1) := by decide +kernel
theorem dX4_work_87 : decode cX4_work 87 = .ok (.ireturn, 1) := by decide +kernel
theorem dX4_undo_0 : decode cX4_undo 0 = .ok (.aload_n 0, 1) := by decide +kernel
theorem dX4_undo_1 : decode cX4_undo 1 = .ok (.getfield 22, 3) := by decide +kernel
theorem dX4_undo_4 : decode cX4_undo 4 = .ok (.aload_n 0, 1) := by decide +kernel
theorem dX4_undo_5 : decode cX4_undo 5 = .ok (.getfield 12, 3) := by decide +kernel
theorem dX4_undo_8 : decode cX4_undo 8 = .ok (.invokevirtual 121, 3) := by decide +kernel
theorem dX4_undo_11 : decode cX4_undo 11 = .ok (.ifCond .ne 13, 3) := by decide +kernel
theorem dX4_undo_14 : decode cX4_undo 14 = .ok (.new 75, 3) := by decide +kernel
theorem dX4_undo_17 : decode cX4_undo 17 = .ok (.dup, 1) := by decide +kernel
theorem dX4_undo_18 : decode cX4_undo 18 = .ok (.ldc 125, 2) := by decide +kernel
theorem dX4_undo_20 : decode cX4_undo 20 = .ok (.invokespecial 79, 3) := by decide +kernel
theorem dX4_undo_23 : decode cX4_undo 23 = .ok (.athrow, 1) := by decide +kernel
theorem dX4_undo_24 : decode cX4_undo 24 = .ok (.aload_n 0, 1) := by decide +kernel
theorem dX4_undo_25 : decode cX4_undo 25 = .ok (.getfield 22, 3) := by decide +kernel
theorem dX4_undo_28 : decode cX4_undo 28 = .ok (.getfield 127, 3) := by decide +kernel
theorem dX4_undo_31 : decode cX4_undo 31 = .ok (.ireturn, 1) := by decide +kernel
theorem dX4_keep_0 : decode cX4_keep 0 = .ok (.aload_n 0, 1) := by decide +kernel
theorem dX4_keep_1 : decode cX4_keep 1 = .ok (.getfield 40, 3) := by decide +kernel
theorem dX4_keep_4 : decode cX4_keep 4 = .ok (.ifnonnull 14, 3) := by decide +kernel
theorem dX4_keep_7 : decode cX4_keep 7 = .ok (.aload_n 0, 1) := by decide +kernel
theorem dX4_keep_8 : decode cX4_keep 8 = .ok (.new 9, 3) := by decide +kernel
theorem dX4_keep_11 : decode cX4_keep 11 = .ok (.dup, 1) := by decide +kernel
theorem dX4_keep_12 : decode cX4_keep 12 = .ok (.invokespecial 11, 3) := by decide +kernel
theorem dX4_keep_15 : decode cX4_keep 15 = .ok (.putfield 40, 3) := by decide +kernel
theorem dX4_keep_18 : decode cX4_keep 18 = .ok (.aload_n 0, 1) := by decide +kernel
theorem dX4_keep_19 : decode cX4_keep 19 = .ok (.getfield 40, 3) := by decide +kernel
theorem dX4_keep_22 : decode cX4_keep 22 = .ok (.aload_n 0, 1) := by decide +kernel
theorem dX4_keep_23 : decode cX4_keep 23 = .ok (.getfield 12, 3) := by decide +kernel
theorem dX4_keep_26 : decode cX4_keep 26 = .ok (.invokevirtual 130, 3) := by decide +kernel
theorem dX4_keep_29 : decode cX4_keep 29 = .ok (.aload_n 0, 1) := by decide +kernel
theorem dX4_keep_30 : decode cX4_keep 30 = .ok (.getfield 12, 3) := by decide +kernel
theorem dX4_keep_33 : decode cX4_keep 33 = .ok (.getfield 71, 3) := by decide +kernel
theorem dX4_keep_36 : decode cX4_keep 36 = .ok (.iconst 0, 1) := by decide +kernel
theorem dX4_keep_37 : decode cX4_keep 37 = .ok (.iaload, 1) := by decide +kernel
theorem dX4_keep_38 : decode cX4_keep 38 = .ok (.ireturn, 1) := by decide +kernel
theorem dX4_restore_0 : decode cX4_restore 0 = .ok (.aload_n 0, 1) := by decide +kernel
theorem dX4_restore_1 : decode cX4_restore 1 = .ok (.getfield 40, 3) := by decide +kernel
theorem dX4_restore_4 : decode cX4_restore 4 = .ok (.ifnonnull 13, 3) := by decide +kernel
theorem dX4_restore_7 : decode cX4_restore 7 = .ok (.new 75, 3) := by decide +kernel
theorem dX4_restore_10 : decode cX4_restore 10 = .ok (.dup, 1) := by decide +kernel
theorem dX4_restore_11 : decode cX4_restore 11 = .ok (.ldc 133, 2) := by decide +kernel
theorem dX4_restore_13 : decode cX4_restore 13 = .ok (.invokespecial 79, 3) := by decide +kernel
theorem dX4_restore_16 : decode cX4_restore 16 = .ok (.athrow, 1) := by decide +kernel
theorem dX4_restore_17 : decode cX4_restore 17 = .ok (.aload_n 0, 1) := by decide +kernel
theorem dX4_restore_18 : decode cX4_restore 18 = .ok (.getfield 22, 3) := by decide +kernel
theorem dX4_restore_21 : decode cX4_restore 21 = .ok (.aload_n 0, 1) := by decide +kernel
theorem dX4_restore_22 : decode cX4_restore 22 = .ok (.getfield 12, 3) := by decide +kernel
theorem dX4_restore_25 : decode cX4_restore 25 = .ok (.invokevirtual 51, 3) := by decide +kernel
theorem dX4_restore_28 : decode cX4_restore 28 = .ok (.aload_n 0, 1) := by decide +kernel
theorem dX4_restore_29 : decode cX4_restore 29 = .ok (.getfield 12, 3) := by decide +kernel
theorem dX4_restore_32 : decode cX4_restore 32 = .ok (.aload_n 0, 1) := by decide +kernel
theorem dX4_restore_33 : decode cX4_restore 33 = .ok (.getfield 40, 3) := by decide +kernel
theorem dX4_restore_36 : decode cX4_restore 36 = .ok (.invokevirtual 130, 3) := by decide +kernel
theorem dX4_restore_39 : decode cX4_restore 39 = .ok (.aload_n 0, 1) := by decide +kernel
theorem dX4_restore_40 : decode cX4_restore 40 = .ok (.getfield 12, 3) := by decide +kernel
theorem dX4_restore_43 : decode cX4_restore 43 = .ok (.getfield 71, 3) := by decide +kernel
theorem dX4_restore_46 : decode cX4_restore 46 = .ok (.iconst 0, 1) := by decide +kernel
theorem dX4_restore_47 : decode cX4_restore 47 = .ok (.iaload, 1) := by decide +kernel
theorem dX4_restore_48 : decode cX4_restore 48 = .ok (.ireturn, 1) := by decide +kernel
theorem dX4_pin_0 : decode cX4_pin 0 = .ok (.iload_n 1, 1) := by decide +kernel
theorem dX4_pin_1 : decode cX4_pin 1 = .ok (.bipush 8, 2) := by decide +kernel
theorem dX4_pin_3 : decode cX4_pin 3 = .ok (.invokestatic 43, 3) := by decide +kernel
theorem dX4_pin_6 : decode cX4_pin 6 = .ok (.iload_n 2, 1) := by decide +kernel
theorem dX4_pin_7 : decode cX4_pin 7 = .ok (.bipush 7, 2) := by decide +kernel
theorem dX4_pin_9 : decode cX4_pin 9 = .ok (.invokestatic 43, 3) := by decide +kernel
theorem dX4_pin_12 : decode cX4_pin 12 = .ok (.aload_n 0, 1) := by decide +kernel
theorem dX4_pin_13 : decode cX4_pin 13 = .ok (.getfield 12, 3) := by decide +kernel
theorem dX4_pin_16 : decode cX4_pin 16 = .ok (.getfield 135, 3) := by decide +kernel
theorem dX4_pin_19 : decode cX4_pin 19 = .ok (.iload_n 1, 1) := by decide +kernel
theorem dX4_pin_20 : decode cX4_pin 20 = .ok (.bipush 7, 2) := by decide +kernel
theorem dX4_pin_22 : decode cX4_pin 22 = .ok (.imul, 1) := by decide +kernel
theorem dX4_pin_23 : decode cX4_pin 23 = .ok (.iload_n 2, 1) := by decide +kernel
theorem dX4_pin_24 : decode cX4_pin 24 = .ok (.iadd, 1) := by decide +kernel
theorem dX4_pin_25 : decode cX4_pin 25 = .ok (.iaload, 1) := by decide +kernel
theorem dX4_pin_26 : decode cX4_pin 26 = .ok (.iconst 1, 1) := by decide +kernel
theorem dX4_pin_27 : decode cX4_pin 27 = .ok (.iadd, 1) := by decide +kernel
theorem dX4_pin_28 : decode cX4_pin 28 = .ok (.ireturn, 1) := by decide +kernel
theorem dX4_bent_0 : decode cX4_bent 0 = .ok (.iload_n 1, 1) := by decide +kernel
theorem dX4_bent_1 : decode cX4_bent 1 = .ok (.iconst 0, 1) := by decide +kernel
theorem dX4_bent_2 : decode cX4_bent 2 = .ok (.ldc 66, 2) := by decide +kernel
theorem dX4_bent_4 : decode cX4_bent 4 = .ok (.invokestatic 47, 3) := by decide +kernel
theorem dX4_bent_7 : decode cX4_bent 7 = .ok (.aload_n 0, 1) := by decide +kernel
theorem dX4_bent_8 : decode cX4_bent 8 = .ok (.getfield 12, 3) := by decide +kernel
theorem dX4_bent_11 : decode cX4_bent 11 = .ok (.iload_n 1, 1) := by decide +kernel
theorem dX4_bent_12 : decode cX4_bent 12 = .ok (.invokevirtual 138, 3) := by decide +kernel
theorem dX4_bent_15 : decode cX4_bent 15 = .ok (.ireturn, 1) := by decide +kernel
theorem dX4_touched_0 : decode cX4_touched 0 = .ok (.iload_n 1, 1) := by decide +kernel
theorem dX4_touched_1 : decode cX4_touched 1 = .ok (.iconst 0, 1) := by decide +kernel
theorem dX4_touched_2 : decode cX4_touched 2 = .ok (.bipush 7, 2) := by decide +kernel
theorem dX4_touched_4 : decode cX4_touched 4 = .ok (.invokestatic 47, 3) := by decide +kernel
theorem dX4_touched_7 : decode cX4_touched 7 = .ok (.aload_n 0, 1) := by decide +kernel
theorem dX4_touched_8 : decode cX4_touched 8 = .ok (.getfield 12, 3) := by decide +kernel
theorem dX4_touched_11 : decode cX4_touched 11 = .ok (.getfield 141, 3) := by decide +kernel
theorem dX4_touched_14 : decode cX4_touched 14 = .ok (.iload_n 1, 1) := by decide +kernel
theorem dX4_touched_15 : decode cX4_touched 15 = .ok (.iaload, 1) := by decide +kernel
theorem dX4_touched_16 : decode cX4_touched 16 = .ok (.ireturn, 1) := by decide +kernel
theorem dX4_pocketOf_0 : decode cX4_pocketOf 0 = .ok (.iload_n 1, 1) := by decide +kernel
theorem dX4_pocketOf_1 : decode cX4_pocketOf 1 = .ok (.bipush 7, 2) := by decide +kernel
theorem dX4_pocketOf_3 : decode cX4_pocketOf 3 = .ok (.invokestatic 43, 3) := by decide +kernel
theorem dX4_pocketOf_6 : decode cX4_pocketOf 6 = .ok (.iload_n 2, 1) := by decide +kernel
theorem dX4_pocketOf_7 : decode cX4_pocketOf 7 = .ok (.iconst 0, 1) := by decide +kernel
theorem dX4_pocketOf_8 : decode cX4_pocketOf 8 = .ok (.iconst 4, 1) := by decide +kernel
theorem dX4_pocketOf_9 : decode cX4_pocketOf 9 = .ok (.invokestatic 47, 3) := by decide +kernel
theorem dX4_pocketOf_12 : decode cX4_pocketOf 12 = .ok (.aload_n 0, 1) := by decide +kernel
theorem dX4_pocketOf_13 : decode cX4_pocketOf 13 = .ok (.getfield 12, 3) := by decide +kernel
theorem dX4_pocketOf_16 : decode cX4_pocketOf 16 = .ok (.iload_n 1, 1) := by decide +kernel
theorem dX4_pocketOf_17 : decode cX4_pocketOf 17 = .ok (.iload_n 2, 1) := by decide +kernel
theorem dX4_pocketOf_18 : decode cX4_pocketOf 18 = .ok (.invokevirtual 144, 3) := by decide +kernel
theorem dX4_pocketOf_21 : decode cX4_pocketOf 21 = .ok (.ireturn, 1) := by decide +kernel
theorem dX4_reel_0 : decode cX4_reel 0 = .ok (.iload_n 1, 1) := by decide +kernel
theorem dX4_reel_1 : decode cX4_reel 1 = .ok (.iconst 3, 1) := by decide +kernel
theorem dX4_reel_2 : decode cX4_reel 2 = .ok (.invokestatic 43, 3) := by decide +kernel
theorem dX4_reel_5 : decode cX4_reel 5 = .ok (.aload_n 0, 1) := by decide +kernel
theorem dX4_reel_6 : decode cX4_reel 6 = .ok (.getfield 12, 3) := by decide +kernel
theorem dX4_reel_9 : decode cX4_reel 9 = .ok (.getfield 147, 3) := by decide +kernel
theorem dX4_reel_12 : decode cX4_reel 12 = .ok (.iload_n 1, 1) := by decide +kernel
theorem dX4_reel_13 : decode cX4_reel 13 = .ok (.iaload, 1) := by decide +kernel
theorem dX4_reel_14 : decode cX4_reel 14 = .ok (.ireturn, 1) := by decide +kernel
theorem dX4_count_0 : decode cX4_count 0 = .ok (.iload_n 1, 1) := by decide +kernel
theorem dX4_count_1 : decode cX4_count 1 = .ok (.iconst 0, 1) := by decide +kernel
theorem dX4_count_2 : decode cX4_count 2 = .ok (.bipush 17, 2) := by decide +kernel
theorem dX4_count_4 : decode cX4_count 4 = .ok (.invokestatic 47, 3) := by decide +kernel
theorem dX4_count_7 : decode cX4_count 7 = .ok (.iload_n 1, 1) := by decide +kernel
theorem dX4_count_8 : decode cX4_count 8 = .ok (.bipush 17, 2) := by decide +kernel
theorem dX4_count_10 : decode cX4_count 10 = .ok (.if_icmp .ne 13, 3) := by decide +kernel
theorem dX4_count_13 : decode cX4_count 13 = .ok (.aload_n 0, 1) := by decide +kernel
theorem dX4_count_14 : decode cX4_count 14 = .ok (.getfield 22, 3) := by decide +kernel
theorem dX4_count_17 : decode cX4_count 17 = .ok (.getfield 127, 3) := by decide +kernel
theorem dX4_count_20 : decode cX4_count 20 = .ok (.goto 12, 3) := by decide +kernel
theorem dX4_count_23 : decode cX4_count 23 = .ok (.aload_n 0, 1) := by decide +kernel
theorem dX4_count_24 : decode cX4_count 24 = .ok (.getfield 12, 3) := by decide +kernel
theorem dX4_count_27 : decode cX4_count 27 = .ok (.getfield 71, 3) := by decide +kernel
theorem dX4_count_30 : decode cX4_count 30 = .ok (.iload_n 1, 1) := by decide +kernel
theorem dX4_count_31 : decode cX4_count 31 = .ok (.iaload, 1) := by decide +kernel
theorem dX4_count_32 : decode cX4_count 32 = .ok (.ireturn, 1) := by decide +kernel
theorem dX4_ways_0 : decode cX4_ways 0 = .ok (.iload_n 1, 1) := by decide +kernel
theorem dX4_ways_1 : decode cX4_ways 1 = .ok (.bipush 7, 2) := by decide +kernel
theorem dX4_ways_3 : decode cX4_ways 3 = .ok (.invokestatic 43, 3) := by decide +kernel
theorem dX4_ways_6 : decode cX4_ways 6 = .ok (.iload_n 2, 1) := by decide +kernel
theorem dX4_ways_7 : decode cX4_ways 7 = .ok (.bipush 7, 2) := by decide +kernel
theorem dX4_ways_9 : decode cX4_ways 9 = .ok (.invokestatic 43, 3) := by decide +kernel
theorem dX4_ways_12 : decode cX4_ways 12 = .ok (.aload_n 0, 1) := by decide +kernel
theorem dX4_ways_13 : decode cX4_ways 13 = .ok (.getfield 36, 3) := by decide +kernel
theorem dX4_ways_16 : decode cX4_ways 16 = .ok (.aload_n 0, 1) := by decide +kernel
theorem dX4_ways_17 : decode cX4_ways 17 = .ok (.getfield 12, 3) := by decide +kernel
theorem dX4_ways_20 : decode cX4_ways 20 = .ok (.getfield 135, 3) := by decide +kernel
theorem dX4_ways_23 : decode cX4_ways 23 = .ok (.iload_n 1, 1) := by decide +kernel
theorem dX4_ways_24 : decode cX4_ways 24 = .ok (.invokevirtual 150, 3) := by decide +kernel
theorem dX4_ways_27 : decode cX4_ways 27 = .ok (.aload_n 0, 1) := by decide +kernel
theorem dX4_ways_28 : decode cX4_ways 28 = .ok (.getfield 36, 3) := by decide +kernel
theorem dX4_ways_31 : decode cX4_ways 31 = .ok (.getfield 154, 3) := by decide +kernel
theorem dX4_ways_34 : decode cX4_ways 34 = .ok (.iload_n 2, 1) := by decide +kernel
theorem dX4_ways_35 : decode cX4_ways 35 = .ok (.iaload, 1) := by decide +kernel
theorem dX4_ways_36 : decode cX4_ways 36 = .ok (.ireturn, 1) := by decide +kernel
theorem dX4_walked_0 : decode cX4_walked 0 = .ok (.iload_n 1, 1) := by decide +kernel
theorem dX4_walked_1 : decode cX4_walked 1 = .ok (.bipush 7, 2) := by decide +kernel
theorem dX4_walked_3 : decode cX4_walked 3 = .ok (.invokestatic 43, 3) := by decide +kernel
theorem dX4_walked_6 : decode cX4_walked 6 = .ok (.iload_n 2, 1) := by decide +kernel
theorem dX4_walked_7 : decode cX4_walked 7 = .ok (.bipush 7, 2) := by decide +kernel
theorem dX4_walked_9 : decode cX4_walked 9 = .ok (.invokestatic 43, 3) := by decide +kernel
theorem dX4_walked_12 : decode cX4_walked 12 = .ok (.aload_n 0, 1) := by decide +kernel
theorem dX4_walked_13 : decode cX4_walked 13 = .ok (.getfield 36, 3) := by decide +kernel
theorem dX4_walked_16 : decode cX4_walked 16 = .ok (.aload_n 0, 1) := by decide +kernel
theorem dX4_walked_17 : decode cX4_walked 17 = .ok (.getfield 12, 3) := by decide +kernel
theorem dX4_walked_20 : decode cX4_walked 20 = .ok (.getfield 135, 3) := by decide +kernel
theorem dX4_walked_23 : decode cX4_walked 23 = .ok (.iload_n 1, 1) := by decide +kernel
theorem dX4_walked_24 : decode cX4_walked 24 = .ok (.invokevirtual 157, 3) := by decide +kernel
theorem dX4_walked_27 : decode cX4_walked 27 = .ok (.aload_n 0, 1) := by decide +kernel
theorem dX4_walked_28 : decode cX4_walked 28 = .ok (.getfield 36, 3) := by decide +kernel
theorem dX4_walked_31 : decode cX4_walked 31 = .ok (.getfield 160, 3) := by decide +kernel
theorem dX4_walked_34 : decode cX4_walked 34 = .ok (.iload_n 2, 1) := by decide +kernel
theorem dX4_walked_35 : decode cX4_walked 35 = .ok (.iaload, 1) := by decide +kernel
theorem dX4_walked_36 : decode cX4_walked 36 = .ok (.ireturn, 1) := by decide +kernel
theorem dX4_ifLaunched_0 : decode cX4_ifLaunched 0 = .ok (.iload_n 1, 1) := by decide +kernel
theorem dX4_ifLaunched_1 : decode cX4_ifLaunched 1 = .ok (.bipush 7, 2) := by decide +kernel
theorem dX4_ifLaunched_3 : decode cX4_ifLaunched 3 = .ok (.invokestatic 43, 3) := by decide +kernel
theorem dX4_ifLaunched_6 : decode cX4_ifLaunched 6 = .ok (.iload_n 2, 1) := by decide +kernel
theorem dX4_ifLaunched_7 : decode cX4_ifLaunched 7 = .ok (.iconst 0, 1) := by decide +kernel
theorem dX4_ifLaunched_8 : decode cX4_ifLaunched 8 = .ok (.iconst 3, 1) := by decide +kernel
theorem dX4_ifLaunched_9 : decode cX4_ifLaunched 9 = .ok (.invokestatic 47, 3) := by decide +kernel
theorem dX4_ifLaunched_12 : decode cX4_ifLaunched 12 = .ok (.aload_n 0, 1) := by decide +kernel
theorem dX4_ifLaunched_13 : decode cX4_ifLaunched 13 = .ok (.iload_n 1, 1) := by decide +kernel
theorem dX4_ifLaunched_14 : decode cX4_ifLaunched 14 = .ok (.invokevirtual 163, 3) := by decide +kernel
theorem dX4_ifLaunched_17 : decode cX4_ifLaunched 17 = .ok (.aload_n 0, 1) := by decide +kernel
theorem dX4_ifLaunched_18 : decode cX4_ifLaunched 18 = .ok (.iload_n 2, 1) := by decide +kernel
theorem dX4_ifLaunched_19 : decode cX4_ifLaunched 19 = .ok (.invokevirtual 166, 3) := by decide +kernel
theorem dX4_ifLaunched_22 : decode cX4_ifLaunched 22 = .ok (.ireturn, 1) := by decide +kernel
theorem dX4_bestColumn_0 : decode cX4_bestColumn 0 = .ok (.iconst 0, 1) := by decide +kernel
theorem dX4_bestColumn_1 : decode cX4_bestColumn 1 = .ok (.istore_n 1, 1) := by decide +kernel
theorem dX4_bestColumn_2 : decode cX4_bestColumn 2 = .ok (.iconst (-1), 1) := by decide +kernel
theorem dX4_bestColumn_3 : decode cX4_bestColumn 3 = .ok (.istore_n 2, 1) := by decide +kernel
theorem dX4_bestColumn_4 : decode cX4_bestColumn 4 = .ok (.iconst 0, 1) := by decide +kernel
theorem dX4_bestColumn_5 : decode cX4_bestColumn 5 = .ok (.istore_n 3, 1) := by decide +kernel
theorem dX4_bestColumn_6 : decode cX4_bestColumn 6 = .ok (.iload_n 3, 1) := by decide +kernel
theorem dX4_bestColumn_7 : decode cX4_bestColumn 7 = .ok (.bipush 7, 2) := by decide +kernel
theorem dX4_bestColumn_9 : decode cX4_bestColumn 9 = .ok (.if_icmp .ge 27, 3) := by decide +kernel
theorem dX4_bestColumn_12 : decode cX4_bestColumn 12 = .ok (.aload_n 0, 1) := by decide +kernel
theorem dX4_bestColumn_13 : decode cX4_bestColumn 13 = .ok (.iload_n 3, 1) := by decide +kernel
theorem dX4_bestColumn_14 : decode cX4_bestColumn 14 = .ok (.invokevirtual 169, 3) := by decide +kernel
theorem dX4_bestColumn_17 : decode cX4_bestColumn 17 = .ok (.istore 4, 2) := by decide +kernel
theorem dX4_bestColumn_19 : decode cX4_bestColumn 19 = .ok (.iload 4, 2) := by decide +kernel
theorem dX4_bestColumn_21 : decode cX4_bestColumn 21 = .ok (.iload_n 2, 1) := by decide +kernel
theorem dX4_bestColumn_22 : decode cX4_bestColumn 22 = .ok (.if_icmp .le 8, 3) := by decide +kernel
theorem dX4_bestColumn_25 : decode cX4_bestColumn 25 = .ok (.iload_n 3, 1) := by decide +kernel
theorem dX4_bestColumn_26 : decode cX4_bestColumn 26 = .ok (.istore_n 1, 1) := by decide +kernel
theorem dX4_bestColumn_27 : decode cX4_bestColumn 27 = .ok (.iload 4, 2) := by decide +kernel
theorem dX4_bestColumn_29 : decode cX4_bestColumn 29 = .ok (.istore_n 2, 1) := by decide +kernel
theorem dX4_bestColumn_30 : decode cX4_bestColumn 30 = .ok (.iinc 3 1, 3) := by decide +kernel
theorem dX4_bestColumn_33 : decode cX4_bestColumn 33 = .ok (.goto (-27), 3) := by decide +kernel
theorem dX4_bestColumn_36 : decode cX4_bestColumn 36 = .ok (.iload_n 1, 1) := by decide +kernel
theorem dX4_bestColumn_37 : decode cX4_bestColumn 37 = .ok (.ireturn, 1) := by decide +kernel
theorem dX4_untilOpen_0 : decode cX4_untilOpen 0 = .ok (.iload_n 1, 1) := by decide +kernel
theorem dX4_untilOpen_1 : decode cX4_untilOpen 1 = .ok (.bipush 7, 2) := by decide +kernel
theorem dX4_untilOpen_3 : decode cX4_untilOpen 3 = .ok (.invokestatic 43, 3) := by decide +kernel
theorem dX4_untilOpen_6 : decode cX4_untilOpen 6 = .ok (.aload_n 0, 1) := by decide +kernel
theorem dX4_untilOpen_7 : decode cX4_untilOpen 7 = .ok (.iload_n 1, 1) := by decide +kernel
theorem dX4_untilOpen_8 : decode cX4_untilOpen 8 = .ok (.invokevirtual 172, 3) := by decide +kernel
theorem dX4_untilOpen_11 : decode cX4_untilOpen 11 = .ok (.ireturn, 1) := by decide +kernel
theorem dX4_payback_0 : decode cX4_payback 0 = .ok (.aload_n 0, 1) := by decide +kernel
theorem dX4_payback_1 : decode cX4_payback 1 = .ok (.getfield 12, 3) := by decide +kernel
theorem dX4_payback_4 : decode cX4_payback 4 = .ok (.getfield 71, 3) := by decide +kernel
theorem dX4_payback_7 : decode cX4_payback 7 = .ok (.iconst 2, 1) := by decide +kernel
theorem dX4_payback_8 : decode cX4_payback 8 = .ok (.iaload, 1) := by decide +kernel
theorem dX4_payback_9 : decode cX4_payback 9 = .ok (.istore_n 1, 1) := by decide +kernel
theorem dX4_payback_10 : decode cX4_payback 10 = .ok (.iload_n 1, 1) := by decide +kernel
theorem dX4_payback_11 : decode cX4_payback 11 = .ok (.ifCond .le 19, 3) := by decide +kernel
theorem dX4_payback_14 : decode cX4_payback 14 = .ok (.aload_n 0, 1) := by decide +kernel
theorem dX4_payback_15 : decode cX4_payback 15 = .ok (.getfield 12, 3) := by decide +kernel
theorem dX4_payback_18 : decode cX4_payback 18 = .ok (.getfield 71, 3) := by decide +kernel
theorem dX4_payback_21 : decode cX4_payback 21 = .ok (.iconst 3, 1) := by decide +kernel
theorem dX4_payback_22 : decode cX4_payback 22 = .ok (.iaload, 1) := by decide +kernel
theorem dX4_payback_23 : decode cX4_payback 23 = .ok (.i2d, 1) := by decide +kernel
theorem dX4_payback_24 : decode cX4_payback 24 = .ok (.iload_n 1, 1) := by decide +kernel
theorem dX4_payback_25 : decode cX4_payback 25 = .ok (.i2d, 1) := by decide +kernel
theorem dX4_payback_26 : decode cX4_payback 26 = .ok (.ddiv, 1) := by decide +kernel
theorem dX4_payback_27 : decode cX4_payback 27 = .ok (.goto 4, 3) := by decide +kernel
theorem dX4_payback_30 : decode cX4_payback 30 = .ok (.dconst 0, 1) := by decide +kernel
theorem dX4_payback_31 : decode cX4_payback 31 = .ok (.dreturn, 1) := by decide +kernel
theorem dX4_digest_0 : decode cX4_digest 0 = .ok (.ldc2_w 175, 3) := by decide +kernel
theorem dX4_digest_3 : decode cX4_digest 3 = .ok (.aload_n 0, 1) := by decide +kernel
theorem dX4_digest_4 : decode cX4_digest 4 = .ok (.getfield 12, 3) := by decide +kernel
theorem dX4_digest_7 : decode cX4_digest 7 = .ok (.getfield 71, 3) := by decide +kernel
theorem dX4_digest_10 : decode cX4_digest 10 = .ok (.bipush 17, 2) := by decide +kernel
theorem dX4_digest_12 : decode cX4_digest 12 = .ok (.invokestatic 177, 3) := by decide +kernel
theorem dX4_digest_15 : decode cX4_digest 15 = .ok (.lstore_n 1, 1) := by decide +kernel
theorem dX4_digest_16 : decode cX4_digest 16 = .ok (.lload_n 1, 1) := by decide +kernel
theorem dX4_digest_17 : decode cX4_digest 17 = .ok (.aload_n 0, 1) := by decide +kernel
theorem dX4_digest_18 : decode cX4_digest 18 = .ok (.getfield 22, 3) := by decide +kernel
theorem dX4_digest_21 : decode cX4_digest 21 = .ok (.getfield 127, 3) := by decide +kernel
theorem dX4_digest_24 : decode cX4_digest 24 = .ok (.i2l, 1) := by decide +kernel
theorem dX4_digest_25 : decode cX4_digest 25 = .ok (.invokestatic 181, 3) := by decide +kernel
theorem dX4_digest_28 : decode cX4_digest 28 = .ok (.lstore_n 1, 1) := by decide +kernel
theorem dX4_digest_29 : decode cX4_digest 29 = .ok (.aload_n 0, 1) := by decide +kernel
theorem dX4_digest_30 : decode cX4_digest 30 = .ok (.lload_n 1, 1) := by decide +kernel
theorem dX4_digest_31 : decode cX4_digest 31 = .ok (.invokevirtual 185, 3) := by decide +kernel
theorem dX4_digest_34 : decode cX4_digest 34 = .ok (.lstore_n 1, 1) := by decide +kernel
theorem dX4_digest_35 : decode cX4_digest 35 = .ok (.iconst 0, 1) := by decide +kernel
theorem dX4_digest_36 : decode cX4_digest 36 = .ok (.istore_n 3, 1) := by decide +kernel
theorem dX4_digest_37 : decode cX4_digest 37 = .ok (.iload_n 3, 1) := by decide +kernel
theorem dX4_digest_38 : decode cX4_digest 38 = .ok (.bipush 7, 2) := by decide +kernel
theorem dX4_digest_40 : decode cX4_digest 40 = .ok (.if_icmp .ge 16, 3) := by decide +kernel
theorem dX4_digest_43 : decode cX4_digest 43 = .ok (.aload_n 0, 1) := by decide +kernel
theorem dX4_digest_44 : decode cX4_digest 44 = .ok (.lload_n 1, 1) := by decide +kernel
theorem dX4_digest_45 : decode cX4_digest 45 = .ok (.iload_n 3, 1) := by decide +kernel
theorem dX4_digest_46 : decode cX4_digest 46 = .ok (.invokevirtual 189, 3) := by decide +kernel
theorem dX4_digest_49 : decode cX4_digest 49 = .ok (.lstore_n 1, 1) := by decide +kernel
theorem dX4_digest_50 : decode cX4_digest 50 = .ok (.iinc 3 1, 3) := by decide +kernel
theorem dX4_digest_53 : decode cX4_digest 53 = .ok (.goto (-16), 3) := by decide +kernel
theorem dX4_digest_56 : decode cX4_digest 56 = .ok (.lload_n 1, 1) := by decide +kernel
theorem dX4_digest_57 : decode cX4_digest 57 = .ok (.aload_n 0, 1) := by decide +kernel
theorem dX4_digest_58 : decode cX4_digest 58 = .ok (.invokevirtual 193, 3) := by decide +kernel
theorem dX4_digest_61 : decode cX4_digest 61 = .ok (.i2l, 1) := by decide +kernel
theorem dX4_digest_62 : decode cX4_digest 62 = .ok (.invokestatic 181, 3) := by decide +kernel
theorem dX4_digest_65 : decode cX4_digest 65 = .ok (.lstore_n 1, 1) := by decide +kernel
theorem dX4_digest_66 : decode cX4_digest 66 = .ok (.lload_n 1, 1) := by decide +kernel
theorem dX4_digest_67 : decode cX4_digest 67 = .ok (.aload_n 0, 1) := by decide +kernel
theorem dX4_digest_68 : decode cX4_digest 68 = .ok (.invokevirtual 196, 3) := by decide +kernel
theorem dX4_digest_71 : decode cX4_digest 71 = .ok (.invokestatic 200, 3) := by decide +kernel
theorem dX4_digest_74 : decode cX4_digest 74 = .ok (.invokestatic 181, 3) := by decide +kernel
theorem dX4_digest_77 : decode cX4_digest 77 = .ok (.lstore_n 1, 1) := by decide +kernel
theorem dX4_digest_78 : decode cX4_digest 78 = .ok (.lload_n 1, 1) := by decide +kernel
theorem dX4_digest_79 : decode cX4_digest 79 = .ok (.aload_n 0, 1) := by decide +kernel
theorem dX4_digest_80 : decode cX4_digest 80 = .ok (.getfield 29, 3) := by decide +kernel
theorem dX4_digest_83 : decode cX4_digest 83 = .ok (.getfield 95, 3) := by decide +kernel
theorem dX4_digest_86 : decode cX4_digest 86 = .ok (.i2l, 1) := by decide +kernel
theorem dX4_digest_87 : decode cX4_digest 87 = .ok (.invokestatic 181, 3) := by decide +kernel
theorem dX4_digest_90 : decode cX4_digest 90 = .ok (.lstore_n 1, 1) := by decide +kernel
theorem dX4_digest_91 : decode cX4_digest 91 = .ok (.lload_n 1, 1) := by decide +kernel
theorem dX4_digest_92 : decode cX4_digest 92 = .ok (.aload_n 0, 1) := by decide +kernel
theorem dX4_digest_93 : decode cX4_digest 93 = .ok (.getfield 29, 3) := by decide +kernel
theorem dX4_digest_96 : decode cX4_digest 96 = .ok (.getfield 204, 3) := by decide +kernel
theorem dX4_digest_99 : decode cX4_digest 99 = .ok (.aload_n 0, 1) := by decide +kernel
theorem dX4_digest_100 : decode cX4_digest 100 = .ok (.getfield 29, 3) := by decide +kernel
theorem dX4_digest_103 : decode cX4_digest 103 = .ok (.getfield 95, 3) := by decide +kernel
theorem dX4_digest_106 : decode cX4_digest 106 = .ok (.invokestatic 177, 3) := by decide +kernel
theorem dX4_digest_109 : decode cX4_digest 109 = .ok (.lreturn, 1) := by decide +kernel
theorem dX4_checkIndex_0 : decode cX4_checkIndex 0 = .ok (.iload_n 0, 1) := by decide +kernel
theorem dX4_checkIndex_1 : decode cX4_checkIndex 1 = .ok (.ifCond .lt 8, 3) := by decide +kernel
theorem dX4_checkIndex_4 : decode cX4_checkIndex 4 = .ok (.iload_n 0, 1) := by decide +kernel
theorem dX4_checkIndex_5 : decode cX4_checkIndex 5 = .ok (.iload_n 1, 1) := by decide +kernel
theorem dX4_checkIndex_6 : decode cX4_checkIndex 6 = .ok (.if_icmp .lt 13, 3) := by decide +kernel
theorem dX4_checkIndex_9 : decode cX4_checkIndex 9 = .ok (.new 207, 3) := by decide +kernel
theorem dX4_checkIndex_12 : decode cX4_checkIndex 12 = .ok (.dup, 1) := by decide +kernel
theorem dX4_checkIndex_13 : decode cX4_checkIndex 13 = .ok (.ldc 209, 2) := by decide +kernel
theorem dX4_checkIndex_15 : decode cX4_checkIndex 15 = .ok (.invokespecial 211, 3) := by decide +kernel
theorem dX4_checkIndex_18 : decode cX4_checkIndex 18 = .ok (.athrow, 1) := by decide +kernel
theorem dX4_checkIndex_19 : decode cX4_checkIndex 19 = .ok (.return_, 1) := by decide +kernel
theorem dX4_checkValue_0 : decode cX4_checkValue 0 = .ok (.iload_n 0, 1) := by decide +kernel
theorem dX4_checkValue_1 : decode cX4_checkValue 1 = .ok (.iload_n 1, 1) := by decide +kernel
theorem dX4_checkValue_2 : decode cX4_checkValue 2 = .ok (.if_icmp .lt 8, 3) := by decide +kernel
theorem dX4_checkValue_5 : decode cX4_checkValue 5 = .ok (.iload_n 0, 1) := by decide +kernel
theorem dX4_checkValue_6 : decode cX4_checkValue 6 = .ok (.iload_n 2, 1) := by decide +kernel
theorem dX4_checkValue_7 : decode cX4_checkValue 7 = .ok (.if_icmp .le 13, 3) := by decide +kernel
theorem dX4_checkValue_10 : decode cX4_checkValue 10 = .ok (.new 110, 3) := by decide +kernel
theorem dX4_checkValue_13 : decode cX4_checkValue 13 = .ok (.dup, 1) := by decide +kernel
theorem dX4_checkValue_14 : decode cX4_checkValue 14 = .ok (.ldc 212, 2) := by decide +kernel
theorem dX4_checkValue_16 : decode cX4_checkValue 16 = .ok (.invokespecial 114, 3) := by decide +kernel
theorem dX4_checkValue_19 : decode cX4_checkValue 19 = .ok (.athrow, 1) := by decide +kernel
theorem dX4_checkValue_20 : decode cX4_checkValue 20 = .ok (.return_, 1) := by decide +kernel
theorem dX4_doPart_0 : decode cX4_doPart 0 = .ok (.aload_n 0, 1) := by decide +kernel
theorem dX4_doPart_1 : decode cX4_doPart 1 = .ok (.getfield 29, 3) := by decide +kernel
theorem dX4_doPart_4 : decode cX4_doPart 4 = .ok (.iload_n 1, 1) := by decide +kernel
theorem dX4_doPart_5 : decode cX4_doPart 5 = .ok (.invokevirtual 214, 3) := by decide +kernel
theorem dX4_doPart_8 : decode cX4_doPart 8 = .ok (.lookupswitch 113 #[(98, 61), (108, 28)], 28) := by decide +kernel
theorem dX4_doPart_36 : decode cX4_doPart 36 = .ok (.aload_n 0, 1) := by decide +kernel
theorem dX4_doPart_37 : decode cX4_doPart 37 = .ok (.getfield 29, 3) := by decide +kernel
theorem dX4_doPart_40 : decode cX4_doPart 40 = .ok (.bipush 7, 2) := by decide +kernel
theorem dX4_doPart_42 : decode cX4_doPart 42 = .ok (.iload_n 1, 1) := by decide +kernel
theorem dX4_doPart_43 : decode cX4_doPart 43 = .ok (.iconst 1, 1) := by decide +kernel
theorem dX4_doPart_44 : decode cX4_doPart 44 = .ok (.iadd, 1) := by decide +kernel
theorem dX4_doPart_45 : decode cX4_doPart 45 = .ok (.invokevirtual 217, 3) := by decide +kernel
theorem dX4_doPart_48 : decode cX4_doPart 48 = .ok (.istore_n 3, 1) := by decide +kernel
theorem dX4_doPart_49 : decode cX4_doPart 49 = .ok (.aload_n 0, 1) := by decide +kernel
theorem dX4_doPart_50 : decode cX4_doPart 50 = .ok (.getfield 12, 3) := by decide +kernel
theorem dX4_doPart_53 : decode cX4_doPart 53 = .ok (.iload_n 3, 1) := by decide +kernel
theorem dX4_doPart_54 : decode cX4_doPart 54 = .ok (.aload_n 0, 1) := by decide +kernel
theorem dX4_doPart_55 : decode cX4_doPart 55 = .ok (.getfield 29, 3) := by decide +kernel
theorem dX4_doPart_58 : decode cX4_doPart 58 = .ok (.iload_n 1, 1) := by decide +kernel
theorem dX4_doPart_59 : decode cX4_doPart 59 = .ok (.iconst 3, 1) := by decide +kernel
theorem dX4_doPart_60 : decode cX4_doPart 60 = .ok (.iadd, 1) := by decide +kernel
theorem dX4_doPart_61 : decode cX4_doPart 61 = .ok (.iload_n 2, 1) := by decide +kernel
theorem dX4_doPart_62 : decode cX4_doPart 62 = .ok (.invokevirtual 220, 3) := by decide +kernel
theorem dX4_doPart_65 : decode cX4_doPart 65 = .ok (.invokevirtual 86, 3) := by decide +kernel
theorem dX4_doPart_68 : decode cX4_doPart 68 = .ok (.ireturn, 1) := by decide +kernel
theorem dX4_doPart_69 : decode cX4_doPart 69 = .ok (.aload_n 0, 1) := by decide +kernel
theorem dX4_doPart_70 : decode cX4_doPart 70 = .ok (.getfield 29, 3) := by decide +kernel
theorem dX4_doPart_73 : decode cX4_doPart 73 = .ok (.bipush 8, 2) := by decide +kernel
theorem dX4_doPart_75 : decode cX4_doPart 75 = .ok (.iload_n 1, 1) := by decide +kernel
theorem dX4_doPart_76 : decode cX4_doPart 76 = .ok (.iconst 1, 1) := by decide +kernel
theorem dX4_doPart_77 : decode cX4_doPart 77 = .ok (.iadd, 1) := by decide +kernel
theorem dX4_doPart_78 : decode cX4_doPart 78 = .ok (.invokevirtual 217, 3) := by decide +kernel
theorem dX4_doPart_81 : decode cX4_doPart 81 = .ok (.bipush 7, 2) := by decide +kernel
theorem dX4_doPart_83 : decode cX4_doPart 83 = .ok (.imul, 1) := by decide +kernel
theorem dX4_doPart_84 : decode cX4_doPart 84 = .ok (.aload_n 0, 1) := by decide +kernel
theorem dX4_doPart_85 : decode cX4_doPart 85 = .ok (.getfield 29, 3) := by decide +kernel
theorem dX4_doPart_88 : decode cX4_doPart 88 = .ok (.bipush 7, 2) := by decide +kernel
theorem dX4_doPart_90 : decode cX4_doPart 90 = .ok (.iload_n 1, 1) := by decide +kernel
theorem dX4_doPart_91 : decode cX4_doPart 91 = .ok (.iconst 2, 1) := by decide +kernel
theorem dX4_doPart_92 : decode cX4_doPart 92 = .ok (.iadd, 1) := by decide +kernel
theorem dX4_doPart_93 : decode cX4_doPart 93 = .ok (.invokevirtual 217, 3) := by decide +kernel
theorem dX4_doPart_96 : decode cX4_doPart 96 = .ok (.iadd, 1) := by decide +kernel
theorem dX4_doPart_97 : decode cX4_doPart 97 = .ok (.istore 4, 2) := by decide +kernel
theorem dX4_doPart_99 : decode cX4_doPart 99 = .ok (.aload_n 0, 1) := by decide +kernel
theorem dX4_doPart_100 : decode cX4_doPart 100 = .ok (.getfield 12, 3) := by decide +kernel
theorem dX4_doPart_103 : decode cX4_doPart 103 = .ok (.iload 4, 2) := by decide +kernel
theorem dX4_doPart_105 : decode cX4_doPart 105 = .ok (.aload_n 0, 1) := by decide +kernel
theorem dX4_doPart_106 : decode cX4_doPart 106 = .ok (.getfield 29, 3) := by decide +kernel
theorem dX4_doPart_109 : decode cX4_doPart 109 = .ok (.iload_n 1, 1) := by decide +kernel
theorem dX4_doPart_110 : decode cX4_doPart 110 = .ok (.iconst 3, 1) := by decide +kernel
theorem dX4_doPart_111 : decode cX4_doPart 111 = .ok (.iadd, 1) := by decide +kernel
theorem dX4_doPart_112 : decode cX4_doPart 112 = .ok (.invokevirtual 223, 3) := by decide +kernel
theorem dX4_doPart_115 : decode cX4_doPart 115 = .ok (.invokevirtual 55, 3) := by decide +kernel
theorem dX4_doPart_118 : decode cX4_doPart 118 = .ok (.pop, 1) := by decide +kernel
theorem dX4_doPart_119 : decode cX4_doPart 119 = .ok (.iconst 0, 1) := by decide +kernel
theorem dX4_doPart_120 : decode cX4_doPart 120 = .ok (.ireturn, 1) := by decide +kernel
theorem dX4_doPart_121 : decode cX4_doPart 121 = .ok (.aload_n 0, 1) := by decide +kernel
theorem dX4_doPart_122 : decode cX4_doPart 122 = .ok (.getfield 12, 3) := by decide +kernel
theorem dX4_doPart_125 : decode cX4_doPart 125 = .ok (.aload_n 0, 1) := by decide +kernel
theorem dX4_doPart_126 : decode cX4_doPart 126 = .ok (.getfield 29, 3) := by decide +kernel
theorem dX4_doPart_129 : decode cX4_doPart 129 = .ok (.iload_n 1, 1) := by decide +kernel
theorem dX4_doPart_130 : decode cX4_doPart 130 = .ok (.iconst 1, 1) := by decide +kernel
theorem dX4_doPart_131 : decode cX4_doPart 131 = .ok (.iadd, 1) := by decide +kernel
theorem dX4_doPart_132 : decode cX4_doPart 132 = .ok (.iload_n 2, 1) := by decide +kernel
theorem dX4_doPart_133 : decode cX4_doPart 133 = .ok (.invokevirtual 220, 3) := by decide +kernel
theorem dX4_doPart_136 : decode cX4_doPart 136 = .ok (.invokevirtual 67, 3) := by decide +kernel
theorem dX4_doPart_139 : decode cX4_doPart 139 = .ok (.iconst 0, 1) := by decide +kernel
theorem dX4_doPart_140 : decode cX4_doPart 140 = .ok (.ireturn, 1) := by decide +kernel
theorem dX4_tryLaunch_0 : decode cX4_tryLaunch 0 = .ok (.aload_n 0, 1) := by decide +kernel
theorem dX4_tryLaunch_1 : decode cX4_tryLaunch 1 = .ok (.getfield 16, 3) := by decide +kernel
theorem dX4_tryLaunch_4 : decode cX4_tryLaunch 4 = .ok (.aload_n 0, 1) := by decide +kernel
theorem dX4_tryLaunch_5 : decode cX4_tryLaunch 5 = .ok (.getfield 12, 3) := by decide +kernel
theorem dX4_tryLaunch_8 : decode cX4_tryLaunch 8 = .ok (.invokevirtual 130, 3) := by decide +kernel
theorem dX4_tryLaunch_11 : decode cX4_tryLaunch 11 = .ok (.aload_n 0, 1) := by decide +kernel
theorem dX4_tryLaunch_12 : decode cX4_tryLaunch 12 = .ok (.getfield 16, 3) := by decide +kernel
theorem dX4_tryLaunch_15 : decode cX4_tryLaunch 15 = .ok (.iload_n 1, 1) := by decide +kernel
theorem dX4_tryLaunch_16 : decode cX4_tryLaunch 16 = .ok (.invokevirtual 82, 3) := by decide +kernel
theorem dX4_tryLaunch_19 : decode cX4_tryLaunch 19 = .ok (.pop, 1) := by decide +kernel
theorem dX4_tryLaunch_20 : decode cX4_tryLaunch 20 = .ok (.return_, 1) := by decide +kernel
theorem dX4_tellTried_0 : decode cX4_tellTried 0 = .ok (.iload_n 1, 1) := by decide +kernel
theorem dX4_tellTried_1 : decode cX4_tellTried 1 = .ok (.tableswitch 69 0 2 #[27, 38, 58], 27) := by decide +kernel
theorem dX4_tellTried_28 : decode cX4_tellTried 28 = .ok (.aload_n 0, 1) := by decide +kernel
theorem dX4_tellTried_29 : decode cX4_tellTried 29 = .ok (.getfield 16, 3) := by decide +kernel
theorem dX4_tellTried_32 : decode cX4_tellTried 32 = .ok (.getfield 71, 3) := by decide +kernel
theorem dX4_tellTried_35 : decode cX4_tellTried 35 = .ok (.bipush 11, 2) := by decide +kernel
theorem dX4_tellTried_37 : decode cX4_tellTried 37 = .ok (.iaload, 1) := by decide +kernel
theorem dX4_tellTried_38 : decode cX4_tellTried 38 = .ok (.ireturn, 1) := by decide +kernel
theorem dX4_tellTried_39 : decode cX4_tellTried 39 = .ok (.aload_n 0, 1) := by decide +kernel
theorem dX4_tellTried_40 : decode cX4_tellTried 40 = .ok (.getfield 16, 3) := by decide +kernel
theorem dX4_tellTried_43 : decode cX4_tellTried 43 = .ok (.getfield 71, 3) := by decide +kernel
theorem dX4_tellTried_46 : decode cX4_tellTried 46 = .ok (.iconst 3, 1) := by decide +kernel
theorem dX4_tellTried_47 : decode cX4_tellTried 47 = .ok (.iaload, 1) := by decide +kernel
theorem dX4_tellTried_48 : decode cX4_tellTried 48 = .ok (.aload_n 0, 1) := by decide +kernel
theorem dX4_tellTried_49 : decode cX4_tellTried 49 = .ok (.getfield 12, 3) := by decide +kernel
theorem dX4_tellTried_52 : decode cX4_tellTried 52 = .ok (.getfield 71, 3) := by decide +kernel
theorem dX4_tellTried_55 : decode cX4_tellTried 55 = .ok (.iconst 3, 1) := by decide +kernel
theorem dX4_tellTried_56 : decode cX4_tellTried 56 = .ok (.iaload, 1) := by decide +kernel
theorem dX4_tellTried_57 : decode cX4_tellTried 57 = .ok (.isub, 1) := by decide +kernel
theorem dX4_tellTried_58 : decode cX4_tellTried 58 = .ok (.ireturn, 1) := by decide +kernel
theorem dX4_tellTried_59 : decode cX4_tellTried 59 = .ok (.aload_n 0, 1) := by decide +kernel
theorem dX4_tellTried_60 : decode cX4_tellTried 60 = .ok (.getfield 16, 3) := by decide +kernel
theorem dX4_tellTried_63 : decode cX4_tellTried 63 = .ok (.getfield 71, 3) := by decide +kernel
theorem dX4_tellTried_66 : decode cX4_tellTried 66 = .ok (.bipush 6, 2) := by decide +kernel
theorem dX4_tellTried_68 : decode cX4_tellTried 68 = .ok (.iaload, 1) := by decide +kernel
theorem dX4_tellTried_69 : decode cX4_tellTried 69 = .ok (.ireturn, 1) := by decide +kernel
theorem dX4_tellTried_70 : decode cX4_tellTried 70 = .ok (.aload_n 0, 1) := by decide +kernel
theorem dX4_tellTried_71 : decode cX4_tellTried 71 = .ok (.getfield 16, 3) := by decide +kernel
theorem dX4_tellTried_74 : decode cX4_tellTried 74 = .ok (.getfield 71, 3) := by decide +kernel
theorem dX4_tellTried_77 : decode cX4_tellTried 77 = .ok (.bipush 9, 2) := by decide +kernel
theorem dX4_tellTried_79 : decode cX4_tellTried 79 = .ok (.iaload, 1) := by decide +kernel
theorem dX4_tellTried_80 : decode cX4_tellTried 80 = .ok (.ireturn, 1) := by decide +kernel
theorem dX4_tryUntilHeld_0 : decode cX4_tryUntilHeld 0 = .ok (.aload_n 0, 1) := by decide +kernel
theorem dX4_tryUntilHeld_1 : decode cX4_tryUntilHeld 1 = .ok (.getfield 12, 3) := by decide +kernel
theorem dX4_tryUntilHeld_4 : decode cX4_tryUntilHeld 4 = .ok (.invokevirtual 226, 3) := by decide +kernel
theorem dX4_tryUntilHeld_7 : decode cX4_tryUntilHeld 7 = .ok (.ifCond .eq 5, 3) := by decide +kernel
theorem dX4_tryUntilHeld_10 : decode cX4_tryUntilHeld 10 = .ok (.iconst 0, 1) := by decide +kernel
theorem dX4_tryUntilHeld_11 : decode cX4_tryUntilHeld 11 = .ok (.ireturn, 1) := by decide +kernel
theorem dX4_tryUntilHeld_12 : decode cX4_tryUntilHeld 12 = .ok (.aload_n 0, 1) := by decide +kernel
theorem dX4_tryUntilHeld_13 : decode cX4_tryUntilHeld 13 = .ok (.getfield 16, 3) := by decide +kernel
theorem dX4_tryUntilHeld_16 : decode cX4_tryUntilHeld 16 = .ok (.aload_n 0, 1) := by decide +kernel
theorem dX4_tryUntilHeld_17 : decode cX4_tryUntilHeld 17 = .ok (.getfield 12, 3) := by decide +kernel
theorem dX4_tryUntilHeld_20 : decode cX4_tryUntilHeld 20 = .ok (.invokevirtual 130, 3) := by decide +kernel
theorem dX4_tryUntilHeld_23 : decode cX4_tryUntilHeld 23 = .ok (.iconst 1, 1) := by decide +kernel
theorem dX4_tryUntilHeld_24 : decode cX4_tryUntilHeld 24 = .ok (.istore_n 2, 1) := by decide +kernel
theorem dX4_tryUntilHeld_25 : decode cX4_tryUntilHeld 25 = .ok (.iload_n 2, 1) := by decide +kernel
theorem dX4_tryUntilHeld_26 : decode cX4_tryUntilHeld 26 = .ok (.sipush 200, 3) := by decide +kernel
theorem dX4_tryUntilHeld_29 : decode cX4_tryUntilHeld 29 = .ok (.if_icmp .gt 30, 3) := by decide +kernel
theorem dX4_tryUntilHeld_32 : decode cX4_tryUntilHeld 32 = .ok (.aload_n 0, 1) := by decide +kernel
theorem dX4_tryUntilHeld_33 : decode cX4_tryUntilHeld 33 = .ok (.getfield 16, 3) := by decide +kernel
theorem dX4_tryUntilHeld_36 : decode cX4_tryUntilHeld 36 = .ok (.iload_n 1, 1) := by decide +kernel
theorem dX4_tryUntilHeld_37 : decode cX4_tryUntilHeld 37 = .ok (.invokevirtual 82, 3) := by decide +kernel
theorem dX4_tryUntilHeld_40 : decode cX4_tryUntilHeld 40 = .ok (.pop, 1) := by decide +kernel
theorem dX4_tryUntilHeld_41 : decode cX4_tryUntilHeld 41 = .ok (.aload_n 0, 1) := by decide +kernel
theorem dX4_tryUntilHeld_42 : decode cX4_tryUntilHeld 42 = .ok (.getfield 16, 3) := by decide +kernel
theorem dX4_tryUntilHeld_45 : decode cX4_tryUntilHeld 45 = .ok (.invokevirtual 226, 3) := by decide +kernel
theorem dX4_tryUntilHeld_48 : decode cX4_tryUntilHeld 48 = .ok (.ifCond .eq 5, 3) := by decide +kernel
theorem dX4_tryUntilHeld_51 : decode cX4_tryUntilHeld 51 = .ok (.iload_n 2, 1) := by decide +kernel
theorem dX4_tryUntilHeld_52 : decode cX4_tryUntilHeld 52 = .ok (.ireturn, 1) := by decide +kernel
theorem dX4_tryUntilHeld_53 : decode cX4_tryUntilHeld 53 = .ok (.iinc 2 1, 3) := by decide +kernel
theorem dX4_tryUntilHeld_56 : decode cX4_tryUntilHeld 56 = .ok (.goto (-31), 3) := by decide +kernel
theorem dX4_tryUntilHeld_59 : decode cX4_tryUntilHeld 59 = .ok (.iconst (-1), 1) := by decide +kernel
theorem dX4_tryUntilHeld_60 : decode cX4_tryUntilHeld 60 = .ok (.ireturn, 1) := by decide +kernel
theorem dX4_measurePays_0 : decode cX4_measurePays 0 = .ok (.aload_n 0, 1) := by decide +kernel
theorem dX4_measurePays_1 : decode cX4_measurePays 1 = .ok (.getfield 36, 3) := by decide +kernel
theorem dX4_measurePays_4 : decode cX4_measurePays 4 = .ok (.aload_n 0, 1) := by decide +kernel
theorem dX4_measurePays_5 : decode cX4_measurePays 5 = .ok (.getfield 12, 3) := by decide +kernel
theorem dX4_measurePays_8 : decode cX4_measurePays 8 = .ok (.getfield 135, 3) := by decide +kernel
theorem dX4_measurePays_11 : decode cX4_measurePays 11 = .ok (.iload_n 1, 1) := by decide +kernel
theorem dX4_measurePays_12 : decode cX4_measurePays 12 = .ok (.invokevirtual 150, 3) := by decide +kernel
theorem dX4_measurePays_15 : decode cX4_measurePays 15 = .ok (.iconst 0, 1) := by decide +kernel
theorem dX4_measurePays_16 : decode cX4_measurePays 16 = .ok (.istore_n 2, 1) := by decide +kernel
theorem dX4_measurePays_17 : decode cX4_measurePays 17 = .ok (.iconst 0, 1) := by decide +kernel
theorem dX4_measurePays_18 : decode cX4_measurePays 18 = .ok (.istore_n 3, 1) := by decide +kernel
theorem dX4_measurePays_19 : decode cX4_measurePays 19 = .ok (.iconst 0, 1) := by decide +kernel
theorem dX4_measurePays_20 : decode cX4_measurePays 20 = .ok (.istore 4, 2) := by decide +kernel
theorem dX4_measurePays_22 : decode cX4_measurePays 22 = .ok (.iload 4, 2) := by decide +kernel
theorem dX4_measurePays_24 : decode cX4_measurePays 24 = .ok (.bipush 7, 2) := by decide +kernel
theorem dX4_measurePays_26 : decode cX4_measurePays 26 = .ok (.if_icmp .ge 58, 3) := by decide +kernel
theorem dX4_measurePays_29 : decode cX4_measurePays 29 = .ok (.iload_n 2, 1) := by decide +kernel
theorem dX4_measurePays_30 : decode cX4_measurePays 30 = .ok (.aload_n 0, 1) := by decide +kernel
theorem dX4_measurePays_31 : decode cX4_measurePays 31 = .ok (.getfield 36, 3) := by decide +kernel
theorem dX4_measurePays_34 : decode cX4_measurePays 34 = .ok (.getfield 154, 3) := by decide +kernel
theorem dX4_measurePays_37 : decode cX4_measurePays 37 = .ok (.iload 4, 2) := by decide +kernel
theorem dX4_measurePays_39 : decode cX4_measurePays 39 = .ok (.iaload, 1) := by decide +kernel
theorem dX4_measurePays_40 : decode cX4_measurePays 40 = .ok (.iadd, 1) := by decide +kernel
theorem dX4_measurePays_41 : decode cX4_measurePays 41 = .ok (.istore_n 2, 1) := by decide +kernel
theorem dX4_measurePays_42 : decode cX4_measurePays 42 = .ok (.aload_n 0, 1) := by decide +kernel
theorem dX4_measurePays_43 : decode cX4_measurePays 43 = .ok (.getfield 12, 3) := by decide +kernel
theorem dX4_measurePays_46 : decode cX4_measurePays 46 = .ok (.iload 4, 2) := by decide +kernel
theorem dX4_measurePays_48 : decode cX4_measurePays 48 = .ok (.invokevirtual 229, 3) := by decide +kernel
theorem dX4_measurePays_51 : decode cX4_measurePays 51 = .ok (.ifCond .eq 27, 3) := by decide +kernel
theorem dX4_measurePays_54 : decode cX4_measurePays 54 = .ok (.iload_n 3, 1) := by decide +kernel
theorem dX4_measurePays_55 : decode cX4_measurePays 55 = .ok (.aload_n 0, 1) := by decide +kernel
theorem dX4_measurePays_56 : decode cX4_measurePays 56 = .ok (.getfield 36, 3) := by decide +kernel
theorem dX4_measurePays_59 : decode cX4_measurePays 59 = .ok (.getfield 154, 3) := by decide +kernel
theorem dX4_measurePays_62 : decode cX4_measurePays 62 = .ok (.iload 4, 2) := by decide +kernel
theorem dX4_measurePays_64 : decode cX4_measurePays 64 = .ok (.iaload, 1) := by decide +kernel
theorem dX4_measurePays_65 : decode cX4_measurePays 65 = .ok (.aload_n 0, 1) := by decide +kernel
theorem dX4_measurePays_66 : decode cX4_measurePays 66 = .ok (.getfield 12, 3) := by decide +kernel
theorem dX4_measurePays_69 : decode cX4_measurePays 69 = .ok (.getfield 232, 3) := by decide +kernel
theorem dX4_measurePays_72 : decode cX4_measurePays 72 = .ok (.iload 4, 2) := by decide +kernel
theorem dX4_measurePays_74 : decode cX4_measurePays 74 = .ok (.iaload, 1) := by decide +kernel
theorem dX4_measurePays_75 : decode cX4_measurePays 75 = .ok (.imul, 1) := by decide +kernel
theorem dX4_measurePays_76 : decode cX4_measurePays 76 = .ok (.iadd, 1) := by decide +kernel
theorem dX4_measurePays_77 : decode cX4_measurePays 77 = .ok (.istore_n 3, 1) := by decide +kernel
theorem dX4_measurePays_78 : decode cX4_measurePays 78 = .ok (.iinc 4 1, 3) := by decide +kernel
theorem dX4_measurePays_81 : decode cX4_measurePays 81 = .ok (.goto (-59), 3) := by decide +kernel
theorem dX4_measurePays_84 : decode cX4_measurePays 84 = .ok (.iload_n 2, 1) := by decide +kernel
theorem dX4_measurePays_85 : decode cX4_measurePays 85 = .ok (.ifCond .le 13, 3) := by decide +kernel
theorem dX4_measurePays_88 : decode cX4_measurePays 88 = .ok (.iload_n 3, 1) := by decide +kernel
theorem dX4_measurePays_89 : decode cX4_measurePays 89 = .ok (.sipush 1000, 3) := by decide +kernel
theorem dX4_measurePays_92 : decode cX4_measurePays 92 = .ok (.imul, 1) := by decide +kernel
theorem dX4_measurePays_93 : decode cX4_measurePays 93 = .ok (.iload_n 2, 1) := by decide +kernel
theorem dX4_measurePays_94 : decode cX4_measurePays 94 = .ok (.idiv, 1) := by decide +kernel
theorem dX4_measurePays_95 : decode cX4_measurePays 95 = .ok (.goto 4, 3) := by decide +kernel
theorem dX4_measurePays_98 : decode cX4_measurePays 98 = .ok (.iconst 0, 1) := by decide +kernel
theorem dX4_measurePays_99 : decode cX4_measurePays 99 = .ok (.ireturn, 1) := by decide +kernel
theorem dX4_hashOne_0 : decode cX4_hashOne 0 = .ok (.ldc2_w 235, 3) := by decide +kernel
theorem dX4_hashOne_3 : decode cX4_hashOne 3 = .ok (.lload_n 0, 1) := by decide +kernel
theorem dX4_hashOne_4 : decode cX4_hashOne 4 = .ok (.lmul, 1) := by decide +kernel
theorem dX4_hashOne_5 : decode cX4_hashOne 5 = .ok (.lload_n 2, 1) := by decide +kernel
theorem dX4_hashOne_6 : decode cX4_hashOne 6 = .ok (.ladd, 1) := by decide +kernel
theorem dX4_hashOne_7 : decode cX4_hashOne 7 = .ok (.lreturn, 1) := by decide +kernel
theorem dX4_hashAll_0 : decode cX4_hashAll 0 = .ok (.lload_n 0, 1) := by decide +kernel
theorem dX4_hashAll_1 : decode cX4_hashAll 1 = .ok (.lstore 4, 2) := by decide +kernel
theorem dX4_hashAll_3 : decode cX4_hashAll 3 = .ok (.iconst 0, 1) := by decide +kernel
theorem dX4_hashAll_4 : decode cX4_hashAll 4 = .ok (.istore 6, 2) := by decide +kernel
theorem dX4_hashAll_6 : decode cX4_hashAll 6 = .ok (.iload 6, 2) := by decide +kernel
theorem dX4_hashAll_8 : decode cX4_hashAll 8 = .ok (.iload_n 3, 1) := by decide +kernel
theorem dX4_hashAll_9 : decode cX4_hashAll 9 = .ok (.if_icmp .ge 28, 3) := by decide +kernel
theorem dX4_hashAll_12 : decode cX4_hashAll 12 = .ok (.iload 6, 2) := by decide +kernel
theorem dX4_hashAll_14 : decode cX4_hashAll 14 = .ok (.aload_n 2, 1) := by decide +kernel
theorem dX4_hashAll_15 : decode cX4_hashAll 15 = .ok (.arraylength, 1) := by decide +kernel
theorem dX4_hashAll_16 : decode cX4_hashAll 16 = .ok (.if_icmp .ge 21, 3) := by decide +kernel
theorem dX4_hashAll_19 : decode cX4_hashAll 19 = .ok (.lload 4, 2) := by decide +kernel
theorem dX4_hashAll_21 : decode cX4_hashAll 21 = .ok (.aload_n 2, 1) := by decide +kernel
theorem dX4_hashAll_22 : decode cX4_hashAll 22 = .ok (.iload 6, 2) := by decide +kernel
theorem dX4_hashAll_24 : decode cX4_hashAll 24 = .ok (.iaload, 1) := by decide +kernel
theorem dX4_hashAll_25 : decode cX4_hashAll 25 = .ok (.i2l, 1) := by decide +kernel
theorem dX4_hashAll_26 : decode cX4_hashAll 26 = .ok (.invokestatic 181, 3) := by decide +kernel
theorem dX4_hashAll_29 : decode cX4_hashAll 29 = .ok (.lstore 4, 2) := by decide +kernel
theorem dX4_hashAll_31 : decode cX4_hashAll 31 = .ok (.iinc 6 1, 3) := by decide +kernel
theorem dX4_hashAll_34 : decode cX4_hashAll 34 = .ok (.goto (-28), 3) := by decide +kernel
theorem dX4_hashAll_37 : decode cX4_hashAll 37 = .ok (.lload 4, 2) := by decide +kernel
theorem dX4_hashAll_39 : decode cX4_hashAll 39 = .ok (.lreturn, 1) := by decide +kernel
theorem dX4_hashBoard_0 : decode cX4_hashBoard 0 = .ok (.lload_n 1, 1) := by decide +kernel
theorem dX4_hashBoard_1 : decode cX4_hashBoard 1 = .ok (.lstore_n 3, 1) := by decide +kernel
theorem dX4_hashBoard_2 : decode cX4_hashBoard 2 = .ok (.iconst 0, 1) := by decide +kernel
theorem dX4_hashBoard_3 : decode cX4_hashBoard 3 = .ok (.istore 5, 2) := by decide +kernel
theorem dX4_hashBoard_5 : decode cX4_hashBoard 5 = .ok (.iload 5, 2) := by decide +kernel
theorem dX4_hashBoard_7 : decode cX4_hashBoard 7 = .ok (.bipush 56, 2) := by decide +kernel
theorem dX4_hashBoard_9 : decode cX4_hashBoard 9 = .ok (.if_icmp .ge 27, 3) := by decide +kernel
theorem dX4_hashBoard_12 : decode cX4_hashBoard 12 = .ok (.lload_n 3, 1) := by decide +kernel
theorem dX4_hashBoard_13 : decode cX4_hashBoard 13 = .ok (.aload_n 0, 1) := by decide +kernel
theorem dX4_hashBoard_14 : decode cX4_hashBoard 14 = .ok (.getfield 12, 3) := by decide +kernel
theorem dX4_hashBoard_17 : decode cX4_hashBoard 17 = .ok (.getfield 135, 3) := by decide +kernel
theorem dX4_hashBoard_20 : decode cX4_hashBoard 20 = .ok (.iload 5, 2) := by decide +kernel
theorem dX4_hashBoard_22 : decode cX4_hashBoard 22 = .ok (.iaload, 1) := by decide +kernel
theorem dX4_hashBoard_23 : decode cX4_hashBoard 23 = .ok (.iconst 1, 1) := by decide +kernel
theorem dX4_hashBoard_24 : decode cX4_hashBoard 24 = .ok (.iadd, 1) := by decide +kernel
theorem dX4_hashBoard_25 : decode cX4_hashBoard 25 = .ok (.i2l, 1) := by decide +kernel
theorem dX4_hashBoard_26 : decode cX4_hashBoard 26 = .ok (.invokestatic 181, 3) := by decide +kernel
theorem dX4_hashBoard_29 : decode cX4_hashBoard 29 = .ok (.lstore_n 3, 1) := by decide +kernel
theorem dX4_hashBoard_30 : decode cX4_hashBoard 30 = .ok (.iinc 5 1, 3) := by decide +kernel
theorem dX4_hashBoard_33 : decode cX4_hashBoard 33 = .ok (.goto (-28), 3) := by decide +kernel
theorem dX4_hashBoard_36 : decode cX4_hashBoard 36 = .ok (.lload_n 3, 1) := by decide +kernel
theorem dX4_hashBoard_37 : decode cX4_hashBoard 37 = .ok (.aload_n 0, 1) := by decide +kernel
theorem dX4_hashBoard_38 : decode cX4_hashBoard 38 = .ok (.getfield 12, 3) := by decide +kernel
theorem dX4_hashBoard_41 : decode cX4_hashBoard 41 = .ok (.getfield 237, 3) := by decide +kernel
theorem dX4_hashBoard_44 : decode cX4_hashBoard 44 = .ok (.aload_n 0, 1) := by decide +kernel
theorem dX4_hashBoard_45 : decode cX4_hashBoard 45 = .ok (.getfield 12, 3) := by decide +kernel
theorem dX4_hashBoard_48 : decode cX4_hashBoard 48 = .ok (.getfield 71, 3) := by decide +kernel
theorem dX4_hashBoard_51 : decode cX4_hashBoard 51 = .ok (.bipush 16, 2) := by decide +kernel
theorem dX4_hashBoard_53 : decode cX4_hashBoard 53 = .ok (.iaload, 1) := by decide +kernel
theorem dX4_hashBoard_54 : decode cX4_hashBoard 54 = .ok (.invokestatic 177, 3) := by decide +kernel
theorem dX4_hashBoard_57 : decode cX4_hashBoard 57 = .ok (.lstore_n 3, 1) := by decide +kernel
theorem dX4_hashBoard_58 : decode cX4_hashBoard 58 = .ok (.lload_n 3, 1) := by decide +kernel
theorem dX4_hashBoard_59 : decode cX4_hashBoard 59 = .ok (.aload_n 0, 1) := by decide +kernel
theorem dX4_hashBoard_60 : decode cX4_hashBoard 60 = .ok (.getfield 12, 3) := by decide +kernel
theorem dX4_hashBoard_63 : decode cX4_hashBoard 63 = .ok (.getfield 141, 3) := by decide +kernel
theorem dX4_hashBoard_66 : decode cX4_hashBoard 66 = .ok (.bipush 8, 2) := by decide +kernel
theorem dX4_hashBoard_68 : decode cX4_hashBoard 68 = .ok (.invokestatic 177, 3) := by decide +kernel
theorem dX4_hashBoard_71 : decode cX4_hashBoard 71 = .ok (.lstore_n 3, 1) := by decide +kernel
theorem dX4_hashBoard_72 : decode cX4_hashBoard 72 = .ok (.iconst 0, 1) := by decide +kernel
theorem dX4_hashBoard_73 : decode cX4_hashBoard 73 = .ok (.istore 5, 2) := by decide +kernel
theorem dX4_hashBoard_75 : decode cX4_hashBoard 75 = .ok (.iload 5, 2) := by decide +kernel
theorem dX4_hashBoard_77 : decode cX4_hashBoard 77 = .ok (.bipush 7, 2) := by decide +kernel
theorem dX4_hashBoard_79 : decode cX4_hashBoard 79 = .ok (.if_icmp .ge 41, 3) := by decide +kernel
theorem dX4_hashBoard_82 : decode cX4_hashBoard 82 = .ok (.iconst 0, 1) := by decide +kernel
theorem dX4_hashBoard_83 : decode cX4_hashBoard 83 = .ok (.istore 6, 2) := by decide +kernel
theorem dX4_hashBoard_85 : decode cX4_hashBoard 85 = .ok (.iload 6, 2) := by decide +kernel
theorem dX4_hashBoard_87 : decode cX4_hashBoard 87 = .ok (.iconst 4, 1) := by decide +kernel
theorem dX4_hashBoard_88 : decode cX4_hashBoard 88 = .ok (.if_icmp .gt 26, 3) := by decide +kernel
theorem dX4_hashBoard_91 : decode cX4_hashBoard 91 = .ok (.lload_n 3, 1) := by decide +kernel
theorem dX4_hashBoard_92 : decode cX4_hashBoard 92 = .ok (.aload_n 0, 1) := by decide +kernel
theorem dX4_hashBoard_93 : decode cX4_hashBoard 93 = .ok (.getfield 12, 3) := by decide +kernel
theorem dX4_hashBoard_96 : decode cX4_hashBoard 96 = .ok (.iload 5, 2) := by decide +kernel
theorem dX4_hashBoard_98 : decode cX4_hashBoard 98 = .ok (.iload 6, 2) := by decide +kernel
theorem dX4_hashBoard_100 : decode cX4_hashBoard 100 = .ok (.invokevirtual 144, 3) := by decide +kernel
theorem dX4_hashBoard_103 : decode cX4_hashBoard 103 = .ok (.i2l, 1) := by decide +kernel
theorem dX4_hashBoard_104 : decode cX4_hashBoard 104 = .ok (.invokestatic 181, 3) := by decide +kernel
theorem dX4_hashBoard_107 : decode cX4_hashBoard 107 = .ok (.lstore_n 3, 1) := by decide +kernel
theorem dX4_hashBoard_108 : decode cX4_hashBoard 108 = .ok (.iinc 6 1, 3) := by decide +kernel
theorem dX4_hashBoard_111 : decode cX4_hashBoard 111 = .ok (.goto (-26), 3) := by decide +kernel
theorem dX4_hashBoard_114 : decode cX4_hashBoard 114 = .ok (.iinc 5 1, 3) := by decide +kernel
theorem dX4_hashBoard_117 : decode cX4_hashBoard 117 = .ok (.goto (-42), 3) := by decide +kernel
theorem dX4_hashBoard_120 : decode cX4_hashBoard 120 = .ok (.lload_n 3, 1) := by decide +kernel
theorem dX4_hashBoard_121 : decode cX4_hashBoard 121 = .ok (.aload_n 0, 1) := by decide +kernel
theorem dX4_hashBoard_122 : decode cX4_hashBoard 122 = .ok (.getfield 12, 3) := by decide +kernel
theorem dX4_hashBoard_125 : decode cX4_hashBoard 125 = .ok (.getfield 147, 3) := by decide +kernel
theorem dX4_hashBoard_128 : decode cX4_hashBoard 128 = .ok (.iconst 3, 1) := by decide +kernel
theorem dX4_hashBoard_129 : decode cX4_hashBoard 129 = .ok (.invokestatic 177, 3) := by decide +kernel
theorem dX4_hashBoard_132 : decode cX4_hashBoard 132 = .ok (.lreturn, 1) := by decide +kernel
theorem dX4_hashColumn_0 : decode cX4_hashColumn 0 = .ok (.lload_n 1, 1) := by decide +kernel
theorem dX4_hashColumn_1 : decode cX4_hashColumn 1 = .ok (.lstore 4, 2) := by decide +kernel
theorem dX4_hashColumn_3 : decode cX4_hashColumn 3 = .ok (.aload_n 0, 1) := by decide +kernel
theorem dX4_hashColumn_4 : decode cX4_hashColumn 4 = .ok (.getfield 36, 3) := by decide +kernel
theorem dX4_hashColumn_7 : decode cX4_hashColumn 7 = .ok (.aload_n 0, 1) := by decide +kernel
theorem dX4_hashColumn_8 : decode cX4_hashColumn 8 = .ok (.getfield 12, 3) := by decide +kernel
theorem dX4_hashColumn_11 : decode cX4_hashColumn 11 = .ok (.getfield 135, 3) := by decide +kernel
theorem dX4_hashColumn_14 : decode cX4_hashColumn 14 = .ok (.iload_n 3, 1) := by decide +kernel
theorem dX4_hashColumn_15 : decode cX4_hashColumn 15 = .ok (.invokevirtual 150, 3) := by decide +kernel
theorem dX4_hashColumn_18 : decode cX4_hashColumn 18 = .ok (.aload_n 0, 1) := by decide +kernel
theorem dX4_hashColumn_19 : decode cX4_hashColumn 19 = .ok (.getfield 36, 3) := by decide +kernel
theorem dX4_hashColumn_22 : decode cX4_hashColumn 22 = .ok (.aload_n 0, 1) := by decide +kernel
theorem dX4_hashColumn_23 : decode cX4_hashColumn 23 = .ok (.getfield 12, 3) := by decide +kernel
theorem dX4_hashColumn_26 : decode cX4_hashColumn 26 = .ok (.getfield 135, 3) := by decide +kernel
theorem dX4_hashColumn_29 : decode cX4_hashColumn 29 = .ok (.iload_n 3, 1) := by decide +kernel
theorem dX4_hashColumn_30 : decode cX4_hashColumn 30 = .ok (.invokevirtual 157, 3) := by decide +kernel
theorem dX4_hashColumn_33 : decode cX4_hashColumn 33 = .ok (.iconst 0, 1) := by decide +kernel
theorem dX4_hashColumn_34 : decode cX4_hashColumn 34 = .ok (.istore 6, 2) := by decide +kernel
theorem dX4_hashColumn_36 : decode cX4_hashColumn 36 = .ok (.iload 6, 2) := by decide +kernel
theorem dX4_hashColumn_38 : decode cX4_hashColumn 38 = .ok (.bipush 7, 2) := by decide +kernel
theorem dX4_hashColumn_40 : decode cX4_hashColumn 40 = .ok (.if_icmp .ge 45, 3) := by decide +kernel
theorem dX4_hashColumn_43 : decode cX4_hashColumn 43 = .ok (.lload 4, 2) := by decide +kernel
theorem dX4_hashColumn_45 : decode cX4_hashColumn 45 = .ok (.aload_n 0, 1) := by decide +kernel
theorem dX4_hashColumn_46 : decode cX4_hashColumn 46 = .ok (.getfield 36, 3) := by decide +kernel
theorem dX4_hashColumn_49 : decode cX4_hashColumn 49 = .ok (.getfield 154, 3) := by decide +kernel
theorem dX4_hashColumn_52 : decode cX4_hashColumn 52 = .ok (.iload 6, 2) := by decide +kernel
theorem dX4_hashColumn_54 : decode cX4_hashColumn 54 = .ok (.iaload, 1) := by decide +kernel
theorem dX4_hashColumn_55 : decode cX4_hashColumn 55 = .ok (.i2l, 1) := by decide +kernel
theorem dX4_hashColumn_56 : decode cX4_hashColumn 56 = .ok (.invokestatic 181, 3) := by decide +kernel
theorem dX4_hashColumn_59 : decode cX4_hashColumn 59 = .ok (.lstore 4, 2) := by decide +kernel
theorem dX4_hashColumn_61 : decode cX4_hashColumn 61 = .ok (.lload 4, 2) := by decide +kernel
theorem dX4_hashColumn_63 : decode cX4_hashColumn 63 = .ok (.aload_n 0, 1) := by decide +kernel
theorem dX4_hashColumn_64 : decode cX4_hashColumn 64 = .ok (.getfield 36, 3) := by decide +kernel
theorem dX4_hashColumn_67 : decode cX4_hashColumn 67 = .ok (.getfield 160, 3) := by decide +kernel
theorem dX4_hashColumn_70 : decode cX4_hashColumn 70 = .ok (.iload 6, 2) := by decide +kernel
theorem dX4_hashColumn_72 : decode cX4_hashColumn 72 = .ok (.iaload, 1) := by decide +kernel
theorem dX4_hashColumn_73 : decode cX4_hashColumn 73 = .ok (.i2l, 1) := by decide +kernel
theorem dX4_hashColumn_74 : decode cX4_hashColumn 74 = .ok (.invokestatic 181, 3) := by decide +kernel
theorem dX4_hashColumn_77 : decode cX4_hashColumn 77 = .ok (.lstore 4, 2) := by decide +kernel
theorem dX4_hashColumn_79 : decode cX4_hashColumn 79 = .ok (.iinc 6 1, 3) := by decide +kernel
theorem dX4_hashColumn_82 : decode cX4_hashColumn 82 = .ok (.goto (-46), 3) := by decide +kernel
theorem dX4_hashColumn_85 : decode cX4_hashColumn 85 = .ok (.aload_n 0, 1) := by decide +kernel
theorem dX4_hashColumn_86 : decode cX4_hashColumn 86 = .ok (.iload_n 3, 1) := by decide +kernel
theorem dX4_hashColumn_87 : decode cX4_hashColumn 87 = .ok (.invokevirtual 163, 3) := by decide +kernel
theorem dX4_hashColumn_90 : decode cX4_hashColumn 90 = .ok (.iconst 0, 1) := by decide +kernel
theorem dX4_hashColumn_91 : decode cX4_hashColumn 91 = .ok (.istore 6, 2) := by decide +kernel
theorem dX4_hashColumn_93 : decode cX4_hashColumn 93 = .ok (.iload 6, 2) := by decide +kernel
theorem dX4_hashColumn_95 : decode cX4_hashColumn 95 = .ok (.iconst 3, 1) := by decide +kernel
theorem dX4_hashColumn_96 : decode cX4_hashColumn 96 = .ok (.if_icmp .gt 23, 3) := by decide +kernel
theorem dX4_hashColumn_99 : decode cX4_hashColumn 99 = .ok (.lload 4, 2) := by decide +kernel
theorem dX4_hashColumn_101 : decode cX4_hashColumn 101 = .ok (.aload_n 0, 1) := by decide +kernel
theorem dX4_hashColumn_102 : decode cX4_hashColumn 102 = .ok (.iload 6, 2) := by decide +kernel
theorem dX4_hashColumn_104 : decode cX4_hashColumn 104 = .ok (.invokevirtual 166, 3) := by decide +kernel
theorem dX4_hashColumn_107 : decode cX4_hashColumn 107 = .ok (.i2l, 1) := by decide +kernel
theorem dX4_hashColumn_108 : decode cX4_hashColumn 108 = .ok (.invokestatic 181, 3) := by decide +kernel
theorem dX4_hashColumn_111 : decode cX4_hashColumn 111 = .ok (.lstore 4, 2) := by decide +kernel
theorem dX4_hashColumn_113 : decode cX4_hashColumn 113 = .ok (.iinc 6 1, 3) := by decide +kernel
theorem dX4_hashColumn_116 : decode cX4_hashColumn 116 = .ok (.goto (-23), 3) := by decide +kernel
theorem dX4_hashColumn_119 : decode cX4_hashColumn 119 = .ok (.lload 4, 2) := by decide +kernel
theorem dX4_hashColumn_121 : decode cX4_hashColumn 121 = .ok (.aload_n 0, 1) := by decide +kernel
theorem dX4_hashColumn_122 : decode cX4_hashColumn 122 = .ok (.iload_n 3, 1) := by decide +kernel
theorem dX4_hashColumn_123 : decode cX4_hashColumn 123 = .ok (.invokevirtual 172, 3) := by decide +kernel
theorem dX4_hashColumn_126 : decode cX4_hashColumn 126 = .ok (.i2l, 1) := by decide +kernel
theorem dX4_hashColumn_127 : decode cX4_hashColumn 127 = .ok (.invokestatic 181, 3) := by decide +kernel
theorem dX4_hashColumn_130 : decode cX4_hashColumn 130 = .ok (.lreturn, 1) := by decide +kernel
theorem dX4_bitsOf_0 : decode cX4_bitsOf 0 = .ok (.dload_n 0, 1) := by decide +kernel
theorem dX4_bitsOf_1 : decode cX4_bitsOf 1 = .ok (.dconst 0, 1) := by decide +kernel
theorem dX4_bitsOf_2 : decode cX4_bitsOf 2 = .ok (.dcmp .g, 1) := by decide +kernel
theorem dX4_bitsOf_3 : decode cX4_bitsOf 3 = .ok (.ifCond .gt 5, 3) := by decide +kernel
theorem dX4_bitsOf_6 : decode cX4_bitsOf 6 = .ok (.lconst 0, 1) := by decide +kernel
theorem dX4_bitsOf_7 : decode cX4_bitsOf 7 = .ok (.lreturn, 1) := by decide +kernel
theorem dX4_bitsOf_8 : decode cX4_bitsOf 8 = .ok (.dload_n 0, 1) := by decide +kernel
theorem dX4_bitsOf_9 : decode cX4_bitsOf 9 = .ok (.dstore_n 2, 1) := by decide +kernel
theorem dX4_bitsOf_10 : decode cX4_bitsOf 10 = .ok (.ldc2_w 240, 3) := by decide +kernel
theorem dX4_bitsOf_13 : decode cX4_bitsOf 13 = .ok (.lstore 4, 2) := by decide +kernel
theorem dX4_bitsOf_15 : decode cX4_bitsOf 15 = .ok (.iconst 0, 1) := by decide +kernel
theorem dX4_bitsOf_16 : decode cX4_bitsOf 16 = .ok (.istore 6, 2) := by decide +kernel
theorem dX4_bitsOf_18 : decode cX4_bitsOf 18 = .ok (.iload 6, 2) := by decide +kernel
theorem dX4_bitsOf_20 : decode cX4_bitsOf 20 = .ok (.bipush 64, 2) := by decide +kernel
theorem dX4_bitsOf_22 : decode cX4_bitsOf 22 = .ok (.if_icmp .ge 29, 3) := by decide +kernel
theorem dX4_bitsOf_25 : decode cX4_bitsOf 25 = .ok (.dload_n 2, 1) := by decide +kernel
theorem dX4_bitsOf_26 : decode cX4_bitsOf 26 = .ok (.ldc2_w 242, 3) := by decide +kernel
theorem dX4_bitsOf_29 : decode cX4_bitsOf 29 = .ok (.dcmp .l, 1) := by decide +kernel
theorem dX4_bitsOf_30 : decode cX4_bitsOf 30 = .ok (.ifCond .lt 21, 3) := by decide +kernel
theorem dX4_bitsOf_33 : decode cX4_bitsOf 33 = .ok (.dload_n 2, 1) := by decide +kernel
theorem dX4_bitsOf_34 : decode cX4_bitsOf 34 = .ok (.ldc2_w 242, 3) := by decide +kernel
theorem dX4_bitsOf_37 : decode cX4_bitsOf 37 = .ok (.ddiv, 1) := by decide +kernel
theorem dX4_bitsOf_38 : decode cX4_bitsOf 38 = .ok (.dstore_n 2, 1) := by decide +kernel
theorem dX4_bitsOf_39 : decode cX4_bitsOf 39 = .ok (.lload 4, 2) := by decide +kernel
theorem dX4_bitsOf_41 : decode cX4_bitsOf 41 = .ok (.lconst 1, 1) := by decide +kernel
theorem dX4_bitsOf_42 : decode cX4_bitsOf 42 = .ok (.ladd, 1) := by decide +kernel
theorem dX4_bitsOf_43 : decode cX4_bitsOf 43 = .ok (.lstore 4, 2) := by decide +kernel
theorem dX4_bitsOf_45 : decode cX4_bitsOf 45 = .ok (.iinc 6 1, 3) := by decide +kernel
theorem dX4_bitsOf_48 : decode cX4_bitsOf 48 = .ok (.goto (-30), 3) := by decide +kernel
theorem dX4_bitsOf_51 : decode cX4_bitsOf 51 = .ok (.iconst 0, 1) := by decide +kernel
theorem dX4_bitsOf_52 : decode cX4_bitsOf 52 = .ok (.istore 6, 2) := by decide +kernel
theorem dX4_bitsOf_54 : decode cX4_bitsOf 54 = .ok (.iload 6, 2) := by decide +kernel
theorem dX4_bitsOf_56 : decode cX4_bitsOf 56 = .ok (.bipush 64, 2) := by decide +kernel
theorem dX4_bitsOf_58 : decode cX4_bitsOf 58 = .ok (.if_icmp .ge 27, 3) := by decide +kernel
theorem dX4_bitsOf_61 : decode cX4_bitsOf 61 = .ok (.dload_n 2, 1) := by decide +kernel
theorem dX4_bitsOf_62 : decode cX4_bitsOf 62 = .ok (.dconst 1, 1) := by decide +kernel
theorem dX4_bitsOf_63 : decode cX4_bitsOf 63 = .ok (.dcmp .g, 1) := by decide +kernel
theorem dX4_bitsOf_64 : decode cX4_bitsOf 64 = .ok (.ifCond .ge 21, 3) := by decide +kernel
theorem dX4_bitsOf_67 : decode cX4_bitsOf 67 = .ok (.dload_n 2, 1) := by decide +kernel
theorem dX4_bitsOf_68 : decode cX4_bitsOf 68 = .ok (.ldc2_w 242, 3) := by decide +kernel
theorem dX4_bitsOf_71 : decode cX4_bitsOf 71 = .ok (.dmul, 1) := by decide +kernel
theorem dX4_bitsOf_72 : decode cX4_bitsOf 72 = .ok (.dstore_n 2, 1) := by decide +kernel
theorem dX4_bitsOf_73 : decode cX4_bitsOf 73 = .ok (.lload 4, 2) := by decide +kernel
theorem dX4_bitsOf_75 : decode cX4_bitsOf 75 = .ok (.lconst 1, 1) := by decide +kernel
theorem dX4_bitsOf_76 : decode cX4_bitsOf 76 = .ok (.lsub, 1) := by decide +kernel
theorem dX4_bitsOf_77 : decode cX4_bitsOf 77 = .ok (.lstore 4, 2) := by decide +kernel
theorem dX4_bitsOf_79 : decode cX4_bitsOf 79 = .ok (.iinc 6 1, 3) := by decide +kernel
theorem dX4_bitsOf_82 : decode cX4_bitsOf 82 = .ok (.goto (-28), 3) := by decide +kernel
theorem dX4_bitsOf_85 : decode cX4_bitsOf 85 = .ok (.lload 4, 2) := by decide +kernel
theorem dX4_bitsOf_87 : decode cX4_bitsOf 87 = .ok (.ldc2_w 244, 3) := by decide +kernel
theorem dX4_bitsOf_90 : decode cX4_bitsOf 90 = .ok (.lmul, 1) := by decide +kernel
theorem dX4_bitsOf_91 : decode cX4_bitsOf 91 = .ok (.dload_n 2, 1) := by decide +kernel
theorem dX4_bitsOf_92 : decode cX4_bitsOf 92 = .ok (.dconst 1, 1) := by decide +kernel
theorem dX4_bitsOf_93 : decode cX4_bitsOf 93 = .ok (.dsub, 1) := by decide +kernel
theorem dX4_bitsOf_94 : decode cX4_bitsOf 94 = .ok (.ldc2_w 246, 3) := by decide +kernel
theorem dX4_bitsOf_97 : decode cX4_bitsOf 97 = .ok (.dmul, 1) := by decide +kernel
theorem dX4_bitsOf_98 : decode cX4_bitsOf 98 = .ok (.d2l, 1) := by decide +kernel
theorem dX4_bitsOf_99 : decode cX4_bitsOf 99 = .ok (.ladd, 1) := by decide +kernel
theorem dX4_bitsOf_100 : decode cX4_bitsOf 100 = .ok (.lreturn, 1) := by decide +kernel
theorem dX4_bounce_0 : decode cX4_bounce 0 = .ok (.iload_n 0, 1) := by decide +kernel
theorem dX4_bounce_1 : decode cX4_bounce 1 = .ok (.iload_n 1, 1) := by decide +kernel
theorem dX4_bounce_2 : decode cX4_bounce 2 = .ok (.iadd, 1) := by decide +kernel
theorem dX4_bounce_3 : decode cX4_bounce 3 = .ok (.istore_n 2, 1) := by decide +kernel
theorem dX4_bounce_4 : decode cX4_bounce 4 = .ok (.iload_n 2, 1) := by decide +kernel
theorem dX4_bounce_5 : decode cX4_bounce 5 = .ok (.ifCond .lt 9, 3) := by decide +kernel
theorem dX4_bounce_8 : decode cX4_bounce 8 = .ok (.iload_n 2, 1) := by decide +kernel
theorem dX4_bounce_9 : decode cX4_bounce 9 = .ok (.bipush 7, 2) := by decide +kernel
theorem dX4_bounce_11 : decode cX4_bounce 11 = .ok (.if_icmp .lt 7, 3) := by decide +kernel
theorem dX4_bounce_14 : decode cX4_bounce 14 = .ok (.iload_n 0, 1) := by decide +kernel
theorem dX4_bounce_15 : decode cX4_bounce 15 = .ok (.goto 4, 3) := by decide +kernel
theorem dX4_bounce_18 : decode cX4_bounce 18 = .ok (.iload_n 2, 1) := by decide +kernel
theorem dX4_bounce_19 : decode cX4_bounce 19 = .ok (.ireturn, 1) := by decide +kernel
theorem dX5_init_0 : decode cX5_init 0 = .ok (.aload_n 0, 1) := by decide +kernel
theorem dX5_init_1 : decode cX5_init 1 = .ok (.invokespecial 1, 3) := by decide +kernel
theorem dX5_init_4 : decode cX5_init 4 = .ok (.aload_n 0, 1) := by decide +kernel
theorem dX5_init_5 : decode cX5_init 5 = .ok (.sipush 175, 3) := by decide +kernel
theorem dX5_init_8 : decode cX5_init 8 = .ok (.newarray .int, 2) := by decide +kernel
theorem dX5_init_10 : decode cX5_init 10 = .ok (.putfield 7, 3) := by decide +kernel
theorem dX5_init_13 : decode cX5_init 13 = .ok (.aload_n 0, 1) := by decide +kernel
theorem dX5_init_14 : decode cX5_init 14 = .ok (.sipush 175, 3) := by decide +kernel
theorem dX5_init_17 : decode cX5_init 17 = .ok (.newarray .int, 2) := by decide +kernel
theorem dX5_init_19 : decode cX5_init 19 = .ok (.putfield 13, 3) := by decide +kernel
theorem dX5_init_22 : decode cX5_init 22 = .ok (.aload_n 0, 1) := by decide +kernel
theorem dX5_init_23 : decode cX5_init 23 = .ok (.sipush 1050, 3) := by decide +kernel
theorem dX5_init_26 : decode cX5_init 26 = .ok (.newarray .int, 2) := by decide +kernel
theorem dX5_init_28 : decode cX5_init 28 = .ok (.putfield 16, 3) := by decide +kernel
theorem dX5_init_31 : decode cX5_init 31 = .ok (.aload_n 0, 1) := by decide +kernel
theorem dX5_init_32 : decode cX5_init 32 = .ok (.sipush 175, 3) := by decide +kernel
theorem dX5_init_35 : decode cX5_init 35 = .ok (.newarray .int, 2) := by decide +kernel
theorem dX5_init_37 : decode cX5_init 37 = .ok (.putfield 19, 3) := by decide +kernel
theorem dX5_init_40 : decode cX5_init 40 = .ok (.aload_n 0, 1) := by decide +kernel
theorem dX5_init_41 : decode cX5_init 41 = .ok (.bipush 60, 2) := by decide +kernel
theorem dX5_init_43 : decode cX5_init 43 = .ok (.newarray .int, 2) := by decide +kernel
theorem dX5_init_45 : decode cX5_init 45 = .ok (.putfield 22, 3) := by decide +kernel
theorem dX5_init_48 : decode cX5_init 48 = .ok (.aload_n 0, 1) := by decide +kernel
theorem dX5_init_49 : decode cX5_init 49 = .ok (.bipush 7, 2) := by decide +kernel
theorem dX5_init_51 : decode cX5_init 51 = .ok (.newarray .int, 2) := by decide +kernel
theorem dX5_init_53 : decode cX5_init 53 = .ok (.putfield 25, 3) := by decide +kernel
theorem dX5_init_56 : decode cX5_init 56 = .ok (.aload_n 0, 1) := by decide +kernel
theorem dX5_init_57 : decode cX5_init 57 = .ok (.bipush 7, 2) := by decide +kernel
theorem dX5_init_59 : decode cX5_init 59 = .ok (.newarray .int, 2) := by decide +kernel
theorem dX5_init_61 : decode cX5_init 61 = .ok (.putfield 28, 3) := by decide +kernel
theorem dX5_init_64 : decode cX5_init 64 = .ok (.aload_n 0, 1) := by decide +kernel
theorem dX5_init_65 : decode cX5_init 65 = .ok (.getfield 7, 3) := by decide +kernel
theorem dX5_init_68 : decode cX5_init 68 = .ok (.iconst 0, 1) := by decide +kernel
theorem dX5_init_69 : decode cX5_init 69 = .ok (.iconst 1, 1) := by decide +kernel
theorem dX5_init_70 : decode cX5_init 70 = .ok (.iastore, 1) := by decide +kernel
theorem dX5_init_71 : decode cX5_init 71 = .ok (.aload_n 0, 1) := by decide +kernel
theorem dX5_init_72 : decode cX5_init 72 = .ok (.getfield 7, 3) := by decide +kernel
theorem dX5_init_75 : decode cX5_init 75 = .ok (.bipush 12, 2) := by decide +kernel
theorem dX5_init_77 : decode cX5_init 77 = .ok (.iconst (-1), 1) := by decide +kernel
theorem dX5_init_78 : decode cX5_init 78 = .ok (.iastore, 1) := by decide +kernel
theorem dX5_init_79 : decode cX5_init 79 = .ok (.aload_n 0, 1) := by decide +kernel
theorem dX5_init_80 : decode cX5_init 80 = .ok (.getfield 7, 3) := by decide +kernel
theorem dX5_init_83 : decode cX5_init 83 = .ok (.bipush 13, 2) := by decide +kernel
theorem dX5_init_85 : decode cX5_init 85 = .ok (.iconst 3, 1) := by decide +kernel
theorem dX5_init_86 : decode cX5_init 86 = .ok (.iastore, 1) := by decide +kernel
theorem dX5_init_87 : decode cX5_init 87 = .ok (.aload_n 0, 1) := by decide +kernel
theorem dX5_init_88 : decode cX5_init 88 = .ok (.getfield 7, 3) := by decide +kernel
theorem dX5_init_91 : decode cX5_init 91 = .ok (.bipush 14, 2) := by decide +kernel
theorem dX5_init_93 : decode cX5_init 93 = .ok (.bipush 6, 2) := by decide +kernel
theorem dX5_init_95 : decode cX5_init 95 = .ok (.iastore, 1) := by decide +kernel
theorem dX5_init_96 : decode cX5_init 96 = .ok (.aload_n 0, 1) := by decide +kernel
theorem dX5_init_97 : decode cX5_init 97 = .ok (.getfield 7, 3) := by decide +kernel
theorem dX5_init_100 : decode cX5_init 100 = .ok (.bipush 15, 2) := by decide +kernel
theorem dX5_init_102 : decode cX5_init 102 = .ok (.bipush 8, 2) := by decide +kernel
theorem dX5_init_104 : decode cX5_init 104 = .ok (.iastore, 1) := by decide +kernel
theorem dX5_init_105 : decode cX5_init 105 = .ok (.iconst 0, 1) := by decide +kernel
theorem dX5_init_106 : decode cX5_init 106 = .ok (.istore_n 1, 1) := by decide +kernel
theorem dX5_init_107 : decode cX5_init 107 = .ok (.iload_n 1, 1) := by decide +kernel
theorem dX5_init_108 : decode cX5_init 108 = .ok (.iconst 3, 1) := by decide +kernel
theorem dX5_init_109 : decode cX5_init 109 = .ok (.if_icmp .ge 19, 3) := by decide +kernel
theorem dX5_init_112 : decode cX5_init 112 = .ok (.aload_n 0, 1) := by decide +kernel
theorem dX5_init_113 : decode cX5_init 113 = .ok (.getfield 7, 3) := by decide +kernel
theorem dX5_init_116 : decode cX5_init 116 = .ok (.bipush 17, 2) := by decide +kernel
theorem dX5_init_118 : decode cX5_init 118 = .ok (.iload_n 1, 1) := by decide +kernel
theorem dX5_init_119 : decode cX5_init 119 = .ok (.iadd, 1) := by decide +kernel
theorem dX5_init_120 : decode cX5_init 120 = .ok (.iload_n 1, 1) := by decide +kernel
theorem dX5_init_121 : decode cX5_init 121 = .ok (.iastore, 1) := by decide +kernel
theorem dX5_init_122 : decode cX5_init 122 = .ok (.iinc 1 1, 3) := by decide +kernel
theorem dX5_init_125 : decode cX5_init 125 = .ok (.goto (-18), 3) := by decide +kernel
theorem dX5_init_128 : decode cX5_init 128 = .ok (.iconst 0, 1) := by decide +kernel
theorem dX5_init_129 : decode cX5_init 129 = .ok (.istore_n 1, 1) := by decide +kernel
theorem dX5_init_130 : decode cX5_init 130 = .ok (.iload_n 1, 1) := by decide +kernel
theorem dX5_init_131 : decode cX5_init 131 = .ok (.bipush 7, 2) := by decide +kernel
theorem dX5_init_133 : decode cX5_init 133 = .ok (.if_icmp .ge 83, 3) := by decide +kernel
theorem dX5_init_136 : decode cX5_init 136 = .ok (.iload_n 1, 1) := by decide +kernel
theorem dX5_init_137 : decode cX5_init 137 = .ok (.iconst 3, 1) := by decide +kernel
theorem dX5_init_138 : decode cX5_init 138 = .ok (.if_icmp .ge 9, 3) := by decide +kernel
theorem dX5_init_141 : decode cX5_init 141 = .ok (.iconst 3, 1) := by decide +kernel
theorem dX5_init_142 : decode cX5_init 142 = .ok (.iload_n 1, 1) := by decide +kernel
theorem dX5_init_143 : decode cX5_init 143 = .ok (.isub, 1) := by decide +kernel
theorem dX5_init_144 : decode cX5_init 144 = .ok (.goto 6, 3) := by decide +kernel
theorem dX5_init_147 : decode cX5_init 147 = .ok (.iload_n 1, 1) := by decide +kernel
theorem dX5_init_148 : decode cX5_init 148 = .ok (.iconst 3, 1) := by decide +kernel
theorem dX5_init_149 : decode cX5_init 149 = .ok (.isub, 1) := by decide +kernel
theorem dX5_init_150 : decode cX5_init 150 = .ok (.istore_n 2, 1) := by decide +kernel
theorem dX5_init_151 : decode cX5_init 151 = .ok (.aload_n 0, 1) := by decide +kernel
theorem dX5_init_152 : decode cX5_init 152 = .ok (.iload_n 1, 1) := by decide +kernel
theorem dX5_init_153 : decode cX5_init 153 = .ok (.iconst 0, 1) := by decide +kernel
theorem dX5_init_154 : decode cX5_init 154 = .ok (.iload_n 2, 1) := by decide +kernel
theorem dX5_init_155 : decode cX5_init 155 = .ok (.iconst 1, 1) := by decide +kernel
theorem dX5_init_156 : decode cX5_init 156 = .ok (.if_icmp .ne 7, 3) := by decide +kernel
theorem dX5_init_159 : decode cX5_init 159 = .ok (.iconst 1, 1) := by decide +kernel
theorem dX5_init_160 : decode cX5_init 160 = .ok (.goto 13, 3) := by decide +kernel
theorem dX5_init_163 : decode cX5_init 163 = .ok (.iload_n 2, 1) := by decide +kernel
theorem dX5_init_164 : decode cX5_init 164 = .ok (.iconst 2, 1) := by decide +kernel
theorem dX5_init_165 : decode cX5_init 165 = .ok (.if_icmp .ne 7, 3) := by decide +kernel
theorem dX5_init_168 : decode cX5_init 168 = .ok (.iconst 2, 1) := by decide +kernel
theorem dX5_init_169 : decode cX5_init 169 = .ok (.goto 4, 3) := by decide +kernel
theorem dX5_init_172 : decode cX5_init 172 = .ok (.iconst 0, 1) := by decide +kernel
theorem dX5_init_173 : decode cX5_init 173 = .ok (.invokevirtual 31, 3) := by decide +kernel
theorem dX5_init_176 : decode cX5_init 176 = .ok (.aload_n 0, 1) := by decide +kernel
theorem dX5_init_177 : decode cX5_init 177 = .ok (.iload_n 1, 1) := by decide +kernel
theorem dX5_init_178 : decode cX5_init 178 = .ok (.iconst 1, 1) := by decide +kernel
theorem dX5_init_179 : decode cX5_init 179 = .ok (.iload_n 2, 1) := by decide +kernel
theorem dX5_init_180 : decode cX5_init 180 = .ok (.ifCond .ne 7, 3) := by decide +kernel
theorem dX5_init_183 : decode cX5_init 183 = .ok (.iconst 2, 1) := by decide +kernel
theorem dX5_init_184 : decode cX5_init 184 = .ok (.goto 23, 3) := by decide +kernel
theorem dX5_init_187 : decode cX5_init 187 = .ok (.iload_n 2, 1) := by decide +kernel
theorem dX5_init_188 : decode cX5_init 188 = .ok (.iconst 1, 1) := by decide +kernel
theorem dX5_init_189 : decode cX5_init 189 = .ok (.if_icmp .ne 8, 3) := by decide +kernel
theorem dX5_init_192 : decode cX5_init 192 = .ok (.bipush 10, 2) := by decide +kernel
theorem dX5_init_194 : decode cX5_init 194 = .ok (.goto 13, 3) := by decide +kernel
theorem dX5_init_197 : decode cX5_init 197 = .ok (.iload_n 2, 1) := by decide +kernel
theorem dX5_init_198 : decode cX5_init 198 = .ok (.iconst 2, 1) := by decide +kernel
theorem dX5_init_199 : decode cX5_init 199 = .ok (.if_icmp .ne 7, 3) := by decide +kernel
theorem dX5_init_202 : decode cX5_init 202 = .ok (.iconst 3, 1) := by decide +kernel
theorem dX5_init_203 : decode cX5_init 203 = .ok (.goto 4, 3) := by decide +kernel
theorem dX5_init_206 : decode cX5_init 206 = .ok (.iconst 0, 1) := by decide +kernel
theorem dX5_init_207 : decode cX5_init 207 = .ok (.invokevirtual 31, 3) := by decide +kernel
theorem dX5_init_210 : decode cX5_init 210 = .ok (.iinc 1 1, 3) := by decide +kernel
theorem dX5_init_213 : decode cX5_init 213 = .ok (.goto (-83), 3) := by decide +kernel
theorem dX5_init_216 : decode cX5_init 216 = .ok (.iconst 0, 1) := by decide +kernel
theorem dX5_init_217 : decode cX5_init 217 = .ok (.istore_n 1, 1) := by decide +kernel
theorem dX5_init_218 : decode cX5_init 218 = .ok (.iload_n 1, 1) := by decide +kernel
theorem dX5_init_219 : decode cX5_init 219 = .ok (.bipush 8, 2) := by decide +kernel
theorem dX5_init_221 : decode cX5_init 221 = .ok (.if_icmp .ge 20, 3) := by decide +kernel
theorem dX5_init_224 : decode cX5_init 224 = .ok (.aload_n 0, 1) := by decide +kernel
theorem dX5_init_225 : decode cX5_init 225 = .ok (.getfield 7, 3) := by decide +kernel
theorem dX5_init_228 : decode cX5_init 228 = .ok (.sipush 167, 3) := by decide +kernel
theorem dX5_init_231 : decode cX5_init 231 = .ok (.iload_n 1, 1) := by decide +kernel
theorem dX5_init_232 : decode cX5_init 232 = .ok (.iadd, 1) := by decide +kernel
theorem dX5_init_233 : decode cX5_init 233 = .ok (.iconst (-1), 1) := by decide +kernel
theorem dX5_init_234 : decode cX5_init 234 = .ok (.iastore, 1) := by decide +kernel
theorem dX5_init_235 : decode cX5_init 235 = .ok (.iinc 1 1, 3) := by decide +kernel
theorem dX5_init_238 : decode cX5_init 238 = .ok (.goto (-20), 3) := by decide +kernel
theorem dX5_init_241 : decode cX5_init 241 = .ok (.return_, 1) := by decide +kernel
theorem dX5_thrown_0 : decode cX5_thrown 0 = .ok (.aload_n 0, 1) := by decide +kernel
theorem dX5_thrown_1 : decode cX5_thrown 1 = .ok (.getfield 35, 3) := by decide +kernel
theorem dX5_thrown_4 : decode cX5_thrown 4 = .ok (.ireturn, 1) := by decide +kernel
theorem dX5_in_0 : decode cX5_in 0 = .ok (.iload_n 0, 1) := by decide +kernel
theorem dX5_in_1 : decode cX5_in 1 = .ok (.iload_n 1, 1) := by decide +kernel
theorem dX5_in_2 : decode cX5_in 2 = .ok (.if_icmp .lt 12, 3) := by decide +kernel
theorem dX5_in_5 : decode cX5_in 5 = .ok (.iload_n 0, 1) := by decide +kernel
theorem dX5_in_6 : decode cX5_in 6 = .ok (.iload_n 2, 1) := by decide +kernel
theorem dX5_in_7 : decode cX5_in 7 = .ok (.if_icmp .gt 7, 3) := by decide +kernel
theorem dX5_in_10 : decode cX5_in 10 = .ok (.iconst 1, 1) := by decide +kernel
theorem dX5_in_11 : decode cX5_in 11 = .ok (.goto 4, 3) := by decide +kernel
theorem dX5_in_14 : decode cX5_in 14 = .ok (.iconst 0, 1) := by decide +kernel
theorem dX5_in_15 : decode cX5_in 15 = .ok (.ireturn, 1) := by decide +kernel
theorem dX5_isColumn_0 : decode cX5_isColumn 0 = .ok (.iload_n 0, 1) := by decide +kernel
theorem dX5_isColumn_1 : decode cX5_isColumn 1 = .ok (.iconst 0, 1) := by decide +kernel
theorem dX5_isColumn_2 : decode cX5_isColumn 2 = .ok (.bipush 6, 2) := by decide +kernel
theorem dX5_isColumn_4 : decode cX5_isColumn 4 = .ok (.invokestatic 39, 3) := by decide +kernel
theorem dX5_isColumn_7 : decode cX5_isColumn 7 = .ok (.ireturn, 1) := by decide +kernel
theorem dX5_isRow_0 : decode cX5_isRow 0 = .ok (.iload_n 0, 1) := by decide +kernel
theorem dX5_isRow_1 : decode cX5_isRow 1 = .ok (.iconst 0, 1) := by decide +kernel
theorem dX5_isRow_2 : decode cX5_isRow 2 = .ok (.bipush 7, 2) := by decide +kernel
theorem dX5_isRow_4 : decode cX5_isRow 4 = .ok (.invokestatic 39, 3) := by decide +kernel
theorem dX5_isRow_7 : decode cX5_isRow 7 = .ok (.ireturn, 1) := by decide +kernel
theorem dX5_of_0 : decode cX5_of 0 = .ok (.aload_n 0, 1) := by decide +kernel
theorem dX5_of_1 : decode cX5_of 1 = .ok (.getfield 7, 3) := by decide +kernel
theorem dX5_of_4 : decode cX5_of 4 = .ok (.sipush 132, 3) := by decide +kernel
theorem dX5_of_7 : decode cX5_of 7 = .ok (.iconst 5, 1) := by decide +kernel
theorem dX5_of_8 : decode cX5_of 8 = .ok (.iload_n 1, 1) := by decide +kernel
theorem dX5_of_9 : decode cX5_of 9 = .ok (.imul, 1) := by decide +kernel
theorem dX5_of_10 : decode cX5_of 10 = .ok (.iadd, 1) := by decide +kernel
theorem dX5_of_11 : decode cX5_of 11 = .ok (.iload_n 2, 1) := by decide +kernel
theorem dX5_of_12 : decode cX5_of 12 = .ok (.iadd, 1) := by decide +kernel
theorem dX5_of_13 : decode cX5_of 13 = .ok (.iaload, 1) := by decide +kernel
theorem dX5_of_14 : decode cX5_of 14 = .ok (.ireturn, 1) := by decide +kernel
theorem dX5_put_0 : decode cX5_put 0 = .ok (.aload_n 0, 1) := by decide +kernel
theorem dX5_put_1 : decode cX5_put 1 = .ok (.getfield 7, 3) := by decide +kernel
theorem dX5_put_4 : decode cX5_put 4 = .ok (.sipush 132, 3) := by decide +kernel
theorem dX5_put_7 : decode cX5_put 7 = .ok (.iconst 5, 1) := by decide +kernel
theorem dX5_put_8 : decode cX5_put 8 = .ok (.iload_n 1, 1) := by decide +kernel
theorem dX5_put_9 : decode cX5_put 9 = .ok (.imul, 1) := by decide +kernel
theorem dX5_put_10 : decode cX5_put 10 = .ok (.iadd, 1) := by decide +kernel
theorem dX5_put_11 : decode cX5_put 11 = .ok (.iload_n 2, 1) := by decide +kernel
theorem dX5_put_12 : decode cX5_put 12 = .ok (.iadd, 1) := by decide +kernel
theorem dX5_put_13 : decode cX5_put 13 = .ok (.iload_n 3, 1) := by decide +kernel
theorem dX5_put_14 : decode cX5_put 14 = .ok (.iastore, 1) := by decide +kernel
theorem dX5_put_15 : decode cX5_put 15 = .ok (.return_, 1) := by decide +kernel
theorem dX5_lean_0 : decode cX5_lean 0 = .ok (.aload_n 0, 1) := by decide +kernel
theorem dX5_lean_1 : decode cX5_lean 1 = .ok (.getfield 7, 3) := by decide +kernel
theorem dX5_lean_4 : decode cX5_lean 4 = .ok (.bipush 20, 2) := by decide +kernel
theorem dX5_lean_6 : decode cX5_lean 6 = .ok (.iload_n 1, 1) := by decide +kernel
theorem dX5_lean_7 : decode cX5_lean 7 = .ok (.iadd, 1) := by decide +kernel
theorem dX5_lean_8 : decode cX5_lean 8 = .ok (.iaload, 1) := by decide +kernel
theorem dX5_lean_9 : decode cX5_lean 9 = .ok (.ireturn, 1) := by decide +kernel
theorem dX5_record_0 : decode cX5_record 0 = .ok (.aload_n 0, 1) := by decide +kernel
theorem dX5_record_1 : decode cX5_record 1 = .ok (.getfield 43, 3) := by decide +kernel
theorem dX5_record_4 : decode cX5_record 4 = .ok (.bipush 6, 2) := by decide +kernel
theorem dX5_record_6 : decode cX5_record 6 = .ok (.if_icmp .ne 44, 3) := by decide +kernel
theorem dX5_record_9 : decode cX5_record 9 = .ok (.iconst 0, 1) := by decide +kernel
theorem dX5_record_10 : decode cX5_record 10 = .ok (.istore_n 1, 1) := by decide +kernel
theorem dX5_record_11 : decode cX5_record 11 = .ok (.iload_n 1, 1) := by decide +kernel
theorem dX5_record_12 : decode cX5_record 12 = .ok (.sipush 875, 3) := by decide +kernel
theorem dX5_record_15 : decode cX5_record 15 = .ok (.if_icmp .ge 25, 3) := by decide +kernel
theorem dX5_record_18 : decode cX5_record 18 = .ok (.aload_n 0, 1) := by decide +kernel
theorem dX5_record_19 : decode cX5_record 19 = .ok (.getfield 16, 3) := by decide +kernel
theorem dX5_record_22 : decode cX5_record 22 = .ok (.iload_n 1, 1) := by decide +kernel
theorem dX5_record_23 : decode cX5_record 23 = .ok (.aload_n 0, 1) := by decide +kernel
theorem dX5_record_24 : decode cX5_record 24 = .ok (.getfield 16, 3) := by decide +kernel
theorem dX5_record_27 : decode cX5_record 27 = .ok (.sipush 175, 3) := by decide +kernel
theorem dX5_record_30 : decode cX5_record 30 = .ok (.iload_n 1, 1) := by decide +kernel
theorem dX5_record_31 : decode cX5_record 31 = .ok (.iadd, 1) := by decide +kernel
theorem dX5_record_32 : decode cX5_record 32 = .ok (.iaload, 1) := by decide +kernel
theorem dX5_record_33 : decode cX5_record 33 = .ok (.iastore, 1) := by decide +kernel
theorem dX5_record_34 : decode cX5_record 34 = .ok (.iinc 1 1, 3) := by decide +kernel
theorem dX5_record_37 : decode cX5_record 37 = .ok (.goto (-26), 3) := by decide +kernel
theorem dX5_record_40 : decode cX5_record 40 = .ok (.aload_n 0, 1) := by decide +kernel
theorem dX5_record_41 : decode cX5_record 41 = .ok (.dup, 1) := by decide +kernel
theorem dX5_record_42 : decode cX5_record 42 = .ok (.getfield 43, 3) := by decide +kernel
theorem dX5_record_45 : decode cX5_record 45 = .ok (.iconst 1, 1) := by decide +kernel
theorem dX5_record_46 : decode cX5_record 46 = .ok (.isub, 1) := by decide +kernel
theorem dX5_record_47 : decode cX5_record 47 = .ok (.putfield 43, 3) := by decide +kernel
theorem dX5_record_50 : decode cX5_record 50 = .ok (.iconst 0, 1) := by decide +kernel
theorem dX5_record_51 : decode cX5_record 51 = .ok (.istore_n 1, 1) := by decide +kernel
theorem dX5_record_52 : decode cX5_record 52 = .ok (.iload_n 1, 1) := by decide +kernel
theorem dX5_record_53 : decode cX5_record 53 = .ok (.sipush 175, 3) := by decide +kernel
theorem dX5_record_56 : decode cX5_record 56 = .ok (.if_icmp .ge 30, 3) := by decide +kernel
theorem dX5_record_59 : decode cX5_record 59 = .ok (.aload_n 0, 1) := by decide +kernel
theorem dX5_record_60 : decode cX5_record 60 = .ok (.getfield 16, 3) := by decide +kernel
theorem dX5_record_63 : decode cX5_record 63 = .ok (.sipush 175, 3) := by decide +kernel
theorem dX5_record_66 : decode cX5_record 66 = .ok (.aload_n 0, 1) := by decide +kernel
theorem dX5_record_67 : decode cX5_record 67 = .ok (.getfield 43, 3) := by decide +kernel
theorem dX5_record_70 : decode cX5_record 70 = .ok (.imul, 1) := by decide +kernel
theorem dX5_record_71 : decode cX5_record 71 = .ok (.iload_n 1, 1) := by decide +kernel
theorem dX5_record_72 : decode cX5_record 72 = .ok (.iadd, 1) := by decide +kernel
theorem dX5_record_73 : decode cX5_record 73 = .ok (.aload_n 0, 1) := by decide +kernel
theorem dX5_record_74 : decode cX5_record 74 = .ok (.getfield 7, 3) := by decide +kernel
theorem dX5_record_77 : decode cX5_record 77 = .ok (.iload_n 1, 1) := by decide +kernel
theorem dX5_record_78 : decode cX5_record 78 = .ok (.iaload, 1) := by decide +kernel
theorem dX5_record_79 : decode cX5_record 79 = .ok (.iastore, 1) := by decide +kernel
theorem dX5_record_80 : decode cX5_record 80 = .ok (.iinc 1 1, 3) := by decide +kernel
theorem dX5_record_83 : decode cX5_record 83 = .ok (.goto (-31), 3) := by decide +kernel
theorem dX5_record_86 : decode cX5_record 86 = .ok (.aload_n 0, 1) := by decide +kernel
theorem dX5_record_87 : decode cX5_record 87 = .ok (.dup, 1) := by decide +kernel
theorem dX5_record_88 : decode cX5_record 88 = .ok (.getfield 43, 3) := by decide +kernel
theorem dX5_record_91 : decode cX5_record 91 = .ok (.iconst 1, 1) := by decide +kernel
theorem dX5_record_92 : decode cX5_record 92 = .ok (.iadd, 1) := by decide +kernel
theorem dX5_record_93 : decode cX5_record 93 = .ok (.putfield 43, 3) := by decide +kernel
theorem dX5_record_96 : decode cX5_record 96 = .ok (.return_, 1) := by decide +kernel
theorem dX5_undo_0 : decode cX5_undo 0 = .ok (.aload_n 0, 1) := by decide +kernel
theorem dX5_undo_1 : decode cX5_undo 1 = .ok (.aload_n 0, 1) := by decide +kernel
theorem dX5_undo_2 : decode cX5_undo 2 = .ok (.getfield 43, 3) := by decide +kernel
theorem dX5_undo_5 : decode cX5_undo 5 = .ok (.ifCond .ne 7, 3) := by decide +kernel
theorem dX5_undo_8 : decode cX5_undo 8 = .ok (.iconst 1, 1) := by decide +kernel
theorem dX5_undo_9 : decode cX5_undo 9 = .ok (.goto 4, 3) := by decide +kernel
theorem dX5_undo_12 : decode cX5_undo 12 = .ok (.iconst 0, 1) := by decide +kernel
theorem dX5_undo_13 : decode cX5_undo 13 = .ok (.putfield 35, 3) := by decide +kernel
theorem dX5_undo_16 : decode cX5_undo 16 = .ok (.aload_n 0, 1) := by decide +kernel
theorem dX5_undo_17 : decode cX5_undo 17 = .ok (.getfield 35, 3) := by decide +kernel
theorem dX5_undo_20 : decode cX5_undo 20 = .ok (.ifCond .le 5, 3) := by decide +kernel
theorem dX5_undo_23 : decode cX5_undo 23 = .ok (.iconst 0, 1) := by decide +kernel
theorem dX5_undo_24 : decode cX5_undo 24 = .ok (.ireturn, 1) := by decide +kernel
theorem dX5_undo_25 : decode cX5_undo 25 = .ok (.aload_n 0, 1) := by decide +kernel
theorem dX5_undo_26 : decode cX5_undo 26 = .ok (.dup, 1) := by decide +kernel
theorem dX5_undo_27 : decode cX5_undo 27 = .ok (.getfield 43, 3) := by decide +kernel
theorem dX5_undo_30 : decode cX5_undo 30 = .ok (.iconst 1, 1) := by decide +kernel
theorem dX5_undo_31 : decode cX5_undo 31 = .ok (.isub, 1) := by decide +kernel
theorem dX5_undo_32 : decode cX5_undo 32 = .ok (.putfield 43, 3) := by decide +kernel
theorem dX5_undo_35 : decode cX5_undo 35 = .ok (.iconst 0, 1) := by decide +kernel
theorem dX5_undo_36 : decode cX5_undo 36 = .ok (.istore_n 1, 1) := by decide +kernel
theorem dX5_undo_37 : decode cX5_undo 37 = .ok (.iload_n 1, 1) := by decide +kernel
theorem dX5_undo_38 : decode cX5_undo 38 = .ok (.sipush 175, 3) := by decide +kernel
theorem dX5_undo_41 : decode cX5_undo 41 = .ok (.if_icmp .ge 30, 3) := by decide +kernel
theorem dX5_undo_44 : decode cX5_undo 44 = .ok (.aload_n 0, 1) := by decide +kernel
theorem dX5_undo_45 : decode cX5_undo 45 = .ok (.getfield 7, 3) := by decide +kernel
theorem dX5_undo_48 : decode cX5_undo 48 = .ok (.iload_n 1, 1) := by decide +kernel
theorem dX5_undo_49 : decode cX5_undo 49 = .ok (.aload_n 0, 1) := by decide +kernel
theorem dX5_undo_50 : decode cX5_undo 50 = .ok (.getfield 16, 3) := by decide +kernel
theorem dX5_undo_53 : decode cX5_undo 53 = .ok (.sipush 175, 3) := by decide +kernel
theorem dX5_undo_56 : decode cX5_undo 56 = .ok (.aload_n 0, 1) := by decide +kernel
theorem dX5_undo_57 : decode cX5_undo 57 = .ok (.getfield 43, 3) := by decide +kernel
theorem dX5_undo_60 : decode cX5_undo 60 = .ok (.imul, 1) := by decide +kernel
theorem dX5_undo_61 : decode cX5_undo 61 = .ok (.iload_n 1, 1) := by decide +kernel
theorem dX5_undo_62 : decode cX5_undo 62 = .ok (.iadd, 1) := by decide +kernel
theorem dX5_undo_63 : decode cX5_undo 63 = .ok (.iaload, 1) := by decide +kernel
theorem dX5_undo_64 : decode cX5_undo 64 = .ok (.iastore, 1) := by decide +kernel
theorem dX5_undo_65 : decode cX5_undo 65 = .ok (.iinc 1 1, 3) := by decide +kernel
theorem dX5_undo_68 : decode cX5_undo 68 = .ok (.goto (-31), 3) := by decide +kernel
theorem dX5_undo_71 : decode cX5_undo 71 = .ok (.aload_n 0, 1) := by decide +kernel
theorem dX5_undo_72 : decode cX5_undo 72 = .ok (.getfield 43, 3) := by decide +kernel
theorem dX5_undo_75 : decode cX5_undo 75 = .ok (.ireturn, 1) := by decide +kernel
theorem dX5_keep_0 : decode cX5_keep 0 = .ok (.aload_n 0, 1) := by decide +kernel
theorem dX5_keep_1 : decode cX5_keep 1 = .ok (.iconst 0, 1) := by decide +kernel
theorem dX5_keep_2 : decode cX5_keep 2 = .ok (.putfield 35, 3) := by decide +kernel
theorem dX5_keep_5 : decode cX5_keep 5 = .ok (.iconst 0, 1) := by decide +kernel
theorem dX5_keep_6 : decode cX5_keep 6 = .ok (.istore_n 1, 1) := by decide +kernel
theorem dX5_keep_7 : decode cX5_keep 7 = .ok (.iload_n 1, 1) := by decide +kernel
theorem dX5_keep_8 : decode cX5_keep 8 = .ok (.sipush 175, 3) := by decide +kernel
theorem dX5_keep_11 : decode cX5_keep 11 = .ok (.if_icmp .ge 21, 3) := by decide +kernel
theorem dX5_keep_14 : decode cX5_keep 14 = .ok (.aload_n 0, 1) := by decide +kernel
theorem dX5_keep_15 : decode cX5_keep 15 = .ok (.getfield 19, 3) := by decide +kernel
theorem dX5_keep_18 : decode cX5_keep 18 = .ok (.iload_n 1, 1) := by decide +kernel
theorem dX5_keep_19 : decode cX5_keep 19 = .ok (.aload_n 0, 1) := by decide +kernel
theorem dX5_keep_20 : decode cX5_keep 20 = .ok (.getfield 7, 3) := by decide +kernel
theorem dX5_keep_23 : decode cX5_keep 23 = .ok (.iload_n 1, 1) := by decide +kernel
theorem dX5_keep_24 : decode cX5_keep 24 = .ok (.iaload, 1) := by decide +kernel
theorem dX5_keep_25 : decode cX5_keep 25 = .ok (.iastore, 1) := by decide +kernel
theorem dX5_keep_26 : decode cX5_keep 26 = .ok (.iinc 1 1, 3) := by decide +kernel
theorem dX5_keep_29 : decode cX5_keep 29 = .ok (.goto (-22), 3) := by decide +kernel
theorem dX5_keep_32 : decode cX5_keep 32 = .ok (.aload_n 0, 1) := by decide +kernel
theorem dX5_keep_33 : decode cX5_keep 33 = .ok (.iconst 1, 1) := by decide +kernel
theorem dX5_keep_34 : decode cX5_keep 34 = .ok (.putfield 46, 3) := by decide +kernel
theorem dX5_keep_37 : decode cX5_keep 37 = .ok (.aload_n 0, 1) := by decide +kernel
theorem dX5_keep_38 : decode cX5_keep 38 = .ok (.getfield 7, 3) := by decide +kernel
theorem dX5_keep_41 : decode cX5_keep 41 = .ok (.iconst 1, 1) := by decide +kernel
theorem dX5_keep_42 : decode cX5_keep 42 = .ok (.iaload, 1) := by decide +kernel
theorem dX5_keep_43 : decode cX5_keep 43 = .ok (.ireturn, 1) := by decide +kernel
theorem dX5_restore_0 : decode cX5_restore 0 = .ok (.aload_n 0, 1) := by decide +kernel
theorem dX5_restore_1 : decode cX5_restore 1 = .ok (.aload_n 0, 1) := by decide +kernel
theorem dX5_restore_2 : decode cX5_restore 2 = .ok (.getfield 46, 3) := by decide +kernel
theorem dX5_restore_5 : decode cX5_restore 5 = .ok (.ifCond .eq 7, 3) := by decide +kernel
theorem dX5_restore_8 : decode cX5_restore 8 = .ok (.iconst 0, 1) := by decide +kernel
theorem dX5_restore_9 : decode cX5_restore 9 = .ok (.goto 4, 3) := by decide +kernel
theorem dX5_restore_12 : decode cX5_restore 12 = .ok (.iconst 1, 1) := by decide +kernel
theorem dX5_restore_13 : decode cX5_restore 13 = .ok (.putfield 35, 3) := by decide +kernel
theorem dX5_restore_16 : decode cX5_restore 16 = .ok (.aload_n 0, 1) := by decide +kernel
theorem dX5_restore_17 : decode cX5_restore 17 = .ok (.getfield 35, 3) := by decide +kernel
theorem dX5_restore_20 : decode cX5_restore 20 = .ok (.ifCond .le 5, 3) := by decide +kernel
theorem dX5_restore_23 : decode cX5_restore 23 = .ok (.iconst 0, 1) := by decide +kernel
theorem dX5_restore_24 : decode cX5_restore 24 = .ok (.ireturn, 1) := by decide +kernel
theorem dX5_restore_25 : decode cX5_restore 25 = .ok (.aload_n 0, 1) := by decide +kernel
theorem dX5_restore_26 : decode cX5_restore 26 = .ok (.invokevirtual 50, 3) := by decide +kernel
theorem dX5_restore_29 : decode cX5_restore 29 = .ok (.iconst 0, 1) := by decide +kernel
theorem dX5_restore_30 : decode cX5_restore 30 = .ok (.istore_n 1, 1) := by decide +kernel
theorem dX5_restore_31 : decode cX5_restore 31 = .ok (.iload_n 1, 1) := by decide +kernel
theorem dX5_restore_32 : decode cX5_restore 32 = .ok (.sipush 175, 3) := by decide +kernel
theorem dX5_restore_35 : decode cX5_restore 35 = .ok (.if_icmp .ge 21, 3) := by decide +kernel
theorem dX5_restore_38 : decode cX5_restore 38 = .ok (.aload_n 0, 1) := by decide +kernel
theorem dX5_restore_39 : decode cX5_restore 39 = .ok (.getfield 7, 3) := by decide +kernel
theorem dX5_restore_42 : decode cX5_restore 42 = .ok (.iload_n 1, 1) := by decide +kernel
theorem dX5_restore_43 : decode cX5_restore 43 = .ok (.aload_n 0, 1) := by decide +kernel
theorem dX5_restore_44 : decode cX5_restore 44 = .ok (.getfield 19, 3) := by decide +kernel
theorem dX5_restore_47 : decode cX5_restore 47 = .ok (.iload_n 1, 1) := by decide +kernel
theorem dX5_restore_48 : decode cX5_restore 48 = .ok (.iaload, 1) := by decide +kernel
theorem dX5_restore_49 : decode cX5_restore 49 = .ok (.iastore, 1) := by decide +kernel
theorem dX5_restore_50 : decode cX5_restore 50 = .ok (.iinc 1 1, 3) := by decide +kernel
theorem dX5_restore_53 : decode cX5_restore 53 = .ok (.goto (-22), 3) := by decide +kernel
theorem dX5_restore_56 : decode cX5_restore 56 = .ok (.aload_n 0, 1) := by decide +kernel
theorem dX5_restore_57 : decode cX5_restore 57 = .ok (.getfield 7, 3) := by decide +kernel
theorem dX5_restore_60 : decode cX5_restore 60 = .ok (.iconst 1, 1) := by decide +kernel
theorem dX5_restore_61 : decode cX5_restore 61 = .ok (.iaload, 1) := by decide +kernel
theorem dX5_restore_62 : decode cX5_restore 62 = .ok (.ireturn, 1) := by decide +kernel
theorem dX5_putAside_0 : decode cX5_putAside 0 = .ok (.iconst 0, 1) := by decide +kernel
theorem dX5_putAside_1 : decode cX5_putAside 1 = .ok (.istore_n 1, 1) := by decide +kernel
theorem dX5_putAside_2 : decode cX5_putAside 2 = .ok (.iload_n 1, 1) := by decide +kernel
theorem dX5_putAside_3 : decode cX5_putAside 3 = .ok (.sipush 175, 3) := by decide +kernel
theorem dX5_putAside_6 : decode cX5_putAside 6 = .ok (.if_icmp .ge 21, 3) := by decide +kernel
theorem dX5_putAside_9 : decode cX5_putAside 9 = .ok (.aload_n 0, 1) := by decide +kernel
theorem dX5_putAside_10 : decode cX5_putAside 10 = .ok (.getfield 13, 3) := by decide +kernel
theorem dX5_putAside_13 : decode cX5_putAside 13 = .ok (.iload_n 1, 1) := by decide +kernel
theorem dX5_putAside_14 : decode cX5_putAside 14 = .ok (.aload_n 0, 1) := by decide +kernel
theorem dX5_putAside_15 : decode cX5_putAside 15 = .ok (.getfield 7, 3) := by decide +kernel
theorem dX5_putAside_18 : decode cX5_putAside 18 = .ok (.iload_n 1, 1) := by decide +kernel
theorem dX5_putAside_19 : decode cX5_putAside 19 = .ok (.iaload, 1) := by decide +kernel
theorem dX5_putAside_20 : decode cX5_putAside 20 = .ok (.iastore, 1) := by decide +kernel
theorem dX5_putAside_21 : decode cX5_putAside 21 = .ok (.iinc 1 1, 3) := by decide +kernel
theorem dX5_putAside_24 : decode cX5_putAside 24 = .ok (.goto (-22), 3) := by decide +kernel
theorem dX5_putAside_27 : decode cX5_putAside 27 = .ok (.return_, 1) := by decide +kernel
theorem dX5_putBack_0 : decode cX5_putBack 0 = .ok (.iconst 0, 1) := by decide +kernel
theorem dX5_putBack_1 : decode cX5_putBack 1 = .ok (.istore_n 1, 1) := by decide +kernel
theorem dX5_putBack_2 : decode cX5_putBack 2 = .ok (.iload_n 1, 1) := by decide +kernel
theorem dX5_putBack_3 : decode cX5_putBack 3 = .ok (.sipush 175, 3) := by decide +kernel
theorem dX5_putBack_6 : decode cX5_putBack 6 = .ok (.if_icmp .ge 21, 3) := by decide +kernel
theorem dX5_putBack_9 : decode cX5_putBack 9 = .ok (.aload_n 0, 1) := by decide +kernel
theorem dX5_putBack_10 : decode cX5_putBack 10 = .ok (.getfield 7, 3) := by decide +kernel
theorem dX5_putBack_13 : decode cX5_putBack 13 = .ok (.iload_n 1, 1) := by decide +kernel
theorem dX5_putBack_14 : decode cX5_putBack 14 = .ok (.aload_n 0, 1) := by decide +kernel
theorem dX5_putBack_15 : decode cX5_putBack 15 = .ok (.getfield 13, 3) := by decide +kernel
theorem dX5_putBack_18 : decode cX5_putBack 18 = .ok (.iload_n 1, 1) := by decide +kernel
theorem dX5_putBack_19 : decode cX5_putBack 19 = .ok (.iaload, 1) := by decide +kernel
theorem dX5_putBack_20 : decode cX5_putBack 20 = .ok (.iastore, 1) := by decide +kernel
theorem dX5_putBack_21 : decode cX5_putBack 21 = .ok (.iinc 1 1, 3) := by decide +kernel
theorem dX5_putBack_24 : decode cX5_putBack 24 = .ok (.goto (-22), 3) := by decide +kernel
theorem dX5_putBack_27 : decode cX5_putBack 27 = .ok (.return_, 1) := by decide +kernel
theorem dX5_doBend_0 : decode cX5_doBend 0 = .ok (.bipush 7, 2) := by decide +kernel
theorem dX5_doBend_2 : decode cX5_doBend 2 = .ok (.iload_n 1, 1) := by decide +kernel
theorem dX5_doBend_3 : decode cX5_doBend 3 = .ok (.imul, 1) := by decide +kernel
theorem dX5_doBend_4 : decode cX5_doBend 4 = .ok (.iload_n 2, 1) := by decide +kernel
theorem dX5_doBend_5 : decode cX5_doBend 5 = .ok (.iadd, 1) := by decide +kernel
theorem dX5_doBend_6 : decode cX5_doBend 6 = .ok (.istore 4, 2) := by decide +kernel
theorem dX5_doBend_8 : decode cX5_doBend 8 = .ok (.aload_n 0, 1) := by decide +kernel
theorem dX5_doBend_9 : decode cX5_doBend 9 = .ok (.iload 4, 2) := by decide +kernel
theorem dX5_doBend_11 : decode cX5_doBend 11 = .ok (.invokevirtual 53, 3) := by decide +kernel
theorem dX5_doBend_14 : decode cX5_doBend 14 = .ok (.istore 5, 2) := by decide +kernel
theorem dX5_doBend_16 : decode cX5_doBend 16 = .ok (.aload_n 0, 1) := by decide +kernel
theorem dX5_doBend_17 : decode cX5_doBend 17 = .ok (.getfield 7, 3) := by decide +kernel
theorem dX5_doBend_20 : decode cX5_doBend 20 = .ok (.bipush 20, 2) := by decide +kernel
theorem dX5_doBend_22 : decode cX5_doBend 22 = .ok (.iload 4, 2) := by decide +kernel
theorem dX5_doBend_24 : decode cX5_doBend 24 = .ok (.iadd, 1) := by decide +kernel
theorem dX5_doBend_25 : decode cX5_doBend 25 = .ok (.iload_n 3, 1) := by decide +kernel
theorem dX5_doBend_26 : decode cX5_doBend 26 = .ok (.iastore, 1) := by decide +kernel
theorem dX5_doBend_27 : decode cX5_doBend 27 = .ok (.iload_n 3, 1) := by decide +kernel
theorem dX5_doBend_28 : decode cX5_doBend 28 = .ok (.ifCond .ne 17, 3) := by decide +kernel
theorem dX5_doBend_31 : decode cX5_doBend 31 = .ok (.aload_n 0, 1) := by decide +kernel
theorem dX5_doBend_32 : decode cX5_doBend 32 = .ok (.getfield 7, 3) := by decide +kernel
theorem dX5_doBend_35 : decode cX5_doBend 35 = .ok (.bipush 76, 2) := by decide +kernel
theorem dX5_doBend_37 : decode cX5_doBend 37 = .ok (.iload 4, 2) := by decide +kernel
theorem dX5_doBend_39 : decode cX5_doBend 39 = .ok (.iadd, 1) := by decide +kernel
theorem dX5_doBend_40 : decode cX5_doBend 40 = .ok (.iconst 0, 1) := by decide +kernel
theorem dX5_doBend_41 : decode cX5_doBend 41 = .ok (.iastore, 1) := by decide +kernel
theorem dX5_doBend_42 : decode cX5_doBend 42 = .ok (.goto 36, 3) := by decide +kernel
theorem dX5_doBend_45 : decode cX5_doBend 45 = .ok (.iload 5, 2) := by decide +kernel
theorem dX5_doBend_47 : decode cX5_doBend 47 = .ok (.ifCond .ne 31, 3) := by decide +kernel
theorem dX5_doBend_50 : decode cX5_doBend 50 = .ok (.aload_n 0, 1) := by decide +kernel
theorem dX5_doBend_51 : decode cX5_doBend 51 = .ok (.getfield 7, 3) := by decide +kernel
theorem dX5_doBend_54 : decode cX5_doBend 54 = .ok (.bipush 16, 2) := by decide +kernel
theorem dX5_doBend_56 : decode cX5_doBend 56 = .ok (.dup2, 1) := by decide +kernel
theorem dX5_doBend_57 : decode cX5_doBend 57 = .ok (.iaload, 1) := by decide +kernel
theorem dX5_doBend_58 : decode cX5_doBend 58 = .ok (.iconst 1, 1) := by decide +kernel
theorem dX5_doBend_59 : decode cX5_doBend 59 = .ok (.iadd, 1) := by decide +kernel
theorem dX5_doBend_60 : decode cX5_doBend 60 = .ok (.iastore, 1) := by decide +kernel
theorem dX5_doBend_61 : decode cX5_doBend 61 = .ok (.aload_n 0, 1) := by decide +kernel
theorem dX5_doBend_62 : decode cX5_doBend 62 = .ok (.getfield 7, 3) := by decide +kernel
theorem dX5_doBend_65 : decode cX5_doBend 65 = .ok (.bipush 76, 2) := by decide +kernel
theorem dX5_doBend_67 : decode cX5_doBend 67 = .ok (.iload 4, 2) := by decide +kernel
theorem dX5_doBend_69 : decode cX5_doBend 69 = .ok (.iadd, 1) := by decide +kernel
theorem dX5_doBend_70 : decode cX5_doBend 70 = .ok (.aload_n 0, 1) := by decide +kernel
theorem dX5_doBend_71 : decode cX5_doBend 71 = .ok (.getfield 7, 3) := by decide +kernel
theorem dX5_doBend_74 : decode cX5_doBend 74 = .ok (.bipush 16, 2) := by decide +kernel
theorem dX5_doBend_76 : decode cX5_doBend 76 = .ok (.iaload, 1) := by decide +kernel
theorem dX5_doBend_77 : decode cX5_doBend 77 = .ok (.iastore, 1) := by decide +kernel
theorem dX5_doBend_78 : decode cX5_doBend 78 = .ok (.iload 5, 2) := by decide +kernel
theorem dX5_doBend_80 : decode cX5_doBend 80 = .ok (.iconst 1, 1) := by decide +kernel
theorem dX5_doBend_81 : decode cX5_doBend 81 = .ok (.iadd, 1) := by decide +kernel
theorem dX5_doBend_82 : decode cX5_doBend 82 = .ok (.ireturn, 1) := by decide +kernel
theorem dX5_bend_0 : decode cX5_bend 0 = .ok (.aload_n 0, 1) := by decide +kernel
theorem dX5_bend_1 : decode cX5_bend 1 = .ok (.iload_n 1, 1) := by decide +kernel
theorem dX5_bend_2 : decode cX5_bend 2 = .ok (.invokestatic 57, 3) := by decide +kernel
theorem dX5_bend_5 : decode cX5_bend 5 = .ok (.ifCond .eq 10, 3) := by decide +kernel
theorem dX5_bend_8 : decode cX5_bend 8 = .ok (.iload_n 2, 1) := by decide +kernel
theorem dX5_bend_9 : decode cX5_bend 9 = .ok (.invokestatic 61, 3) := by decide +kernel
theorem dX5_bend_12 : decode cX5_bend 12 = .ok (.ifCond .ne 7, 3) := by decide +kernel
theorem dX5_bend_15 : decode cX5_bend 15 = .ok (.iconst 1, 1) := by decide +kernel
theorem dX5_bend_16 : decode cX5_bend 16 = .ok (.goto 17, 3) := by decide +kernel
theorem dX5_bend_19 : decode cX5_bend 19 = .ok (.iload_n 3, 1) := by decide +kernel
theorem dX5_bend_20 : decode cX5_bend 20 = .ok (.iconst (-1), 1) := by decide +kernel
theorem dX5_bend_21 : decode cX5_bend 21 = .ok (.iconst 1, 1) := by decide +kernel
theorem dX5_bend_22 : decode cX5_bend 22 = .ok (.invokestatic 39, 3) := by decide +kernel
theorem dX5_bend_25 : decode cX5_bend 25 = .ok (.ifCond .eq 7, 3) := by decide +kernel
theorem dX5_bend_28 : decode cX5_bend 28 = .ok (.iconst 0, 1) := by decide +kernel
theorem dX5_bend_29 : decode cX5_bend 29 = .ok (.goto 4, 3) := by decide +kernel
theorem dX5_bend_32 : decode cX5_bend 32 = .ok (.iconst 2, 1) := by decide +kernel
theorem dX5_bend_33 : decode cX5_bend 33 = .ok (.putfield 35, 3) := by decide +kernel
theorem dX5_bend_36 : decode cX5_bend 36 = .ok (.aload_n 0, 1) := by decide +kernel
theorem dX5_bend_37 : decode cX5_bend 37 = .ok (.getfield 35, 3) := by decide +kernel
theorem dX5_bend_40 : decode cX5_bend 40 = .ok (.ifCond .le 5, 3) := by decide +kernel
theorem dX5_bend_43 : decode cX5_bend 43 = .ok (.iconst 0, 1) := by decide +kernel
theorem dX5_bend_44 : decode cX5_bend 44 = .ok (.ireturn, 1) := by decide +kernel
theorem dX5_bend_45 : decode cX5_bend 45 = .ok (.aload_n 0, 1) := by decide +kernel
theorem dX5_bend_46 : decode cX5_bend 46 = .ok (.invokevirtual 50, 3) := by decide +kernel
theorem dX5_bend_49 : decode cX5_bend 49 = .ok (.aload_n 0, 1) := by decide +kernel
theorem dX5_bend_50 : decode cX5_bend 50 = .ok (.iload_n 1, 1) := by decide +kernel
theorem dX5_bend_51 : decode cX5_bend 51 = .ok (.iload_n 2, 1) := by decide +kernel
theorem dX5_bend_52 : decode cX5_bend 52 = .ok (.iload_n 3, 1) := by decide +kernel
theorem dX5_bend_53 : decode cX5_bend 53 = .ok (.invokevirtual 64, 3) := by decide +kernel
theorem dX5_bend_56 : decode cX5_bend 56 = .ok (.ireturn, 1) := by decide +kernel
theorem dX5_pocket_0 : decode cX5_pocket 0 = .ok (.aload_n 0, 1) := by decide +kernel
theorem dX5_pocket_1 : decode cX5_pocket 1 = .ok (.iload_n 1, 1) := by decide +kernel
theorem dX5_pocket_2 : decode cX5_pocket 2 = .ok (.invokestatic 61, 3) := by decide +kernel
theorem dX5_pocket_5 : decode cX5_pocket 5 = .ok (.ifCond .ne 7, 3) := by decide +kernel
theorem dX5_pocket_8 : decode cX5_pocket 8 = .ok (.iconst 1, 1) := by decide +kernel
theorem dX5_pocket_9 : decode cX5_pocket 9 = .ok (.goto 27, 3) := by decide +kernel
theorem dX5_pocket_12 : decode cX5_pocket 12 = .ok (.iload_n 2, 1) := by decide +kernel
theorem dX5_pocket_13 : decode cX5_pocket 13 = .ok (.iconst 0, 1) := by decide +kernel
theorem dX5_pocket_14 : decode cX5_pocket 14 = .ok (.iconst 2, 1) := by decide +kernel
theorem dX5_pocket_15 : decode cX5_pocket 15 = .ok (.invokestatic 39, 3) := by decide +kernel
theorem dX5_pocket_18 : decode cX5_pocket 18 = .ok (.ifCond .eq 17, 3) := by decide +kernel
theorem dX5_pocket_21 : decode cX5_pocket 21 = .ok (.iload_n 3, 1) := by decide +kernel
theorem dX5_pocket_22 : decode cX5_pocket 22 = .ok (.iconst 0, 1) := by decide +kernel
theorem dX5_pocket_23 : decode cX5_pocket 23 = .ok (.bipush 15, 2) := by decide +kernel
theorem dX5_pocket_25 : decode cX5_pocket 25 = .ok (.invokestatic 39, 3) := by decide +kernel
theorem dX5_pocket_28 : decode cX5_pocket 28 = .ok (.ifCond .eq 7, 3) := by decide +kernel
theorem dX5_pocket_31 : decode cX5_pocket 31 = .ok (.iconst 0, 1) := by decide +kernel
theorem dX5_pocket_32 : decode cX5_pocket 32 = .ok (.goto 4, 3) := by decide +kernel
theorem dX5_pocket_35 : decode cX5_pocket 35 = .ok (.iconst 2, 1) := by decide +kernel
theorem dX5_pocket_36 : decode cX5_pocket 36 = .ok (.putfield 35, 3) := by decide +kernel
theorem dX5_pocket_39 : decode cX5_pocket 39 = .ok (.aload_n 0, 1) := by decide +kernel
theorem dX5_pocket_40 : decode cX5_pocket 40 = .ok (.getfield 35, 3) := by decide +kernel
theorem dX5_pocket_43 : decode cX5_pocket 43 = .ok (.ifCond .le 5, 3) := by decide +kernel
theorem dX5_pocket_46 : decode cX5_pocket 46 = .ok (.iconst 0, 1) := by decide +kernel
theorem dX5_pocket_47 : decode cX5_pocket 47 = .ok (.ireturn, 1) := by decide +kernel
theorem dX5_pocket_48 : decode cX5_pocket 48 = .ok (.aload_n 0, 1) := by decide +kernel
theorem dX5_pocket_49 : decode cX5_pocket 49 = .ok (.invokevirtual 50, 3) := by decide +kernel
theorem dX5_pocket_52 : decode cX5_pocket 52 = .ok (.aload_n 0, 1) := by decide +kernel
theorem dX5_pocket_53 : decode cX5_pocket 53 = .ok (.iload_n 1, 1) := by decide +kernel
theorem dX5_pocket_54 : decode cX5_pocket 54 = .ok (.iconst 1, 1) := by decide +kernel
theorem dX5_pocket_55 : decode cX5_pocket 55 = .ok (.invokevirtual 68, 3) := by decide +kernel
theorem dX5_pocket_58 : decode cX5_pocket 58 = .ok (.istore 4, 2) := by decide +kernel
theorem dX5_pocket_60 : decode cX5_pocket 60 = .ok (.aload_n 0, 1) := by decide +kernel
theorem dX5_pocket_61 : decode cX5_pocket 61 = .ok (.iload_n 1, 1) := by decide +kernel
theorem dX5_pocket_62 : decode cX5_pocket 62 = .ok (.iconst 2, 1) := by decide +kernel
theorem dX5_pocket_63 : decode cX5_pocket 63 = .ok (.iload_n 2, 1) := by decide +kernel
theorem dX5_pocket_64 : decode cX5_pocket 64 = .ok (.iconst 2, 1) := by decide +kernel
theorem dX5_pocket_65 : decode cX5_pocket 65 = .ok (.if_icmp .ne 22, 3) := by decide +kernel
theorem dX5_pocket_68 : decode cX5_pocket 68 = .ok (.aload_n 0, 1) := by decide +kernel
theorem dX5_pocket_69 : decode cX5_pocket 69 = .ok (.iload_n 1, 1) := by decide +kernel
theorem dX5_pocket_70 : decode cX5_pocket 70 = .ok (.iconst 0, 1) := by decide +kernel
theorem dX5_pocket_71 : decode cX5_pocket 71 = .ok (.invokevirtual 68, 3) := by decide +kernel
theorem dX5_pocket_74 : decode cX5_pocket 74 = .ok (.iconst 2, 1) := by decide +kernel
theorem dX5_pocket_75 : decode cX5_pocket 75 = .ok (.if_icmp .ne 12, 3) := by decide +kernel
theorem dX5_pocket_78 : decode cX5_pocket 78 = .ok (.aload_n 0, 1) := by decide +kernel
theorem dX5_pocket_79 : decode cX5_pocket 79 = .ok (.iload_n 1, 1) := by decide +kernel
theorem dX5_pocket_80 : decode cX5_pocket 80 = .ok (.iconst 2, 1) := by decide +kernel
theorem dX5_pocket_81 : decode cX5_pocket 81 = .ok (.invokevirtual 68, 3) := by decide +kernel
theorem dX5_pocket_84 : decode cX5_pocket 84 = .ok (.goto 4, 3) := by decide +kernel
theorem dX5_pocket_87 : decode cX5_pocket 87 = .ok (.iconst 0, 1) := by decide +kernel
theorem dX5_pocket_88 : decode cX5_pocket 88 = .ok (.invokevirtual 31, 3) := by decide +kernel
theorem dX5_pocket_91 : decode cX5_pocket 91 = .ok (.aload_n 0, 1) := by decide +kernel
theorem dX5_pocket_92 : decode cX5_pocket 92 = .ok (.iload_n 1, 1) := by decide +kernel
theorem dX5_pocket_93 : decode cX5_pocket 93 = .ok (.iconst 0, 1) := by decide +kernel
theorem dX5_pocket_94 : decode cX5_pocket 94 = .ok (.iload_n 2, 1) := by decide +kernel
theorem dX5_pocket_95 : decode cX5_pocket 95 = .ok (.invokevirtual 31, 3) := by decide +kernel
theorem dX5_pocket_98 : decode cX5_pocket 98 = .ok (.aload_n 0, 1) := by decide +kernel
theorem dX5_pocket_99 : decode cX5_pocket 99 = .ok (.iload_n 1, 1) := by decide +kernel
theorem dX5_pocket_100 : decode cX5_pocket 100 = .ok (.iconst 1, 1) := by decide +kernel
theorem dX5_pocket_101 : decode cX5_pocket 101 = .ok (.iload_n 3, 1) := by decide +kernel
theorem dX5_pocket_102 : decode cX5_pocket 102 = .ok (.invokevirtual 31, 3) := by decide +kernel
theorem dX5_pocket_105 : decode cX5_pocket 105 = .ok (.iload 4, 2) := by decide +kernel
theorem dX5_pocket_107 : decode cX5_pocket 107 = .ok (.ireturn, 1) := by decide +kernel
theorem dX5_change_0 : decode cX5_change 0 = .ok (.aload_n 0, 1) := by decide +kernel
theorem dX5_change_1 : decode cX5_change 1 = .ok (.invokevirtual 50, 3) := by decide +kernel
theorem dX5_change_4 : decode cX5_change 4 = .ok (.aload_n 0, 1) := by decide +kernel
theorem dX5_change_5 : decode cX5_change 5 = .ok (.getfield 7, 3) := by decide +kernel
theorem dX5_change_8 : decode cX5_change 8 = .ok (.iload_n 1, 1) := by decide +kernel
theorem dX5_change_9 : decode cX5_change 9 = .ok (.iaload, 1) := by decide +kernel
theorem dX5_change_10 : decode cX5_change 10 = .ok (.istore_n 3, 1) := by decide +kernel
theorem dX5_change_11 : decode cX5_change 11 = .ok (.aload_n 0, 1) := by decide +kernel
theorem dX5_change_12 : decode cX5_change 12 = .ok (.getfield 7, 3) := by decide +kernel
theorem dX5_change_15 : decode cX5_change 15 = .ok (.iload_n 1, 1) := by decide +kernel
theorem dX5_change_16 : decode cX5_change 16 = .ok (.iload_n 2, 1) := by decide +kernel
theorem dX5_change_17 : decode cX5_change 17 = .ok (.iastore, 1) := by decide +kernel
theorem dX5_change_18 : decode cX5_change 18 = .ok (.iload_n 3, 1) := by decide +kernel
theorem dX5_change_19 : decode cX5_change 19 = .ok (.ireturn, 1) := by decide +kernel
theorem dX5_start_0 : decode cX5_start 0 = .ok (.aload_n 0, 1) := by decide +kernel
theorem dX5_start_1 : decode cX5_start 1 = .ok (.iload_n 1, 1) := by decide +kernel
theorem dX5_start_2 : decode cX5_start 2 = .ok (.invokestatic 61, 3) := by decide +kernel
theorem dX5_start_5 : decode cX5_start 5 = .ok (.ifCond .eq 7, 3) := by decide +kernel
theorem dX5_start_8 : decode cX5_start 8 = .ok (.iconst 0, 1) := by decide +kernel
theorem dX5_start_9 : decode cX5_start 9 = .ok (.goto 4, 3) := by decide +kernel
theorem dX5_start_12 : decode cX5_start 12 = .ok (.iconst 1, 1) := by decide +kernel
theorem dX5_start_13 : decode cX5_start 13 = .ok (.putfield 35, 3) := by decide +kernel
theorem dX5_start_16 : decode cX5_start 16 = .ok (.aload_n 0, 1) := by decide +kernel
theorem dX5_start_17 : decode cX5_start 17 = .ok (.getfield 35, 3) := by decide +kernel
theorem dX5_start_20 : decode cX5_start 20 = .ok (.ifCond .le 7, 3) := by decide +kernel
theorem dX5_start_23 : decode cX5_start 23 = .ok (.iconst 0, 1) := by decide +kernel
theorem dX5_start_24 : decode cX5_start 24 = .ok (.goto 10, 3) := by decide +kernel
theorem dX5_start_27 : decode cX5_start 27 = .ok (.aload_n 0, 1) := by decide +kernel
theorem dX5_start_28 : decode cX5_start 28 = .ok (.bipush 13, 2) := by decide +kernel
theorem dX5_start_30 : decode cX5_start 30 = .ok (.iload_n 1, 1) := by decide +kernel
theorem dX5_start_31 : decode cX5_start 31 = .ok (.invokevirtual 72, 3) := by decide +kernel
theorem dX5_start_34 : decode cX5_start 34 = .ok (.ireturn, 1) := by decide +kernel
theorem dX5_set_0 : decode cX5_set 0 = .ok (.aload_n 0, 1) := by decide +kernel
theorem dX5_set_1 : decode cX5_set 1 = .ok (.iload_n 1, 1) := by decide +kernel
theorem dX5_set_2 : decode cX5_set 2 = .ok (.iconst 0, 1) := by decide +kernel
theorem dX5_set_3 : decode cX5_set 3 = .ok (.iconst 1, 1) := by decide +kernel
theorem dX5_set_4 : decode cX5_set 4 = .ok (.invokestatic 39, 3) := by decide +kernel
theorem dX5_set_7 : decode cX5_set 7 = .ok (.ifCond .ne 7, 3) := by decide +kernel
theorem dX5_set_10 : decode cX5_set 10 = .ok (.iconst 1, 1) := by decide +kernel
theorem dX5_set_11 : decode cX5_set 11 = .ok (.goto 40, 3) := by decide +kernel
theorem dX5_set_14 : decode cX5_set 14 = .ok (.iload_n 1, 1) := by decide +kernel
theorem dX5_set_15 : decode cX5_set 15 = .ok (.ifCond .ne 21, 3) := by decide +kernel
theorem dX5_set_18 : decode cX5_set 18 = .ok (.iload_n 2, 1) := by decide +kernel
theorem dX5_set_19 : decode cX5_set 19 = .ok (.iconst 1, 1) := by decide +kernel
theorem dX5_set_20 : decode cX5_set 20 = .ok (.bipush 10, 2) := by decide +kernel
theorem dX5_set_22 : decode cX5_set 22 = .ok (.invokestatic 39, 3) := by decide +kernel
theorem dX5_set_25 : decode cX5_set 25 = .ok (.ifCond .eq 7, 3) := by decide +kernel
theorem dX5_set_28 : decode cX5_set 28 = .ok (.iconst 0, 1) := by decide +kernel
theorem dX5_set_29 : decode cX5_set 29 = .ok (.goto 22, 3) := by decide +kernel
theorem dX5_set_32 : decode cX5_set 32 = .ok (.iconst 2, 1) := by decide +kernel
theorem dX5_set_33 : decode cX5_set 33 = .ok (.goto 18, 3) := by decide +kernel
theorem dX5_set_36 : decode cX5_set 36 = .ok (.iload_n 2, 1) := by decide +kernel
theorem dX5_set_37 : decode cX5_set 37 = .ok (.iconst 0, 1) := by decide +kernel
theorem dX5_set_38 : decode cX5_set 38 = .ok (.bipush 20, 2) := by decide +kernel
theorem dX5_set_40 : decode cX5_set 40 = .ok (.invokestatic 39, 3) := by decide +kernel
theorem dX5_set_43 : decode cX5_set 43 = .ok (.ifCond .eq 7, 3) := by decide +kernel
theorem dX5_set_46 : decode cX5_set 46 = .ok (.iconst 0, 1) := by decide +kernel
theorem dX5_set_47 : decode cX5_set 47 = .ok (.goto 4, 3) := by decide +kernel
theorem dX5_set_50 : decode cX5_set 50 = .ok (.iconst 2, 1) := by decide +kernel
theorem dX5_set_51 : decode cX5_set 51 = .ok (.putfield 35, 3) := by decide +kernel
theorem dX5_set_54 : decode cX5_set 54 = .ok (.aload_n 0, 1) := by decide +kernel
theorem dX5_set_55 : decode cX5_set 55 = .ok (.getfield 35, 3) := by decide +kernel
theorem dX5_set_58 : decode cX5_set 58 = .ok (.ifCond .le 7, 3) := by decide +kernel
theorem dX5_set_61 : decode cX5_set 61 = .ok (.iconst 0, 1) := by decide +kernel
theorem dX5_set_62 : decode cX5_set 62 = .ok (.goto 12, 3) := by decide +kernel
theorem dX5_set_65 : decode cX5_set 65 = .ok (.aload_n 0, 1) := by decide +kernel
theorem dX5_set_66 : decode cX5_set 66 = .ok (.bipush 14, 2) := by decide +kernel
theorem dX5_set_68 : decode cX5_set 68 = .ok (.iload_n 1, 1) := by decide +kernel
theorem dX5_set_69 : decode cX5_set 69 = .ok (.iadd, 1) := by decide +kernel
theorem dX5_set_70 : decode cX5_set 70 = .ok (.iload_n 2, 1) := by decide +kernel
theorem dX5_set_71 : decode cX5_set 71 = .ok (.invokevirtual 72, 3) := by decide +kernel
theorem dX5_set_74 : decode cX5_set 74 = .ok (.ireturn, 1) := by decide +kernel
theorem dX5_shuffle_0 : decode cX5_shuffle 0 = .ok (.aload_n 0, 1) := by decide +kernel
theorem dX5_shuffle_1 : decode cX5_shuffle 1 = .ok (.iload_n 1, 1) := by decide +kernel
theorem dX5_shuffle_2 : decode cX5_shuffle 2 = .ok (.ifCond .ge 7, 3) := by decide +kernel
theorem dX5_shuffle_5 : decode cX5_shuffle 5 = .ok (.iconst 1, 1) := by decide +kernel
theorem dX5_shuffle_6 : decode cX5_shuffle 6 = .ok (.goto 4, 3) := by decide +kernel
theorem dX5_shuffle_9 : decode cX5_shuffle 9 = .ok (.iconst 0, 1) := by decide +kernel
theorem dX5_shuffle_10 : decode cX5_shuffle 10 = .ok (.putfield 35, 3) := by decide +kernel
theorem dX5_shuffle_13 : decode cX5_shuffle 13 = .ok (.aload_n 0, 1) := by decide +kernel
theorem dX5_shuffle_14 : decode cX5_shuffle 14 = .ok (.getfield 35, 3) := by decide +kernel
theorem dX5_shuffle_17 : decode cX5_shuffle 17 = .ok (.ifCond .le 7, 3) := by decide +kernel
theorem dX5_shuffle_20 : decode cX5_shuffle 20 = .ok (.iconst 0, 1) := by decide +kernel
theorem dX5_shuffle_21 : decode cX5_shuffle 21 = .ok (.goto 9, 3) := by decide +kernel
theorem dX5_shuffle_24 : decode cX5_shuffle 24 = .ok (.aload_n 0, 1) := by decide +kernel
theorem dX5_shuffle_25 : decode cX5_shuffle 25 = .ok (.iconst 0, 1) := by decide +kernel
theorem dX5_shuffle_26 : decode cX5_shuffle 26 = .ok (.iload_n 1, 1) := by decide +kernel
theorem dX5_shuffle_27 : decode cX5_shuffle 27 = .ok (.invokevirtual 72, 3) := by decide +kernel
theorem dX5_shuffle_30 : decode cX5_shuffle 30 = .ok (.ireturn, 1) := by decide +kernel
theorem dX5_draw_0 : decode cX5_draw 0 = .ok (.aload_n 0, 1) := by decide +kernel
theorem dX5_draw_1 : decode cX5_draw 1 = .ok (.getfield 7, 3) := by decide +kernel
theorem dX5_draw_4 : decode cX5_draw 4 = .ok (.iconst 0, 1) := by decide +kernel
theorem dX5_draw_5 : decode cX5_draw 5 = .ok (.ldc2_w 75, 3) := by decide +kernel
theorem dX5_draw_8 : decode cX5_draw 8 = .ok (.aload_n 0, 1) := by decide +kernel
theorem dX5_draw_9 : decode cX5_draw 9 = .ok (.getfield 7, 3) := by decide +kernel
theorem dX5_draw_12 : decode cX5_draw 12 = .ok (.iconst 0, 1) := by decide +kernel
theorem dX5_draw_13 : decode cX5_draw 13 = .ok (.iaload, 1) := by decide +kernel
theorem dX5_draw_14 : decode cX5_draw 14 = .ok (.i2l, 1) := by decide +kernel
theorem dX5_draw_15 : decode cX5_draw 15 = .ok (.lmul, 1) := by decide +kernel
theorem dX5_draw_16 : decode cX5_draw 16 = .ok (.ldc2_w 77, 3) := by decide +kernel
theorem dX5_draw_19 : decode cX5_draw 19 = .ok (.ladd, 1) := by decide +kernel
theorem dX5_draw_20 : decode cX5_draw 20 = .ok (.ldc2_w 79, 3) := by decide +kernel
theorem dX5_draw_23 : decode cX5_draw 23 = .ok (.lrem, 1) := by decide +kernel
theorem dX5_draw_24 : decode cX5_draw 24 = .ok (.l2i, 1) := by decide +kernel
theorem dX5_draw_25 : decode cX5_draw 25 = .ok (.iastore, 1) := by decide +kernel
theorem dX5_draw_26 : decode cX5_draw 26 = .ok (.aload_n 0, 1) := by decide +kernel
theorem dX5_draw_27 : decode cX5_draw 27 = .ok (.getfield 7, 3) := by decide +kernel
theorem dX5_draw_30 : decode cX5_draw 30 = .ok (.iconst 0, 1) := by decide +kernel
theorem dX5_draw_31 : decode cX5_draw 31 = .ok (.iaload, 1) := by decide +kernel
theorem dX5_draw_32 : decode cX5_draw 32 = .ok (.ldc 81, 2) := by decide +kernel
theorem dX5_draw_34 : decode cX5_draw 34 = .ok (.idiv, 1) := by decide +kernel
theorem dX5_draw_35 : decode cX5_draw 35 = .ok (.iload_n 1, 1) := by decide +kernel
theorem dX5_draw_36 : decode cX5_draw 36 = .ok (.irem, 1) := by decide +kernel
theorem dX5_draw_37 : decode cX5_draw 37 = .ok (.ireturn, 1) := by decide +kernel
theorem dX5_spin_0 : decode cX5_spin 0 = .ok (.aload_n 0, 1) := by decide +kernel
theorem dX5_spin_1 : decode cX5_spin 1 = .ok (.getfield 7, 3) := by decide +kernel
theorem dX5_spin_4 : decode cX5_spin 4 = .ok (.bipush 7, 2) := by decide +kernel
theorem dX5_spin_6 : decode cX5_spin 6 = .ok (.dup2, 1) := by decide +kernel
theorem dX5_spin_7 : decode cX5_spin 7 = .ok (.iaload, 1) := by decide +kernel
theorem dX5_spin_8 : decode cX5_spin 8 = .ok (.iconst 1, 1) := by decide +kernel
theorem dX5_spin_9 : decode cX5_spin 9 = .ok (.isub, 1) := by decide +kernel
theorem dX5_spin_10 : decode cX5_spin 10 = .ok (.iastore, 1) := by decide +kernel
theorem dX5_spin_11 : decode cX5_spin 11 = .ok (.aload_n 0, 1) := by decide +kernel
theorem dX5_spin_12 : decode cX5_spin 12 = .ok (.getfield 7, 3) := by decide +kernel
theorem dX5_spin_15 : decode cX5_spin 15 = .ok (.bipush 8, 2) := by decide +kernel
theorem dX5_spin_17 : decode cX5_spin 17 = .ok (.dup2, 1) := by decide +kernel
theorem dX5_spin_18 : decode cX5_spin 18 = .ok (.iaload, 1) := by decide +kernel
theorem dX5_spin_19 : decode cX5_spin 19 = .ok (.iconst 1, 1) := by decide +kernel
theorem dX5_spin_20 : decode cX5_spin 20 = .ok (.iadd, 1) := by decide +kernel
theorem dX5_spin_21 : decode cX5_spin 21 = .ok (.iastore, 1) := by decide +kernel
theorem dX5_spin_22 : decode cX5_spin 22 = .ok (.aload_n 0, 1) := by decide +kernel
theorem dX5_spin_23 : decode cX5_spin 23 = .ok (.getfield 7, 3) := by decide +kernel
theorem dX5_spin_26 : decode cX5_spin 26 = .ok (.bipush 11, 2) := by decide +kernel
theorem dX5_spin_28 : decode cX5_spin 28 = .ok (.iaload, 1) := by decide +kernel
theorem dX5_spin_29 : decode cX5_spin 29 = .ok (.ifCond .le 7, 3) := by decide +kernel
theorem dX5_spin_32 : decode cX5_spin 32 = .ok (.iconst 4, 1) := by decide +kernel
theorem dX5_spin_33 : decode cX5_spin 33 = .ok (.goto 5, 3) := by decide +kernel
theorem dX5_spin_36 : decode cX5_spin 36 = .ok (.bipush 8, 2) := by decide +kernel
theorem dX5_spin_38 : decode cX5_spin 38 = .ok (.istore_n 1, 1) := by decide +kernel
theorem dX5_spin_39 : decode cX5_spin 39 = .ok (.aload_n 0, 1) := by decide +kernel
theorem dX5_spin_40 : decode cX5_spin 40 = .ok (.getfield 7, 3) := by decide +kernel
theorem dX5_spin_43 : decode cX5_spin 43 = .ok (.bipush 11, 2) := by decide +kernel
theorem dX5_spin_45 : decode cX5_spin 45 = .ok (.dup2, 1) := by decide +kernel
theorem dX5_spin_46 : decode cX5_spin 46 = .ok (.iaload, 1) := by decide +kernel
theorem dX5_spin_47 : decode cX5_spin 47 = .ok (.aload_n 0, 1) := by decide +kernel
theorem dX5_spin_48 : decode cX5_spin 48 = .ok (.getfield 7, 3) := by decide +kernel
theorem dX5_spin_51 : decode cX5_spin 51 = .ok (.bipush 11, 2) := by decide +kernel
theorem dX5_spin_53 : decode cX5_spin 53 = .ok (.iaload, 1) := by decide +kernel
theorem dX5_spin_54 : decode cX5_spin 54 = .ok (.ifCond .le 7, 3) := by decide +kernel
theorem dX5_spin_57 : decode cX5_spin 57 = .ok (.iconst 1, 1) := by decide +kernel
theorem dX5_spin_58 : decode cX5_spin 58 = .ok (.goto 4, 3) := by decide +kernel
theorem dX5_spin_61 : decode cX5_spin 61 = .ok (.iconst 0, 1) := by decide +kernel
theorem dX5_spin_62 : decode cX5_spin 62 = .ok (.isub, 1) := by decide +kernel
theorem dX5_spin_63 : decode cX5_spin 63 = .ok (.iastore, 1) := by decide +kernel
theorem dX5_spin_64 : decode cX5_spin 64 = .ok (.iconst 0, 1) := by decide +kernel
theorem dX5_spin_65 : decode cX5_spin 65 = .ok (.istore_n 2, 1) := by decide +kernel
theorem dX5_spin_66 : decode cX5_spin 66 = .ok (.iload_n 2, 1) := by decide +kernel
theorem dX5_spin_67 : decode cX5_spin 67 = .ok (.iconst 3, 1) := by decide +kernel
theorem dX5_spin_68 : decode cX5_spin 68 = .ok (.if_icmp .ge 23, 3) := by decide +kernel
theorem dX5_spin_71 : decode cX5_spin 71 = .ok (.aload_n 0, 1) := by decide +kernel
theorem dX5_spin_72 : decode cX5_spin 72 = .ok (.getfield 7, 3) := by decide +kernel
theorem dX5_spin_75 : decode cX5_spin 75 = .ok (.bipush 17, 2) := by decide +kernel
theorem dX5_spin_77 : decode cX5_spin 77 = .ok (.iload_n 2, 1) := by decide +kernel
theorem dX5_spin_78 : decode cX5_spin 78 = .ok (.iadd, 1) := by decide +kernel
theorem dX5_spin_79 : decode cX5_spin 79 = .ok (.aload_n 0, 1) := by decide +kernel
theorem dX5_spin_80 : decode cX5_spin 80 = .ok (.iload_n 1, 1) := by decide +kernel
theorem dX5_spin_81 : decode cX5_spin 81 = .ok (.invokevirtual 82, 3) := by decide +kernel
theorem dX5_spin_84 : decode cX5_spin 84 = .ok (.iastore, 1) := by decide +kernel
theorem dX5_spin_85 : decode cX5_spin 85 = .ok (.iinc 2 1, 3) := by decide +kernel
theorem dX5_spin_88 : decode cX5_spin 88 = .ok (.goto (-22), 3) := by decide +kernel
theorem dX5_spin_91 : decode cX5_spin 91 = .ok (.aload_n 0, 1) := by decide +kernel
theorem dX5_spin_92 : decode cX5_spin 92 = .ok (.getfield 7, 3) := by decide +kernel
theorem dX5_spin_95 : decode cX5_spin 95 = .ok (.bipush 10, 2) := by decide +kernel
theorem dX5_spin_97 : decode cX5_spin 97 = .ok (.iconst 0, 1) := by decide +kernel
theorem dX5_spin_98 : decode cX5_spin 98 = .ok (.iastore, 1) := by decide +kernel
theorem dX5_spin_99 : decode cX5_spin 99 = .ok (.aload_n 0, 1) := by decide +kernel
