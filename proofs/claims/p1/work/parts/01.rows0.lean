theorem dJ7_fill_53178_0 : decode cJ7_fill_53178 0 = .ok (.iconst 0, 1) := by decide +kernel
theorem dJ7_fill_53178_1 : decode cJ7_fill_53178 1 = .ok (.istore_n 2, 1) := by decide +kernel
theorem dJ7_fill_53178_2 : decode cJ7_fill_53178 2 = .ok (.aload_n 0, 1) := by decide +kernel
theorem dJ7_fill_53178_3 : decode cJ7_fill_53178 3 = .ok (.arraylength, 1) := by decide +kernel
theorem dJ7_fill_53178_4 : decode cJ7_fill_53178 4 = .ok (.istore_n 3, 1) := by decide +kernel
theorem dJ7_fill_53178_5 : decode cJ7_fill_53178 5 = .ok (.iload_n 2, 1) := by decide +kernel
theorem dJ7_fill_53178_6 : decode cJ7_fill_53178 6 = .ok (.iload_n 3, 1) := by decide +kernel
theorem dJ7_fill_53178_7 : decode cJ7_fill_53178 7 = .ok (.if_icmp .ge 13, 3) := by decide +kernel
theorem dJ7_fill_53178_10 : decode cJ7_fill_53178 10 = .ok (.aload_n 0, 1) := by decide +kernel
theorem dJ7_fill_53178_11 : decode cJ7_fill_53178 11 = .ok (.iload_n 2, 1) := by decide +kernel
theorem dJ7_fill_53178_12 : decode cJ7_fill_53178 12 = .ok (.iload_n 1, 1) := by decide +kernel
theorem dJ7_fill_53178_13 : decode cJ7_fill_53178 13 = .ok (.iastore, 1) := by decide +kernel
theorem dJ7_fill_53178_14 : decode cJ7_fill_53178 14 = .ok (.iinc 2 1, 3) := by decide +kernel
theorem dJ7_fill_53178_17 : decode cJ7_fill_53178 17 = .ok (.goto (-12), 3) := by decide +kernel
theorem dJ7_fill_53178_20 : decode cJ7_fill_53178 20 = .ok (.return_, 1) := by decide +kernel
theorem dJ7_fill_d0a16_0 : decode cJ7_fill_d0a16 0 = .ok (.iconst 0, 1) := by decide +kernel
theorem dJ7_fill_d0a16_1 : decode cJ7_fill_d0a16 1 = .ok (.istore_n 3, 1) := by decide +kernel
theorem dJ7_fill_d0a16_2 : decode cJ7_fill_d0a16 2 = .ok (.aload_n 0, 1) := by decide +kernel
theorem dJ7_fill_d0a16_3 : decode cJ7_fill_d0a16 3 = .ok (.arraylength, 1) := by decide +kernel
theorem dJ7_fill_d0a16_4 : decode cJ7_fill_d0a16 4 = .ok (.istore 4, 2) := by decide +kernel
theorem dJ7_fill_d0a16_6 : decode cJ7_fill_d0a16 6 = .ok (.iload_n 3, 1) := by decide +kernel
theorem dJ7_fill_d0a16_7 : decode cJ7_fill_d0a16 7 = .ok (.iload 4, 2) := by decide +kernel
theorem dJ7_fill_d0a16_9 : decode cJ7_fill_d0a16 9 = .ok (.if_icmp .ge 13, 3) := by decide +kernel
theorem dJ7_fill_d0a16_12 : decode cJ7_fill_d0a16 12 = .ok (.aload_n 0, 1) := by decide +kernel
theorem dJ7_fill_d0a16_13 : decode cJ7_fill_d0a16 13 = .ok (.iload_n 3, 1) := by decide +kernel
theorem dJ7_fill_d0a16_14 : decode cJ7_fill_d0a16 14 = .ok (.lload_n 1, 1) := by decide +kernel
theorem dJ7_fill_d0a16_15 : decode cJ7_fill_d0a16 15 = .ok (.lastore, 1) := by decide +kernel
theorem dJ7_fill_d0a16_16 : decode cJ7_fill_d0a16 16 = .ok (.iinc 3 1, 3) := by decide +kernel
theorem dJ7_fill_d0a16_19 : decode cJ7_fill_d0a16 19 = .ok (.goto (-13), 3) := by decide +kernel
theorem dJ7_fill_d0a16_22 : decode cJ7_fill_d0a16 22 = .ok (.return_, 1) := by decide +kernel
theorem dX0_clear_0 : decode cX0_clear 0 = .ok (.aload_n 0, 1) := by decide +kernel
theorem dX0_clear_1 : decode cX0_clear 1 = .ok (.iconst 0, 1) := by decide +kernel
theorem dX0_clear_2 : decode cX0_clear 2 = .ok (.putfield 53, 3) := by decide +kernel
theorem dX0_clear_5 : decode cX0_clear 5 = .ok (.aload_n 0, 1) := by decide +kernel
theorem dX0_clear_6 : decode cX0_clear 6 = .ok (.iconst 0, 1) := by decide +kernel
theorem dX0_clear_7 : decode cX0_clear 7 = .ok (.iconst 0, 1) := by decide +kernel
theorem dX0_clear_8 : decode cX0_clear 8 = .ok (.iconst 0, 1) := by decide +kernel
theorem dX0_clear_9 : decode cX0_clear 9 = .ok (.iconst 0, 1) := by decide +kernel
theorem dX0_clear_10 : decode cX0_clear 10 = .ok (.invokevirtual 57, 3) := by decide +kernel
theorem dX0_clear_13 : decode cX0_clear 13 = .ok (.aload_n 0, 1) := by decide +kernel
theorem dX0_clear_14 : decode cX0_clear 14 = .ok (.iconst 0, 1) := by decide +kernel
theorem dX0_clear_15 : decode cX0_clear 15 = .ok (.putfield 61, 3) := by decide +kernel
theorem dX0_clear_18 : decode cX0_clear 18 = .ok (.aload_n 0, 1) := by decide +kernel
theorem dX0_clear_19 : decode cX0_clear 19 = .ok (.iconst 0, 1) := by decide +kernel
theorem dX0_clear_20 : decode cX0_clear 20 = .ok (.putfield 64, 3) := by decide +kernel
theorem dX0_clear_23 : decode cX0_clear 23 = .ok (.aload_n 0, 1) := by decide +kernel
theorem dX0_clear_24 : decode cX0_clear 24 = .ok (.iconst 0, 1) := by decide +kernel
theorem dX0_clear_25 : decode cX0_clear 25 = .ok (.putfield 67, 3) := by decide +kernel
theorem dX0_clear_28 : decode cX0_clear 28 = .ok (.aload_n 0, 1) := by decide +kernel
theorem dX0_clear_29 : decode cX0_clear 29 = .ok (.getfield 42, 3) := by decide +kernel
theorem dX0_clear_32 : decode cX0_clear 32 = .ok (.iconst 0, 1) := by decide +kernel
theorem dX0_clear_33 : decode cX0_clear 33 = .ok (.putfield 70, 3) := by decide +kernel
theorem dX0_clear_36 : decode cX0_clear 36 = .ok (.aload_n 0, 1) := by decide +kernel
theorem dX0_clear_37 : decode cX0_clear 37 = .ok (.getfield 49, 3) := by decide +kernel
theorem dX0_clear_40 : decode cX0_clear 40 = .ok (.invokevirtual 73, 3) := by decide +kernel
theorem dX0_clear_43 : decode cX0_clear 43 = .ok (.return_, 1) := by decide +kernel
theorem dX0_copyFrom_0 : decode cX0_copyFrom 0 = .ok (.aload_n 0, 1) := by decide +kernel
theorem dX0_copyFrom_1 : decode cX0_copyFrom 1 = .ok (.aload_n 1, 1) := by decide +kernel
theorem dX0_copyFrom_2 : decode cX0_copyFrom 2 = .ok (.getfield 53, 3) := by decide +kernel
theorem dX0_copyFrom_5 : decode cX0_copyFrom 5 = .ok (.putfield 53, 3) := by decide +kernel
theorem dX0_copyFrom_8 : decode cX0_copyFrom 8 = .ok (.aload_n 0, 1) := by decide +kernel
theorem dX0_copyFrom_9 : decode cX0_copyFrom 9 = .ok (.aload_n 1, 1) := by decide +kernel
theorem dX0_copyFrom_10 : decode cX0_copyFrom 10 = .ok (.getfield 76, 3) := by decide +kernel
theorem dX0_copyFrom_13 : decode cX0_copyFrom 13 = .ok (.aload_n 1, 1) := by decide +kernel
theorem dX0_copyFrom_14 : decode cX0_copyFrom 14 = .ok (.getfield 79, 3) := by decide +kernel
theorem dX0_copyFrom_17 : decode cX0_copyFrom 17 = .ok (.aload_n 1, 1) := by decide +kernel
theorem dX0_copyFrom_18 : decode cX0_copyFrom 18 = .ok (.getfield 82, 3) := by decide +kernel
theorem dX0_copyFrom_21 : decode cX0_copyFrom 21 = .ok (.aload_n 1, 1) := by decide +kernel
theorem dX0_copyFrom_22 : decode cX0_copyFrom 22 = .ok (.getfield 85, 3) := by decide +kernel
theorem dX0_copyFrom_25 : decode cX0_copyFrom 25 = .ok (.invokevirtual 57, 3) := by decide +kernel
theorem dX0_copyFrom_28 : decode cX0_copyFrom 28 = .ok (.aload_n 0, 1) := by decide +kernel
theorem dX0_copyFrom_29 : decode cX0_copyFrom 29 = .ok (.aload_n 1, 1) := by decide +kernel
theorem dX0_copyFrom_30 : decode cX0_copyFrom 30 = .ok (.getfield 61, 3) := by decide +kernel
theorem dX0_copyFrom_33 : decode cX0_copyFrom 33 = .ok (.putfield 61, 3) := by decide +kernel
theorem dX0_copyFrom_36 : decode cX0_copyFrom 36 = .ok (.aload_n 0, 1) := by decide +kernel
theorem dX0_copyFrom_37 : decode cX0_copyFrom 37 = .ok (.aload_n 1, 1) := by decide +kernel
theorem dX0_copyFrom_38 : decode cX0_copyFrom 38 = .ok (.getfield 64, 3) := by decide +kernel
theorem dX0_copyFrom_41 : decode cX0_copyFrom 41 = .ok (.putfield 64, 3) := by decide +kernel
theorem dX0_copyFrom_44 : decode cX0_copyFrom 44 = .ok (.aload_n 0, 1) := by decide +kernel
theorem dX0_copyFrom_45 : decode cX0_copyFrom 45 = .ok (.aload_n 1, 1) := by decide +kernel
theorem dX0_copyFrom_46 : decode cX0_copyFrom 46 = .ok (.getfield 67, 3) := by decide +kernel
theorem dX0_copyFrom_49 : decode cX0_copyFrom 49 = .ok (.putfield 67, 3) := by decide +kernel
theorem dX0_copyFrom_52 : decode cX0_copyFrom 52 = .ok (.aload_n 1, 1) := by decide +kernel
theorem dX0_copyFrom_53 : decode cX0_copyFrom 53 = .ok (.getfield 9, 3) := by decide +kernel
theorem dX0_copyFrom_56 : decode cX0_copyFrom 56 = .ok (.iconst 0, 1) := by decide +kernel
theorem dX0_copyFrom_57 : decode cX0_copyFrom 57 = .ok (.aload_n 0, 1) := by decide +kernel
theorem dX0_copyFrom_58 : decode cX0_copyFrom 58 = .ok (.getfield 9, 3) := by decide +kernel
theorem dX0_copyFrom_61 : decode cX0_copyFrom 61 = .ok (.iconst 0, 1) := by decide +kernel
theorem dX0_copyFrom_62 : decode cX0_copyFrom 62 = .ok (.iconst 4, 1) := by decide +kernel
theorem dX0_copyFrom_63 : decode cX0_copyFrom 63 = .ok (.invokestatic 88, 3) := by decide +kernel
theorem dX0_copyFrom_66 : decode cX0_copyFrom 66 = .ok (.aload_n 1, 1) := by decide +kernel
theorem dX0_copyFrom_67 : decode cX0_copyFrom 67 = .ok (.getfield 15, 3) := by decide +kernel
theorem dX0_copyFrom_70 : decode cX0_copyFrom 70 = .ok (.iconst 0, 1) := by decide +kernel
theorem dX0_copyFrom_71 : decode cX0_copyFrom 71 = .ok (.aload_n 0, 1) := by decide +kernel
theorem dX0_copyFrom_72 : decode cX0_copyFrom 72 = .ok (.getfield 15, 3) := by decide +kernel
theorem dX0_copyFrom_75 : decode cX0_copyFrom 75 = .ok (.iconst 0, 1) := by decide +kernel
theorem dX0_copyFrom_76 : decode cX0_copyFrom 76 = .ok (.bipush 9, 2) := by decide +kernel
theorem dX0_copyFrom_78 : decode cX0_copyFrom 78 = .ok (.invokestatic 88, 3) := by decide +kernel
theorem dX0_copyFrom_81 : decode cX0_copyFrom 81 = .ok (.aload_n 1, 1) := by decide +kernel
theorem dX0_copyFrom_82 : decode cX0_copyFrom 82 = .ok (.getfield 18, 3) := by decide +kernel
theorem dX0_copyFrom_85 : decode cX0_copyFrom 85 = .ok (.iconst 0, 1) := by decide +kernel
theorem dX0_copyFrom_86 : decode cX0_copyFrom 86 = .ok (.aload_n 0, 1) := by decide +kernel
theorem dX0_copyFrom_87 : decode cX0_copyFrom 87 = .ok (.getfield 18, 3) := by decide +kernel
theorem dX0_copyFrom_90 : decode cX0_copyFrom 90 = .ok (.iconst 0, 1) := by decide +kernel
theorem dX0_copyFrom_91 : decode cX0_copyFrom 91 = .ok (.bipush 9, 2) := by decide +kernel
theorem dX0_copyFrom_93 : decode cX0_copyFrom 93 = .ok (.invokestatic 88, 3) := by decide +kernel
theorem dX0_copyFrom_96 : decode cX0_copyFrom 96 = .ok (.aload_n 1, 1) := by decide +kernel
theorem dX0_copyFrom_97 : decode cX0_copyFrom 97 = .ok (.getfield 21, 3) := by decide +kernel
theorem dX0_copyFrom_100 : decode cX0_copyFrom 100 = .ok (.iconst 0, 1) := by decide +kernel
theorem dX0_copyFrom_101 : decode cX0_copyFrom 101 = .ok (.aload_n 0, 1) := by decide +kernel
theorem dX0_copyFrom_102 : decode cX0_copyFrom 102 = .ok (.getfield 21, 3) := by decide +kernel
theorem dX0_copyFrom_105 : decode cX0_copyFrom 105 = .ok (.iconst 0, 1) := by decide +kernel
theorem dX0_copyFrom_106 : decode cX0_copyFrom 106 = .ok (.bipush 9, 2) := by decide +kernel
theorem dX0_copyFrom_108 : decode cX0_copyFrom 108 = .ok (.invokestatic 88, 3) := by decide +kernel
theorem dX0_copyFrom_111 : decode cX0_copyFrom 111 = .ok (.aload_n 1, 1) := by decide +kernel
theorem dX0_copyFrom_112 : decode cX0_copyFrom 112 = .ok (.getfield 24, 3) := by decide +kernel
theorem dX0_copyFrom_115 : decode cX0_copyFrom 115 = .ok (.iconst 0, 1) := by decide +kernel
theorem dX0_copyFrom_116 : decode cX0_copyFrom 116 = .ok (.aload_n 0, 1) := by decide +kernel
theorem dX0_copyFrom_117 : decode cX0_copyFrom 117 = .ok (.getfield 24, 3) := by decide +kernel
theorem dX0_copyFrom_120 : decode cX0_copyFrom 120 = .ok (.iconst 0, 1) := by decide +kernel
theorem dX0_copyFrom_121 : decode cX0_copyFrom 121 = .ok (.bipush 9, 2) := by decide +kernel
theorem dX0_copyFrom_123 : decode cX0_copyFrom 123 = .ok (.invokestatic 88, 3) := by decide +kernel
theorem dX0_copyFrom_126 : decode cX0_copyFrom 126 = .ok (.aload_n 1, 1) := by decide +kernel
theorem dX0_copyFrom_127 : decode cX0_copyFrom 127 = .ok (.getfield 27, 3) := by decide +kernel
theorem dX0_copyFrom_130 : decode cX0_copyFrom 130 = .ok (.iconst 0, 1) := by decide +kernel
theorem dX0_copyFrom_131 : decode cX0_copyFrom 131 = .ok (.aload_n 0, 1) := by decide +kernel
theorem dX0_copyFrom_132 : decode cX0_copyFrom 132 = .ok (.getfield 27, 3) := by decide +kernel
theorem dX0_copyFrom_135 : decode cX0_copyFrom 135 = .ok (.iconst 0, 1) := by decide +kernel
theorem dX0_copyFrom_136 : decode cX0_copyFrom 136 = .ok (.bipush 9, 2) := by decide +kernel
theorem dX0_copyFrom_138 : decode cX0_copyFrom 138 = .ok (.invokestatic 88, 3) := by decide +kernel
theorem dX0_copyFrom_141 : decode cX0_copyFrom 141 = .ok (.aload_n 1, 1) := by decide +kernel
theorem dX0_copyFrom_142 : decode cX0_copyFrom 142 = .ok (.getfield 30, 3) := by decide +kernel
theorem dX0_copyFrom_145 : decode cX0_copyFrom 145 = .ok (.iconst 0, 1) := by decide +kernel
theorem dX0_copyFrom_146 : decode cX0_copyFrom 146 = .ok (.aload_n 0, 1) := by decide +kernel
theorem dX0_copyFrom_147 : decode cX0_copyFrom 147 = .ok (.getfield 30, 3) := by decide +kernel
theorem dX0_copyFrom_150 : decode cX0_copyFrom 150 = .ok (.iconst 0, 1) := by decide +kernel
theorem dX0_copyFrom_151 : decode cX0_copyFrom 151 = .ok (.bipush 9, 2) := by decide +kernel
theorem dX0_copyFrom_153 : decode cX0_copyFrom 153 = .ok (.invokestatic 88, 3) := by decide +kernel
theorem dX0_copyFrom_156 : decode cX0_copyFrom 156 = .ok (.aload_n 1, 1) := by decide +kernel
theorem dX0_copyFrom_157 : decode cX0_copyFrom 157 = .ok (.getfield 33, 3) := by decide +kernel
theorem dX0_copyFrom_160 : decode cX0_copyFrom 160 = .ok (.iconst 0, 1) := by decide +kernel
theorem dX0_copyFrom_161 : decode cX0_copyFrom 161 = .ok (.aload_n 0, 1) := by decide +kernel
theorem dX0_copyFrom_162 : decode cX0_copyFrom 162 = .ok (.getfield 33, 3) := by decide +kernel
theorem dX0_copyFrom_165 : decode cX0_copyFrom 165 = .ok (.iconst 0, 1) := by decide +kernel
theorem dX0_copyFrom_166 : decode cX0_copyFrom 166 = .ok (.bipush 9, 2) := by decide +kernel
theorem dX0_copyFrom_168 : decode cX0_copyFrom 168 = .ok (.invokestatic 88, 3) := by decide +kernel
theorem dX0_copyFrom_171 : decode cX0_copyFrom 171 = .ok (.aload_n 1, 1) := by decide +kernel
theorem dX0_copyFrom_172 : decode cX0_copyFrom 172 = .ok (.getfield 36, 3) := by decide +kernel
theorem dX0_copyFrom_175 : decode cX0_copyFrom 175 = .ok (.iconst 0, 1) := by decide +kernel
theorem dX0_copyFrom_176 : decode cX0_copyFrom 176 = .ok (.aload_n 0, 1) := by decide +kernel
theorem dX0_copyFrom_177 : decode cX0_copyFrom 177 = .ok (.getfield 36, 3) := by decide +kernel
theorem dX0_copyFrom_180 : decode cX0_copyFrom 180 = .ok (.iconst 0, 1) := by decide +kernel
theorem dX0_copyFrom_181 : decode cX0_copyFrom 181 = .ok (.bipush 9, 2) := by decide +kernel
theorem dX0_copyFrom_183 : decode cX0_copyFrom 183 = .ok (.invokestatic 88, 3) := by decide +kernel
theorem dX0_copyFrom_186 : decode cX0_copyFrom 186 = .ok (.aload_n 0, 1) := by decide +kernel
theorem dX0_copyFrom_187 : decode cX0_copyFrom 187 = .ok (.getfield 42, 3) := by decide +kernel
theorem dX0_copyFrom_190 : decode cX0_copyFrom 190 = .ok (.aload_n 1, 1) := by decide +kernel
theorem dX0_copyFrom_191 : decode cX0_copyFrom 191 = .ok (.getfield 42, 3) := by decide +kernel
theorem dX0_copyFrom_194 : decode cX0_copyFrom 194 = .ok (.invokevirtual 94, 3) := by decide +kernel
theorem dX0_copyFrom_197 : decode cX0_copyFrom 197 = .ok (.aload_n 0, 1) := by decide +kernel
theorem dX0_copyFrom_198 : decode cX0_copyFrom 198 = .ok (.getfield 49, 3) := by decide +kernel
theorem dX0_copyFrom_201 : decode cX0_copyFrom 201 = .ok (.aload_n 1, 1) := by decide +kernel
theorem dX0_copyFrom_202 : decode cX0_copyFrom 202 = .ok (.getfield 49, 3) := by decide +kernel
theorem dX0_copyFrom_205 : decode cX0_copyFrom 205 = .ok (.invokevirtual 98, 3) := by decide +kernel
theorem dX0_copyFrom_208 : decode cX0_copyFrom 208 = .ok (.return_, 1) := by decide +kernel
theorem dX0_hasDistrict_0 : decode cX0_hasDistrict 0 = .ok (.iload_n 1, 1) := by decide +kernel
theorem dX0_hasDistrict_1 : decode cX0_hasDistrict 1 = .ok (.ifCond .lt 15, 3) := by decide +kernel
theorem dX0_hasDistrict_4 : decode cX0_hasDistrict 4 = .ok (.iload_n 1, 1) := by decide +kernel
theorem dX0_hasDistrict_5 : decode cX0_hasDistrict 5 = .ok (.aload_n 0, 1) := by decide +kernel
theorem dX0_hasDistrict_6 : decode cX0_hasDistrict 6 = .ok (.getfield 61, 3) := by decide +kernel
theorem dX0_hasDistrict_9 : decode cX0_hasDistrict 9 = .ok (.if_icmp .ge 7, 3) := by decide +kernel
theorem dX0_hasDistrict_12 : decode cX0_hasDistrict 12 = .ok (.iconst 1, 1) := by decide +kernel
theorem dX0_hasDistrict_13 : decode cX0_hasDistrict 13 = .ok (.goto 4, 3) := by decide +kernel
theorem dX0_hasDistrict_16 : decode cX0_hasDistrict 16 = .ok (.iconst 0, 1) := by decide +kernel
theorem dX0_hasDistrict_17 : decode cX0_hasDistrict 17 = .ok (.ireturn, 1) := by decide +kernel
theorem dX0_hasMeaning_0 : decode cX0_hasMeaning 0 = .ok (.iload_n 1, 1) := by decide +kernel
theorem dX0_hasMeaning_1 : decode cX0_hasMeaning 1 = .ok (.ifCond .lt 15, 3) := by decide +kernel
theorem dX0_hasMeaning_4 : decode cX0_hasMeaning 4 = .ok (.iload_n 1, 1) := by decide +kernel
theorem dX0_hasMeaning_5 : decode cX0_hasMeaning 5 = .ok (.aload_n 0, 1) := by decide +kernel
theorem dX0_hasMeaning_6 : decode cX0_hasMeaning 6 = .ok (.getfield 76, 3) := by decide +kernel
theorem dX0_hasMeaning_9 : decode cX0_hasMeaning 9 = .ok (.if_icmp .ge 7, 3) := by decide +kernel
theorem dX0_hasMeaning_12 : decode cX0_hasMeaning 12 = .ok (.iconst 1, 1) := by decide +kernel
theorem dX0_hasMeaning_13 : decode cX0_hasMeaning 13 = .ok (.goto 4, 3) := by decide +kernel
theorem dX0_hasMeaning_16 : decode cX0_hasMeaning 16 = .ok (.iconst 0, 1) := by decide +kernel
theorem dX0_hasMeaning_17 : decode cX0_hasMeaning 17 = .ok (.ireturn, 1) := by decide +kernel
theorem dX0_hasSpeaker_0 : decode cX0_hasSpeaker 0 = .ok (.iload_n 1, 1) := by decide +kernel
theorem dX0_hasSpeaker_1 : decode cX0_hasSpeaker 1 = .ok (.ifCond .lt 15, 3) := by decide +kernel
theorem dX0_hasSpeaker_4 : decode cX0_hasSpeaker 4 = .ok (.iload_n 1, 1) := by decide +kernel
theorem dX0_hasSpeaker_5 : decode cX0_hasSpeaker 5 = .ok (.aload_n 0, 1) := by decide +kernel
theorem dX0_hasSpeaker_6 : decode cX0_hasSpeaker 6 = .ok (.getfield 67, 3) := by decide +kernel
theorem dX0_hasSpeaker_9 : decode cX0_hasSpeaker 9 = .ok (.if_icmp .ge 7, 3) := by decide +kernel
theorem dX0_hasSpeaker_12 : decode cX0_hasSpeaker 12 = .ok (.iconst 1, 1) := by decide +kernel
theorem dX0_hasSpeaker_13 : decode cX0_hasSpeaker 13 = .ok (.goto 4, 3) := by decide +kernel
theorem dX0_hasSpeaker_16 : decode cX0_hasSpeaker 16 = .ok (.iconst 0, 1) := by decide +kernel
theorem dX0_hasSpeaker_17 : decode cX0_hasSpeaker 17 = .ok (.ireturn, 1) := by decide +kernel
theorem dX0_hasWord_0 : decode cX0_hasWord 0 = .ok (.iload_n 1, 1) := by decide +kernel
theorem dX0_hasWord_1 : decode cX0_hasWord 1 = .ok (.ifCond .lt 15, 3) := by decide +kernel
theorem dX0_hasWord_4 : decode cX0_hasWord 4 = .ok (.iload_n 1, 1) := by decide +kernel
theorem dX0_hasWord_5 : decode cX0_hasWord 5 = .ok (.aload_n 0, 1) := by decide +kernel
theorem dX0_hasWord_6 : decode cX0_hasWord 6 = .ok (.getfield 64, 3) := by decide +kernel
theorem dX0_hasWord_9 : decode cX0_hasWord 9 = .ok (.if_icmp .ge 7, 3) := by decide +kernel
theorem dX0_hasWord_12 : decode cX0_hasWord 12 = .ok (.iconst 1, 1) := by decide +kernel
theorem dX0_hasWord_13 : decode cX0_hasWord 13 = .ok (.goto 4, 3) := by decide +kernel
theorem dX0_hasWord_16 : decode cX0_hasWord 16 = .ok (.iconst 0, 1) := by decide +kernel
theorem dX0_hasWord_17 : decode cX0_hasWord 17 = .ok (.ireturn, 1) := by decide +kernel
theorem dX0_init_0 : decode cX0_init 0 = .ok (.aload_n 0, 1) := by decide +kernel
theorem dX0_init_1 : decode cX0_init 1 = .ok (.invokespecial 3, 3) := by decide +kernel
theorem dX0_init_4 : decode cX0_init 4 = .ok (.aload_n 0, 1) := by decide +kernel
theorem dX0_init_5 : decode cX0_init 5 = .ok (.iconst 4, 1) := by decide +kernel
theorem dX0_init_6 : decode cX0_init 6 = .ok (.newarray .int, 2) := by decide +kernel
theorem dX0_init_8 : decode cX0_init 8 = .ok (.putfield 9, 3) := by decide +kernel
theorem dX0_init_11 : decode cX0_init 11 = .ok (.aload_n 0, 1) := by decide +kernel
theorem dX0_init_12 : decode cX0_init 12 = .ok (.bipush 9, 2) := by decide +kernel
theorem dX0_init_14 : decode cX0_init 14 = .ok (.newarray .int, 2) := by decide +kernel
theorem dX0_init_16 : decode cX0_init 16 = .ok (.putfield 15, 3) := by decide +kernel
theorem dX0_init_19 : decode cX0_init 19 = .ok (.aload_n 0, 1) := by decide +kernel
theorem dX0_init_20 : decode cX0_init 20 = .ok (.bipush 9, 2) := by decide +kernel
theorem dX0_init_22 : decode cX0_init 22 = .ok (.newarray .int, 2) := by decide +kernel
theorem dX0_init_24 : decode cX0_init 24 = .ok (.putfield 18, 3) := by decide +kernel
theorem dX0_init_27 : decode cX0_init 27 = .ok (.aload_n 0, 1) := by decide +kernel
theorem dX0_init_28 : decode cX0_init 28 = .ok (.bipush 9, 2) := by decide +kernel
theorem dX0_init_30 : decode cX0_init 30 = .ok (.newarray .int, 2) := by decide +kernel
theorem dX0_init_32 : decode cX0_init 32 = .ok (.putfield 21, 3) := by decide +kernel
theorem dX0_init_35 : decode cX0_init 35 = .ok (.aload_n 0, 1) := by decide +kernel
theorem dX0_init_36 : decode cX0_init 36 = .ok (.bipush 9, 2) := by decide +kernel
theorem dX0_init_38 : decode cX0_init 38 = .ok (.newarray .int, 2) := by decide +kernel
theorem dX0_init_40 : decode cX0_init 40 = .ok (.putfield 24, 3) := by decide +kernel
theorem dX0_init_43 : decode cX0_init 43 = .ok (.aload_n 0, 1) := by decide +kernel
theorem dX0_init_44 : decode cX0_init 44 = .ok (.bipush 9, 2) := by decide +kernel
theorem dX0_init_46 : decode cX0_init 46 = .ok (.newarray .int, 2) := by decide +kernel
theorem dX0_init_48 : decode cX0_init 48 = .ok (.putfield 27, 3) := by decide +kernel
theorem dX0_init_51 : decode cX0_init 51 = .ok (.aload_n 0, 1) := by decide +kernel
theorem dX0_init_52 : decode cX0_init 52 = .ok (.bipush 9, 2) := by decide +kernel
theorem dX0_init_54 : decode cX0_init 54 = .ok (.newarray .int, 2) := by decide +kernel
theorem dX0_init_56 : decode cX0_init 56 = .ok (.putfield 30, 3) := by decide +kernel
theorem dX0_init_59 : decode cX0_init 59 = .ok (.aload_n 0, 1) := by decide +kernel
theorem dX0_init_60 : decode cX0_init 60 = .ok (.bipush 9, 2) := by decide +kernel
theorem dX0_init_62 : decode cX0_init 62 = .ok (.newarray .int, 2) := by decide +kernel
theorem dX0_init_64 : decode cX0_init 64 = .ok (.putfield 33, 3) := by decide +kernel
theorem dX0_init_67 : decode cX0_init 67 = .ok (.aload_n 0, 1) := by decide +kernel
theorem dX0_init_68 : decode cX0_init 68 = .ok (.bipush 9, 2) := by decide +kernel
theorem dX0_init_70 : decode cX0_init 70 = .ok (.newarray .int, 2) := by decide +kernel
theorem dX0_init_72 : decode cX0_init 72 = .ok (.putfield 36, 3) := by decide +kernel
theorem dX0_init_75 : decode cX0_init 75 = .ok (.aload_n 0, 1) := by decide +kernel
theorem dX0_init_76 : decode cX0_init 76 = .ok (.new 39, 3) := by decide +kernel
theorem dX0_init_79 : decode cX0_init 79 = .ok (.dup, 1) := by decide +kernel
theorem dX0_init_80 : decode cX0_init 80 = .ok (.invokespecial 41, 3) := by decide +kernel
theorem dX0_init_83 : decode cX0_init 83 = .ok (.putfield 42, 3) := by decide +kernel
theorem dX0_init_86 : decode cX0_init 86 = .ok (.aload_n 0, 1) := by decide +kernel
theorem dX0_init_87 : decode cX0_init 87 = .ok (.new 46, 3) := by decide +kernel
theorem dX0_init_90 : decode cX0_init 90 = .ok (.dup, 1) := by decide +kernel
theorem dX0_init_91 : decode cX0_init 91 = .ok (.invokespecial 48, 3) := by decide +kernel
theorem dX0_init_94 : decode cX0_init 94 = .ok (.putfield 49, 3) := by decide +kernel
theorem dX0_init_97 : decode cX0_init 97 = .ok (.return_, 1) := by decide +kernel
theorem dX0_isNone_0 : decode cX0_isNone 0 = .ok (.aload_n 0, 1) := by decide +kernel
theorem dX0_isNone_1 : decode cX0_isNone 1 = .ok (.getfield 53, 3) := by decide +kernel
theorem dX0_isNone_4 : decode cX0_isNone 4 = .ok (.ifCond .ne 7, 3) := by decide +kernel
theorem dX0_isNone_7 : decode cX0_isNone 7 = .ok (.iconst 1, 1) := by decide +kernel
theorem dX0_isNone_8 : decode cX0_isNone 8 = .ok (.goto 4, 3) := by decide +kernel
theorem dX0_isNone_12 : decode cX0_isNone 12 = .ok (.ireturn, 1) := by decide +kernel
theorem dX0_open_0 : decode cX0_open 0 = .ok (.aload_n 0, 1) := by decide +kernel
theorem dX0_open_1 : decode cX0_open 1 = .ok (.iload_n 1, 1) := by decide +kernel
theorem dX0_open_2 : decode cX0_open 2 = .ok (.putfield 76, 3) := by decide +kernel
theorem dX0_open_5 : decode cX0_open 5 = .ok (.aload_n 0, 1) := by decide +kernel
theorem dX0_open_6 : decode cX0_open 6 = .ok (.iload_n 2, 1) := by decide +kernel
theorem dX0_open_7 : decode cX0_open 7 = .ok (.putfield 79, 3) := by decide +kernel
theorem dX0_open_10 : decode cX0_open 10 = .ok (.aload_n 0, 1) := by decide +kernel
theorem dX0_open_11 : decode cX0_open 11 = .ok (.iload_n 3, 1) := by decide +kernel
theorem dX0_open_12 : decode cX0_open 12 = .ok (.putfield 82, 3) := by decide +kernel
theorem dX0_open_15 : decode cX0_open 15 = .ok (.aload_n 0, 1) := by decide +kernel
theorem dX0_open_16 : decode cX0_open 16 = .ok (.iload 4, 2) := by decide +kernel
theorem dX0_open_18 : decode cX0_open 18 = .ok (.putfield 85, 3) := by decide +kernel
theorem dX0_open_21 : decode cX0_open 21 = .ok (.return_, 1) := by decide +kernel
theorem dX10_init_0 : decode cX10_init 0 = .ok (.aload_n 0, 1) := by decide +kernel
theorem dX10_init_1 : decode cX10_init 1 = .ok (.invokespecial 3, 3) := by decide +kernel
theorem dX10_init_4 : decode cX10_init 4 = .ok (.aload_n 0, 1) := by decide +kernel
theorem dX10_init_5 : decode cX10_init 5 = .ok (.bipush 8, 2) := by decide +kernel
theorem dX10_init_7 : decode cX10_init 7 = .ok (.newarray .int, 2) := by decide +kernel
theorem dX10_init_9 : decode cX10_init 9 = .ok (.putfield 9, 3) := by decide +kernel
theorem dX10_init_12 : decode cX10_init 12 = .ok (.aload_n 0, 1) := by decide +kernel
theorem dX10_init_13 : decode cX10_init 13 = .ok (.bipush 8, 2) := by decide +kernel
theorem dX10_init_15 : decode cX10_init 15 = .ok (.newarray .int, 2) := by decide +kernel
theorem dX10_init_17 : decode cX10_init 17 = .ok (.putfield 15, 3) := by decide +kernel
theorem dX10_init_20 : decode cX10_init 20 = .ok (.aload_n 0, 1) := by decide +kernel
theorem dX10_init_21 : decode cX10_init 21 = .ok (.aload_n 1, 1) := by decide +kernel
theorem dX10_init_22 : decode cX10_init 22 = .ok (.putfield 18, 3) := by decide +kernel
theorem dX10_init_25 : decode cX10_init 25 = .ok (.return_, 1) := by decide +kernel
theorem dX11_abstains_0 : decode cX11_abstains 0 = .ok (.aload_n 0, 1) := by decide +kernel
theorem dX11_abstains_1 : decode cX11_abstains 1 = .ok (.getfield 32, 3) := by decide +kernel
theorem dX11_abstains_4 : decode cX11_abstains 4 = .ok (.iload_n 1, 1) := by decide +kernel
theorem dX11_abstains_5 : decode cX11_abstains 5 = .ok (.invokevirtual 161, 3) := by decide +kernel
theorem dX11_abstains_8 : decode cX11_abstains 8 = .ok (.ifCond .ne 6, 3) := by decide +kernel
theorem dX11_abstains_11 : decode cX11_abstains 11 = .ok (.bipush (-2), 2) := by decide +kernel
theorem dX11_abstains_13 : decode cX11_abstains 13 = .ok (.ireturn, 1) := by decide +kernel
theorem dX11_back_0 : decode cX11_back 0 = .ok (.iload_n 1, 1) := by decide +kernel
theorem dX11_back_1 : decode cX11_back 1 = .ok (.ifCond .lt 8, 3) := by decide +kernel
theorem dX11_back_4 : decode cX11_back 4 = .ok (.iload_n 1, 1) := by decide +kernel
theorem dX11_back_5 : decode cX11_back 5 = .ok (.iconst 3, 1) := by decide +kernel
theorem dX11_back_6 : decode cX11_back 6 = .ok (.if_icmp .lt 6, 3) := by decide +kernel
theorem dX11_back_9 : decode cX11_back 9 = .ok (.bipush (-2), 2) := by decide +kernel
theorem dX11_back_11 : decode cX11_back 11 = .ok (.ireturn, 1) := by decide +kernel
theorem dX11_back_12 : decode cX11_back 12 = .ok (.aload_n 0, 1) := by decide +kernel
theorem dX11_back_13 : decode cX11_back 13 = .ok (.getfield 413, 3) := by decide +kernel
theorem dX11_back_16 : decode cX11_back 16 = .ok (.iload_n 1, 1) := by decide +kernel
theorem dX11_back_17 : decode cX11_back 17 = .ok (.invokestatic 143, 3) := by decide +kernel
theorem dX11_back_20 : decode cX11_back 20 = .ok (.ifCond .ne 6, 3) := by decide +kernel
theorem dX11_back_23 : decode cX11_back 23 = .ok (.bipush (-6), 2) := by decide +kernel
theorem dX11_back_25 : decode cX11_back 25 = .ok (.ireturn, 1) := by decide +kernel
theorem dX11_beats_0 : decode cX11_beats 0 = .ok (.aload_n 0, 1) := by decide +kernel
theorem dX11_beats_1 : decode cX11_beats 1 = .ok (.getfield 32, 3) := by decide +kernel
theorem dX11_beats_4 : decode cX11_beats 4 = .ok (.iload_n 1, 1) := by decide +kernel
theorem dX11_beats_5 : decode cX11_beats 5 = .ok (.invokevirtual 114, 3) := by decide +kernel
theorem dX11_beats_8 : decode cX11_beats 8 = .ok (.ifCond .eq 19, 3) := by decide +kernel
theorem dX11_beats_27 : decode cX11_beats 27 = .ok (.bipush (-2), 2) := by decide +kernel
theorem dX11_beats_29 : decode cX11_beats 29 = .ok (.ireturn, 1) := by decide +kernel
theorem dX11_best_0 : decode cX11_best 0 = .ok (.aload_n 0, 1) := by decide +kernel
theorem dX11_best_1 : decode cX11_best 1 = .ok (.getfield 32, 3) := by decide +kernel
theorem dX11_best_4 : decode cX11_best 4 = .ok (.iload_n 1, 1) := by decide +kernel
theorem dX11_best_5 : decode cX11_best 5 = .ok (.invokevirtual 161, 3) := by decide +kernel
theorem dX11_best_8 : decode cX11_best 8 = .ok (.ifCond .ne 6, 3) := by decide +kernel
theorem dX11_best_11 : decode cX11_best 11 = .ok (.bipush (-2), 2) := by decide +kernel
theorem dX11_best_13 : decode cX11_best 13 = .ok (.ireturn, 1) := by decide +kernel
theorem dX11_bill_0 : decode cX11_bill 0 = .ok (.aload_n 0, 1) := by decide +kernel
theorem dX11_bill_1 : decode cX11_bill 1 = .ok (.getfield 32, 3) := by decide +kernel
theorem dX11_bill_4 : decode cX11_bill 4 = .ok (.invokevirtual 227, 3) := by decide +kernel
theorem dX11_bill_7 : decode cX11_bill 7 = .ok (.ifCond .eq 6, 3) := by decide +kernel
theorem dX11_bill_10 : decode cX11_bill 10 = .ok (.bipush (-2), 2) := by decide +kernel
theorem dX11_bill_12 : decode cX11_bill 12 = .ok (.ireturn, 1) := by decide +kernel
theorem dX11_breaks_0 : decode cX11_breaks 0 = .ok (.aload_n 0, 1) := by decide +kernel
theorem dX11_breaks_1 : decode cX11_breaks 1 = .ok (.getfield 32, 3) := by decide +kernel
theorem dX11_breaks_4 : decode cX11_breaks 4 = .ok (.invokevirtual 227, 3) := by decide +kernel
theorem dX11_breaks_7 : decode cX11_breaks 7 = .ok (.ifCond .ne 11, 3) := by decide +kernel
theorem dX11_breaks_18 : decode cX11_breaks 18 = .ok (.bipush (-2), 2) := by decide +kernel
theorem dX11_breaks_20 : decode cX11_breaks 20 = .ok (.goto 11, 3) := by decide +kernel
theorem dX11_breaks_31 : decode cX11_breaks 31 = .ok (.ireturn, 1) := by decide +kernel
theorem dX11_by_0 : decode cX11_by 0 = .ok (.aload_n 0, 1) := by decide +kernel
theorem dX11_by_1 : decode cX11_by 1 = .ok (.getfield 32, 3) := by decide +kernel
theorem dX11_by_4 : decode cX11_by 4 = .ok (.invokevirtual 227, 3) := by decide +kernel
theorem dX11_by_7 : decode cX11_by 7 = .ok (.ifCond .ne 17, 3) := by decide +kernel
theorem dX11_by_24 : decode cX11_by 24 = .ok (.bipush (-2), 2) := by decide +kernel
theorem dX11_by_26 : decode cX11_by 26 = .ok (.goto 11, 3) := by decide +kernel
theorem dX11_by_37 : decode cX11_by 37 = .ok (.ireturn, 1) := by decide +kernel
theorem dX11_chamber_0 : decode cX11_chamber 0 = .ok (.aload_n 0, 1) := by decide +kernel
theorem dX11_chamber_1 : decode cX11_chamber 1 = .ok (.getfield 28, 3) := by decide +kernel
theorem dX11_chamber_4 : decode cX11_chamber 4 = .ok (.invokevirtual 99, 3) := by decide +kernel
theorem dX11_chamber_7 : decode cX11_chamber 7 = .ok (.aload_n 0, 1) := by decide +kernel
theorem dX11_chamber_8 : decode cX11_chamber 8 = .ok (.getfield 28, 3) := by decide +kernel
theorem dX11_chamber_11 : decode cX11_chamber 11 = .ok (.getfield 102, 3) := by decide +kernel
theorem dX11_chamber_14 : decode cX11_chamber 14 = .ok (.ifCond .eq 6, 3) := by decide +kernel
theorem dX11_chamber_20 : decode cX11_chamber 20 = .ok (.aload_n 0, 1) := by decide +kernel
theorem dX11_chamber_21 : decode cX11_chamber 21 = .ok (.getfield 32, 3) := by decide +kernel
theorem dX11_chamber_24 : decode cX11_chamber 24 = .ok (.aload_n 0, 1) := by decide +kernel
theorem dX11_chamber_25 : decode cX11_chamber 25 = .ok (.getfield 19, 3) := by decide +kernel
theorem dX11_chamber_28 : decode cX11_chamber 28 = .ok (.invokevirtual 105, 3) := by decide +kernel
theorem dX11_chamber_31 : decode cX11_chamber 31 = .ok (.aload_n 0, 1) := by decide +kernel
theorem dX11_chamber_32 : decode cX11_chamber 32 = .ok (.getfield 10, 3) := by decide +kernel
theorem dX11_chamber_35 : decode cX11_chamber 35 = .ok (.iconst 0, 1) := by decide +kernel
theorem dX11_chamber_36 : decode cX11_chamber 36 = .ok (.putfield 95, 3) := by decide +kernel
theorem dX11_chamber_39 : decode cX11_chamber 39 = .ok (.aload_n 0, 1) := by decide +kernel
theorem dX11_chamber_40 : decode cX11_chamber 40 = .ok (.getfield 32, 3) := by decide +kernel
theorem dX11_chamber_43 : decode cX11_chamber 43 = .ok (.getfield 108, 3) := by decide +kernel
theorem dX11_chamber_46 : decode cX11_chamber 46 = .ok (.ireturn, 1) := by decide +kernel
theorem dX11_cheapest_0 : decode cX11_cheapest 0 = .ok (.aload_n 0, 1) := by decide +kernel
theorem dX11_cheapest_1 : decode cX11_cheapest 1 = .ok (.getfield 32, 3) := by decide +kernel
theorem dX11_cheapest_4 : decode cX11_cheapest 4 = .ok (.iload_n 1, 1) := by decide +kernel
theorem dX11_cheapest_5 : decode cX11_cheapest 5 = .ok (.invokevirtual 161, 3) := by decide +kernel
theorem dX11_cheapest_8 : decode cX11_cheapest 8 = .ok (.ifCond .eq 14, 3) := by decide +kernel
theorem dX11_cheapest_22 : decode cX11_cheapest 22 = .ok (.bipush (-2), 2) := by decide +kernel
theorem dX11_cheapest_24 : decode cX11_cheapest 24 = .ok (.ireturn, 1) := by decide +kernel
theorem dX11_coalition_0 : decode cX11_coalition 0 = .ok (.aload_n 0, 1) := by decide +kernel
theorem dX11_coalition_1 : decode cX11_coalition 1 = .ok (.getfield 32, 3) := by decide +kernel
theorem dX11_coalition_4 : decode cX11_coalition 4 = .ok (.invokevirtual 227, 3) := by decide +kernel
theorem dX11_coalition_7 : decode cX11_coalition 7 = .ok (.ifCond .eq 8, 3) := by decide +kernel
theorem dX11_coalition_10 : decode cX11_coalition 10 = .ok (.bipush (-2), 2) := by decide +kernel
theorem dX11_coalition_12 : decode cX11_coalition 12 = .ok (.goto 10, 3) := by decide +kernel
theorem dX11_coalition_22 : decode cX11_coalition 22 = .ok (.ireturn, 1) := by decide +kernel
theorem dX11_cost_0 : decode cX11_cost 0 = .ok (.aload_n 0, 1) := by decide +kernel
theorem dX11_cost_1 : decode cX11_cost 1 = .ok (.getfield 32, 3) := by decide +kernel
theorem dX11_cost_4 : decode cX11_cost 4 = .ok (.iload_n 1, 1) := by decide +kernel
theorem dX11_cost_5 : decode cX11_cost 5 = .ok (.invokevirtual 147, 3) := by decide +kernel
theorem dX11_cost_8 : decode cX11_cost 8 = .ok (.ifCond .ne 6, 3) := by decide +kernel
theorem dX11_cost_11 : decode cX11_cost 11 = .ok (.bipush (-2), 2) := by decide +kernel
theorem dX11_cost_13 : decode cX11_cost 13 = .ok (.ireturn, 1) := by decide +kernel
theorem dX11_costs_0 : decode cX11_costs 0 = .ok (.aload_n 0, 1) := by decide +kernel
theorem dX11_costs_1 : decode cX11_costs 1 = .ok (.getfield 32, 3) := by decide +kernel
theorem dX11_costs_4 : decode cX11_costs 4 = .ok (.invokevirtual 227, 3) := by decide +kernel
theorem dX11_costs_7 : decode cX11_costs 7 = .ok (.ifCond .eq 8, 3) := by decide +kernel
theorem dX11_costs_10 : decode cX11_costs 10 = .ok (.bipush (-2), 2) := by decide +kernel
theorem dX11_costs_12 : decode cX11_costs 12 = .ok (.goto 20, 3) := by decide +kernel
theorem dX11_costs_32 : decode cX11_costs 32 = .ok (.ireturn, 1) := by decide +kernel
theorem dX11_count_0 : decode cX11_count 0 = .ok (.iload_n 1, 1) := by decide +kernel
theorem dX11_count_1 : decode cX11_count 1 = .ok (.tableswitch 162 0 11 #[63, 71, 79, 87, 95, 103, 111, 119, 130, 141, 149, 157], 63) := by decide +kernel
theorem dX11_count_64 : decode cX11_count 64 = .ok (.aload_n 0, 1) := by decide +kernel
theorem dX11_count_65 : decode cX11_count 65 = .ok (.getfield 32, 3) := by decide +kernel
theorem dX11_count_68 : decode cX11_count 68 = .ok (.getfield 305, 3) := by decide +kernel
theorem dX11_count_71 : decode cX11_count 71 = .ok (.ireturn, 1) := by decide +kernel
theorem dX11_count_72 : decode cX11_count 72 = .ok (.aload_n 0, 1) := by decide +kernel
theorem dX11_count_73 : decode cX11_count 73 = .ok (.getfield 32, 3) := by decide +kernel
theorem dX11_count_76 : decode cX11_count 76 = .ok (.getfield 389, 3) := by decide +kernel
theorem dX11_count_79 : decode cX11_count 79 = .ok (.ireturn, 1) := by decide +kernel
