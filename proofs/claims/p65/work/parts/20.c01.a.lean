theorem dJ7_fill_53178_0 : decode cJ7_fill_53178 0 = .ok (.iconst 0, 1) := by decide +kernel
theorem dJ7_fill_53178_1 : decode cJ7_fill_53178 1 = .ok (.istore_n 2, 1) := by decide +kernel
theorem dJ7_fill_53178_2 : decode cJ7_fill_53178 2 = .ok (.aload_n 0, 1) := by decide +kernel
theorem dJ7_fill_53178_3 : decode cJ7_fill_53178 3 = .ok (.arraylength, 1) := by decide +kernel
theorem dJ7_fill_53178_4 : decode cJ7_fill_53178 4 = .ok (.istore_n 3, 1) := by decide +kernel
theorem dJ7_fill_53178_5 : decode cJ7_fill_53178 5 = .ok (.iload_n 2, 1) := by decide +kernel
theorem dJ7_fill_53178_6 : decode cJ7_fill_53178 6 = .ok (.iload_n 3, 1) := by decide +kernel
theorem dJ7_fill_53178_7 : decode cJ7_fill_53178 7 = .ok (.if_icmp .ge 13, 3) := by decide +kernel
theorem dJ7_fill_53178_10 : decode cJ7_fill_53178 10 = .ok (.aload_n 0, 1) := by decide +kernel
theorem dJ7_fill_53178_11 : decode cJ7_fill_53178 11 = .ok (.iload_n 2, 1) := by decide +kernel
theorem dJ7_fill_53178_12 : decode cJ7_fill_53178 12 = .ok (.iload_n 1, 1) := by decide +kernel
theorem dJ7_fill_53178_13 : decode cJ7_fill_53178 13 = .ok (.iastore, 1) := by decide +kernel
theorem dJ7_fill_53178_14 : decode cJ7_fill_53178 14 = .ok (.iinc 2 1, 3) := by decide +kernel
theorem dJ7_fill_53178_17 : decode cJ7_fill_53178 17 = .ok (.goto (-12), 3) := by decide +kernel
theorem dJ7_fill_53178_20 : decode cJ7_fill_53178 20 = .ok (.return_, 1) := by decide +kernel
theorem dJ7_fill_d0a16_0 : decode cJ7_fill_d0a16 0 = .ok (.iconst 0, 1) := by decide +kernel
theorem dJ7_fill_d0a16_1 : decode cJ7_fill_d0a16 1 = .ok (.istore_n 3, 1) := by decide +kernel
theorem dJ7_fill_d0a16_2 : decode cJ7_fill_d0a16 2 = .ok (.aload_n 0, 1) := by decide +kernel
theorem dJ7_fill_d0a16_3 : decode cJ7_fill_d0a16 3 = .ok (.arraylength, 1) := by decide +kernel
theorem dJ7_fill_d0a16_4 : decode cJ7_fill_d0a16 4 = .ok (.istore 4, 2) := by decide +kernel
theorem dJ7_fill_d0a16_6 : decode cJ7_fill_d0a16 6 = .ok (.iload_n 3, 1) := by decide +kernel
theorem dJ7_fill_d0a16_7 : decode cJ7_fill_d0a16 7 = .ok (.iload 4, 2) := by decide +kernel
theorem dJ7_fill_d0a16_9 : decode cJ7_fill_d0a16 9 = .ok (.if_icmp .ge 13, 3) := by decide +kernel
theorem dJ7_fill_d0a16_12 : decode cJ7_fill_d0a16 12 = .ok (.aload_n 0, 1) := by decide +kernel
theorem dJ7_fill_d0a16_13 : decode cJ7_fill_d0a16 13 = .ok (.iload_n 3, 1) := by decide +kernel
theorem dJ7_fill_d0a16_14 : decode cJ7_fill_d0a16 14 = .ok (.lload_n 1, 1) := by decide +kernel
theorem dJ7_fill_d0a16_15 : decode cJ7_fill_d0a16 15 = .ok (.lastore, 1) := by decide +kernel
theorem dJ7_fill_d0a16_16 : decode cJ7_fill_d0a16 16 = .ok (.iinc 3 1, 3) := by decide +kernel
theorem dJ7_fill_d0a16_19 : decode cJ7_fill_d0a16 19 = .ok (.goto (-13), 3) := by decide +kernel
theorem dJ7_fill_d0a16_22 : decode cJ7_fill_d0a16 22 = .ok (.return_, 1) := by decide +kernel
theorem dX0_addDistrict_0 : decode cX0_addDistrict 0 = .ok (.aload_n 0, 1) := by decide +kernel
theorem dX0_addDistrict_1 : decode cX0_addDistrict 1 = .ok (.getfield 61, 3) := by decide +kernel
theorem dX0_addDistrict_4 : decode cX0_addDistrict 4 = .ok (.iconst 4, 1) := by decide +kernel
theorem dX0_addDistrict_5 : decode cX0_addDistrict 5 = .ok (.if_icmp .ge 23, 3) := by decide +kernel
theorem dX0_addDistrict_8 : decode cX0_addDistrict 8 = .ok (.aload_n 0, 1) := by decide +kernel
theorem dX0_addDistrict_9 : decode cX0_addDistrict 9 = .ok (.getfield 9, 3) := by decide +kernel
theorem dX0_addDistrict_12 : decode cX0_addDistrict 12 = .ok (.aload_n 0, 1) := by decide +kernel
theorem dX0_addDistrict_13 : decode cX0_addDistrict 13 = .ok (.getfield 61, 3) := by decide +kernel
theorem dX0_addDistrict_16 : decode cX0_addDistrict 16 = .ok (.iload_n 1, 1) := by decide +kernel
theorem dX0_addDistrict_17 : decode cX0_addDistrict 17 = .ok (.iastore, 1) := by decide +kernel
theorem dX0_addDistrict_18 : decode cX0_addDistrict 18 = .ok (.aload_n 0, 1) := by decide +kernel
theorem dX0_addDistrict_19 : decode cX0_addDistrict 19 = .ok (.dup, 1) := by decide +kernel
theorem dX0_addDistrict_20 : decode cX0_addDistrict 20 = .ok (.getfield 61, 3) := by decide +kernel
theorem dX0_addDistrict_23 : decode cX0_addDistrict 23 = .ok (.iconst 1, 1) := by decide +kernel
theorem dX0_addDistrict_24 : decode cX0_addDistrict 24 = .ok (.iadd, 1) := by decide +kernel
theorem dX0_addDistrict_25 : decode cX0_addDistrict 25 = .ok (.putfield 61, 3) := by decide +kernel
theorem dX0_addDistrict_28 : decode cX0_addDistrict 28 = .ok (.return_, 1) := by decide +kernel
theorem dX0_addSpeaker_0 : decode cX0_addSpeaker 0 = .ok (.aload_n 0, 1) := by decide +kernel
theorem dX0_addSpeaker_1 : decode cX0_addSpeaker 1 = .ok (.getfield 67, 3) := by decide +kernel
theorem dX0_addSpeaker_4 : decode cX0_addSpeaker 4 = .ok (.bipush 9, 2) := by decide +kernel
theorem dX0_addSpeaker_6 : decode cX0_addSpeaker 6 = .ok (.if_icmp .ge 54, 3) := by decide +kernel
theorem dX0_addSpeaker_9 : decode cX0_addSpeaker 9 = .ok (.aload_n 0, 1) := by decide +kernel
theorem dX0_addSpeaker_10 : decode cX0_addSpeaker 10 = .ok (.getfield 27, 3) := by decide +kernel
theorem dX0_addSpeaker_13 : decode cX0_addSpeaker 13 = .ok (.aload_n 0, 1) := by decide +kernel
theorem dX0_addSpeaker_14 : decode cX0_addSpeaker 14 = .ok (.getfield 67, 3) := by decide +kernel
theorem dX0_addSpeaker_17 : decode cX0_addSpeaker 17 = .ok (.iload_n 1, 1) := by decide +kernel
theorem dX0_addSpeaker_18 : decode cX0_addSpeaker 18 = .ok (.iastore, 1) := by decide +kernel
theorem dX0_addSpeaker_19 : decode cX0_addSpeaker 19 = .ok (.aload_n 0, 1) := by decide +kernel
theorem dX0_addSpeaker_20 : decode cX0_addSpeaker 20 = .ok (.getfield 30, 3) := by decide +kernel
theorem dX0_addSpeaker_23 : decode cX0_addSpeaker 23 = .ok (.aload_n 0, 1) := by decide +kernel
theorem dX0_addSpeaker_24 : decode cX0_addSpeaker 24 = .ok (.getfield 67, 3) := by decide +kernel
theorem dX0_addSpeaker_27 : decode cX0_addSpeaker 27 = .ok (.iload_n 2, 1) := by decide +kernel
theorem dX0_addSpeaker_28 : decode cX0_addSpeaker 28 = .ok (.iastore, 1) := by decide +kernel
theorem dX0_addSpeaker_29 : decode cX0_addSpeaker 29 = .ok (.aload_n 0, 1) := by decide +kernel
theorem dX0_addSpeaker_30 : decode cX0_addSpeaker 30 = .ok (.getfield 33, 3) := by decide +kernel
theorem dX0_addSpeaker_33 : decode cX0_addSpeaker 33 = .ok (.aload_n 0, 1) := by decide +kernel
theorem dX0_addSpeaker_34 : decode cX0_addSpeaker 34 = .ok (.getfield 67, 3) := by decide +kernel
theorem dX0_addSpeaker_37 : decode cX0_addSpeaker 37 = .ok (.iload_n 3, 1) := by decide +kernel
theorem dX0_addSpeaker_38 : decode cX0_addSpeaker 38 = .ok (.iastore, 1) := by decide +kernel
theorem dX0_addSpeaker_39 : decode cX0_addSpeaker 39 = .ok (.aload_n 0, 1) := by decide +kernel
theorem dX0_addSpeaker_40 : decode cX0_addSpeaker 40 = .ok (.getfield 36, 3) := by decide +kernel
theorem dX0_addSpeaker_43 : decode cX0_addSpeaker 43 = .ok (.aload_n 0, 1) := by decide +kernel
theorem dX0_addSpeaker_44 : decode cX0_addSpeaker 44 = .ok (.getfield 67, 3) := by decide +kernel
theorem dX0_addSpeaker_47 : decode cX0_addSpeaker 47 = .ok (.iload 4, 2) := by decide +kernel
theorem dX0_addSpeaker_49 : decode cX0_addSpeaker 49 = .ok (.iastore, 1) := by decide +kernel
theorem dX0_addSpeaker_50 : decode cX0_addSpeaker 50 = .ok (.aload_n 0, 1) := by decide +kernel
theorem dX0_addSpeaker_51 : decode cX0_addSpeaker 51 = .ok (.dup, 1) := by decide +kernel
theorem dX0_addSpeaker_52 : decode cX0_addSpeaker 52 = .ok (.getfield 67, 3) := by decide +kernel
theorem dX0_addSpeaker_55 : decode cX0_addSpeaker 55 = .ok (.iconst 1, 1) := by decide +kernel
theorem dX0_addSpeaker_56 : decode cX0_addSpeaker 56 = .ok (.iadd, 1) := by decide +kernel
theorem dX0_addSpeaker_57 : decode cX0_addSpeaker 57 = .ok (.putfield 67, 3) := by decide +kernel
theorem dX0_addSpeaker_60 : decode cX0_addSpeaker 60 = .ok (.return_, 1) := by decide +kernel
theorem dX0_addWord_0 : decode cX0_addWord 0 = .ok (.aload_n 0, 1) := by decide +kernel
theorem dX0_addWord_1 : decode cX0_addWord 1 = .ok (.getfield 64, 3) := by decide +kernel
theorem dX0_addWord_4 : decode cX0_addWord 4 = .ok (.bipush 9, 2) := by decide +kernel
theorem dX0_addWord_6 : decode cX0_addWord 6 = .ok (.if_icmp .ge 54, 3) := by decide +kernel
theorem dX0_addWord_9 : decode cX0_addWord 9 = .ok (.aload_n 0, 1) := by decide +kernel
theorem dX0_addWord_10 : decode cX0_addWord 10 = .ok (.getfield 15, 3) := by decide +kernel
theorem dX0_addWord_13 : decode cX0_addWord 13 = .ok (.aload_n 0, 1) := by decide +kernel
theorem dX0_addWord_14 : decode cX0_addWord 14 = .ok (.getfield 64, 3) := by decide +kernel
theorem dX0_addWord_17 : decode cX0_addWord 17 = .ok (.iload_n 1, 1) := by decide +kernel
theorem dX0_addWord_18 : decode cX0_addWord 18 = .ok (.iastore, 1) := by decide +kernel
theorem dX0_addWord_19 : decode cX0_addWord 19 = .ok (.aload_n 0, 1) := by decide +kernel
theorem dX0_addWord_20 : decode cX0_addWord 20 = .ok (.getfield 18, 3) := by decide +kernel
theorem dX0_addWord_23 : decode cX0_addWord 23 = .ok (.aload_n 0, 1) := by decide +kernel
theorem dX0_addWord_24 : decode cX0_addWord 24 = .ok (.getfield 64, 3) := by decide +kernel
theorem dX0_addWord_27 : decode cX0_addWord 27 = .ok (.iload_n 2, 1) := by decide +kernel
theorem dX0_addWord_28 : decode cX0_addWord 28 = .ok (.iastore, 1) := by decide +kernel
theorem dX0_addWord_29 : decode cX0_addWord 29 = .ok (.aload_n 0, 1) := by decide +kernel
theorem dX0_addWord_30 : decode cX0_addWord 30 = .ok (.getfield 21, 3) := by decide +kernel
theorem dX0_addWord_33 : decode cX0_addWord 33 = .ok (.aload_n 0, 1) := by decide +kernel
theorem dX0_addWord_34 : decode cX0_addWord 34 = .ok (.getfield 64, 3) := by decide +kernel
theorem dX0_addWord_37 : decode cX0_addWord 37 = .ok (.iload_n 3, 1) := by decide +kernel
theorem dX0_addWord_38 : decode cX0_addWord 38 = .ok (.iastore, 1) := by decide +kernel
theorem dX0_addWord_39 : decode cX0_addWord 39 = .ok (.aload_n 0, 1) := by decide +kernel
theorem dX0_addWord_40 : decode cX0_addWord 40 = .ok (.getfield 24, 3) := by decide +kernel
theorem dX0_addWord_43 : decode cX0_addWord 43 = .ok (.aload_n 0, 1) := by decide +kernel
theorem dX0_addWord_44 : decode cX0_addWord 44 = .ok (.getfield 64, 3) := by decide +kernel
theorem dX0_addWord_47 : decode cX0_addWord 47 = .ok (.iload 4, 2) := by decide +kernel
theorem dX0_addWord_49 : decode cX0_addWord 49 = .ok (.iastore, 1) := by decide +kernel
theorem dX0_addWord_50 : decode cX0_addWord 50 = .ok (.aload_n 0, 1) := by decide +kernel
theorem dX0_addWord_51 : decode cX0_addWord 51 = .ok (.dup, 1) := by decide +kernel
theorem dX0_addWord_52 : decode cX0_addWord 52 = .ok (.getfield 64, 3) := by decide +kernel
theorem dX0_addWord_55 : decode cX0_addWord 55 = .ok (.iconst 1, 1) := by decide +kernel
theorem dX0_addWord_56 : decode cX0_addWord 56 = .ok (.iadd, 1) := by decide +kernel
theorem dX0_addWord_57 : decode cX0_addWord 57 = .ok (.putfield 64, 3) := by decide +kernel
theorem dX0_addWord_60 : decode cX0_addWord 60 = .ok (.return_, 1) := by decide +kernel
theorem dX0_clear_0 : decode cX0_clear 0 = .ok (.aload_n 0, 1) := by decide +kernel
theorem dX0_clear_1 : decode cX0_clear 1 = .ok (.iconst 0, 1) := by decide +kernel
theorem dX0_clear_2 : decode cX0_clear 2 = .ok (.putfield 53, 3) := by decide +kernel
theorem dX0_clear_5 : decode cX0_clear 5 = .ok (.aload_n 0, 1) := by decide +kernel
theorem dX0_clear_6 : decode cX0_clear 6 = .ok (.iconst 0, 1) := by decide +kernel
theorem dX0_clear_7 : decode cX0_clear 7 = .ok (.iconst 0, 1) := by decide +kernel
theorem dX0_clear_8 : decode cX0_clear 8 = .ok (.iconst 0, 1) := by decide +kernel
theorem dX0_clear_9 : decode cX0_clear 9 = .ok (.iconst 0, 1) := by decide +kernel
theorem dX0_clear_10 : decode cX0_clear 10 = .ok (.invokevirtual 57, 3) := by decide +kernel
theorem dX0_clear_13 : decode cX0_clear 13 = .ok (.aload_n 0, 1) := by decide +kernel
theorem dX0_clear_14 : decode cX0_clear 14 = .ok (.iconst 0, 1) := by decide +kernel
theorem dX0_clear_15 : decode cX0_clear 15 = .ok (.putfield 61, 3) := by decide +kernel
theorem dX0_clear_18 : decode cX0_clear 18 = .ok (.aload_n 0, 1) := by decide +kernel
theorem dX0_clear_19 : decode cX0_clear 19 = .ok (.iconst 0, 1) := by decide +kernel
theorem dX0_clear_20 : decode cX0_clear 20 = .ok (.putfield 64, 3) := by decide +kernel
theorem dX0_clear_23 : decode cX0_clear 23 = .ok (.aload_n 0, 1) := by decide +kernel
theorem dX0_clear_24 : decode cX0_clear 24 = .ok (.iconst 0, 1) := by decide +kernel
theorem dX0_clear_25 : decode cX0_clear 25 = .ok (.putfield 67, 3) := by decide +kernel
theorem dX0_clear_28 : decode cX0_clear 28 = .ok (.aload_n 0, 1) := by decide +kernel
theorem dX0_clear_29 : decode cX0_clear 29 = .ok (.getfield 42, 3) := by decide +kernel
theorem dX0_clear_32 : decode cX0_clear 32 = .ok (.iconst 0, 1) := by decide +kernel
theorem dX0_clear_33 : decode cX0_clear 33 = .ok (.putfield 70, 3) := by decide +kernel
theorem dX0_clear_36 : decode cX0_clear 36 = .ok (.aload_n 0, 1) := by decide +kernel
theorem dX0_clear_37 : decode cX0_clear 37 = .ok (.getfield 49, 3) := by decide +kernel
theorem dX0_clear_40 : decode cX0_clear 40 = .ok (.invokevirtual 73, 3) := by decide +kernel
theorem dX0_clear_43 : decode cX0_clear 43 = .ok (.return_, 1) := by decide +kernel
theorem dX0_copyFrom_0 : decode cX0_copyFrom 0 = .ok (.aload_n 0, 1) := by decide +kernel
theorem dX0_copyFrom_1 : decode cX0_copyFrom 1 = .ok (.aload_n 1, 1) := by decide +kernel
theorem dX0_copyFrom_2 : decode cX0_copyFrom 2 = .ok (.getfield 53, 3) := by decide +kernel
theorem dX0_copyFrom_5 : decode cX0_copyFrom 5 = .ok (.putfield 53, 3) := by decide +kernel
theorem dX0_copyFrom_8 : decode cX0_copyFrom 8 = .ok (.aload_n 0, 1) := by decide +kernel
theorem dX0_copyFrom_9 : decode cX0_copyFrom 9 = .ok (.aload_n 1, 1) := by decide +kernel
theorem dX0_copyFrom_10 : decode cX0_copyFrom 10 = .ok (.getfield 76, 3) := by decide +kernel
theorem dX0_copyFrom_13 : decode cX0_copyFrom 13 = .ok (.aload_n 1, 1) := by decide +kernel
theorem dX0_copyFrom_14 : decode cX0_copyFrom 14 = .ok (.getfield 79, 3) := by decide +kernel
theorem dX0_copyFrom_17 : decode cX0_copyFrom 17 = .ok (.aload_n 1, 1) := by decide +kernel
theorem dX0_copyFrom_18 : decode cX0_copyFrom 18 = .ok (.getfield 82, 3) := by decide +kernel
theorem dX0_copyFrom_21 : decode cX0_copyFrom 21 = .ok (.aload_n 1, 1) := by decide +kernel
theorem dX0_copyFrom_22 : decode cX0_copyFrom 22 = .ok (.getfield 85, 3) := by decide +kernel
theorem dX0_copyFrom_25 : decode cX0_copyFrom 25 = .ok (.invokevirtual 57, 3) := by decide +kernel
theorem dX0_copyFrom_28 : decode cX0_copyFrom 28 = .ok (.aload_n 0, 1) := by decide +kernel
theorem dX0_copyFrom_29 : decode cX0_copyFrom 29 = .ok (.aload_n 1, 1) := by decide +kernel
theorem dX0_copyFrom_30 : decode cX0_copyFrom 30 = .ok (.getfield 61, 3) := by decide +kernel
theorem dX0_copyFrom_33 : decode cX0_copyFrom 33 = .ok (.putfield 61, 3) := by decide +kernel
theorem dX0_copyFrom_36 : decode cX0_copyFrom 36 = .ok (.aload_n 0, 1) := by decide +kernel
theorem dX0_copyFrom_37 : decode cX0_copyFrom 37 = .ok (.aload_n 1, 1) := by decide +kernel
theorem dX0_copyFrom_38 : decode cX0_copyFrom 38 = .ok (.getfield 64, 3) := by decide +kernel
theorem dX0_copyFrom_41 : decode cX0_copyFrom 41 = .ok (.putfield 64, 3) := by decide +kernel
theorem dX0_copyFrom_44 : decode cX0_copyFrom 44 = .ok (.aload_n 0, 1) := by decide +kernel
theorem dX0_copyFrom_45 : decode cX0_copyFrom 45 = .ok (.aload_n 1, 1) := by decide +kernel
theorem dX0_copyFrom_46 : decode cX0_copyFrom 46 = .ok (.getfield 67, 3) := by decide +kernel
theorem dX0_copyFrom_49 : decode cX0_copyFrom 49 = .ok (.putfield 67, 3) := by decide +kernel
theorem dX0_copyFrom_52 : decode cX0_copyFrom 52 = .ok (.aload_n 1, 1) := by decide +kernel
theorem dX0_copyFrom_53 : decode cX0_copyFrom 53 = .ok (.getfield 9, 3) := by decide +kernel
theorem dX0_copyFrom_56 : decode cX0_copyFrom 56 = .ok (.iconst 0, 1) := by decide +kernel
theorem dX0_copyFrom_57 : decode cX0_copyFrom 57 = .ok (.aload_n 0, 1) := by decide +kernel
theorem dX0_copyFrom_58 : decode cX0_copyFrom 58 = .ok (.getfield 9, 3) := by decide +kernel
theorem dX0_copyFrom_61 : decode cX0_copyFrom 61 = .ok (.iconst 0, 1) := by decide +kernel
theorem dX0_copyFrom_62 : decode cX0_copyFrom 62 = .ok (.iconst 4, 1) := by decide +kernel
theorem dX0_copyFrom_63 : decode cX0_copyFrom 63 = .ok (.invokestatic 88, 3) := by decide +kernel
theorem dX0_copyFrom_66 : decode cX0_copyFrom 66 = .ok (.aload_n 1, 1) := by decide +kernel
theorem dX0_copyFrom_67 : decode cX0_copyFrom 67 = .ok (.getfield 15, 3) := by decide +kernel
theorem dX0_copyFrom_70 : decode cX0_copyFrom 70 = .ok (.iconst 0, 1) := by decide +kernel
theorem dX0_copyFrom_71 : decode cX0_copyFrom 71 = .ok (.aload_n 0, 1) := by decide +kernel
theorem dX0_copyFrom_72 : decode cX0_copyFrom 72 = .ok (.getfield 15, 3) := by decide +kernel
theorem dX0_copyFrom_75 : decode cX0_copyFrom 75 = .ok (.iconst 0, 1) := by decide +kernel
theorem dX0_copyFrom_76 : decode cX0_copyFrom 76 = .ok (.bipush 9, 2) := by decide +kernel
theorem dX0_copyFrom_78 : decode cX0_copyFrom 78 = .ok (.invokestatic 88, 3) := by decide +kernel
theorem dX0_copyFrom_81 : decode cX0_copyFrom 81 = .ok (.aload_n 1, 1) := by decide +kernel
theorem dX0_copyFrom_82 : decode cX0_copyFrom 82 = .ok (.getfield 18, 3) := by decide +kernel
theorem dX0_copyFrom_85 : decode cX0_copyFrom 85 = .ok (.iconst 0, 1) := by decide +kernel
theorem dX0_copyFrom_86 : decode cX0_copyFrom 86 = .ok (.aload_n 0, 1) := by decide +kernel
theorem dX0_copyFrom_87 : decode cX0_copyFrom 87 = .ok (.getfield 18, 3) := by decide +kernel
theorem dX0_copyFrom_90 : decode cX0_copyFrom 90 = .ok (.iconst 0, 1) := by decide +kernel
theorem dX0_copyFrom_91 : decode cX0_copyFrom 91 = .ok (.bipush 9, 2) := by decide +kernel
theorem dX0_copyFrom_93 : decode cX0_copyFrom 93 = .ok (.invokestatic 88, 3) := by decide +kernel
theorem dX0_copyFrom_96 : decode cX0_copyFrom 96 = .ok (.aload_n 1, 1) := by decide +kernel
theorem dX0_copyFrom_97 : decode cX0_copyFrom 97 = .ok (.getfield 21, 3) := by decide +kernel
theorem dX0_copyFrom_100 : decode cX0_copyFrom 100 = .ok (.iconst 0, 1) := by decide +kernel
theorem dX0_copyFrom_101 : decode cX0_copyFrom 101 = .ok (.aload_n 0, 1) := by decide +kernel
theorem dX0_copyFrom_102 : decode cX0_copyFrom 102 = .ok (.getfield 21, 3) := by decide +kernel
theorem dX0_copyFrom_105 : decode cX0_copyFrom 105 = .ok (.iconst 0, 1) := by decide +kernel
theorem dX0_copyFrom_106 : decode cX0_copyFrom 106 = .ok (.bipush 9, 2) := by decide +kernel
theorem dX0_copyFrom_108 : decode cX0_copyFrom 108 = .ok (.invokestatic 88, 3) := by decide +kernel
theorem dX0_copyFrom_111 : decode cX0_copyFrom 111 = .ok (.aload_n 1, 1) := by decide +kernel
theorem dX0_copyFrom_112 : decode cX0_copyFrom 112 = .ok (.getfield 24, 3) := by decide +kernel
theorem dX0_copyFrom_115 : decode cX0_copyFrom 115 = .ok (.iconst 0, 1) := by decide +kernel
theorem dX0_copyFrom_116 : decode cX0_copyFrom 116 = .ok (.aload_n 0, 1) := by decide +kernel
theorem dX0_copyFrom_117 : decode cX0_copyFrom 117 = .ok (.getfield 24, 3) := by decide +kernel
theorem dX0_copyFrom_120 : decode cX0_copyFrom 120 = .ok (.iconst 0, 1) := by decide +kernel
theorem dX0_copyFrom_121 : decode cX0_copyFrom 121 = .ok (.bipush 9, 2) := by decide +kernel
theorem dX0_copyFrom_123 : decode cX0_copyFrom 123 = .ok (.invokestatic 88, 3) := by decide +kernel
theorem dX0_copyFrom_126 : decode cX0_copyFrom 126 = .ok (.aload_n 1, 1) := by decide +kernel
theorem dX0_copyFrom_127 : decode cX0_copyFrom 127 = .ok (.getfield 27, 3) := by decide +kernel
theorem dX0_copyFrom_130 : decode cX0_copyFrom 130 = .ok (.iconst 0, 1) := by decide +kernel
theorem dX0_copyFrom_131 : decode cX0_copyFrom 131 = .ok (.aload_n 0, 1) := by decide +kernel
theorem dX0_copyFrom_132 : decode cX0_copyFrom 132 = .ok (.getfield 27, 3) := by decide +kernel
theorem dX0_copyFrom_135 : decode cX0_copyFrom 135 = .ok (.iconst 0, 1) := by decide +kernel
theorem dX0_copyFrom_136 : decode cX0_copyFrom 136 = .ok (.bipush 9, 2) := by decide +kernel
theorem dX0_copyFrom_138 : decode cX0_copyFrom 138 = .ok (.invokestatic 88, 3) := by decide +kernel
theorem dX0_copyFrom_141 : decode cX0_copyFrom 141 = .ok (.aload_n 1, 1) := by decide +kernel
theorem dX0_copyFrom_142 : decode cX0_copyFrom 142 = .ok (.getfield 30, 3) := by decide +kernel
theorem dX0_copyFrom_145 : decode cX0_copyFrom 145 = .ok (.iconst 0, 1) := by decide +kernel
theorem dX0_copyFrom_146 : decode cX0_copyFrom 146 = .ok (.aload_n 0, 1) := by decide +kernel
theorem dX0_copyFrom_147 : decode cX0_copyFrom 147 = .ok (.getfield 30, 3) := by decide +kernel
theorem dX0_copyFrom_150 : decode cX0_copyFrom 150 = .ok (.iconst 0, 1) := by decide +kernel
theorem dX0_copyFrom_151 : decode cX0_copyFrom 151 = .ok (.bipush 9, 2) := by decide +kernel
theorem dX0_copyFrom_153 : decode cX0_copyFrom 153 = .ok (.invokestatic 88, 3) := by decide +kernel
theorem dX0_copyFrom_156 : decode cX0_copyFrom 156 = .ok (.aload_n 1, 1) := by decide +kernel
theorem dX0_copyFrom_157 : decode cX0_copyFrom 157 = .ok (.getfield 33, 3) := by decide +kernel
theorem dX0_copyFrom_160 : decode cX0_copyFrom 160 = .ok (.iconst 0, 1) := by decide +kernel
theorem dX0_copyFrom_161 : decode cX0_copyFrom 161 = .ok (.aload_n 0, 1) := by decide +kernel
theorem dX0_copyFrom_162 : decode cX0_copyFrom 162 = .ok (.getfield 33, 3) := by decide +kernel
theorem dX0_copyFrom_165 : decode cX0_copyFrom 165 = .ok (.iconst 0, 1) := by decide +kernel
theorem dX0_copyFrom_166 : decode cX0_copyFrom 166 = .ok (.bipush 9, 2) := by decide +kernel
theorem dX0_copyFrom_168 : decode cX0_copyFrom 168 = .ok (.invokestatic 88, 3) := by decide +kernel
theorem dX0_copyFrom_171 : decode cX0_copyFrom 171 = .ok (.aload_n 1, 1) := by decide +kernel
theorem dX0_copyFrom_172 : decode cX0_copyFrom 172 = .ok (.getfield 36, 3) := by decide +kernel
theorem dX0_copyFrom_175 : decode cX0_copyFrom 175 = .ok (.iconst 0, 1) := by decide +kernel
theorem dX0_copyFrom_176 : decode cX0_copyFrom 176 = .ok (.aload_n 0, 1) := by decide +kernel
theorem dX0_copyFrom_177 : decode cX0_copyFrom 177 = .ok (.getfield 36, 3) := by decide +kernel
theorem dX0_copyFrom_180 : decode cX0_copyFrom 180 = .ok (.iconst 0, 1) := by decide +kernel
theorem dX0_copyFrom_181 : decode cX0_copyFrom 181 = .ok (.bipush 9, 2) := by decide +kernel
theorem dX0_copyFrom_183 : decode cX0_copyFrom 183 = .ok (.invokestatic 88, 3) := by decide +kernel
theorem dX0_copyFrom_186 : decode cX0_copyFrom 186 = .ok (.aload_n 0, 1) := by decide +kernel
theorem dX0_copyFrom_187 : decode cX0_copyFrom 187 = .ok (.getfield 42, 3) := by decide +kernel
theorem dX0_copyFrom_190 : decode cX0_copyFrom 190 = .ok (.aload_n 1, 1) := by decide +kernel
theorem dX0_copyFrom_191 : decode cX0_copyFrom 191 = .ok (.getfield 42, 3) := by decide +kernel
theorem dX0_copyFrom_194 : decode cX0_copyFrom 194 = .ok (.invokevirtual 94, 3) := by decide +kernel
theorem dX0_copyFrom_197 : decode cX0_copyFrom 197 = .ok (.aload_n 0, 1) := by decide +kernel
theorem dX0_copyFrom_198 : decode cX0_copyFrom 198 = .ok (.getfield 49, 3) := by decide +kernel
theorem dX0_copyFrom_201 : decode cX0_copyFrom 201 = .ok (.aload_n 1, 1) := by decide +kernel
theorem dX0_copyFrom_202 : decode cX0_copyFrom 202 = .ok (.getfield 49, 3) := by decide +kernel
theorem dX0_copyFrom_205 : decode cX0_copyFrom 205 = .ok (.invokevirtual 98, 3) := by decide +kernel
theorem dX0_copyFrom_208 : decode cX0_copyFrom 208 = .ok (.return_, 1) := by decide +kernel
theorem dX0_open_0 : decode cX0_open 0 = .ok (.aload_n 0, 1) := by decide +kernel
theorem dX0_open_1 : decode cX0_open 1 = .ok (.iload_n 1, 1) := by decide +kernel
theorem dX0_open_2 : decode cX0_open 2 = .ok (.putfield 76, 3) := by decide +kernel
theorem dX0_open_5 : decode cX0_open 5 = .ok (.aload_n 0, 1) := by decide +kernel
theorem dX0_open_6 : decode cX0_open 6 = .ok (.iload_n 2, 1) := by decide +kernel
theorem dX0_open_7 : decode cX0_open 7 = .ok (.putfield 79, 3) := by decide +kernel
theorem dX0_open_10 : decode cX0_open 10 = .ok (.aload_n 0, 1) := by decide +kernel
theorem dX0_open_11 : decode cX0_open 11 = .ok (.iload_n 3, 1) := by decide +kernel
theorem dX0_open_12 : decode cX0_open 12 = .ok (.putfield 82, 3) := by decide +kernel
theorem dX0_open_15 : decode cX0_open 15 = .ok (.aload_n 0, 1) := by decide +kernel
theorem dX0_open_16 : decode cX0_open 16 = .ok (.iload 4, 2) := by decide +kernel
theorem dX0_open_18 : decode cX0_open 18 = .ok (.putfield 85, 3) := by decide +kernel
theorem dX0_open_21 : decode cX0_open 21 = .ok (.return_, 1) := by decide +kernel
theorem dX10_cheapestHouse_0 : decode cX10_cheapestHouse 0 = .ok (.iconst 0, 1) := by decide +kernel
theorem dX10_cheapestHouse_1 : decode cX10_cheapestHouse 1 = .ok (.istore_n 1, 1) := by decide +kernel
theorem dX10_cheapestHouse_2 : decode cX10_cheapestHouse 2 = .ok (.aload_n 0, 1) := by decide +kernel
theorem dX10_cheapestHouse_3 : decode cX10_cheapestHouse 3 = .ok (.iconst 0, 1) := by decide +kernel
theorem dX10_cheapestHouse_4 : decode cX10_cheapestHouse 4 = .ok (.invokevirtual 124, 3) := by decide +kernel
theorem dX10_cheapestHouse_7 : decode cX10_cheapestHouse 7 = .ok (.istore_n 2, 1) := by decide +kernel
theorem dX10_cheapestHouse_8 : decode cX10_cheapestHouse 8 = .ok (.iconst 1, 1) := by decide +kernel
theorem dX10_cheapestHouse_9 : decode cX10_cheapestHouse 9 = .ok (.istore_n 3, 1) := by decide +kernel
theorem dX10_cheapestHouse_10 : decode cX10_cheapestHouse 10 = .ok (.iload_n 3, 1) := by decide +kernel
theorem dX10_cheapestHouse_11 : decode cX10_cheapestHouse 11 = .ok (.iconst 1, 1) := by decide +kernel
theorem dX10_cheapestHouse_12 : decode cX10_cheapestHouse 12 = .ok (.aload_n 0, 1) := by decide +kernel
theorem dX10_cheapestHouse_13 : decode cX10_cheapestHouse 13 = .ok (.getfield 18, 3) := by decide +kernel
theorem dX10_cheapestHouse_16 : decode cX10_cheapestHouse 16 = .ok (.getfield 29, 3) := by decide +kernel
theorem dX10_cheapestHouse_19 : decode cX10_cheapestHouse 19 = .ok (.ishl, 1) := by decide +kernel
theorem dX10_cheapestHouse_20 : decode cX10_cheapestHouse 20 = .ok (.if_icmp .ge 38, 3) := by decide +kernel
theorem dX10_cheapestHouse_23 : decode cX10_cheapestHouse 23 = .ok (.aload_n 0, 1) := by decide +kernel
theorem dX10_cheapestHouse_24 : decode cX10_cheapestHouse 24 = .ok (.getfield 18, 3) := by decide +kernel
theorem dX10_cheapestHouse_27 : decode cX10_cheapestHouse 27 = .ok (.iload_n 3, 1) := by decide +kernel
theorem dX10_cheapestHouse_28 : decode cX10_cheapestHouse 28 = .ok (.invokevirtual 142, 3) := by decide +kernel
theorem dX10_cheapestHouse_31 : decode cX10_cheapestHouse 31 = .ok (.ifCond .eq 21, 3) := by decide +kernel
theorem dX10_cheapestHouse_34 : decode cX10_cheapestHouse 34 = .ok (.aload_n 0, 1) := by decide +kernel
theorem dX10_cheapestHouse_35 : decode cX10_cheapestHouse 35 = .ok (.iload_n 3, 1) := by decide +kernel
theorem dX10_cheapestHouse_36 : decode cX10_cheapestHouse 36 = .ok (.invokevirtual 124, 3) := by decide +kernel
theorem dX10_cheapestHouse_39 : decode cX10_cheapestHouse 39 = .ok (.istore 4, 2) := by decide +kernel
theorem dX10_cheapestHouse_41 : decode cX10_cheapestHouse 41 = .ok (.iload 4, 2) := by decide +kernel
theorem dX10_cheapestHouse_43 : decode cX10_cheapestHouse 43 = .ok (.iload_n 2, 1) := by decide +kernel
theorem dX10_cheapestHouse_44 : decode cX10_cheapestHouse 44 = .ok (.if_icmp .ge 8, 3) := by decide +kernel
theorem dX10_cheapestHouse_47 : decode cX10_cheapestHouse 47 = .ok (.iload_n 3, 1) := by decide +kernel
theorem dX10_cheapestHouse_48 : decode cX10_cheapestHouse 48 = .ok (.istore_n 1, 1) := by decide +kernel
theorem dX10_cheapestHouse_49 : decode cX10_cheapestHouse 49 = .ok (.iload 4, 2) := by decide +kernel
theorem dX10_cheapestHouse_51 : decode cX10_cheapestHouse 51 = .ok (.istore_n 2, 1) := by decide +kernel
theorem dX10_cheapestHouse_52 : decode cX10_cheapestHouse 52 = .ok (.iinc 3 1, 3) := by decide +kernel
theorem dX10_cheapestHouse_55 : decode cX10_cheapestHouse 55 = .ok (.goto (-45), 3) := by decide +kernel
theorem dX10_cheapestHouse_58 : decode cX10_cheapestHouse 58 = .ok (.iload_n 1, 1) := by decide +kernel
theorem dX10_cheapestHouse_59 : decode cX10_cheapestHouse 59 = .ok (.ireturn, 1) := by decide +kernel
theorem dX10_cheapestIn_0 : decode cX10_cheapestIn 0 = .ok (.aload_n 0, 1) := by decide +kernel
theorem dX10_cheapestIn_1 : decode cX10_cheapestIn 1 = .ok (.getfield 18, 3) := by decide +kernel
theorem dX10_cheapestIn_4 : decode cX10_cheapestIn 4 = .ok (.getfield 109, 3) := by decide +kernel
theorem dX10_cheapestIn_7 : decode cX10_cheapestIn 7 = .ok (.getfield 113, 3) := by decide +kernel
theorem dX10_cheapestIn_10 : decode cX10_cheapestIn 10 = .ok (.aload_n 0, 1) := by decide +kernel
theorem dX10_cheapestIn_11 : decode cX10_cheapestIn 11 = .ok (.getfield 18, 3) := by decide +kernel
theorem dX10_cheapestIn_14 : decode cX10_cheapestIn 14 = .ok (.iload_n 1, 1) := by decide +kernel
theorem dX10_cheapestIn_15 : decode cX10_cheapestIn 15 = .ok (.invokevirtual 118, 3) := by decide +kernel
theorem dX10_cheapestIn_18 : decode cX10_cheapestIn 18 = .ok (.iconst (-1), 1) := by decide +kernel
theorem dX10_cheapestIn_19 : decode cX10_cheapestIn 19 = .ok (.ixor, 1) := by decide +kernel
theorem dX10_cheapestIn_20 : decode cX10_cheapestIn 20 = .ok (.iand, 1) := by decide +kernel
theorem dX10_cheapestIn_21 : decode cX10_cheapestIn 21 = .ok (.istore_n 2, 1) := by decide +kernel
theorem dX10_cheapestIn_22 : decode cX10_cheapestIn 22 = .ok (.aload_n 0, 1) := by decide +kernel
theorem dX10_cheapestIn_23 : decode cX10_cheapestIn 23 = .ok (.getfield 18, 3) := by decide +kernel
theorem dX10_cheapestIn_26 : decode cX10_cheapestIn 26 = .ok (.iload_n 1, 1) := by decide +kernel
theorem dX10_cheapestIn_27 : decode cX10_cheapestIn 27 = .ok (.invokevirtual 121, 3) := by decide +kernel
theorem dX10_cheapestIn_30 : decode cX10_cheapestIn 30 = .ok (.istore_n 3, 1) := by decide +kernel
theorem dX10_cheapestIn_31 : decode cX10_cheapestIn 31 = .ok (.iconst (-1), 1) := by decide +kernel
theorem dX10_cheapestIn_32 : decode cX10_cheapestIn 32 = .ok (.istore 4, 2) := by decide +kernel
theorem dX10_cheapestIn_34 : decode cX10_cheapestIn 34 = .ok (.iconst 0, 1) := by decide +kernel
theorem dX10_cheapestIn_35 : decode cX10_cheapestIn 35 = .ok (.istore 5, 2) := by decide +kernel
theorem dX10_cheapestIn_37 : decode cX10_cheapestIn 37 = .ok (.iconst 0, 1) := by decide +kernel
theorem dX10_cheapestIn_38 : decode cX10_cheapestIn 38 = .ok (.istore 6, 2) := by decide +kernel
theorem dX10_cheapestIn_40 : decode cX10_cheapestIn 40 = .ok (.iload 6, 2) := by decide +kernel
theorem dX10_cheapestIn_42 : decode cX10_cheapestIn 42 = .ok (.aload_n 0, 1) := by decide +kernel
theorem dX10_cheapestIn_43 : decode cX10_cheapestIn 43 = .ok (.getfield 18, 3) := by decide +kernel
theorem dX10_cheapestIn_46 : decode cX10_cheapestIn 46 = .ok (.getfield 29, 3) := by decide +kernel
theorem dX10_cheapestIn_49 : decode cX10_cheapestIn 49 = .ok (.if_icmp .ge 51, 3) := by decide +kernel
theorem dX10_cheapestIn_52 : decode cX10_cheapestIn 52 = .ok (.iload_n 3, 1) := by decide +kernel
theorem dX10_cheapestIn_53 : decode cX10_cheapestIn 53 = .ok (.iload 6, 2) := by decide +kernel
theorem dX10_cheapestIn_55 : decode cX10_cheapestIn 55 = .ok (.invokestatic 35, 3) := by decide +kernel
theorem dX10_cheapestIn_58 : decode cX10_cheapestIn 58 = .ok (.ifCond .eq 36, 3) := by decide +kernel
theorem dX10_cheapestIn_61 : decode cX10_cheapestIn 61 = .ok (.aload_n 0, 1) := by decide +kernel
theorem dX10_cheapestIn_62 : decode cX10_cheapestIn 62 = .ok (.iload_n 2, 1) := by decide +kernel
theorem dX10_cheapestIn_63 : decode cX10_cheapestIn 63 = .ok (.iconst 1, 1) := by decide +kernel
theorem dX10_cheapestIn_64 : decode cX10_cheapestIn 64 = .ok (.iload 6, 2) := by decide +kernel
theorem dX10_cheapestIn_66 : decode cX10_cheapestIn 66 = .ok (.ishl, 1) := by decide +kernel
theorem dX10_cheapestIn_67 : decode cX10_cheapestIn 67 = .ok (.ior, 1) := by decide +kernel
theorem dX10_cheapestIn_68 : decode cX10_cheapestIn 68 = .ok (.invokevirtual 124, 3) := by decide +kernel
theorem dX10_cheapestIn_71 : decode cX10_cheapestIn 71 = .ok (.istore 7, 2) := by decide +kernel
theorem dX10_cheapestIn_73 : decode cX10_cheapestIn 73 = .ok (.iload 4, 2) := by decide +kernel
theorem dX10_cheapestIn_75 : decode cX10_cheapestIn 75 = .ok (.iconst (-1), 1) := by decide +kernel
theorem dX10_cheapestIn_76 : decode cX10_cheapestIn 76 = .ok (.if_icmp .eq 10, 3) := by decide +kernel
theorem dX10_cheapestIn_79 : decode cX10_cheapestIn 79 = .ok (.iload 7, 2) := by decide +kernel
theorem dX10_cheapestIn_81 : decode cX10_cheapestIn 81 = .ok (.iload 5, 2) := by decide +kernel
theorem dX10_cheapestIn_83 : decode cX10_cheapestIn 83 = .ok (.if_icmp .ge 11, 3) := by decide +kernel
theorem dX10_cheapestIn_86 : decode cX10_cheapestIn 86 = .ok (.iload 6, 2) := by decide +kernel
theorem dX10_cheapestIn_88 : decode cX10_cheapestIn 88 = .ok (.istore 4, 2) := by decide +kernel
theorem dX10_cheapestIn_90 : decode cX10_cheapestIn 90 = .ok (.iload 7, 2) := by decide +kernel
theorem dX10_cheapestIn_92 : decode cX10_cheapestIn 92 = .ok (.istore 5, 2) := by decide +kernel
theorem dX10_cheapestIn_94 : decode cX10_cheapestIn 94 = .ok (.iinc 6 1, 3) := by decide +kernel
theorem dX10_cheapestIn_97 : decode cX10_cheapestIn 97 = .ok (.goto (-57), 3) := by decide +kernel
theorem dX10_cheapestIn_100 : decode cX10_cheapestIn 100 = .ok (.iload 4, 2) := by decide +kernel
theorem dX10_cheapestIn_102 : decode cX10_cheapestIn 102 = .ok (.ireturn, 1) := by decide +kernel
theorem dX10_detour_0 : decode cX10_detour 0 = .ok (.iconst 0, 1) := by decide +kernel
theorem dX10_detour_1 : decode cX10_detour 1 = .ok (.istore_n 2, 1) := by decide +kernel
theorem dX10_detour_2 : decode cX10_detour 2 = .ok (.iload_n 2, 1) := by decide +kernel
theorem dX10_detour_3 : decode cX10_detour 3 = .ok (.aload_n 0, 1) := by decide +kernel
theorem dX10_detour_4 : decode cX10_detour 4 = .ok (.getfield 18, 3) := by decide +kernel
theorem dX10_detour_7 : decode cX10_detour 7 = .ok (.getfield 68, 3) := by decide +kernel
theorem dX10_detour_10 : decode cX10_detour 10 = .ok (.getfield 72, 3) := by decide +kernel
theorem dX10_detour_13 : decode cX10_detour 13 = .ok (.if_icmp .ge 49, 3) := by decide +kernel
theorem dX10_detour_16 : decode cX10_detour 16 = .ok (.aload_n 0, 1) := by decide +kernel
theorem dX10_detour_17 : decode cX10_detour 17 = .ok (.iload_n 1, 1) := by decide +kernel
theorem dX10_detour_18 : decode cX10_detour 18 = .ok (.invokevirtual 90, 3) := by decide +kernel
theorem dX10_detour_21 : decode cX10_detour 21 = .ok (.ifCond .eq 41, 3) := by decide +kernel
theorem dX10_detour_24 : decode cX10_detour 24 = .ok (.aload_n 0, 1) := by decide +kernel
theorem dX10_detour_25 : decode cX10_detour 25 = .ok (.getfield 18, 3) := by decide +kernel
theorem dX10_detour_28 : decode cX10_detour 28 = .ok (.getfield 68, 3) := by decide +kernel
theorem dX10_detour_31 : decode cX10_detour 31 = .ok (.getfield 77, 3) := by decide +kernel
theorem dX10_detour_34 : decode cX10_detour 34 = .ok (.iload_n 2, 1) := by decide +kernel
theorem dX10_detour_35 : decode cX10_detour 35 = .ok (.iaload, 1) := by decide +kernel
theorem dX10_detour_36 : decode cX10_detour 36 = .ok (.iload_n 1, 1) := by decide +kernel
theorem dX10_detour_37 : decode cX10_detour 37 = .ok (.if_icmp .ne 19, 3) := by decide +kernel
theorem dX10_detour_40 : decode cX10_detour 40 = .ok (.aload_n 0, 1) := by decide +kernel
theorem dX10_detour_41 : decode cX10_detour 41 = .ok (.iload_n 2, 1) := by decide +kernel
theorem dX10_detour_42 : decode cX10_detour 42 = .ok (.invokevirtual 80, 3) := by decide +kernel
theorem dX10_detour_45 : decode cX10_detour 45 = .ok (.aload_n 0, 1) := by decide +kernel
theorem dX10_detour_46 : decode cX10_detour 46 = .ok (.getfield 15, 3) := by decide +kernel
theorem dX10_detour_49 : decode cX10_detour 49 = .ok (.iload_n 1, 1) := by decide +kernel
theorem dX10_detour_50 : decode cX10_detour 50 = .ok (.iaload, 1) := by decide +kernel
theorem dX10_detour_51 : decode cX10_detour 51 = .ok (.if_icmp .ne 5, 3) := by decide +kernel
theorem dX10_detour_54 : decode cX10_detour 54 = .ok (.iload_n 2, 1) := by decide +kernel
theorem dX10_detour_55 : decode cX10_detour 55 = .ok (.ireturn, 1) := by decide +kernel
theorem dX10_detour_56 : decode cX10_detour 56 = .ok (.iinc 2 1, 3) := by decide +kernel
theorem dX10_detour_59 : decode cX10_detour 59 = .ok (.goto (-57), 3) := by decide +kernel
theorem dX10_detour_62 : decode cX10_detour 62 = .ok (.iconst (-1), 1) := by decide +kernel
theorem dX10_detour_63 : decode cX10_detour 63 = .ok (.ireturn, 1) := by decide +kernel
theorem dX10_fewestFor_0 : decode cX10_fewestFor 0 = .ok (.iconst 1, 1) := by decide +kernel
theorem dX10_fewestFor_1 : decode cX10_fewestFor 1 = .ok (.aload_n 0, 1) := by decide +kernel
theorem dX10_fewestFor_2 : decode cX10_fewestFor 2 = .ok (.getfield 18, 3) := by decide +kernel
theorem dX10_fewestFor_5 : decode cX10_fewestFor 5 = .ok (.getfield 29, 3) := by decide +kernel
theorem dX10_fewestFor_8 : decode cX10_fewestFor 8 = .ok (.ishl, 1) := by decide +kernel
theorem dX10_fewestFor_9 : decode cX10_fewestFor 9 = .ok (.iconst 1, 1) := by decide +kernel
theorem dX10_fewestFor_10 : decode cX10_fewestFor 10 = .ok (.isub, 1) := by decide +kernel
theorem dX10_fewestFor_11 : decode cX10_fewestFor 11 = .ok (.aload_n 0, 1) := by decide +kernel
theorem dX10_fewestFor_12 : decode cX10_fewestFor 12 = .ok (.getfield 18, 3) := by decide +kernel
theorem dX10_fewestFor_15 : decode cX10_fewestFor 15 = .ok (.getfield 109, 3) := by decide +kernel
theorem dX10_fewestFor_18 : decode cX10_fewestFor 18 = .ok (.getfield 127, 3) := by decide +kernel
theorem dX10_fewestFor_21 : decode cX10_fewestFor 21 = .ok (.iconst (-1), 1) := by decide +kernel
theorem dX10_fewestFor_22 : decode cX10_fewestFor 22 = .ok (.ixor, 1) := by decide +kernel
theorem dX10_fewestFor_23 : decode cX10_fewestFor 23 = .ok (.iand, 1) := by decide +kernel
theorem dX10_fewestFor_24 : decode cX10_fewestFor 24 = .ok (.istore_n 2, 1) := by decide +kernel
theorem dX10_fewestFor_25 : decode cX10_fewestFor 25 = .ok (.aload_n 0, 1) := by decide +kernel
theorem dX10_fewestFor_26 : decode cX10_fewestFor 26 = .ok (.iload_n 2, 1) := by decide +kernel
theorem dX10_fewestFor_27 : decode cX10_fewestFor 27 = .ok (.iload_n 1, 1) := by decide +kernel
theorem dX10_fewestFor_28 : decode cX10_fewestFor 28 = .ok (.invokevirtual 130, 3) := by decide +kernel
theorem dX10_fewestFor_31 : decode cX10_fewestFor 31 = .ok (.ifCond .ne 5, 3) := by decide +kernel
theorem dX10_fewestFor_34 : decode cX10_fewestFor 34 = .ok (.iconst (-1), 1) := by decide +kernel
theorem dX10_fewestFor_35 : decode cX10_fewestFor 35 = .ok (.ireturn, 1) := by decide +kernel
theorem dX10_fewestFor_36 : decode cX10_fewestFor 36 = .ok (.iload_n 2, 1) := by decide +kernel
theorem dX10_fewestFor_37 : decode cX10_fewestFor 37 = .ok (.istore_n 3, 1) := by decide +kernel
theorem dX10_fewestFor_38 : decode cX10_fewestFor 38 = .ok (.iconst 0, 1) := by decide +kernel
theorem dX10_fewestFor_39 : decode cX10_fewestFor 39 = .ok (.istore 4, 2) := by decide +kernel
theorem dX10_fewestFor_41 : decode cX10_fewestFor 41 = .ok (.iload 4, 2) := by decide +kernel
theorem dX10_fewestFor_43 : decode cX10_fewestFor 43 = .ok (.iload_n 2, 1) := by decide +kernel
theorem dX10_fewestFor_44 : decode cX10_fewestFor 44 = .ok (.if_icmp .gt 55, 3) := by decide +kernel
theorem dX10_fewestFor_47 : decode cX10_fewestFor 47 = .ok (.iload 4, 2) := by decide +kernel
theorem dX10_fewestFor_49 : decode cX10_fewestFor 49 = .ok (.invokestatic 133, 3) := by decide +kernel
theorem dX10_fewestFor_52 : decode cX10_fewestFor 52 = .ok (.iload_n 3, 1) := by decide +kernel
theorem dX10_fewestFor_53 : decode cX10_fewestFor 53 = .ok (.invokestatic 133, 3) := by decide +kernel
theorem dX10_fewestFor_56 : decode cX10_fewestFor 56 = .ok (.if_icmp .ge 7, 3) := by decide +kernel
theorem dX10_fewestFor_59 : decode cX10_fewestFor 59 = .ok (.iconst 1, 1) := by decide +kernel
theorem dX10_fewestFor_60 : decode cX10_fewestFor 60 = .ok (.goto 4, 3) := by decide +kernel
theorem dX10_fewestFor_63 : decode cX10_fewestFor 63 = .ok (.iconst 0, 1) := by decide +kernel
theorem dX10_fewestFor_64 : decode cX10_fewestFor 64 = .ok (.istore 5, 2) := by decide +kernel
theorem dX10_fewestFor_66 : decode cX10_fewestFor 66 = .ok (.iload 5, 2) := by decide +kernel
theorem dX10_fewestFor_68 : decode cX10_fewestFor 68 = .ok (.ifCond .eq 25, 3) := by decide +kernel
theorem dX10_fewestFor_71 : decode cX10_fewestFor 71 = .ok (.iload 4, 2) := by decide +kernel
theorem dX10_fewestFor_73 : decode cX10_fewestFor 73 = .ok (.iload_n 2, 1) := by decide +kernel
theorem dX10_fewestFor_74 : decode cX10_fewestFor 74 = .ok (.iconst (-1), 1) := by decide +kernel
theorem dX10_fewestFor_75 : decode cX10_fewestFor 75 = .ok (.ixor, 1) := by decide +kernel
theorem dX10_fewestFor_76 : decode cX10_fewestFor 76 = .ok (.iand, 1) := by decide +kernel
theorem dX10_fewestFor_77 : decode cX10_fewestFor 77 = .ok (.ifCond .ne 16, 3) := by decide +kernel
theorem dX10_fewestFor_80 : decode cX10_fewestFor 80 = .ok (.aload_n 0, 1) := by decide +kernel
theorem dX10_fewestFor_81 : decode cX10_fewestFor 81 = .ok (.iload 4, 2) := by decide +kernel
theorem dX10_fewestFor_83 : decode cX10_fewestFor 83 = .ok (.iload_n 1, 1) := by decide +kernel
theorem dX10_fewestFor_84 : decode cX10_fewestFor 84 = .ok (.invokevirtual 130, 3) := by decide +kernel
theorem dX10_fewestFor_87 : decode cX10_fewestFor 87 = .ok (.ifCond .eq 6, 3) := by decide +kernel
theorem dX10_fewestFor_90 : decode cX10_fewestFor 90 = .ok (.iload 4, 2) := by decide +kernel
theorem dX10_fewestFor_92 : decode cX10_fewestFor 92 = .ok (.istore_n 3, 1) := by decide +kernel
theorem dX10_fewestFor_93 : decode cX10_fewestFor 93 = .ok (.iinc 4 1, 3) := by decide +kernel
theorem dX10_fewestFor_96 : decode cX10_fewestFor 96 = .ok (.goto (-55), 3) := by decide +kernel
theorem dX10_fewestFor_99 : decode cX10_fewestFor 99 = .ok (.iload_n 3, 1) := by decide +kernel
theorem dX10_fewestFor_100 : decode cX10_fewestFor 100 = .ok (.ireturn, 1) := by decide +kernel
theorem dX10_goesRound_0 : decode cX10_goesRound 0 = .ok (.aload_n 0, 1) := by decide +kernel
theorem dX10_goesRound_1 : decode cX10_goesRound 1 = .ok (.getfield 15, 3) := by decide +kernel
theorem dX10_goesRound_4 : decode cX10_goesRound 4 = .ok (.iload_n 1, 1) := by decide +kernel
theorem dX10_goesRound_5 : decode cX10_goesRound 5 = .ok (.iaload, 1) := by decide +kernel
theorem dX10_goesRound_6 : decode cX10_goesRound 6 = .ok (.aload_n 0, 1) := by decide +kernel
theorem dX10_goesRound_7 : decode cX10_goesRound 7 = .ok (.getfield 9, 3) := by decide +kernel
theorem dX10_goesRound_10 : decode cX10_goesRound 10 = .ok (.iload_n 1, 1) := by decide +kernel
theorem dX10_goesRound_11 : decode cX10_goesRound 11 = .ok (.iaload, 1) := by decide +kernel
theorem dX10_goesRound_12 : decode cX10_goesRound 12 = .ok (.if_icmp .ge 7, 3) := by decide +kernel
theorem dX10_goesRound_15 : decode cX10_goesRound 15 = .ok (.iconst 1, 1) := by decide +kernel
theorem dX10_goesRound_16 : decode cX10_goesRound 16 = .ok (.goto 4, 3) := by decide +kernel
theorem dX10_goesRound_19 : decode cX10_goesRound 19 = .ok (.iconst 0, 1) := by decide +kernel
theorem dX10_goesRound_20 : decode cX10_goesRound 20 = .ok (.ireturn, 1) := by decide +kernel
theorem dX10_learn_0 : decode cX10_learn 0 = .ok (.aload_n 0, 1) := by decide +kernel
theorem dX10_learn_1 : decode cX10_learn 1 = .ok (.getfield 9, 3) := by decide +kernel
theorem dX10_learn_4 : decode cX10_learn 4 = .ok (.ldc 22, 2) := by decide +kernel
theorem dX10_learn_6 : decode cX10_learn 6 = .ok (.invokestatic 23, 3) := by decide +kernel
theorem dX10_learn_9 : decode cX10_learn 9 = .ok (.iconst 0, 1) := by decide +kernel
theorem dX10_learn_10 : decode cX10_learn 10 = .ok (.istore_n 2, 1) := by decide +kernel
theorem dX10_learn_11 : decode cX10_learn 11 = .ok (.iload_n 2, 1) := by decide +kernel
theorem dX10_learn_12 : decode cX10_learn 12 = .ok (.aload_n 0, 1) := by decide +kernel
theorem dX10_learn_13 : decode cX10_learn 13 = .ok (.getfield 18, 3) := by decide +kernel
theorem dX10_learn_16 : decode cX10_learn 16 = .ok (.getfield 29, 3) := by decide +kernel
theorem dX10_learn_19 : decode cX10_learn 19 = .ok (.if_icmp .ge 22, 3) := by decide +kernel
theorem dX10_learn_22 : decode cX10_learn 22 = .ok (.iload_n 1, 1) := by decide +kernel
theorem dX10_learn_23 : decode cX10_learn 23 = .ok (.iload_n 2, 1) := by decide +kernel
theorem dX10_learn_24 : decode cX10_learn 24 = .ok (.invokestatic 35, 3) := by decide +kernel
theorem dX10_learn_27 : decode cX10_learn 27 = .ok (.ifCond .eq 8, 3) := by decide +kernel
theorem dX10_learn_30 : decode cX10_learn 30 = .ok (.aload_n 0, 1) := by decide +kernel
theorem dX10_learn_31 : decode cX10_learn 31 = .ok (.iload_n 2, 1) := by decide +kernel
theorem dX10_learn_32 : decode cX10_learn 32 = .ok (.invokevirtual 39, 3) := by decide +kernel
theorem dX10_learn_35 : decode cX10_learn 35 = .ok (.iinc 2 1, 3) := by decide +kernel
theorem dX10_learn_38 : decode cX10_learn 38 = .ok (.goto (-27), 3) := by decide +kernel
theorem dX10_learn_41 : decode cX10_learn 41 = .ok (.aload_n 0, 1) := by decide +kernel
theorem dX10_learn_42 : decode cX10_learn 42 = .ok (.getfield 9, 3) := by decide +kernel
theorem dX10_learn_45 : decode cX10_learn 45 = .ok (.iconst 0, 1) := by decide +kernel
theorem dX10_learn_46 : decode cX10_learn 46 = .ok (.aload_n 0, 1) := by decide +kernel
theorem dX10_learn_47 : decode cX10_learn 47 = .ok (.getfield 15, 3) := by decide +kernel
theorem dX10_learn_50 : decode cX10_learn 50 = .ok (.iconst 0, 1) := by decide +kernel
theorem dX10_learn_51 : decode cX10_learn 51 = .ok (.bipush 8, 2) := by decide +kernel
theorem dX10_learn_53 : decode cX10_learn 53 = .ok (.invokestatic 43, 3) := by decide +kernel
theorem dX10_learn_56 : decode cX10_learn 56 = .ok (.iconst 1, 1) := by decide +kernel
theorem dX10_learn_57 : decode cX10_learn 57 = .ok (.istore_n 2, 1) := by decide +kernel
theorem dX10_learn_58 : decode cX10_learn 58 = .ok (.iconst 0, 1) := by decide +kernel
theorem dX10_learn_59 : decode cX10_learn 59 = .ok (.istore_n 3, 1) := by decide +kernel
theorem dX10_learn_60 : decode cX10_learn 60 = .ok (.iload_n 3, 1) := by decide +kernel
theorem dX10_learn_61 : decode cX10_learn 61 = .ok (.bipush 8, 2) := by decide +kernel
theorem dX10_learn_63 : decode cX10_learn 63 = .ok (.if_icmp .ge 18, 3) := by decide +kernel
theorem dX10_learn_66 : decode cX10_learn 66 = .ok (.iload_n 2, 1) := by decide +kernel
theorem dX10_learn_67 : decode cX10_learn 67 = .ok (.ifCond .eq 14, 3) := by decide +kernel
theorem dX10_learn_70 : decode cX10_learn 70 = .ok (.aload_n 0, 1) := by decide +kernel
theorem dX10_learn_71 : decode cX10_learn 71 = .ok (.invokevirtual 49, 3) := by decide +kernel
theorem dX10_learn_74 : decode cX10_learn 74 = .ok (.istore_n 2, 1) := by decide +kernel
theorem dX10_learn_75 : decode cX10_learn 75 = .ok (.iinc 3 1, 3) := by decide +kernel
theorem dX10_learn_78 : decode cX10_learn 78 = .ok (.goto (-18), 3) := by decide +kernel
theorem dX10_learn_81 : decode cX10_learn 81 = .ok (.return_, 1) := by decide +kernel
theorem dX10_learnWord_0 : decode cX10_learnWord 0 = .ok (.iconst 0, 1) := by decide +kernel
theorem dX10_learnWord_1 : decode cX10_learnWord 1 = .ok (.istore_n 2, 1) := by decide +kernel
theorem dX10_learnWord_2 : decode cX10_learnWord 2 = .ok (.iload_n 2, 1) := by decide +kernel
theorem dX10_learnWord_3 : decode cX10_learnWord 3 = .ok (.aload_n 0, 1) := by decide +kernel
theorem dX10_learnWord_4 : decode cX10_learnWord 4 = .ok (.getfield 18, 3) := by decide +kernel
theorem dX10_learnWord_7 : decode cX10_learnWord 7 = .ok (.getfield 53, 3) := by decide +kernel
theorem dX10_learnWord_10 : decode cX10_learnWord 10 = .ok (.if_icmp .ge 49, 3) := by decide +kernel
theorem dX10_learnWord_13 : decode cX10_learnWord 13 = .ok (.aload_n 0, 1) := by decide +kernel
theorem dX10_learnWord_14 : decode cX10_learnWord 14 = .ok (.getfield 18, 3) := by decide +kernel
theorem dX10_learnWord_17 : decode cX10_learnWord 17 = .ok (.getfield 56, 3) := by decide +kernel
theorem dX10_learnWord_20 : decode cX10_learnWord 20 = .ok (.iload_n 1, 1) := by decide +kernel
theorem dX10_learnWord_21 : decode cX10_learnWord 21 = .ok (.iaload, 1) := by decide +kernel
theorem dX10_learnWord_22 : decode cX10_learnWord 22 = .ok (.iload_n 2, 1) := by decide +kernel
theorem dX10_learnWord_23 : decode cX10_learnWord 23 = .ok (.invokestatic 35, 3) := by decide +kernel
theorem dX10_learnWord_26 : decode cX10_learnWord 26 = .ok (.ifCond .eq 27, 3) := by decide +kernel
theorem dX10_learnWord_29 : decode cX10_learnWord 29 = .ok (.aload_n 0, 1) := by decide +kernel
theorem dX10_learnWord_30 : decode cX10_learnWord 30 = .ok (.getfield 9, 3) := by decide +kernel
theorem dX10_learnWord_33 : decode cX10_learnWord 33 = .ok (.iload_n 2, 1) := by decide +kernel
theorem dX10_learnWord_34 : decode cX10_learnWord 34 = .ok (.aload_n 0, 1) := by decide +kernel
theorem dX10_learnWord_35 : decode cX10_learnWord 35 = .ok (.getfield 9, 3) := by decide +kernel
theorem dX10_learnWord_38 : decode cX10_learnWord 38 = .ok (.iload_n 2, 1) := by decide +kernel
theorem dX10_learnWord_39 : decode cX10_learnWord 39 = .ok (.iaload, 1) := by decide +kernel
theorem dX10_learnWord_40 : decode cX10_learnWord 40 = .ok (.aload_n 0, 1) := by decide +kernel
theorem dX10_learnWord_41 : decode cX10_learnWord 41 = .ok (.getfield 18, 3) := by decide +kernel
theorem dX10_learnWord_44 : decode cX10_learnWord 44 = .ok (.getfield 59, 3) := by decide +kernel
theorem dX10_learnWord_47 : decode cX10_learnWord 47 = .ok (.iload_n 1, 1) := by decide +kernel
theorem dX10_learnWord_48 : decode cX10_learnWord 48 = .ok (.iaload, 1) := by decide +kernel
theorem dX10_learnWord_49 : decode cX10_learnWord 49 = .ok (.invokestatic 62, 3) := by decide +kernel
theorem dX10_learnWord_52 : decode cX10_learnWord 52 = .ok (.iastore, 1) := by decide +kernel
theorem dX10_learnWord_53 : decode cX10_learnWord 53 = .ok (.iinc 2 1, 3) := by decide +kernel
theorem dX10_learnWord_56 : decode cX10_learnWord 56 = .ok (.goto (-54), 3) := by decide +kernel
theorem dX10_learnWord_59 : decode cX10_learnWord 59 = .ok (.return_, 1) := by decide +kernel
theorem dX10_lengthBy_0 : decode cX10_lengthBy 0 = .ok (.aload_n 0, 1) := by decide +kernel
theorem dX10_lengthBy_1 : decode cX10_lengthBy 1 = .ok (.getfield 15, 3) := by decide +kernel
theorem dX10_lengthBy_4 : decode cX10_lengthBy 4 = .ok (.aload_n 0, 1) := by decide +kernel
theorem dX10_lengthBy_5 : decode cX10_lengthBy 5 = .ok (.getfield 18, 3) := by decide +kernel
theorem dX10_lengthBy_8 : decode cX10_lengthBy 8 = .ok (.getfield 68, 3) := by decide +kernel
theorem dX10_lengthBy_11 : decode cX10_lengthBy 11 = .ok (.getfield 84, 3) := by decide +kernel
theorem dX10_lengthBy_14 : decode cX10_lengthBy 14 = .ok (.iload_n 1, 1) := by decide +kernel
theorem dX10_lengthBy_15 : decode cX10_lengthBy 15 = .ok (.iaload, 1) := by decide +kernel
theorem dX10_lengthBy_16 : decode cX10_lengthBy 16 = .ok (.iaload, 1) := by decide +kernel
theorem dX10_lengthBy_17 : decode cX10_lengthBy 17 = .ok (.aload_n 0, 1) := by decide +kernel
theorem dX10_lengthBy_18 : decode cX10_lengthBy 18 = .ok (.getfield 15, 3) := by decide +kernel
theorem dX10_lengthBy_21 : decode cX10_lengthBy 21 = .ok (.aload_n 0, 1) := by decide +kernel
theorem dX10_lengthBy_22 : decode cX10_lengthBy 22 = .ok (.getfield 18, 3) := by decide +kernel
theorem dX10_lengthBy_25 : decode cX10_lengthBy 25 = .ok (.getfield 68, 3) := by decide +kernel
theorem dX10_lengthBy_28 : decode cX10_lengthBy 28 = .ok (.getfield 87, 3) := by decide +kernel
theorem dX10_lengthBy_31 : decode cX10_lengthBy 31 = .ok (.iload_n 1, 1) := by decide +kernel
theorem dX10_lengthBy_32 : decode cX10_lengthBy 32 = .ok (.iaload, 1) := by decide +kernel
theorem dX10_lengthBy_33 : decode cX10_lengthBy 33 = .ok (.iaload, 1) := by decide +kernel
theorem dX10_lengthBy_34 : decode cX10_lengthBy 34 = .ok (.iadd, 1) := by decide +kernel
theorem dX10_lengthBy_35 : decode cX10_lengthBy 35 = .ok (.iconst 1, 1) := by decide +kernel
theorem dX10_lengthBy_36 : decode cX10_lengthBy 36 = .ok (.iadd, 1) := by decide +kernel
theorem dX10_lengthBy_37 : decode cX10_lengthBy 37 = .ok (.ireturn, 1) := by decide +kernel
theorem dX10_price_0 : decode cX10_price 0 = .ok (.iconst 0, 1) := by decide +kernel
theorem dX10_price_1 : decode cX10_price 1 = .ok (.istore_n 2, 1) := by decide +kernel
theorem dX10_price_2 : decode cX10_price 2 = .ok (.iconst 0, 1) := by decide +kernel
theorem dX10_price_3 : decode cX10_price 3 = .ok (.istore_n 3, 1) := by decide +kernel
theorem dX10_price_4 : decode cX10_price 4 = .ok (.iload_n 3, 1) := by decide +kernel
theorem dX10_price_5 : decode cX10_price 5 = .ok (.aload_n 0, 1) := by decide +kernel
theorem dX10_price_6 : decode cX10_price 6 = .ok (.getfield 18, 3) := by decide +kernel
theorem dX10_price_9 : decode cX10_price 9 = .ok (.getfield 53, 3) := by decide +kernel
theorem dX10_price_12 : decode cX10_price 12 = .ok (.if_icmp .ge 50, 3) := by decide +kernel
theorem dX10_price_15 : decode cX10_price 15 = .ok (.aload_n 0, 1) := by decide +kernel
theorem dX10_price_16 : decode cX10_price 16 = .ok (.getfield 18, 3) := by decide +kernel
theorem dX10_price_19 : decode cX10_price 19 = .ok (.getfield 94, 3) := by decide +kernel
theorem dX10_price_22 : decode cX10_price 22 = .ok (.iload_n 1, 1) := by decide +kernel
theorem dX10_price_23 : decode cX10_price 23 = .ok (.iaload, 1) := by decide +kernel
theorem dX10_price_24 : decode cX10_price 24 = .ok (.iload_n 3, 1) := by decide +kernel
theorem dX10_price_25 : decode cX10_price 25 = .ok (.invokestatic 35, 3) := by decide +kernel
theorem dX10_price_28 : decode cX10_price 28 = .ok (.ifCond .eq 28, 3) := by decide +kernel
theorem dX10_price_31 : decode cX10_price 31 = .ok (.iload_n 2, 1) := by decide +kernel
theorem dX10_price_32 : decode cX10_price 32 = .ok (.aload_n 0, 1) := by decide +kernel
theorem dX10_price_33 : decode cX10_price 33 = .ok (.getfield 15, 3) := by decide +kernel
theorem dX10_price_36 : decode cX10_price 36 = .ok (.iload_n 3, 1) := by decide +kernel
theorem dX10_price_37 : decode cX10_price 37 = .ok (.iaload, 1) := by decide +kernel
theorem dX10_price_38 : decode cX10_price 38 = .ok (.ldc 22, 2) := by decide +kernel
theorem dX10_price_40 : decode cX10_price 40 = .ok (.if_icmp .ge 12, 3) := by decide +kernel
theorem dX10_price_43 : decode cX10_price 43 = .ok (.aload_n 0, 1) := by decide +kernel
theorem dX10_price_44 : decode cX10_price 44 = .ok (.getfield 15, 3) := by decide +kernel
theorem dX10_price_47 : decode cX10_price 47 = .ok (.iload_n 3, 1) := by decide +kernel
theorem dX10_price_48 : decode cX10_price 48 = .ok (.iaload, 1) := by decide +kernel
theorem dX10_price_49 : decode cX10_price 49 = .ok (.goto 5, 3) := by decide +kernel
theorem dX10_price_52 : decode cX10_price 52 = .ok (.bipush 40, 2) := by decide +kernel
theorem dX10_price_54 : decode cX10_price 54 = .ok (.iadd, 1) := by decide +kernel
theorem dX10_price_55 : decode cX10_price 55 = .ok (.istore_n 2, 1) := by decide +kernel
theorem dX10_price_56 : decode cX10_price 56 = .ok (.iinc 3 1, 3) := by decide +kernel
theorem dX10_price_59 : decode cX10_price 59 = .ok (.goto (-55), 3) := by decide +kernel
theorem dX10_price_62 : decode cX10_price 62 = .ok (.aload_n 0, 1) := by decide +kernel
theorem dX10_price_63 : decode cX10_price 63 = .ok (.getfield 18, 3) := by decide +kernel
theorem dX10_price_66 : decode cX10_price 66 = .ok (.getfield 97, 3) := by decide +kernel
theorem dX10_price_69 : decode cX10_price 69 = .ok (.iload_n 1, 1) := by decide +kernel
theorem dX10_price_70 : decode cX10_price 70 = .ok (.iaload, 1) := by decide +kernel
theorem dX10_price_71 : decode cX10_price 71 = .ok (.iload_n 2, 1) := by decide +kernel
theorem dX10_price_72 : decode cX10_price 72 = .ok (.imul, 1) := by decide +kernel
theorem dX10_price_73 : decode cX10_price 73 = .ok (.ireturn, 1) := by decide +kernel
theorem dX10_priceOfAll_0 : decode cX10_priceOfAll 0 = .ok (.aload_n 0, 1) := by decide +kernel
theorem dX10_priceOfAll_1 : decode cX10_priceOfAll 1 = .ok (.iload_n 1, 1) := by decide +kernel
theorem dX10_priceOfAll_2 : decode cX10_priceOfAll 2 = .ok (.invokevirtual 100, 3) := by decide +kernel
theorem dX10_priceOfAll_5 : decode cX10_priceOfAll 5 = .ok (.iconst 0, 1) := by decide +kernel
theorem dX10_priceOfAll_6 : decode cX10_priceOfAll 6 = .ok (.istore_n 2, 1) := by decide +kernel
theorem dX10_priceOfAll_7 : decode cX10_priceOfAll 7 = .ok (.iconst 0, 1) := by decide +kernel
theorem dX10_priceOfAll_8 : decode cX10_priceOfAll 8 = .ok (.istore_n 3, 1) := by decide +kernel
theorem dX10_priceOfAll_9 : decode cX10_priceOfAll 9 = .ok (.iload_n 3, 1) := by decide +kernel
theorem dX10_priceOfAll_10 : decode cX10_priceOfAll 10 = .ok (.aload_n 0, 1) := by decide +kernel
theorem dX10_priceOfAll_11 : decode cX10_priceOfAll 11 = .ok (.getfield 18, 3) := by decide +kernel
theorem dX10_priceOfAll_14 : decode cX10_priceOfAll 14 = .ok (.getfield 103, 3) := by decide +kernel
theorem dX10_priceOfAll_17 : decode cX10_priceOfAll 17 = .ok (.if_icmp .ge 17, 3) := by decide +kernel
theorem dX10_priceOfAll_20 : decode cX10_priceOfAll 20 = .ok (.iload_n 2, 1) := by decide +kernel
theorem dX10_priceOfAll_21 : decode cX10_priceOfAll 21 = .ok (.aload_n 0, 1) := by decide +kernel
theorem dX10_priceOfAll_22 : decode cX10_priceOfAll 22 = .ok (.iload_n 3, 1) := by decide +kernel
theorem dX10_priceOfAll_23 : decode cX10_priceOfAll 23 = .ok (.invokevirtual 106, 3) := by decide +kernel
theorem dX10_priceOfAll_26 : decode cX10_priceOfAll 26 = .ok (.iadd, 1) := by decide +kernel
theorem dX10_priceOfAll_27 : decode cX10_priceOfAll 27 = .ok (.istore_n 2, 1) := by decide +kernel
theorem dX10_priceOfAll_28 : decode cX10_priceOfAll 28 = .ok (.iinc 3 1, 3) := by decide +kernel
theorem dX10_priceOfAll_31 : decode cX10_priceOfAll 31 = .ok (.goto (-22), 3) := by decide +kernel
theorem dX10_priceOfAll_34 : decode cX10_priceOfAll 34 = .ok (.iload_n 2, 1) := by decide +kernel
theorem dX10_priceOfAll_35 : decode cX10_priceOfAll 35 = .ok (.ireturn, 1) := by decide +kernel
theorem dX10_says_0 : decode cX10_says 0 = .ok (.aload_n 0, 1) := by decide +kernel
theorem dX10_says_1 : decode cX10_says 1 = .ok (.iload_n 1, 1) := by decide +kernel
theorem dX10_says_2 : decode cX10_says 2 = .ok (.invokevirtual 100, 3) := by decide +kernel
theorem dX10_says_5 : decode cX10_says 5 = .ok (.aload_n 0, 1) := by decide +kernel
theorem dX10_says_6 : decode cX10_says 6 = .ok (.invokevirtual 138, 3) := by decide +kernel
theorem dX10_says_9 : decode cX10_says 9 = .ok (.iload_n 2, 1) := by decide +kernel
theorem dX10_says_10 : decode cX10_says 10 = .ok (.iand, 1) := by decide +kernel
theorem dX10_says_11 : decode cX10_says 11 = .ok (.ifCond .ne 7, 3) := by decide +kernel
theorem dX10_says_14 : decode cX10_says 14 = .ok (.iconst 1, 1) := by decide +kernel
theorem dX10_says_15 : decode cX10_says 15 = .ok (.goto 4, 3) := by decide +kernel
theorem dX10_says_18 : decode cX10_says 18 = .ok (.iconst 0, 1) := by decide +kernel
theorem dX10_says_19 : decode cX10_says 19 = .ok (.ireturn, 1) := by decide +kernel
theorem dX10_shorten_0 : decode cX10_shorten 0 = .ok (.iconst 0, 1) := by decide +kernel
theorem dX10_shorten_1 : decode cX10_shorten 1 = .ok (.istore_n 1, 1) := by decide +kernel
theorem dX10_shorten_2 : decode cX10_shorten 2 = .ok (.iconst 0, 1) := by decide +kernel
theorem dX10_shorten_3 : decode cX10_shorten 3 = .ok (.istore_n 2, 1) := by decide +kernel
theorem dX10_shorten_4 : decode cX10_shorten 4 = .ok (.iload_n 2, 1) := by decide +kernel
theorem dX10_shorten_5 : decode cX10_shorten 5 = .ok (.aload_n 0, 1) := by decide +kernel
theorem dX10_shorten_6 : decode cX10_shorten 6 = .ok (.getfield 18, 3) := by decide +kernel
theorem dX10_shorten_9 : decode cX10_shorten 9 = .ok (.getfield 68, 3) := by decide +kernel
theorem dX10_shorten_12 : decode cX10_shorten 12 = .ok (.getfield 72, 3) := by decide +kernel
theorem dX10_shorten_15 : decode cX10_shorten 15 = .ok (.if_icmp .ge 49, 3) := by decide +kernel
theorem dX10_shorten_18 : decode cX10_shorten 18 = .ok (.aload_n 0, 1) := by decide +kernel
theorem dX10_shorten_19 : decode cX10_shorten 19 = .ok (.getfield 18, 3) := by decide +kernel
theorem dX10_shorten_22 : decode cX10_shorten 22 = .ok (.getfield 68, 3) := by decide +kernel
theorem dX10_shorten_25 : decode cX10_shorten 25 = .ok (.getfield 77, 3) := by decide +kernel
theorem dX10_shorten_28 : decode cX10_shorten 28 = .ok (.iload_n 2, 1) := by decide +kernel
theorem dX10_shorten_29 : decode cX10_shorten 29 = .ok (.iaload, 1) := by decide +kernel
theorem dX10_shorten_30 : decode cX10_shorten 30 = .ok (.istore_n 3, 1) := by decide +kernel
theorem dX10_shorten_31 : decode cX10_shorten 31 = .ok (.aload_n 0, 1) := by decide +kernel
theorem dX10_shorten_32 : decode cX10_shorten 32 = .ok (.iload_n 2, 1) := by decide +kernel
theorem dX10_shorten_33 : decode cX10_shorten 33 = .ok (.invokevirtual 80, 3) := by decide +kernel
theorem dX10_shorten_36 : decode cX10_shorten 36 = .ok (.aload_n 0, 1) := by decide +kernel
theorem dX10_shorten_37 : decode cX10_shorten 37 = .ok (.getfield 15, 3) := by decide +kernel
theorem dX10_shorten_40 : decode cX10_shorten 40 = .ok (.iload_n 3, 1) := by decide +kernel
theorem dX10_shorten_41 : decode cX10_shorten 41 = .ok (.iaload, 1) := by decide +kernel
theorem dX10_shorten_42 : decode cX10_shorten 42 = .ok (.if_icmp .ge 16, 3) := by decide +kernel
theorem dX10_shorten_45 : decode cX10_shorten 45 = .ok (.aload_n 0, 1) := by decide +kernel
theorem dX10_shorten_46 : decode cX10_shorten 46 = .ok (.getfield 15, 3) := by decide +kernel
theorem dX10_shorten_49 : decode cX10_shorten 49 = .ok (.iload_n 3, 1) := by decide +kernel
theorem dX10_shorten_50 : decode cX10_shorten 50 = .ok (.aload_n 0, 1) := by decide +kernel
theorem dX10_shorten_51 : decode cX10_shorten 51 = .ok (.iload_n 2, 1) := by decide +kernel
theorem dX10_shorten_52 : decode cX10_shorten 52 = .ok (.invokevirtual 80, 3) := by decide +kernel
theorem dX10_shorten_55 : decode cX10_shorten 55 = .ok (.iastore, 1) := by decide +kernel
theorem dX10_shorten_56 : decode cX10_shorten 56 = .ok (.iconst 1, 1) := by decide +kernel
theorem dX10_shorten_57 : decode cX10_shorten 57 = .ok (.istore_n 1, 1) := by decide +kernel
theorem dX10_shorten_58 : decode cX10_shorten 58 = .ok (.iinc 2 1, 3) := by decide +kernel
theorem dX10_shorten_61 : decode cX10_shorten 61 = .ok (.goto (-57), 3) := by decide +kernel
theorem dX10_shorten_64 : decode cX10_shorten 64 = .ok (.iload_n 1, 1) := by decide +kernel
theorem dX10_shorten_65 : decode cX10_shorten 65 = .ok (.ireturn, 1) := by decide +kernel
theorem dX10_told_0 : decode cX10_told 0 = .ok (.iload_n 1, 1) := by decide +kernel
theorem dX10_told_1 : decode cX10_told 1 = .ok (.ldc 22, 2) := by decide +kernel
theorem dX10_told_3 : decode cX10_told 3 = .ok (.if_icmp .ge 7, 3) := by decide +kernel
theorem dX10_told_6 : decode cX10_told 6 = .ok (.iload_n 1, 1) := by decide +kernel
theorem dX10_told_7 : decode cX10_told 7 = .ok (.goto 4, 3) := by decide +kernel
theorem dX10_told_10 : decode cX10_told 10 = .ok (.iconst (-1), 1) := by decide +kernel
theorem dX10_told_11 : decode cX10_told 11 = .ok (.ireturn, 1) := by decide +kernel
theorem dX10_unsayable_0 : decode cX10_unsayable 0 = .ok (.iconst 0, 1) := by decide +kernel
theorem dX10_unsayable_1 : decode cX10_unsayable 1 = .ok (.istore_n 1, 1) := by decide +kernel
theorem dX10_unsayable_2 : decode cX10_unsayable 2 = .ok (.iconst 0, 1) := by decide +kernel
theorem dX10_unsayable_3 : decode cX10_unsayable 3 = .ok (.istore_n 2, 1) := by decide +kernel
theorem dX10_unsayable_4 : decode cX10_unsayable 4 = .ok (.iload_n 2, 1) := by decide +kernel
theorem dX10_unsayable_5 : decode cX10_unsayable 5 = .ok (.aload_n 0, 1) := by decide +kernel
theorem dX10_unsayable_6 : decode cX10_unsayable 6 = .ok (.getfield 18, 3) := by decide +kernel
theorem dX10_unsayable_9 : decode cX10_unsayable 9 = .ok (.getfield 53, 3) := by decide +kernel
theorem dX10_unsayable_12 : decode cX10_unsayable 12 = .ok (.if_icmp .ge 26, 3) := by decide +kernel
theorem dX10_unsayable_15 : decode cX10_unsayable 15 = .ok (.aload_n 0, 1) := by decide +kernel
theorem dX10_unsayable_16 : decode cX10_unsayable 16 = .ok (.getfield 15, 3) := by decide +kernel
theorem dX10_unsayable_19 : decode cX10_unsayable 19 = .ok (.iload_n 2, 1) := by decide +kernel
theorem dX10_unsayable_20 : decode cX10_unsayable 20 = .ok (.iaload, 1) := by decide +kernel
theorem dX10_unsayable_21 : decode cX10_unsayable 21 = .ok (.ldc 22, 2) := by decide +kernel
theorem dX10_unsayable_23 : decode cX10_unsayable 23 = .ok (.if_icmp .lt 9, 3) := by decide +kernel
theorem dX10_unsayable_26 : decode cX10_unsayable 26 = .ok (.iload_n 1, 1) := by decide +kernel
theorem dX10_unsayable_27 : decode cX10_unsayable 27 = .ok (.iconst 1, 1) := by decide +kernel
theorem dX10_unsayable_28 : decode cX10_unsayable 28 = .ok (.iload_n 2, 1) := by decide +kernel
theorem dX10_unsayable_29 : decode cX10_unsayable 29 = .ok (.ishl, 1) := by decide +kernel
theorem dX10_unsayable_30 : decode cX10_unsayable 30 = .ok (.ior, 1) := by decide +kernel
theorem dX10_unsayable_31 : decode cX10_unsayable 31 = .ok (.istore_n 1, 1) := by decide +kernel
theorem dX10_unsayable_32 : decode cX10_unsayable 32 = .ok (.iinc 2 1, 3) := by decide +kernel
theorem dX10_unsayable_35 : decode cX10_unsayable 35 = .ok (.goto (-31), 3) := by decide +kernel
theorem dX10_unsayable_38 : decode cX10_unsayable 38 = .ok (.iload_n 1, 1) := by decide +kernel
theorem dX10_unsayable_39 : decode cX10_unsayable 39 = .ok (.ireturn, 1) := by decide +kernel
theorem dX11_abstains_0 : decode cX11_abstains 0 = .ok (.aload_n 0, 1) := by decide +kernel
theorem dX11_abstains_1 : decode cX11_abstains 1 = .ok (.getfield 32, 3) := by decide +kernel
theorem dX11_abstains_4 : decode cX11_abstains 4 = .ok (.iload_n 1, 1) := by decide +kernel
theorem dX11_abstains_5 : decode cX11_abstains 5 = .ok (.invokevirtual 161, 3) := by decide +kernel
theorem dX11_abstains_8 : decode cX11_abstains 8 = .ok (.ifCond .ne 6, 3) := by decide +kernel
theorem dX11_abstains_11 : decode cX11_abstains 11 = .ok (.bipush (-2), 2) := by decide +kernel
theorem dX11_abstains_13 : decode cX11_abstains 13 = .ok (.ireturn, 1) := by decide +kernel
theorem dX11_abstains_14 : decode cX11_abstains 14 = .ok (.aload_n 0, 1) := by decide +kernel
theorem dX11_abstains_15 : decode cX11_abstains 15 = .ok (.getfield 50, 3) := by decide +kernel
theorem dX11_abstains_18 : decode cX11_abstains 18 = .ok (.iload_n 1, 1) := by decide +kernel
theorem dX11_abstains_19 : decode cX11_abstains 19 = .ok (.invokevirtual 181, 3) := by decide +kernel
theorem dX11_abstains_22 : decode cX11_abstains 22 = .ok (.aload_n 0, 1) := by decide +kernel
theorem dX11_abstains_23 : decode cX11_abstains 23 = .ok (.getfield 50, 3) := by decide +kernel
theorem dX11_abstains_26 : decode cX11_abstains 26 = .ok (.aload_n 0, 1) := by decide +kernel
theorem dX11_abstains_27 : decode cX11_abstains 27 = .ok (.getfield 50, 3) := by decide +kernel
theorem dX11_abstains_30 : decode cX11_abstains 30 = .ok (.getfield 187, 3) := by decide +kernel
theorem dX11_abstains_33 : decode cX11_abstains 33 = .ok (.invokevirtual 190, 3) := by decide +kernel
theorem dX11_abstains_36 : decode cX11_abstains 36 = .ok (.aload_n 0, 1) := by decide +kernel
theorem dX11_abstains_37 : decode cX11_abstains 37 = .ok (.getfield 50, 3) := by decide +kernel
theorem dX11_abstains_40 : decode cX11_abstains 40 = .ok (.getfield 196, 3) := by decide +kernel
theorem dX11_abstains_43 : decode cX11_abstains 43 = .ok (.aload_n 0, 1) := by decide +kernel
theorem dX11_abstains_44 : decode cX11_abstains 44 = .ok (.getfield 50, 3) := by decide +kernel
theorem dX11_abstains_47 : decode cX11_abstains 47 = .ok (.getfield 199, 3) := by decide +kernel
theorem dX11_abstains_50 : decode cX11_abstains 50 = .ok (.isub, 1) := by decide +kernel
theorem dX11_abstains_51 : decode cX11_abstains 51 = .ok (.ireturn, 1) := by decide +kernel
theorem dX11_back_0 : decode cX11_back 0 = .ok (.iload_n 1, 1) := by decide +kernel
theorem dX11_back_1 : decode cX11_back 1 = .ok (.ifCond .lt 8, 3) := by decide +kernel
theorem dX11_back_4 : decode cX11_back 4 = .ok (.iload_n 1, 1) := by decide +kernel
theorem dX11_back_5 : decode cX11_back 5 = .ok (.iconst 3, 1) := by decide +kernel
theorem dX11_back_6 : decode cX11_back 6 = .ok (.if_icmp .lt 6, 3) := by decide +kernel
theorem dX11_back_9 : decode cX11_back 9 = .ok (.bipush (-2), 2) := by decide +kernel
theorem dX11_back_11 : decode cX11_back 11 = .ok (.ireturn, 1) := by decide +kernel
theorem dX11_back_12 : decode cX11_back 12 = .ok (.aload_n 0, 1) := by decide +kernel
theorem dX11_back_13 : decode cX11_back 13 = .ok (.getfield 413, 3) := by decide +kernel
theorem dX11_back_16 : decode cX11_back 16 = .ok (.iload_n 1, 1) := by decide +kernel
theorem dX11_back_17 : decode cX11_back 17 = .ok (.invokestatic 143, 3) := by decide +kernel
theorem dX11_back_20 : decode cX11_back 20 = .ok (.ifCond .ne 6, 3) := by decide +kernel
theorem dX11_back_23 : decode cX11_back 23 = .ok (.bipush (-6), 2) := by decide +kernel
theorem dX11_back_25 : decode cX11_back 25 = .ok (.ireturn, 1) := by decide +kernel
theorem dX11_back_26 : decode cX11_back 26 = .ok (.aload_n 0, 1) := by decide +kernel
theorem dX11_back_27 : decode cX11_back 27 = .ok (.getfield 32, 3) := by decide +kernel
theorem dX11_back_30 : decode cX11_back 30 = .ok (.aload_n 0, 1) := by decide +kernel
theorem dX11_back_31 : decode cX11_back 31 = .ok (.getfield 35, 3) := by decide +kernel
theorem dX11_back_34 : decode cX11_back 34 = .ok (.iload_n 1, 1) := by decide +kernel
theorem dX11_back_35 : decode cX11_back 35 = .ok (.aaload, 1) := by decide +kernel
theorem dX11_back_36 : decode cX11_back 36 = .ok (.invokevirtual 105, 3) := by decide +kernel
theorem dX11_back_39 : decode cX11_back 39 = .ok (.iconst 0, 1) := by decide +kernel
theorem dX11_back_40 : decode cX11_back 40 = .ok (.ireturn, 1) := by decide +kernel
theorem dX11_beats_0 : decode cX11_beats 0 = .ok (.aload_n 0, 1) := by decide +kernel
theorem dX11_beats_1 : decode cX11_beats 1 = .ok (.getfield 32, 3) := by decide +kernel
theorem dX11_beats_4 : decode cX11_beats 4 = .ok (.iload_n 1, 1) := by decide +kernel
theorem dX11_beats_5 : decode cX11_beats 5 = .ok (.invokevirtual 114, 3) := by decide +kernel
theorem dX11_beats_8 : decode cX11_beats 8 = .ok (.ifCond .eq 19, 3) := by decide +kernel
theorem dX11_beats_11 : decode cX11_beats 11 = .ok (.aload_n 0, 1) := by decide +kernel
theorem dX11_beats_12 : decode cX11_beats 12 = .ok (.getfield 32, 3) := by decide +kernel
theorem dX11_beats_15 : decode cX11_beats 15 = .ok (.iload_n 2, 1) := by decide +kernel
theorem dX11_beats_16 : decode cX11_beats 16 = .ok (.invokevirtual 114, 3) := by decide +kernel
theorem dX11_beats_19 : decode cX11_beats 19 = .ok (.ifCond .eq 8, 3) := by decide +kernel
theorem dX11_beats_22 : decode cX11_beats 22 = .ok (.iload_n 1, 1) := by decide +kernel
theorem dX11_beats_23 : decode cX11_beats 23 = .ok (.iload_n 2, 1) := by decide +kernel
theorem dX11_beats_24 : decode cX11_beats 24 = .ok (.if_icmp .ne 6, 3) := by decide +kernel
theorem dX11_beats_27 : decode cX11_beats 27 = .ok (.bipush (-2), 2) := by decide +kernel
theorem dX11_beats_29 : decode cX11_beats 29 = .ok (.ireturn, 1) := by decide +kernel
theorem dX11_beats_30 : decode cX11_beats 30 = .ok (.aload_n 0, 1) := by decide +kernel
theorem dX11_beats_31 : decode cX11_beats 31 = .ok (.getfield 50, 3) := by decide +kernel
theorem dX11_beats_34 : decode cX11_beats 34 = .ok (.aload_n 0, 1) := by decide +kernel
theorem dX11_beats_35 : decode cX11_beats 35 = .ok (.getfield 32, 3) := by decide +kernel
theorem dX11_beats_38 : decode cX11_beats 38 = .ok (.getfield 122, 3) := by decide +kernel
theorem dX11_beats_41 : decode cX11_beats 41 = .ok (.iload_n 1, 1) := by decide +kernel
theorem dX11_beats_42 : decode cX11_beats 42 = .ok (.iaload, 1) := by decide +kernel
theorem dX11_beats_43 : decode cX11_beats 43 = .ok (.invokevirtual 181, 3) := by decide +kernel
theorem dX11_beats_46 : decode cX11_beats 46 = .ok (.aload_n 0, 1) := by decide +kernel
theorem dX11_beats_47 : decode cX11_beats 47 = .ok (.getfield 50, 3) := by decide +kernel
theorem dX11_beats_50 : decode cX11_beats 50 = .ok (.getfield 187, 3) := by decide +kernel
theorem dX11_beats_53 : decode cX11_beats 53 = .ok (.iload_n 1, 1) := by decide +kernel
theorem dX11_beats_54 : decode cX11_beats 54 = .ok (.invokestatic 143, 3) := by decide +kernel
theorem dX11_beats_57 : decode cX11_beats 57 = .ok (.ifCond .eq 17, 3) := by decide +kernel
theorem dX11_beats_60 : decode cX11_beats 60 = .ok (.aload_n 0, 1) := by decide +kernel
theorem dX11_beats_61 : decode cX11_beats 61 = .ok (.getfield 50, 3) := by decide +kernel
theorem dX11_beats_64 : decode cX11_beats 64 = .ok (.getfield 187, 3) := by decide +kernel
theorem dX11_beats_67 : decode cX11_beats 67 = .ok (.iload_n 2, 1) := by decide +kernel
theorem dX11_beats_68 : decode cX11_beats 68 = .ok (.invokestatic 143, 3) := by decide +kernel
theorem dX11_beats_71 : decode cX11_beats 71 = .ok (.ifCond .ne 6, 3) := by decide +kernel
theorem dX11_beats_74 : decode cX11_beats 74 = .ok (.bipush (-2), 2) := by decide +kernel
theorem dX11_beats_76 : decode cX11_beats 76 = .ok (.ireturn, 1) := by decide +kernel
theorem dX11_beats_77 : decode cX11_beats 77 = .ok (.aload_n 0, 1) := by decide +kernel
theorem dX11_beats_78 : decode cX11_beats 78 = .ok (.getfield 50, 3) := by decide +kernel
theorem dX11_beats_81 : decode cX11_beats 81 = .ok (.iload_n 1, 1) := by decide +kernel
theorem dX11_beats_82 : decode cX11_beats 82 = .ok (.iload_n 2, 1) := by decide +kernel
theorem dX11_beats_83 : decode cX11_beats 83 = .ok (.invokevirtual 220, 3) := by decide +kernel
theorem dX11_beats_86 : decode cX11_beats 86 = .ok (.ireturn, 1) := by decide +kernel
theorem dX11_best_0 : decode cX11_best 0 = .ok (.aload_n 0, 1) := by decide +kernel
theorem dX11_best_1 : decode cX11_best 1 = .ok (.getfield 32, 3) := by decide +kernel
theorem dX11_best_4 : decode cX11_best 4 = .ok (.iload_n 1, 1) := by decide +kernel
theorem dX11_best_5 : decode cX11_best 5 = .ok (.invokevirtual 161, 3) := by decide +kernel
theorem dX11_best_8 : decode cX11_best 8 = .ok (.ifCond .ne 6, 3) := by decide +kernel
theorem dX11_best_11 : decode cX11_best 11 = .ok (.bipush (-2), 2) := by decide +kernel
theorem dX11_best_13 : decode cX11_best 13 = .ok (.ireturn, 1) := by decide +kernel
theorem dX11_best_14 : decode cX11_best 14 = .ok (.aload_n 0, 1) := by decide +kernel
theorem dX11_best_15 : decode cX11_best 15 = .ok (.getfield 50, 3) := by decide +kernel
theorem dX11_best_18 : decode cX11_best 18 = .ok (.iload_n 1, 1) := by decide +kernel
theorem dX11_best_19 : decode cX11_best 19 = .ok (.invokevirtual 181, 3) := by decide +kernel
theorem dX11_best_22 : decode cX11_best 22 = .ok (.aload_n 0, 1) := by decide +kernel
theorem dX11_best_23 : decode cX11_best 23 = .ok (.getfield 50, 3) := by decide +kernel
theorem dX11_best_26 : decode cX11_best 26 = .ok (.invokevirtual 223, 3) := by decide +kernel
theorem dX11_best_29 : decode cX11_best 29 = .ok (.ireturn, 1) := by decide +kernel
theorem dX11_bill_0 : decode cX11_bill 0 = .ok (.aload_n 0, 1) := by decide +kernel
theorem dX11_bill_1 : decode cX11_bill 1 = .ok (.getfield 32, 3) := by decide +kernel
theorem dX11_bill_4 : decode cX11_bill 4 = .ok (.invokevirtual 227, 3) := by decide +kernel
theorem dX11_bill_7 : decode cX11_bill 7 = .ok (.ifCond .eq 6, 3) := by decide +kernel
theorem dX11_bill_10 : decode cX11_bill 10 = .ok (.bipush (-2), 2) := by decide +kernel
theorem dX11_bill_12 : decode cX11_bill 12 = .ok (.ireturn, 1) := by decide +kernel
theorem dX11_bill_13 : decode cX11_bill 13 = .ok (.bipush (-2), 2) := by decide +kernel
theorem dX11_bill_15 : decode cX11_bill 15 = .ok (.istore_n 3, 1) := by decide +kernel
theorem dX11_bill_16 : decode cX11_bill 16 = .ok (.iload_n 1, 1) := by decide +kernel
theorem dX11_bill_17 : decode cX11_bill 17 = .ok (.ifCond .ne 29, 3) := by decide +kernel
theorem dX11_bill_20 : decode cX11_bill 20 = .ok (.iload_n 2, 1) := by decide +kernel
theorem dX11_bill_21 : decode cX11_bill 21 = .ok (.invokestatic 202, 3) := by decide +kernel
theorem dX11_bill_24 : decode cX11_bill 24 = .ok (.ifCond .eq 22, 3) := by decide +kernel
theorem dX11_bill_27 : decode cX11_bill 27 = .ok (.aload_n 0, 1) := by decide +kernel
theorem dX11_bill_28 : decode cX11_bill 28 = .ok (.getfield 32, 3) := by decide +kernel
theorem dX11_bill_31 : decode cX11_bill 31 = .ok (.getfield 389, 3) := by decide +kernel
theorem dX11_bill_34 : decode cX11_bill 34 = .ok (.istore_n 3, 1) := by decide +kernel
theorem dX11_bill_35 : decode cX11_bill 35 = .ok (.aload_n 0, 1) := by decide +kernel
theorem dX11_bill_36 : decode cX11_bill 36 = .ok (.getfield 32, 3) := by decide +kernel
theorem dX11_bill_39 : decode cX11_bill 39 = .ok (.iload_n 2, 1) := by decide +kernel
theorem dX11_bill_40 : decode cX11_bill 40 = .ok (.putfield 389, 3) := by decide +kernel
theorem dX11_bill_43 : decode cX11_bill 43 = .ok (.goto 69, 3) := by decide +kernel
theorem dX11_bill_46 : decode cX11_bill 46 = .ok (.iload_n 1, 1) := by decide +kernel
theorem dX11_bill_47 : decode cX11_bill 47 = .ok (.iconst 1, 1) := by decide +kernel
theorem dX11_bill_48 : decode cX11_bill 48 = .ok (.if_icmp .ne 32, 3) := by decide +kernel
theorem dX11_bill_51 : decode cX11_bill 51 = .ok (.iload_n 2, 1) := by decide +kernel
theorem dX11_bill_52 : decode cX11_bill 52 = .ok (.ifCond .lt 28, 3) := by decide +kernel
theorem dX11_bill_55 : decode cX11_bill 55 = .ok (.iload_n 2, 1) := by decide +kernel
theorem dX11_bill_56 : decode cX11_bill 56 = .ok (.bipush 100, 2) := by decide +kernel
theorem dX11_bill_58 : decode cX11_bill 58 = .ok (.if_icmp .gt 22, 3) := by decide +kernel
theorem dX11_bill_61 : decode cX11_bill 61 = .ok (.aload_n 0, 1) := by decide +kernel
theorem dX11_bill_62 : decode cX11_bill 62 = .ok (.getfield 32, 3) := by decide +kernel
theorem dX11_bill_65 : decode cX11_bill 65 = .ok (.getfield 392, 3) := by decide +kernel
theorem dX11_bill_68 : decode cX11_bill 68 = .ok (.istore_n 3, 1) := by decide +kernel
theorem dX11_bill_69 : decode cX11_bill 69 = .ok (.aload_n 0, 1) := by decide +kernel
theorem dX11_bill_70 : decode cX11_bill 70 = .ok (.getfield 32, 3) := by decide +kernel
theorem dX11_bill_73 : decode cX11_bill 73 = .ok (.iload_n 2, 1) := by decide +kernel
theorem dX11_bill_74 : decode cX11_bill 74 = .ok (.putfield 392, 3) := by decide +kernel
theorem dX11_bill_77 : decode cX11_bill 77 = .ok (.goto 35, 3) := by decide +kernel
theorem dX11_bill_80 : decode cX11_bill 80 = .ok (.iload_n 1, 1) := by decide +kernel
theorem dX11_bill_81 : decode cX11_bill 81 = .ok (.iconst 2, 1) := by decide +kernel
theorem dX11_bill_82 : decode cX11_bill 82 = .ok (.if_icmp .ne 30, 3) := by decide +kernel
theorem dX11_bill_85 : decode cX11_bill 85 = .ok (.iload_n 2, 1) := by decide +kernel
theorem dX11_bill_86 : decode cX11_bill 86 = .ok (.iconst 1, 1) := by decide +kernel
theorem dX11_bill_87 : decode cX11_bill 87 = .ok (.if_icmp .lt 25, 3) := by decide +kernel
theorem dX11_bill_90 : decode cX11_bill 90 = .ok (.iload_n 2, 1) := by decide +kernel
theorem dX11_bill_91 : decode cX11_bill 91 = .ok (.bipush 9, 2) := by decide +kernel
theorem dX11_bill_93 : decode cX11_bill 93 = .ok (.if_icmp .gt 19, 3) := by decide +kernel
theorem dX11_bill_96 : decode cX11_bill 96 = .ok (.aload_n 0, 1) := by decide +kernel
theorem dX11_bill_97 : decode cX11_bill 97 = .ok (.getfield 32, 3) := by decide +kernel
theorem dX11_bill_100 : decode cX11_bill 100 = .ok (.getfield 251, 3) := by decide +kernel
theorem dX11_bill_103 : decode cX11_bill 103 = .ok (.istore_n 3, 1) := by decide +kernel
theorem dX11_bill_104 : decode cX11_bill 104 = .ok (.aload_n 0, 1) := by decide +kernel
theorem dX11_bill_105 : decode cX11_bill 105 = .ok (.getfield 32, 3) := by decide +kernel
theorem dX11_bill_108 : decode cX11_bill 108 = .ok (.iload_n 2, 1) := by decide +kernel
theorem dX11_bill_109 : decode cX11_bill 109 = .ok (.putfield 251, 3) := by decide +kernel
theorem dX11_bill_112 : decode cX11_bill 112 = .ok (.iload_n 3, 1) := by decide +kernel
theorem dX11_bill_113 : decode cX11_bill 113 = .ok (.ireturn, 1) := by decide +kernel
theorem dX11_breaks_0 : decode cX11_breaks 0 = .ok (.aload_n 0, 1) := by decide +kernel
theorem dX11_breaks_1 : decode cX11_breaks 1 = .ok (.getfield 32, 3) := by decide +kernel
theorem dX11_breaks_4 : decode cX11_breaks 4 = .ok (.invokevirtual 227, 3) := by decide +kernel
theorem dX11_breaks_7 : decode cX11_breaks 7 = .ok (.ifCond .ne 11, 3) := by decide +kernel
theorem dX11_breaks_10 : decode cX11_breaks 10 = .ok (.iload_n 1, 1) := by decide +kernel
theorem dX11_breaks_11 : decode cX11_breaks 11 = .ok (.iconst 4, 1) := by decide +kernel
theorem dX11_breaks_12 : decode cX11_breaks 12 = .ok (.invokestatic 299, 3) := by decide +kernel
theorem dX11_breaks_15 : decode cX11_breaks 15 = .ok (.ifCond .ne 8, 3) := by decide +kernel
theorem dX11_breaks_18 : decode cX11_breaks 18 = .ok (.bipush (-2), 2) := by decide +kernel
theorem dX11_breaks_20 : decode cX11_breaks 20 = .ok (.goto 11, 3) := by decide +kernel
theorem dX11_breaks_23 : decode cX11_breaks 23 = .ok (.aload_n 0, 1) := by decide +kernel
theorem dX11_breaks_24 : decode cX11_breaks 24 = .ok (.getfield 64, 3) := by decide +kernel
theorem dX11_breaks_27 : decode cX11_breaks 27 = .ok (.iload_n 1, 1) := by decide +kernel
theorem dX11_breaks_28 : decode cX11_breaks 28 = .ok (.invokevirtual 344, 3) := by decide +kernel
theorem dX11_breaks_31 : decode cX11_breaks 31 = .ok (.ireturn, 1) := by decide +kernel
theorem dX11_by_0 : decode cX11_by 0 = .ok (.aload_n 0, 1) := by decide +kernel
theorem dX11_by_1 : decode cX11_by 1 = .ok (.getfield 32, 3) := by decide +kernel
theorem dX11_by_4 : decode cX11_by 4 = .ok (.invokevirtual 227, 3) := by decide +kernel
theorem dX11_by_7 : decode cX11_by 7 = .ok (.ifCond .ne 17, 3) := by decide +kernel
theorem dX11_by_10 : decode cX11_by 10 = .ok (.iload_n 1, 1) := by decide +kernel
theorem dX11_by_11 : decode cX11_by 11 = .ok (.aload_n 0, 1) := by decide +kernel
theorem dX11_by_12 : decode cX11_by 12 = .ok (.getfield 32, 3) := by decide +kernel
theorem dX11_by_15 : decode cX11_by 15 = .ok (.getfield 233, 3) := by decide +kernel
theorem dX11_by_18 : decode cX11_by 18 = .ok (.invokestatic 299, 3) := by decide +kernel
theorem dX11_by_21 : decode cX11_by 21 = .ok (.ifCond .ne 8, 3) := by decide +kernel
theorem dX11_by_24 : decode cX11_by 24 = .ok (.bipush (-2), 2) := by decide +kernel
theorem dX11_by_26 : decode cX11_by 26 = .ok (.goto 11, 3) := by decide +kernel
theorem dX11_by_29 : decode cX11_by 29 = .ok (.aload_n 0, 1) := by decide +kernel
theorem dX11_by_30 : decode cX11_by 30 = .ok (.getfield 57, 3) := by decide +kernel
theorem dX11_by_33 : decode cX11_by 33 = .ok (.iload_n 1, 1) := by decide +kernel
theorem dX11_by_34 : decode cX11_by 34 = .ok (.invokevirtual 296, 3) := by decide +kernel
theorem dX11_by_37 : decode cX11_by 37 = .ok (.ireturn, 1) := by decide +kernel
theorem dX11_cheapest_0 : decode cX11_cheapest 0 = .ok (.aload_n 0, 1) := by decide +kernel
theorem dX11_cheapest_1 : decode cX11_cheapest 1 = .ok (.getfield 32, 3) := by decide +kernel
theorem dX11_cheapest_4 : decode cX11_cheapest 4 = .ok (.iload_n 1, 1) := by decide +kernel
theorem dX11_cheapest_5 : decode cX11_cheapest 5 = .ok (.invokevirtual 161, 3) := by decide +kernel
theorem dX11_cheapest_8 : decode cX11_cheapest 8 = .ok (.ifCond .eq 14, 3) := by decide +kernel
theorem dX11_cheapest_11 : decode cX11_cheapest 11 = .ok (.aload_n 0, 1) := by decide +kernel
theorem dX11_cheapest_12 : decode cX11_cheapest 12 = .ok (.getfield 57, 3) := by decide +kernel
theorem dX11_cheapest_15 : decode cX11_cheapest 15 = .ok (.iload_n 1, 1) := by decide +kernel
theorem dX11_cheapest_16 : decode cX11_cheapest 16 = .ok (.invokevirtual 302, 3) := by decide +kernel
theorem dX11_cheapest_19 : decode cX11_cheapest 19 = .ok (.goto 5, 3) := by decide +kernel
theorem dX11_cheapest_22 : decode cX11_cheapest 22 = .ok (.bipush (-2), 2) := by decide +kernel
theorem dX11_cheapest_24 : decode cX11_cheapest 24 = .ok (.ireturn, 1) := by decide +kernel
theorem dX11_coalition_0 : decode cX11_coalition 0 = .ok (.aload_n 0, 1) := by decide +kernel
theorem dX11_coalition_1 : decode cX11_coalition 1 = .ok (.getfield 32, 3) := by decide +kernel
theorem dX11_coalition_4 : decode cX11_coalition 4 = .ok (.invokevirtual 227, 3) := by decide +kernel
theorem dX11_coalition_7 : decode cX11_coalition 7 = .ok (.ifCond .eq 8, 3) := by decide +kernel
theorem dX11_coalition_10 : decode cX11_coalition 10 = .ok (.bipush (-2), 2) := by decide +kernel
theorem dX11_coalition_12 : decode cX11_coalition 12 = .ok (.goto 10, 3) := by decide +kernel
theorem dX11_coalition_15 : decode cX11_coalition 15 = .ok (.aload_n 0, 1) := by decide +kernel
theorem dX11_coalition_16 : decode cX11_coalition 16 = .ok (.getfield 64, 3) := by decide +kernel
theorem dX11_coalition_19 : decode cX11_coalition 19 = .ok (.invokevirtual 341, 3) := by decide +kernel
theorem dX11_coalition_22 : decode cX11_coalition 22 = .ok (.ireturn, 1) := by decide +kernel
theorem dX11_cost_0 : decode cX11_cost 0 = .ok (.aload_n 0, 1) := by decide +kernel
theorem dX11_cost_1 : decode cX11_cost 1 = .ok (.getfield 32, 3) := by decide +kernel
theorem dX11_cost_4 : decode cX11_cost 4 = .ok (.iload_n 1, 1) := by decide +kernel
theorem dX11_cost_5 : decode cX11_cost 5 = .ok (.invokevirtual 147, 3) := by decide +kernel
theorem dX11_cost_8 : decode cX11_cost 8 = .ok (.ifCond .ne 6, 3) := by decide +kernel
theorem dX11_cost_11 : decode cX11_cost 11 = .ok (.bipush (-2), 2) := by decide +kernel
theorem dX11_cost_13 : decode cX11_cost 13 = .ok (.ireturn, 1) := by decide +kernel
theorem dX11_cost_14 : decode cX11_cost 14 = .ok (.aload_n 0, 1) := by decide +kernel
theorem dX11_cost_15 : decode cX11_cost 15 = .ok (.getfield 57, 3) := by decide +kernel
theorem dX11_cost_18 : decode cX11_cost 18 = .ok (.aload_n 0, 1) := by decide +kernel
theorem dX11_cost_19 : decode cX11_cost 19 = .ok (.getfield 32, 3) := by decide +kernel
theorem dX11_cost_22 : decode cX11_cost 22 = .ok (.getfield 131, 3) := by decide +kernel
theorem dX11_cost_25 : decode cX11_cost 25 = .ok (.getfield 245, 3) := by decide +kernel
theorem dX11_cost_28 : decode cX11_cost 28 = .ok (.invokevirtual 275, 3) := by decide +kernel
theorem dX11_cost_31 : decode cX11_cost 31 = .ok (.aload_n 0, 1) := by decide +kernel
theorem dX11_cost_32 : decode cX11_cost 32 = .ok (.getfield 57, 3) := by decide +kernel
theorem dX11_cost_35 : decode cX11_cost 35 = .ok (.iload_n 1, 1) := by decide +kernel
theorem dX11_cost_36 : decode cX11_cost 36 = .ok (.invokevirtual 293, 3) := by decide +kernel
theorem dX11_cost_39 : decode cX11_cost 39 = .ok (.ireturn, 1) := by decide +kernel
theorem dX11_costs_0 : decode cX11_costs 0 = .ok (.aload_n 0, 1) := by decide +kernel
theorem dX11_costs_1 : decode cX11_costs 1 = .ok (.getfield 32, 3) := by decide +kernel
theorem dX11_costs_4 : decode cX11_costs 4 = .ok (.invokevirtual 227, 3) := by decide +kernel
theorem dX11_costs_7 : decode cX11_costs 7 = .ok (.ifCond .eq 8, 3) := by decide +kernel
theorem dX11_costs_10 : decode cX11_costs 10 = .ok (.bipush (-2), 2) := by decide +kernel
theorem dX11_costs_12 : decode cX11_costs 12 = .ok (.goto 20, 3) := by decide +kernel
theorem dX11_costs_15 : decode cX11_costs 15 = .ok (.aload_n 0, 1) := by decide +kernel
theorem dX11_costs_16 : decode cX11_costs 16 = .ok (.getfield 57, 3) := by decide +kernel
theorem dX11_costs_19 : decode cX11_costs 19 = .ok (.aload_n 0, 1) := by decide +kernel
theorem dX11_costs_20 : decode cX11_costs 20 = .ok (.getfield 32, 3) := by decide +kernel
theorem dX11_costs_23 : decode cX11_costs 23 = .ok (.getfield 131, 3) := by decide +kernel
theorem dX11_costs_26 : decode cX11_costs 26 = .ok (.getfield 245, 3) := by decide +kernel
theorem dX11_costs_29 : decode cX11_costs 29 = .ok (.invokevirtual 296, 3) := by decide +kernel
theorem dX11_costs_32 : decode cX11_costs 32 = .ok (.ireturn, 1) := by decide +kernel
theorem dX11_count_0 : decode cX11_count 0 = .ok (.iload_n 1, 1) := by decide +kernel
theorem dX11_count_1 : decode cX11_count 1 = .ok (.tableswitch 162 0 11 #[63, 71, 79, 87, 95, 103, 111, 119, 130, 141, 149, 157], 63) := by decide +kernel
theorem dX11_count_64 : decode cX11_count 64 = .ok (.aload_n 0, 1) := by decide +kernel
theorem dX11_count_65 : decode cX11_count 65 = .ok (.getfield 32, 3) := by decide +kernel
theorem dX11_count_68 : decode cX11_count 68 = .ok (.getfield 305, 3) := by decide +kernel
theorem dX11_count_71 : decode cX11_count 71 = .ok (.ireturn, 1) := by decide +kernel
theorem dX11_count_72 : decode cX11_count 72 = .ok (.aload_n 0, 1) := by decide +kernel
theorem dX11_count_73 : decode cX11_count 73 = .ok (.getfield 32, 3) := by decide +kernel
theorem dX11_count_76 : decode cX11_count 76 = .ok (.getfield 389, 3) := by decide +kernel
theorem dX11_count_79 : decode cX11_count 79 = .ok (.ireturn, 1) := by decide +kernel
theorem dX11_count_80 : decode cX11_count 80 = .ok (.aload_n 0, 1) := by decide +kernel
theorem dX11_count_81 : decode cX11_count 81 = .ok (.getfield 32, 3) := by decide +kernel
theorem dX11_count_84 : decode cX11_count 84 = .ok (.getfield 392, 3) := by decide +kernel
theorem dX11_count_87 : decode cX11_count 87 = .ok (.ireturn, 1) := by decide +kernel
theorem dX11_count_88 : decode cX11_count 88 = .ok (.aload_n 0, 1) := by decide +kernel
theorem dX11_count_89 : decode cX11_count 89 = .ok (.getfield 32, 3) := by decide +kernel
theorem dX11_count_92 : decode cX11_count 92 = .ok (.getfield 251, 3) := by decide +kernel
theorem dX11_count_95 : decode cX11_count 95 = .ok (.ireturn, 1) := by decide +kernel
theorem dX11_count_96 : decode cX11_count 96 = .ok (.aload_n 0, 1) := by decide +kernel
theorem dX11_count_97 : decode cX11_count 97 = .ok (.getfield 32, 3) := by decide +kernel
theorem dX11_count_100 : decode cX11_count 100 = .ok (.getfield 230, 3) := by decide +kernel
theorem dX11_count_103 : decode cX11_count 103 = .ok (.ireturn, 1) := by decide +kernel
theorem dX11_count_104 : decode cX11_count 104 = .ok (.aload_n 0, 1) := by decide +kernel
theorem dX11_count_105 : decode cX11_count 105 = .ok (.getfield 32, 3) := by decide +kernel
theorem dX11_count_108 : decode cX11_count 108 = .ok (.getfield 233, 3) := by decide +kernel
theorem dX11_count_111 : decode cX11_count 111 = .ok (.ireturn, 1) := by decide +kernel
theorem dX11_count_112 : decode cX11_count 112 = .ok (.aload_n 0, 1) := by decide +kernel
theorem dX11_count_113 : decode cX11_count 113 = .ok (.getfield 32, 3) := by decide +kernel
theorem dX11_count_116 : decode cX11_count 116 = .ok (.getfield 323, 3) := by decide +kernel
theorem dX11_count_119 : decode cX11_count 119 = .ok (.ireturn, 1) := by decide +kernel
theorem dX11_count_120 : decode cX11_count 120 = .ok (.aload_n 0, 1) := by decide +kernel
theorem dX11_count_121 : decode cX11_count 121 = .ok (.getfield 32, 3) := by decide +kernel
theorem dX11_count_124 : decode cX11_count 124 = .ok (.getfield 401, 3) := by decide +kernel
theorem dX11_count_127 : decode cX11_count 127 = .ok (.getfield 405, 3) := by decide +kernel
theorem dX11_count_130 : decode cX11_count 130 = .ok (.ireturn, 1) := by decide +kernel
theorem dX11_count_131 : decode cX11_count 131 = .ok (.aload_n 0, 1) := by decide +kernel
theorem dX11_count_132 : decode cX11_count 132 = .ok (.getfield 32, 3) := by decide +kernel
theorem dX11_count_135 : decode cX11_count 135 = .ok (.getfield 131, 3) := by decide +kernel
theorem dX11_count_138 : decode cX11_count 138 = .ok (.getfield 248, 3) := by decide +kernel
theorem dX11_count_141 : decode cX11_count 141 = .ok (.ireturn, 1) := by decide +kernel
theorem dX11_count_142 : decode cX11_count 142 = .ok (.aload_n 0, 1) := by decide +kernel
theorem dX11_count_143 : decode cX11_count 143 = .ok (.getfield 32, 3) := by decide +kernel
theorem dX11_count_146 : decode cX11_count 146 = .ok (.getfield 108, 3) := by decide +kernel
theorem dX11_count_149 : decode cX11_count 149 = .ok (.ireturn, 1) := by decide +kernel
theorem dX11_count_150 : decode cX11_count 150 = .ok (.aload_n 0, 1) := by decide +kernel
theorem dX11_count_151 : decode cX11_count 151 = .ok (.getfield 10, 3) := by decide +kernel
theorem dX11_count_154 : decode cX11_count 154 = .ok (.getfield 95, 3) := by decide +kernel
theorem dX11_count_157 : decode cX11_count 157 = .ok (.ireturn, 1) := by decide +kernel
theorem dX11_count_158 : decode cX11_count 158 = .ok (.aload_n 0, 1) := by decide +kernel
theorem dX11_count_159 : decode cX11_count 159 = .ok (.invokevirtual 410, 3) := by decide +kernel
theorem dX11_count_162 : decode cX11_count 162 = .ok (.ireturn, 1) := by decide +kernel
theorem dX11_count_163 : decode cX11_count 163 = .ok (.iconst (-1), 1) := by decide +kernel
theorem dX11_count_164 : decode cX11_count 164 = .ok (.ireturn, 1) := by decide +kernel
theorem dX11_cover_0 : decode cX11_cover 0 = .ok (.aload_n 0, 1) := by decide +kernel
theorem dX11_cover_1 : decode cX11_cover 1 = .ok (.getfield 32, 3) := by decide +kernel
theorem dX11_cover_4 : decode cX11_cover 4 = .ok (.invokevirtual 227, 3) := by decide +kernel
theorem dX11_cover_7 : decode cX11_cover 7 = .ok (.ifCond .ne 17, 3) := by decide +kernel
theorem dX11_cover_10 : decode cX11_cover 10 = .ok (.iload_n 1, 1) := by decide +kernel
theorem dX11_cover_11 : decode cX11_cover 11 = .ok (.aload_n 0, 1) := by decide +kernel
theorem dX11_cover_12 : decode cX11_cover 12 = .ok (.getfield 32, 3) := by decide +kernel
theorem dX11_cover_15 : decode cX11_cover 15 = .ok (.getfield 305, 3) := by decide +kernel
theorem dX11_cover_18 : decode cX11_cover 18 = .ok (.invokestatic 299, 3) := by decide +kernel
theorem dX11_cover_21 : decode cX11_cover 21 = .ok (.ifCond .ne 6, 3) := by decide +kernel
theorem dX11_cover_24 : decode cX11_cover 24 = .ok (.bipush (-2), 2) := by decide +kernel
theorem dX11_cover_26 : decode cX11_cover 26 = .ok (.ireturn, 1) := by decide +kernel
theorem dX11_cover_27 : decode cX11_cover 27 = .ok (.aload_n 0, 1) := by decide +kernel
theorem dX11_cover_28 : decode cX11_cover 28 = .ok (.getfield 57, 3) := by decide +kernel
theorem dX11_cover_31 : decode cX11_cover 31 = .ok (.iload_n 1, 1) := by decide +kernel
theorem dX11_cover_32 : decode cX11_cover 32 = .ok (.invokevirtual 308, 3) := by decide +kernel
theorem dX11_cover_35 : decode cX11_cover 35 = .ok (.istore_n 2, 1) := by decide +kernel
theorem dX11_cover_36 : decode cX11_cover 36 = .ok (.iload_n 2, 1) := by decide +kernel
theorem dX11_cover_37 : decode cX11_cover 37 = .ok (.iconst (-1), 1) := by decide +kernel
theorem dX11_cover_38 : decode cX11_cover 38 = .ok (.if_icmp .ne 7, 3) := by decide +kernel
theorem dX11_cover_41 : decode cX11_cover 41 = .ok (.iconst (-1), 1) := by decide +kernel
theorem dX11_cover_42 : decode cX11_cover 42 = .ok (.goto 7, 3) := by decide +kernel
theorem dX11_cover_45 : decode cX11_cover 45 = .ok (.iload_n 2, 1) := by decide +kernel
theorem dX11_cover_46 : decode cX11_cover 46 = .ok (.invokestatic 257, 3) := by decide +kernel
theorem dX11_cover_49 : decode cX11_cover 49 = .ok (.ireturn, 1) := by decide +kernel
theorem dX11_covers_0 : decode cX11_covers 0 = .ok (.aload_n 0, 1) := by decide +kernel
theorem dX11_covers_1 : decode cX11_covers 1 = .ok (.getfield 32, 3) := by decide +kernel
theorem dX11_covers_4 : decode cX11_covers 4 = .ok (.invokevirtual 227, 3) := by decide +kernel
theorem dX11_covers_7 : decode cX11_covers 7 = .ok (.ifCond .ne 17, 3) := by decide +kernel
theorem dX11_covers_10 : decode cX11_covers 10 = .ok (.iload_n 1, 1) := by decide +kernel
theorem dX11_covers_11 : decode cX11_covers 11 = .ok (.aload_n 0, 1) := by decide +kernel
theorem dX11_covers_12 : decode cX11_covers 12 = .ok (.getfield 32, 3) := by decide +kernel
theorem dX11_covers_15 : decode cX11_covers 15 = .ok (.getfield 305, 3) := by decide +kernel
theorem dX11_covers_18 : decode cX11_covers 18 = .ok (.invokestatic 299, 3) := by decide +kernel
theorem dX11_covers_21 : decode cX11_covers 21 = .ok (.ifCond .ne 8, 3) := by decide +kernel
theorem dX11_covers_24 : decode cX11_covers 24 = .ok (.bipush (-2), 2) := by decide +kernel
theorem dX11_covers_26 : decode cX11_covers 26 = .ok (.goto 11, 3) := by decide +kernel
theorem dX11_covers_29 : decode cX11_covers 29 = .ok (.aload_n 0, 1) := by decide +kernel
theorem dX11_covers_30 : decode cX11_covers 30 = .ok (.getfield 57, 3) := by decide +kernel
theorem dX11_covers_33 : decode cX11_covers 33 = .ok (.iload_n 1, 1) := by decide +kernel
theorem dX11_covers_34 : decode cX11_covers 34 = .ok (.invokevirtual 308, 3) := by decide +kernel
theorem dX11_covers_37 : decode cX11_covers 37 = .ok (.ireturn, 1) := by decide +kernel
theorem dX11_dies_0 : decode cX11_dies 0 = .ok (.aload_n 0, 1) := by decide +kernel
theorem dX11_dies_1 : decode cX11_dies 1 = .ok (.getfield 32, 3) := by decide +kernel
theorem dX11_dies_4 : decode cX11_dies 4 = .ok (.invokevirtual 227, 3) := by decide +kernel
theorem dX11_dies_7 : decode cX11_dies 7 = .ok (.ifCond .eq 6, 3) := by decide +kernel
theorem dX11_dies_10 : decode cX11_dies 10 = .ok (.bipush (-2), 2) := by decide +kernel
theorem dX11_dies_12 : decode cX11_dies 12 = .ok (.ireturn, 1) := by decide +kernel
theorem dX11_dies_13 : decode cX11_dies 13 = .ok (.aload_n 0, 1) := by decide +kernel
theorem dX11_dies_14 : decode cX11_dies 14 = .ok (.getfield 32, 3) := by decide +kernel
theorem dX11_dies_17 : decode cX11_dies 17 = .ok (.getfield 131, 3) := by decide +kernel
theorem dX11_dies_20 : decode cX11_dies 20 = .ok (.aload_n 0, 1) := by decide +kernel
theorem dX11_dies_21 : decode cX11_dies 21 = .ok (.getfield 50, 3) := by decide +kernel
theorem dX11_dies_24 : decode cX11_dies 24 = .ok (.invokevirtual 242, 3) := by decide +kernel
theorem dX11_dies_27 : decode cX11_dies 27 = .ok (.aload_n 0, 1) := by decide +kernel
theorem dX11_dies_28 : decode cX11_dies 28 = .ok (.getfield 32, 3) := by decide +kernel
theorem dX11_dies_31 : decode cX11_dies 31 = .ok (.getfield 233, 3) := by decide +kernel
theorem dX11_dies_34 : decode cX11_dies 34 = .ok (.aload_n 0, 1) := by decide +kernel
theorem dX11_dies_35 : decode cX11_dies 35 = .ok (.getfield 32, 3) := by decide +kernel
theorem dX11_dies_38 : decode cX11_dies 38 = .ok (.getfield 251, 3) := by decide +kernel
theorem dX11_dies_41 : decode cX11_dies 41 = .ok (.invokevirtual 268, 3) := by decide +kernel
theorem dX11_dies_44 : decode cX11_dies 44 = .ok (.ireturn, 1) := by decide +kernel
theorem dX11_district_0 : decode cX11_district 0 = .ok (.aload_n 0, 1) := by decide +kernel
theorem dX11_district_1 : decode cX11_district 1 = .ok (.getfield 32, 3) := by decide +kernel
theorem dX11_district_4 : decode cX11_district 4 = .ok (.iload_n 1, 1) := by decide +kernel
theorem dX11_district_5 : decode cX11_district 5 = .ok (.invokevirtual 161, 3) := by decide +kernel
theorem dX11_district_8 : decode cX11_district 8 = .ok (.ifCond .ne 6, 3) := by decide +kernel
theorem dX11_district_11 : decode cX11_district 11 = .ok (.bipush (-2), 2) := by decide +kernel
theorem dX11_district_13 : decode cX11_district 13 = .ok (.ireturn, 1) := by decide +kernel
theorem dX11_district_14 : decode cX11_district 14 = .ok (.iload_n 2, 1) := by decide +kernel
theorem dX11_district_15 : decode cX11_district 15 = .ok (.tableswitch 60 0 2 #[25, 35, 44], 25) := by decide +kernel
theorem dX11_district_40 : decode cX11_district 40 = .ok (.aload_n 0, 1) := by decide +kernel
theorem dX11_district_41 : decode cX11_district 41 = .ok (.getfield 32, 3) := by decide +kernel
theorem dX11_district_44 : decode cX11_district 44 = .ok (.getfield 164, 3) := by decide +kernel
theorem dX11_district_47 : decode cX11_district 47 = .ok (.iload_n 1, 1) := by decide +kernel
theorem dX11_district_48 : decode cX11_district 48 = .ok (.iaload, 1) := by decide +kernel
theorem dX11_district_49 : decode cX11_district 49 = .ok (.ireturn, 1) := by decide +kernel
theorem dX11_district_50 : decode cX11_district 50 = .ok (.aload_n 0, 1) := by decide +kernel
theorem dX11_district_51 : decode cX11_district 51 = .ok (.getfield 32, 3) := by decide +kernel
theorem dX11_district_54 : decode cX11_district 54 = .ok (.iload_n 1, 1) := by decide +kernel
theorem dX11_district_55 : decode cX11_district 55 = .ok (.invokevirtual 167, 3) := by decide +kernel
theorem dX11_district_58 : decode cX11_district 58 = .ok (.ireturn, 1) := by decide +kernel
theorem dX11_district_59 : decode cX11_district 59 = .ok (.aload_n 0, 1) := by decide +kernel
theorem dX11_district_60 : decode cX11_district 60 = .ok (.getfield 32, 3) := by decide +kernel
theorem dX11_district_63 : decode cX11_district 63 = .ok (.aload_n 0, 1) := by decide +kernel
theorem dX11_district_64 : decode cX11_district 64 = .ok (.getfield 32, 3) := by decide +kernel
theorem dX11_district_67 : decode cX11_district 67 = .ok (.iload_n 1, 1) := by decide +kernel
theorem dX11_district_68 : decode cX11_district 68 = .ok (.invokevirtual 171, 3) := by decide +kernel
theorem dX11_district_71 : decode cX11_district 71 = .ok (.invokevirtual 174, 3) := by decide +kernel
theorem dX11_district_74 : decode cX11_district 74 = .ok (.ireturn, 1) := by decide +kernel
theorem dX11_district_75 : decode cX11_district 75 = .ok (.bipush (-2), 2) := by decide +kernel
theorem dX11_district_77 : decode cX11_district 77 = .ok (.ireturn, 1) := by decide +kernel
theorem dX11_drawn_0 : decode cX11_drawn 0 = .ok (.iload_n 1, 1) := by decide +kernel
theorem dX11_drawn_1 : decode cX11_drawn 1 = .ok (.invokestatic 395, 3) := by decide +kernel
theorem dX11_drawn_4 : decode cX11_drawn 4 = .ok (.ifCond .eq 14, 3) := by decide +kernel
theorem dX11_drawn_7 : decode cX11_drawn 7 = .ok (.aload_n 0, 1) := by decide +kernel
theorem dX11_drawn_8 : decode cX11_drawn 8 = .ok (.getfield 32, 3) := by decide +kernel
theorem dX11_drawn_11 : decode cX11_drawn 11 = .ok (.iload_n 2, 1) := by decide +kernel
theorem dX11_drawn_12 : decode cX11_drawn 12 = .ok (.invokevirtual 161, 3) := by decide +kernel
theorem dX11_drawn_15 : decode cX11_drawn 15 = .ok (.ifCond .ne 6, 3) := by decide +kernel
theorem dX11_drawn_18 : decode cX11_drawn 18 = .ok (.bipush (-2), 2) := by decide +kernel
theorem dX11_drawn_20 : decode cX11_drawn 20 = .ok (.ireturn, 1) := by decide +kernel
theorem dX11_drawn_21 : decode cX11_drawn 21 = .ok (.aload_n 0, 1) := by decide +kernel
theorem dX11_drawn_22 : decode cX11_drawn 22 = .ok (.getfield 50, 3) := by decide +kernel
theorem dX11_drawn_25 : decode cX11_drawn 25 = .ok (.iload_n 1, 1) := by decide +kernel
theorem dX11_drawn_26 : decode cX11_drawn 26 = .ok (.iload_n 2, 1) := by decide +kernel
theorem dX11_drawn_27 : decode cX11_drawn 27 = .ok (.invokevirtual 398, 3) := by decide +kernel
theorem dX11_drawn_30 : decode cX11_drawn 30 = .ok (.ireturn, 1) := by decide +kernel
theorem dX11_dumb_0 : decode cX11_dumb 0 = .ok (.aload_n 0, 1) := by decide +kernel
theorem dX11_dumb_1 : decode cX11_dumb 1 = .ok (.getfield 32, 3) := by decide +kernel
theorem dX11_dumb_4 : decode cX11_dumb 4 = .ok (.invokevirtual 227, 3) := by decide +kernel
theorem dX11_dumb_7 : decode cX11_dumb 7 = .ok (.ifCond .eq 6, 3) := by decide +kernel
theorem dX11_dumb_10 : decode cX11_dumb 10 = .ok (.bipush (-2), 2) := by decide +kernel
theorem dX11_dumb_12 : decode cX11_dumb 12 = .ok (.ireturn, 1) := by decide +kernel
theorem dX11_dumb_13 : decode cX11_dumb 13 = .ok (.aload_n 0, 1) := by decide +kernel
theorem dX11_dumb_14 : decode cX11_dumb 14 = .ok (.getfield 57, 3) := by decide +kernel
theorem dX11_dumb_17 : decode cX11_dumb 17 = .ok (.aload_n 0, 1) := by decide +kernel
theorem dX11_dumb_18 : decode cX11_dumb 18 = .ok (.getfield 32, 3) := by decide +kernel
theorem dX11_dumb_21 : decode cX11_dumb 21 = .ok (.getfield 131, 3) := by decide +kernel
theorem dX11_dumb_24 : decode cX11_dumb 24 = .ok (.getfield 245, 3) := by decide +kernel
theorem dX11_dumb_27 : decode cX11_dumb 27 = .ok (.invokevirtual 275, 3) := by decide +kernel
theorem dX11_dumb_30 : decode cX11_dumb 30 = .ok (.aload_n 0, 1) := by decide +kernel
theorem dX11_dumb_31 : decode cX11_dumb 31 = .ok (.getfield 57, 3) := by decide +kernel
theorem dX11_dumb_34 : decode cX11_dumb 34 = .ok (.invokevirtual 290, 3) := by decide +kernel
theorem dX11_dumb_37 : decode cX11_dumb 37 = .ok (.ireturn, 1) := by decide +kernel
theorem dX11_elected_0 : decode cX11_elected 0 = .ok (.aload_n 0, 1) := by decide +kernel
theorem dX11_elected_1 : decode cX11_elected 1 = .ok (.getfield 32, 3) := by decide +kernel
theorem dX11_elected_4 : decode cX11_elected 4 = .ok (.invokevirtual 227, 3) := by decide +kernel
theorem dX11_elected_7 : decode cX11_elected 7 = .ok (.ifCond .eq 8, 3) := by decide +kernel
theorem dX11_elected_10 : decode cX11_elected 10 = .ok (.bipush (-2), 2) := by decide +kernel
theorem dX11_elected_12 : decode cX11_elected 12 = .ok (.goto 10, 3) := by decide +kernel
theorem dX11_elected_15 : decode cX11_elected 15 = .ok (.aload_n 0, 1) := by decide +kernel
theorem dX11_elected_16 : decode cX11_elected 16 = .ok (.getfield 50, 3) := by decide +kernel
theorem dX11_elected_19 : decode cX11_elected 19 = .ok (.invokevirtual 242, 3) := by decide +kernel
theorem dX11_elected_22 : decode cX11_elected 22 = .ok (.ireturn, 1) := by decide +kernel
theorem dX11_end_0 : decode cX11_end 0 = .ok (.iload_n 1, 1) := by decide +kernel
theorem dX11_end_1 : decode cX11_end 1 = .ok (.ifCond .lt 14, 3) := by decide +kernel
theorem dX11_end_4 : decode cX11_end 4 = .ok (.iload_n 1, 1) := by decide +kernel
theorem dX11_end_5 : decode cX11_end 5 = .ok (.aload_n 0, 1) := by decide +kernel
theorem dX11_end_6 : decode cX11_end 6 = .ok (.getfield 10, 3) := by decide +kernel
theorem dX11_end_9 : decode cX11_end 9 = .ok (.getfield 95, 3) := by decide +kernel
theorem dX11_end_12 : decode cX11_end 12 = .ok (.if_icmp .le 5, 3) := by decide +kernel
theorem dX11_end_15 : decode cX11_end 15 = .ok (.iconst (-1), 1) := by decide +kernel
theorem dX11_end_16 : decode cX11_end 16 = .ok (.ireturn, 1) := by decide +kernel
theorem dX11_end_17 : decode cX11_end 17 = .ok (.aload_n 0, 1) := by decide +kernel
theorem dX11_end_18 : decode cX11_end 18 = .ok (.getfield 10, 3) := by decide +kernel
theorem dX11_end_21 : decode cX11_end 21 = .ok (.iload_n 1, 1) := by decide +kernel
theorem dX11_end_22 : decode cX11_end 22 = .ok (.putfield 95, 3) := by decide +kernel
theorem dX11_end_25 : decode cX11_end 25 = .ok (.iload_n 1, 1) := by decide +kernel
theorem dX11_end_26 : decode cX11_end 26 = .ok (.ireturn, 1) := by decide +kernel
theorem dX11_fault_0 : decode cX11_fault 0 = .ok (.iload_n 1, 1) := by decide +kernel
theorem dX11_fault_1 : decode cX11_fault 1 = .ok (.lookupswitch 43 #[(0, 27), (1, 35)], 27) := by decide +kernel
theorem dX11_fault_28 : decode cX11_fault 28 = .ok (.aload_n 0, 1) := by decide +kernel
theorem dX11_fault_29 : decode cX11_fault 29 = .ok (.getfield 28, 3) := by decide +kernel
theorem dX11_fault_32 : decode cX11_fault 32 = .ok (.getfield 102, 3) := by decide +kernel
theorem dX11_fault_35 : decode cX11_fault 35 = .ok (.ireturn, 1) := by decide +kernel
theorem dX11_fault_36 : decode cX11_fault 36 = .ok (.aload_n 0, 1) := by decide +kernel
theorem dX11_fault_37 : decode cX11_fault 37 = .ok (.getfield 28, 3) := by decide +kernel
theorem dX11_fault_40 : decode cX11_fault 40 = .ok (.getfield 111, 3) := by decide +kernel
theorem dX11_fault_43 : decode cX11_fault 43 = .ok (.ireturn, 1) := by decide +kernel
theorem dX11_fault_44 : decode cX11_fault 44 = .ok (.iconst (-1), 1) := by decide +kernel
theorem dX11_fault_45 : decode cX11_fault 45 = .ok (.ireturn, 1) := by decide +kernel
theorem dX11_feed_0 : decode cX11_feed 0 = .ok (.aload_n 0, 1) := by decide +kernel
theorem dX11_feed_1 : decode cX11_feed 1 = .ok (.getfield 10, 3) := by decide +kernel
theorem dX11_feed_4 : decode cX11_feed 4 = .ok (.invokevirtual 87, 3) := by decide +kernel
theorem dX11_feed_7 : decode cX11_feed 7 = .ok (.ifCond .ne 5, 3) := by decide +kernel
theorem dX11_feed_10 : decode cX11_feed 10 = .ok (.iconst (-1), 1) := by decide +kernel
theorem dX11_feed_11 : decode cX11_feed 11 = .ok (.ireturn, 1) := by decide +kernel
theorem dX11_feed_12 : decode cX11_feed 12 = .ok (.aload_n 0, 1) := by decide +kernel
theorem dX11_feed_13 : decode cX11_feed 13 = .ok (.getfield 10, 3) := by decide +kernel
theorem dX11_feed_16 : decode cX11_feed 16 = .ok (.iload_n 1, 1) := by decide +kernel
theorem dX11_feed_17 : decode cX11_feed 17 = .ok (.invokevirtual 91, 3) := by decide +kernel
theorem dX11_feed_20 : decode cX11_feed 20 = .ok (.aload_n 0, 1) := by decide +kernel
theorem dX11_feed_21 : decode cX11_feed 21 = .ok (.getfield 10, 3) := by decide +kernel
theorem dX11_feed_24 : decode cX11_feed 24 = .ok (.iload_n 2, 1) := by decide +kernel
theorem dX11_feed_25 : decode cX11_feed 25 = .ok (.invokevirtual 91, 3) := by decide +kernel
theorem dX11_feed_28 : decode cX11_feed 28 = .ok (.aload_n 0, 1) := by decide +kernel
theorem dX11_feed_29 : decode cX11_feed 29 = .ok (.getfield 10, 3) := by decide +kernel
theorem dX11_feed_32 : decode cX11_feed 32 = .ok (.iload_n 3, 1) := by decide +kernel
theorem dX11_feed_33 : decode cX11_feed 33 = .ok (.invokevirtual 91, 3) := by decide +kernel
theorem dX11_feed_36 : decode cX11_feed 36 = .ok (.aload_n 0, 1) := by decide +kernel
theorem dX11_feed_37 : decode cX11_feed 37 = .ok (.getfield 10, 3) := by decide +kernel
theorem dX11_feed_40 : decode cX11_feed 40 = .ok (.iload 4, 2) := by decide +kernel
theorem dX11_feed_42 : decode cX11_feed 42 = .ok (.invokevirtual 91, 3) := by decide +kernel
theorem dX11_feed_45 : decode cX11_feed 45 = .ok (.aload_n 0, 1) := by decide +kernel
theorem dX11_feed_46 : decode cX11_feed 46 = .ok (.getfield 10, 3) := by decide +kernel
theorem dX11_feed_49 : decode cX11_feed 49 = .ok (.iload 5, 2) := by decide +kernel
theorem dX11_feed_51 : decode cX11_feed 51 = .ok (.invokevirtual 91, 3) := by decide +kernel
theorem dX11_feed_54 : decode cX11_feed 54 = .ok (.aload_n 0, 1) := by decide +kernel
theorem dX11_feed_55 : decode cX11_feed 55 = .ok (.getfield 10, 3) := by decide +kernel
theorem dX11_feed_58 : decode cX11_feed 58 = .ok (.getfield 95, 3) := by decide +kernel
theorem dX11_feed_61 : decode cX11_feed 61 = .ok (.ireturn, 1) := by decide +kernel
theorem dX11_feint_0 : decode cX11_feint 0 = .ok (.aload_n 0, 1) := by decide +kernel
theorem dX11_feint_1 : decode cX11_feint 1 = .ok (.getfield 32, 3) := by decide +kernel
theorem dX11_feint_4 : decode cX11_feint 4 = .ok (.iload_n 1, 1) := by decide +kernel
theorem dX11_feint_5 : decode cX11_feint 5 = .ok (.invokevirtual 147, 3) := by decide +kernel
theorem dX11_feint_8 : decode cX11_feint 8 = .ok (.ifCond .ne 6, 3) := by decide +kernel
theorem dX11_feint_11 : decode cX11_feint 11 = .ok (.bipush (-2), 2) := by decide +kernel
theorem dX11_feint_13 : decode cX11_feint 13 = .ok (.ireturn, 1) := by decide +kernel
theorem dX11_feint_14 : decode cX11_feint 14 = .ok (.aload_n 0, 1) := by decide +kernel
theorem dX11_feint_15 : decode cX11_feint 15 = .ok (.getfield 50, 3) := by decide +kernel
theorem dX11_feint_18 : decode cX11_feint 18 = .ok (.iload_n 1, 1) := by decide +kernel
theorem dX11_feint_19 : decode cX11_feint 19 = .ok (.invokevirtual 314, 3) := by decide +kernel
theorem dX11_feint_22 : decode cX11_feint 22 = .ok (.aload_n 0, 1) := by decide +kernel
theorem dX11_feint_23 : decode cX11_feint 23 = .ok (.getfield 50, 3) := by decide +kernel
theorem dX11_feint_26 : decode cX11_feint 26 = .ok (.getfield 317, 3) := by decide +kernel
theorem dX11_feint_29 : decode cX11_feint 29 = .ok (.ireturn, 1) := by decide +kernel
theorem dX11_filledSlots_0 : decode cX11_filledSlots 0 = .ok (.iconst 0, 1) := by decide +kernel
theorem dX11_filledSlots_1 : decode cX11_filledSlots 1 = .ok (.istore_n 1, 1) := by decide +kernel
theorem dX11_filledSlots_2 : decode cX11_filledSlots 2 = .ok (.iconst 0, 1) := by decide +kernel
theorem dX11_filledSlots_3 : decode cX11_filledSlots 3 = .ok (.istore_n 2, 1) := by decide +kernel
theorem dX11_filledSlots_4 : decode cX11_filledSlots 4 = .ok (.iload_n 2, 1) := by decide +kernel
theorem dX11_filledSlots_5 : decode cX11_filledSlots 5 = .ok (.iconst 4, 1) := by decide +kernel
theorem dX11_filledSlots_6 : decode cX11_filledSlots 6 = .ok (.if_icmp .ge 24, 3) := by decide +kernel
theorem dX11_filledSlots_9 : decode cX11_filledSlots 9 = .ok (.aload_n 0, 1) := by decide +kernel
theorem dX11_filledSlots_10 : decode cX11_filledSlots 10 = .ok (.getfield 41, 3) := by decide +kernel
theorem dX11_filledSlots_13 : decode cX11_filledSlots 13 = .ok (.iload_n 2, 1) := by decide +kernel
theorem dX11_filledSlots_14 : decode cX11_filledSlots 14 = .ok (.aaload, 1) := by decide +kernel
theorem dX11_filledSlots_15 : decode cX11_filledSlots 15 = .ok (.invokevirtual 423, 3) := by decide +kernel
theorem dX11_filledSlots_18 : decode cX11_filledSlots 18 = .ok (.ifCond .ne 6, 3) := by decide +kernel
theorem dX11_filledSlots_21 : decode cX11_filledSlots 21 = .ok (.iinc 1 1, 3) := by decide +kernel
theorem dX11_filledSlots_24 : decode cX11_filledSlots 24 = .ok (.iinc 2 1, 3) := by decide +kernel
theorem dX11_filledSlots_27 : decode cX11_filledSlots 27 = .ok (.goto (-23), 3) := by decide +kernel
theorem dX11_filledSlots_30 : decode cX11_filledSlots 30 = .ok (.iload_n 1, 1) := by decide +kernel
theorem dX11_filledSlots_31 : decode cX11_filledSlots 31 = .ok (.ireturn, 1) := by decide +kernel
theorem dX11_gains_0 : decode cX11_gains 0 = .ok (.aload_n 0, 1) := by decide +kernel
theorem dX11_gains_1 : decode cX11_gains 1 = .ok (.getfield 32, 3) := by decide +kernel
theorem dX11_gains_4 : decode cX11_gains 4 = .ok (.iload_n 1, 1) := by decide +kernel
theorem dX11_gains_5 : decode cX11_gains 5 = .ok (.invokevirtual 147, 3) := by decide +kernel
theorem dX11_gains_8 : decode cX11_gains 8 = .ok (.ifCond .ne 6, 3) := by decide +kernel
theorem dX11_gains_11 : decode cX11_gains 11 = .ok (.bipush (-2), 2) := by decide +kernel
theorem dX11_gains_13 : decode cX11_gains 13 = .ok (.ireturn, 1) := by decide +kernel
theorem dX11_gains_14 : decode cX11_gains 14 = .ok (.aload_n 0, 1) := by decide +kernel
theorem dX11_gains_15 : decode cX11_gains 15 = .ok (.getfield 50, 3) := by decide +kernel
theorem dX11_gains_18 : decode cX11_gains 18 = .ok (.iload_n 1, 1) := by decide +kernel
theorem dX11_gains_19 : decode cX11_gains 19 = .ok (.invokevirtual 314, 3) := by decide +kernel
theorem dX11_gains_22 : decode cX11_gains 22 = .ok (.aload_n 0, 1) := by decide +kernel
theorem dX11_gains_23 : decode cX11_gains 23 = .ok (.getfield 50, 3) := by decide +kernel
theorem dX11_gains_26 : decode cX11_gains 26 = .ok (.getfield 320, 3) := by decide +kernel
theorem dX11_gains_29 : decode cX11_gains 29 = .ok (.ireturn, 1) := by decide +kernel
theorem dX11_house_0 : decode cX11_house 0 = .ok (.aload_n 0, 1) := by decide +kernel
theorem dX11_house_1 : decode cX11_house 1 = .ok (.getfield 32, 3) := by decide +kernel
theorem dX11_house_4 : decode cX11_house 4 = .ok (.invokevirtual 227, 3) := by decide +kernel
theorem dX11_house_7 : decode cX11_house 7 = .ok (.ifCond .eq 8, 3) := by decide +kernel
theorem dX11_house_10 : decode cX11_house 10 = .ok (.bipush (-2), 2) := by decide +kernel
theorem dX11_house_12 : decode cX11_house 12 = .ok (.goto 17, 3) := by decide +kernel
theorem dX11_house_15 : decode cX11_house 15 = .ok (.aload_n 0, 1) := by decide +kernel
theorem dX11_house_16 : decode cX11_house 16 = .ok (.getfield 57, 3) := by decide +kernel
theorem dX11_house_19 : decode cX11_house 19 = .ok (.aload_n 0, 1) := by decide +kernel
theorem dX11_house_20 : decode cX11_house 20 = .ok (.getfield 57, 3) := by decide +kernel
theorem dX11_house_23 : decode cX11_house 23 = .ok (.invokevirtual 311, 3) := by decide +kernel
theorem dX11_house_26 : decode cX11_house 26 = .ok (.invokevirtual 296, 3) := by decide +kernel
theorem dX11_house_29 : decode cX11_house 29 = .ok (.ireturn, 1) := by decide +kernel
theorem dX11_housed_0 : decode cX11_housed 0 = .ok (.aload_n 0, 1) := by decide +kernel
theorem dX11_housed_1 : decode cX11_housed 1 = .ok (.getfield 32, 3) := by decide +kernel
theorem dX11_housed_4 : decode cX11_housed 4 = .ok (.invokevirtual 227, 3) := by decide +kernel
theorem dX11_housed_7 : decode cX11_housed 7 = .ok (.ifCond .eq 8, 3) := by decide +kernel
theorem dX11_housed_10 : decode cX11_housed 10 = .ok (.bipush (-2), 2) := by decide +kernel
theorem dX11_housed_12 : decode cX11_housed 12 = .ok (.goto 10, 3) := by decide +kernel
theorem dX11_housed_15 : decode cX11_housed 15 = .ok (.aload_n 0, 1) := by decide +kernel
theorem dX11_housed_16 : decode cX11_housed 16 = .ok (.getfield 57, 3) := by decide +kernel
theorem dX11_housed_19 : decode cX11_housed 19 = .ok (.invokevirtual 311, 3) := by decide +kernel
theorem dX11_housed_22 : decode cX11_housed 22 = .ok (.ireturn, 1) := by decide +kernel
theorem dX11_image_0 : decode cX11_image 0 = .ok (.iload_n 1, 1) := by decide +kernel
theorem dX11_image_1 : decode cX11_image 1 = .ok (.ifCond .lt 8, 3) := by decide +kernel
theorem dX11_image_4 : decode cX11_image 4 = .ok (.iload_n 1, 1) := by decide +kernel
theorem dX11_image_5 : decode cX11_image 5 = .ok (.iconst 3, 1) := by decide +kernel
theorem dX11_image_6 : decode cX11_image 6 = .ok (.if_icmp .lt 6, 3) := by decide +kernel
theorem dX11_image_9 : decode cX11_image 9 = .ok (.bipush (-2), 2) := by decide +kernel
theorem dX11_image_11 : decode cX11_image 11 = .ok (.ireturn, 1) := by decide +kernel
theorem dX11_image_12 : decode cX11_image 12 = .ok (.aload_n 0, 1) := by decide +kernel
theorem dX11_image_13 : decode cX11_image 13 = .ok (.getfield 35, 3) := by decide +kernel
theorem dX11_image_16 : decode cX11_image 16 = .ok (.iload_n 1, 1) := by decide +kernel
theorem dX11_image_17 : decode cX11_image 17 = .ok (.aaload, 1) := by decide +kernel
theorem dX11_image_18 : decode cX11_image 18 = .ok (.aload_n 0, 1) := by decide +kernel
theorem dX11_image_19 : decode cX11_image 19 = .ok (.getfield 32, 3) := by decide +kernel
theorem dX11_image_22 : decode cX11_image 22 = .ok (.invokevirtual 105, 3) := by decide +kernel
theorem dX11_image_25 : decode cX11_image 25 = .ok (.aload_n 0, 1) := by decide +kernel
theorem dX11_image_26 : decode cX11_image 26 = .ok (.dup, 1) := by decide +kernel
theorem dX11_image_27 : decode cX11_image 27 = .ok (.getfield 413, 3) := by decide +kernel
theorem dX11_image_30 : decode cX11_image 30 = .ok (.iconst 1, 1) := by decide +kernel
theorem dX11_image_31 : decode cX11_image 31 = .ok (.iload_n 1, 1) := by decide +kernel
theorem dX11_image_32 : decode cX11_image 32 = .ok (.ishl, 1) := by decide +kernel
theorem dX11_image_33 : decode cX11_image 33 = .ok (.ior, 1) := by decide +kernel
theorem dX11_image_34 : decode cX11_image 34 = .ok (.putfield 413, 3) := by decide +kernel
theorem dX11_image_37 : decode cX11_image 37 = .ok (.iconst 0, 1) := by decide +kernel
theorem dX11_image_38 : decode cX11_image 38 = .ok (.ireturn, 1) := by decide +kernel
theorem dX11_isLaw_0 : decode cX11_isLaw 0 = .ok (.iload_n 0, 1) := by decide +kernel
theorem dX11_isLaw_1 : decode cX11_isLaw 1 = .ok (.ifCond .lt 12, 3) := by decide +kernel
theorem dX11_isLaw_4 : decode cX11_isLaw 4 = .ok (.iload_n 0, 1) := by decide +kernel
theorem dX11_isLaw_5 : decode cX11_isLaw 5 = .ok (.iconst 4, 1) := by decide +kernel
theorem dX11_isLaw_6 : decode cX11_isLaw 6 = .ok (.if_icmp .ge 7, 3) := by decide +kernel
theorem dX11_isLaw_9 : decode cX11_isLaw 9 = .ok (.iconst 1, 1) := by decide +kernel
theorem dX11_isLaw_10 : decode cX11_isLaw 10 = .ok (.goto 4, 3) := by decide +kernel
theorem dX11_isLaw_13 : decode cX11_isLaw 13 = .ok (.iconst 0, 1) := by decide +kernel
theorem dX11_isLaw_14 : decode cX11_isLaw 14 = .ok (.ireturn, 1) := by decide +kernel
theorem dX11_isParty_0 : decode cX11_isParty 0 = .ok (.iload_n 0, 1) := by decide +kernel
theorem dX11_isParty_1 : decode cX11_isParty 1 = .ok (.ifCond .lt 12, 3) := by decide +kernel
theorem dX11_isParty_4 : decode cX11_isParty 4 = .ok (.iload_n 0, 1) := by decide +kernel
theorem dX11_isParty_5 : decode cX11_isParty 5 = .ok (.iconst 4, 1) := by decide +kernel
theorem dX11_isParty_6 : decode cX11_isParty 6 = .ok (.if_icmp .ge 7, 3) := by decide +kernel
theorem dX11_isParty_9 : decode cX11_isParty 9 = .ok (.iconst 1, 1) := by decide +kernel
theorem dX11_isParty_10 : decode cX11_isParty 10 = .ok (.goto 4, 3) := by decide +kernel
theorem dX11_isParty_13 : decode cX11_isParty 13 = .ok (.iconst 0, 1) := by decide +kernel
theorem dX11_isParty_14 : decode cX11_isParty 14 = .ok (.ireturn, 1) := by decide +kernel
theorem dX11_isSeed_0 : decode cX11_isSeed 0 = .ok (.iload_n 0, 1) := by decide +kernel
theorem dX11_isSeed_1 : decode cX11_isSeed 1 = .ok (.ifCond .lt 14, 3) := by decide +kernel
theorem dX11_isSeed_4 : decode cX11_isSeed 4 = .ok (.iload_n 0, 1) := by decide +kernel
theorem dX11_isSeed_5 : decode cX11_isSeed 5 = .ok (.ldc_w 451, 3) := by decide +kernel
theorem dX11_isSeed_8 : decode cX11_isSeed 8 = .ok (.if_icmp .gt 7, 3) := by decide +kernel
theorem dX11_isSeed_11 : decode cX11_isSeed 11 = .ok (.iconst 1, 1) := by decide +kernel
theorem dX11_isSeed_12 : decode cX11_isSeed 12 = .ok (.goto 4, 3) := by decide +kernel
theorem dX11_isSeed_15 : decode cX11_isSeed 15 = .ok (.iconst 0, 1) := by decide +kernel
theorem dX11_isSeed_16 : decode cX11_isSeed 16 = .ok (.ireturn, 1) := by decide +kernel
theorem dX11_isSet_0 : decode cX11_isSet 0 = .ok (.iload_n 0, 1) := by decide +kernel
theorem dX11_isSet_1 : decode cX11_isSet 1 = .ok (.ifCond .lt 14, 3) := by decide +kernel
theorem dX11_isSet_4 : decode cX11_isSet 4 = .ok (.iload_n 0, 1) := by decide +kernel
theorem dX11_isSet_5 : decode cX11_isSet 5 = .ok (.iconst 1, 1) := by decide +kernel
theorem dX11_isSet_6 : decode cX11_isSet 6 = .ok (.iload_n 1, 1) := by decide +kernel
theorem dX11_isSet_7 : decode cX11_isSet 7 = .ok (.ishl, 1) := by decide +kernel
theorem dX11_isSet_8 : decode cX11_isSet 8 = .ok (.if_icmp .ge 7, 3) := by decide +kernel
theorem dX11_isSet_11 : decode cX11_isSet 11 = .ok (.iconst 1, 1) := by decide +kernel
theorem dX11_isSet_12 : decode cX11_isSet 12 = .ok (.goto 4, 3) := by decide +kernel
theorem dX11_isSet_15 : decode cX11_isSet 15 = .ok (.iconst 0, 1) := by decide +kernel
theorem dX11_isSet_16 : decode cX11_isSet 16 = .ok (.ireturn, 1) := by decide +kernel
theorem dX11_isSlot_0 : decode cX11_isSlot 0 = .ok (.iload_n 0, 1) := by decide +kernel
theorem dX11_isSlot_1 : decode cX11_isSlot 1 = .ok (.ifCond .lt 12, 3) := by decide +kernel
theorem dX11_isSlot_4 : decode cX11_isSlot 4 = .ok (.iload_n 0, 1) := by decide +kernel
theorem dX11_isSlot_5 : decode cX11_isSlot 5 = .ok (.iconst 4, 1) := by decide +kernel
theorem dX11_isSlot_6 : decode cX11_isSlot 6 = .ok (.if_icmp .ge 7, 3) := by decide +kernel
theorem dX11_isSlot_9 : decode cX11_isSlot 9 = .ok (.iconst 1, 1) := by decide +kernel
theorem dX11_isSlot_10 : decode cX11_isSlot 10 = .ok (.goto 4, 3) := by decide +kernel
theorem dX11_isSlot_13 : decode cX11_isSlot 13 = .ok (.iconst 0, 1) := by decide +kernel
theorem dX11_isSlot_14 : decode cX11_isSlot 14 = .ok (.ireturn, 1) := by decide +kernel
theorem dX11_least_0 : decode cX11_least 0 = .ok (.aload_n 0, 1) := by decide +kernel
theorem dX11_least_1 : decode cX11_least 1 = .ok (.getfield 32, 3) := by decide +kernel
theorem dX11_least_4 : decode cX11_least 4 = .ok (.iload_n 1, 1) := by decide +kernel
theorem dX11_least_5 : decode cX11_least 5 = .ok (.invokevirtual 272, 3) := by decide +kernel
theorem dX11_least_8 : decode cX11_least 8 = .ok (.ifCond .ne 6, 3) := by decide +kernel
theorem dX11_least_11 : decode cX11_least 11 = .ok (.bipush (-2), 2) := by decide +kernel
theorem dX11_least_13 : decode cX11_least 13 = .ok (.ireturn, 1) := by decide +kernel
theorem dX11_least_14 : decode cX11_least 14 = .ok (.aload_n 0, 1) := by decide +kernel
theorem dX11_least_15 : decode cX11_least 15 = .ok (.getfield 57, 3) := by decide +kernel
theorem dX11_least_18 : decode cX11_least 18 = .ok (.aload_n 0, 1) := by decide +kernel
theorem dX11_least_19 : decode cX11_least 19 = .ok (.getfield 32, 3) := by decide +kernel
theorem dX11_least_22 : decode cX11_least 22 = .ok (.getfield 131, 3) := by decide +kernel
theorem dX11_least_25 : decode cX11_least 25 = .ok (.getfield 245, 3) := by decide +kernel
theorem dX11_least_28 : decode cX11_least 28 = .ok (.invokevirtual 275, 3) := by decide +kernel
theorem dX11_least_31 : decode cX11_least 31 = .ok (.aload_n 0, 1) := by decide +kernel
theorem dX11_least_32 : decode cX11_least 32 = .ok (.getfield 57, 3) := by decide +kernel
theorem dX11_least_35 : decode cX11_least 35 = .ok (.aload_n 0, 1) := by decide +kernel
theorem dX11_least_36 : decode cX11_least 36 = .ok (.getfield 57, 3) := by decide +kernel
theorem dX11_least_39 : decode cX11_least 39 = .ok (.getfield 284, 3) := by decide +kernel
theorem dX11_least_42 : decode cX11_least 42 = .ok (.iload_n 1, 1) := by decide +kernel
theorem dX11_least_43 : decode cX11_least 43 = .ok (.iaload, 1) := by decide +kernel
theorem dX11_least_44 : decode cX11_least 44 = .ok (.invokevirtual 281, 3) := by decide +kernel
theorem dX11_least_47 : decode cX11_least 47 = .ok (.ireturn, 1) := by decide +kernel
theorem dX11_led_0 : decode cX11_led 0 = .ok (.aload_n 0, 1) := by decide +kernel
theorem dX11_led_1 : decode cX11_led 1 = .ok (.getfield 32, 3) := by decide +kernel
theorem dX11_led_4 : decode cX11_led 4 = .ok (.invokevirtual 227, 3) := by decide +kernel
theorem dX11_led_7 : decode cX11_led 7 = .ok (.ifCond .eq 6, 3) := by decide +kernel
theorem dX11_led_10 : decode cX11_led 10 = .ok (.bipush (-2), 2) := by decide +kernel
theorem dX11_led_12 : decode cX11_led 12 = .ok (.ireturn, 1) := by decide +kernel
theorem dX11_led_13 : decode cX11_led 13 = .ok (.iload_n 1, 1) := by decide +kernel
theorem dX11_led_14 : decode cX11_led 14 = .ok (.ifCond .lt 17, 3) := by decide +kernel
theorem dX11_led_17 : decode cX11_led 17 = .ok (.iload_n 1, 1) := by decide +kernel
theorem dX11_led_18 : decode cX11_led 18 = .ok (.aload_n 0, 1) := by decide +kernel
theorem dX11_led_19 : decode cX11_led 19 = .ok (.getfield 32, 3) := by decide +kernel
theorem dX11_led_22 : decode cX11_led 22 = .ok (.getfield 131, 3) := by decide +kernel
theorem dX11_led_25 : decode cX11_led 25 = .ok (.getfield 248, 3) := by decide +kernel
theorem dX11_led_28 : decode cX11_led 28 = .ok (.if_icmp .lt 7, 3) := by decide +kernel
theorem dX11_led_31 : decode cX11_led 31 = .ok (.iconst (-1), 1) := by decide +kernel
theorem dX11_led_32 : decode cX11_led 32 = .ok (.goto 15, 3) := by decide +kernel
theorem dX11_led_35 : decode cX11_led 35 = .ok (.aload_n 0, 1) := by decide +kernel
theorem dX11_led_36 : decode cX11_led 36 = .ok (.getfield 32, 3) := by decide +kernel
theorem dX11_led_39 : decode cX11_led 39 = .ok (.getfield 131, 3) := by decide +kernel
theorem dX11_led_42 : decode cX11_led 42 = .ok (.getfield 265, 3) := by decide +kernel
theorem dX11_led_45 : decode cX11_led 45 = .ok (.iload_n 1, 1) := by decide +kernel
theorem dX11_led_46 : decode cX11_led 46 = .ok (.iaload, 1) := by decide +kernel
theorem dX11_led_47 : decode cX11_led 47 = .ok (.ireturn, 1) := by decide +kernel
theorem dX11_likes_0 : decode cX11_likes 0 = .ok (.aload_n 0, 1) := by decide +kernel
theorem dX11_likes_1 : decode cX11_likes 1 = .ok (.getfield 32, 3) := by decide +kernel
theorem dX11_likes_4 : decode cX11_likes 4 = .ok (.iload_n 1, 1) := by decide +kernel
theorem dX11_likes_5 : decode cX11_likes 5 = .ok (.invokevirtual 147, 3) := by decide +kernel
theorem dX11_likes_8 : decode cX11_likes 8 = .ok (.ifCond .eq 14, 3) := by decide +kernel
theorem dX11_likes_11 : decode cX11_likes 11 = .ok (.aload_n 0, 1) := by decide +kernel
theorem dX11_likes_12 : decode cX11_likes 12 = .ok (.getfield 32, 3) := by decide +kernel
theorem dX11_likes_15 : decode cX11_likes 15 = .ok (.iload_n 2, 1) := by decide +kernel
theorem dX11_likes_16 : decode cX11_likes 16 = .ok (.invokevirtual 114, 3) := by decide +kernel
theorem dX11_likes_19 : decode cX11_likes 19 = .ok (.ifCond .ne 6, 3) := by decide +kernel
theorem dX11_likes_22 : decode cX11_likes 22 = .ok (.bipush (-2), 2) := by decide +kernel
theorem dX11_likes_24 : decode cX11_likes 24 = .ok (.ireturn, 1) := by decide +kernel
theorem dX11_likes_25 : decode cX11_likes 25 = .ok (.aload_n 0, 1) := by decide +kernel
theorem dX11_likes_26 : decode cX11_likes 26 = .ok (.getfield 32, 3) := by decide +kernel
theorem dX11_likes_29 : decode cX11_likes 29 = .ok (.iload_n 1, 1) := by decide +kernel
theorem dX11_likes_30 : decode cX11_likes 30 = .ok (.iload_n 2, 1) := by decide +kernel
theorem dX11_likes_31 : decode cX11_likes 31 = .ok (.invokevirtual 177, 3) := by decide +kernel
theorem dX11_likes_34 : decode cX11_likes 34 = .ok (.ireturn, 1) := by decide +kernel
theorem dX11_lists_0 : decode cX11_lists 0 = .ok (.aload_n 0, 1) := by decide +kernel
theorem dX11_lists_1 : decode cX11_lists 1 = .ok (.getfield 32, 3) := by decide +kernel
theorem dX11_lists_4 : decode cX11_lists 4 = .ok (.invokevirtual 227, 3) := by decide +kernel
theorem dX11_lists_7 : decode cX11_lists 7 = .ok (.ifCond .ne 20, 3) := by decide +kernel
theorem dX11_lists_10 : decode cX11_lists 10 = .ok (.iload_n 1, 1) := by decide +kernel
theorem dX11_lists_11 : decode cX11_lists 11 = .ok (.ifCond .lt 16, 3) := by decide +kernel
theorem dX11_lists_14 : decode cX11_lists 14 = .ok (.iload_n 1, 1) := by decide +kernel
theorem dX11_lists_15 : decode cX11_lists 15 = .ok (.bipush 20, 2) := by decide +kernel
theorem dX11_lists_17 : decode cX11_lists 17 = .ok (.if_icmp .gt 10, 3) := by decide +kernel
theorem dX11_lists_20 : decode cX11_lists 20 = .ok (.iload_n 2, 1) := by decide +kernel
theorem dX11_lists_21 : decode cX11_lists 21 = .ok (.invokestatic 326, 3) := by decide +kernel
theorem dX11_lists_24 : decode cX11_lists 24 = .ok (.ifCond .ne 6, 3) := by decide +kernel
theorem dX11_lists_27 : decode cX11_lists 27 = .ok (.bipush (-2), 2) := by decide +kernel
theorem dX11_lists_29 : decode cX11_lists 29 = .ok (.ireturn, 1) := by decide +kernel
theorem dX11_lists_30 : decode cX11_lists 30 = .ok (.aload_n 0, 1) := by decide +kernel
theorem dX11_lists_31 : decode cX11_lists 31 = .ok (.getfield 64, 3) := by decide +kernel
theorem dX11_lists_34 : decode cX11_lists 34 = .ok (.aload_n 0, 1) := by decide +kernel
theorem dX11_lists_35 : decode cX11_lists 35 = .ok (.getfield 50, 3) := by decide +kernel
theorem dX11_lists_38 : decode cX11_lists 38 = .ok (.invokevirtual 347, 3) := by decide +kernel
theorem dX11_lists_41 : decode cX11_lists 41 = .ok (.aload_n 0, 1) := by decide +kernel
theorem dX11_lists_42 : decode cX11_lists 42 = .ok (.getfield 64, 3) := by decide +kernel
theorem dX11_lists_45 : decode cX11_lists 45 = .ok (.iload_n 1, 1) := by decide +kernel
theorem dX11_lists_46 : decode cX11_lists 46 = .ok (.invokevirtual 351, 3) := by decide +kernel
theorem dX11_lists_49 : decode cX11_lists 49 = .ok (.aload_n 0, 1) := by decide +kernel
theorem dX11_lists_50 : decode cX11_lists 50 = .ok (.getfield 64, 3) := by decide +kernel
theorem dX11_lists_53 : decode cX11_lists 53 = .ok (.getfield 354, 3) := by decide +kernel
theorem dX11_lists_56 : decode cX11_lists 56 = .ok (.iload_n 2, 1) := by decide +kernel
theorem dX11_lists_57 : decode cX11_lists 57 = .ok (.iaload, 1) := by decide +kernel
theorem dX11_lists_58 : decode cX11_lists 58 = .ok (.ireturn, 1) := by decide +kernel
theorem dX11_majority_0 : decode cX11_majority 0 = .ok (.aload_n 0, 1) := by decide +kernel
theorem dX11_majority_1 : decode cX11_majority 1 = .ok (.getfield 32, 3) := by decide +kernel
theorem dX11_majority_4 : decode cX11_majority 4 = .ok (.invokevirtual 227, 3) := by decide +kernel
theorem dX11_majority_7 : decode cX11_majority 7 = .ok (.ifCond .ne 11, 3) := by decide +kernel
theorem dX11_majority_10 : decode cX11_majority 10 = .ok (.iload_n 1, 1) := by decide +kernel
theorem dX11_majority_11 : decode cX11_majority 11 = .ok (.iconst 4, 1) := by decide +kernel
theorem dX11_majority_12 : decode cX11_majority 12 = .ok (.invokestatic 299, 3) := by decide +kernel
theorem dX11_majority_15 : decode cX11_majority 15 = .ok (.ifCond .ne 6, 3) := by decide +kernel
theorem dX11_majority_18 : decode cX11_majority 18 = .ok (.bipush (-2), 2) := by decide +kernel
theorem dX11_majority_20 : decode cX11_majority 20 = .ok (.ireturn, 1) := by decide +kernel
theorem dX11_majority_21 : decode cX11_majority 21 = .ok (.aload_n 0, 1) := by decide +kernel
theorem dX11_majority_22 : decode cX11_majority 22 = .ok (.getfield 64, 3) := by decide +kernel
theorem dX11_majority_25 : decode cX11_majority 25 = .ok (.iload_n 1, 1) := by decide +kernel
theorem dX11_majority_26 : decode cX11_majority 26 = .ok (.invokevirtual 332, 3) := by decide +kernel
theorem dX11_majority_29 : decode cX11_majority 29 = .ok (.ifCond .eq 7, 3) := by decide +kernel
theorem dX11_majority_32 : decode cX11_majority 32 = .ok (.iconst 1, 1) := by decide +kernel
theorem dX11_majority_33 : decode cX11_majority 33 = .ok (.goto 4, 3) := by decide +kernel
theorem dX11_majority_36 : decode cX11_majority 36 = .ok (.iconst 0, 1) := by decide +kernel
theorem dX11_majority_37 : decode cX11_majority 37 = .ok (.ireturn, 1) := by decide +kernel
theorem dX11_need_0 : decode cX11_need 0 = .ok (.aload_n 0, 1) := by decide +kernel
theorem dX11_need_1 : decode cX11_need 1 = .ok (.getfield 32, 3) := by decide +kernel
theorem dX11_need_4 : decode cX11_need 4 = .ok (.iload_n 1, 1) := by decide +kernel
theorem dX11_need_5 : decode cX11_need 5 = .ok (.invokevirtual 147, 3) := by decide +kernel
theorem dX11_need_8 : decode cX11_need 8 = .ok (.ifCond .eq 22, 3) := by decide +kernel
theorem dX11_need_11 : decode cX11_need 11 = .ok (.iload_n 2, 1) := by decide +kernel
theorem dX11_need_12 : decode cX11_need 12 = .ok (.iconst 1, 1) := by decide +kernel
theorem dX11_need_13 : decode cX11_need 13 = .ok (.if_icmp .lt 17, 3) := by decide +kernel
theorem dX11_need_16 : decode cX11_need 16 = .ok (.iload_n 2, 1) := by decide +kernel
theorem dX11_need_17 : decode cX11_need 17 = .ok (.aload_n 0, 1) := by decide +kernel
theorem dX11_need_18 : decode cX11_need 18 = .ok (.getfield 32, 3) := by decide +kernel
theorem dX11_need_21 : decode cX11_need 21 = .ok (.getfield 305, 3) := by decide +kernel
theorem dX11_need_24 : decode cX11_need 24 = .ok (.invokestatic 299, 3) := by decide +kernel
theorem dX11_need_27 : decode cX11_need 27 = .ok (.ifCond .ne 6, 3) := by decide +kernel
theorem dX11_need_30 : decode cX11_need 30 = .ok (.bipush (-2), 2) := by decide +kernel
theorem dX11_need_32 : decode cX11_need 32 = .ok (.ireturn, 1) := by decide +kernel
theorem dX11_need_33 : decode cX11_need 33 = .ok (.aload_n 0, 1) := by decide +kernel
theorem dX11_need_34 : decode cX11_need 34 = .ok (.getfield 32, 3) := by decide +kernel
theorem dX11_need_37 : decode cX11_need 37 = .ok (.getfield 158, 3) := by decide +kernel
theorem dX11_need_40 : decode cX11_need 40 = .ok (.iload_n 1, 1) := by decide +kernel
theorem dX11_need_41 : decode cX11_need 41 = .ok (.iaload, 1) := by decide +kernel
theorem dX11_need_42 : decode cX11_need 42 = .ok (.istore_n 3, 1) := by decide +kernel
theorem dX11_need_43 : decode cX11_need 43 = .ok (.aload_n 0, 1) := by decide +kernel
theorem dX11_need_44 : decode cX11_need 44 = .ok (.getfield 32, 3) := by decide +kernel
theorem dX11_need_47 : decode cX11_need 47 = .ok (.getfield 158, 3) := by decide +kernel
theorem dX11_need_50 : decode cX11_need 50 = .ok (.iload_n 1, 1) := by decide +kernel
theorem dX11_need_51 : decode cX11_need 51 = .ok (.iload_n 2, 1) := by decide +kernel
theorem dX11_need_52 : decode cX11_need 52 = .ok (.iastore, 1) := by decide +kernel
theorem dX11_need_53 : decode cX11_need 53 = .ok (.iload_n 3, 1) := by decide +kernel
theorem dX11_need_54 : decode cX11_need 54 = .ok (.ireturn, 1) := by decide +kernel
theorem dX11_order_0 : decode cX11_order 0 = .ok (.aload_n 0, 1) := by decide +kernel
theorem dX11_order_1 : decode cX11_order 1 = .ok (.getfield 32, 3) := by decide +kernel
theorem dX11_order_4 : decode cX11_order 4 = .ok (.iload_n 1, 1) := by decide +kernel
theorem dX11_order_5 : decode cX11_order 5 = .ok (.invokevirtual 147, 3) := by decide +kernel
theorem dX11_order_8 : decode cX11_order 8 = .ok (.ifCond .ne 6, 3) := by decide +kernel
theorem dX11_order_11 : decode cX11_order 11 = .ok (.bipush (-2), 2) := by decide +kernel
theorem dX11_order_13 : decode cX11_order 13 = .ok (.ireturn, 1) := by decide +kernel
theorem dX11_order_14 : decode cX11_order 14 = .ok (.aload_n 0, 1) := by decide +kernel
theorem dX11_order_15 : decode cX11_order 15 = .ok (.getfield 50, 3) := by decide +kernel
theorem dX11_order_18 : decode cX11_order 18 = .ok (.aload_n 0, 1) := by decide +kernel
theorem dX11_order_19 : decode cX11_order 19 = .ok (.getfield 32, 3) := by decide +kernel
theorem dX11_order_22 : decode cX11_order 22 = .ok (.getfield 150, 3) := by decide +kernel
theorem dX11_order_25 : decode cX11_order 25 = .ok (.iload_n 1, 1) := by decide +kernel
theorem dX11_order_26 : decode cX11_order 26 = .ok (.iaload, 1) := by decide +kernel
theorem dX11_order_27 : decode cX11_order 27 = .ok (.invokevirtual 181, 3) := by decide +kernel
theorem dX11_order_30 : decode cX11_order 30 = .ok (.aload_n 0, 1) := by decide +kernel
theorem dX11_order_31 : decode cX11_order 31 = .ok (.getfield 50, 3) := by decide +kernel
theorem dX11_order_34 : decode cX11_order 34 = .ok (.iload_n 1, 1) := by decide +kernel
theorem dX11_order_35 : decode cX11_order 35 = .ok (.iload_n 2, 1) := by decide +kernel
theorem dX11_order_36 : decode cX11_order 36 = .ok (.invokevirtual 184, 3) := by decide +kernel
theorem dX11_order_39 : decode cX11_order 39 = .ok (.ireturn, 1) := by decide +kernel
theorem dX11_paste_0 : decode cX11_paste 0 = .ok (.iload_n 1, 1) := by decide +kernel
theorem dX11_paste_1 : decode cX11_paste 1 = .ok (.invokestatic 416, 3) := by decide +kernel
theorem dX11_paste_4 : decode cX11_paste 4 = .ok (.ifCond .eq 10, 3) := by decide +kernel
theorem dX11_paste_7 : decode cX11_paste 7 = .ok (.iload_n 3, 1) := by decide +kernel
theorem dX11_paste_8 : decode cX11_paste 8 = .ok (.invokestatic 416, 3) := by decide +kernel
theorem dX11_paste_11 : decode cX11_paste 11 = .ok (.ifCond .ne 6, 3) := by decide +kernel
theorem dX11_paste_14 : decode cX11_paste 14 = .ok (.bipush (-2), 2) := by decide +kernel
theorem dX11_paste_16 : decode cX11_paste 16 = .ok (.ireturn, 1) := by decide +kernel
theorem dX11_paste_17 : decode cX11_paste 17 = .ok (.aload_n 0, 1) := by decide +kernel
theorem dX11_paste_18 : decode cX11_paste 18 = .ok (.getfield 41, 3) := by decide +kernel
theorem dX11_paste_21 : decode cX11_paste 21 = .ok (.iload_n 1, 1) := by decide +kernel
theorem dX11_paste_22 : decode cX11_paste 22 = .ok (.aaload, 1) := by decide +kernel
theorem dX11_paste_23 : decode cX11_paste 23 = .ok (.astore 6, 2) := by decide +kernel
theorem dX11_paste_25 : decode cX11_paste 25 = .ok (.aload_n 0, 1) := by decide +kernel
theorem dX11_paste_26 : decode cX11_paste 26 = .ok (.getfield 41, 3) := by decide +kernel
theorem dX11_paste_29 : decode cX11_paste 29 = .ok (.iload_n 3, 1) := by decide +kernel
theorem dX11_paste_30 : decode cX11_paste 30 = .ok (.aaload, 1) := by decide +kernel
theorem dX11_paste_31 : decode cX11_paste 31 = .ok (.astore 7, 2) := by decide +kernel
theorem dX11_paste_33 : decode cX11_paste 33 = .ok (.aload 6, 2) := by decide +kernel
theorem dX11_paste_35 : decode cX11_paste 35 = .ok (.invokevirtual 423, 3) := by decide +kernel
theorem dX11_paste_38 : decode cX11_paste 38 = .ok (.ifCond .ne 11, 3) := by decide +kernel
theorem dX11_paste_41 : decode cX11_paste 41 = .ok (.aload 7, 2) := by decide +kernel
theorem dX11_paste_43 : decode cX11_paste 43 = .ok (.invokevirtual 423, 3) := by decide +kernel
theorem dX11_paste_46 : decode cX11_paste 46 = .ok (.ifCond .eq 6, 3) := by decide +kernel
theorem dX11_paste_49 : decode cX11_paste 49 = .ok (.bipush (-6), 2) := by decide +kernel
theorem dX11_paste_51 : decode cX11_paste 51 = .ok (.ireturn, 1) := by decide +kernel
theorem dX11_paste_52 : decode cX11_paste 52 = .ok (.aload 6, 2) := by decide +kernel
theorem dX11_paste_54 : decode cX11_paste 54 = .ok (.getfield 431, 3) := by decide +kernel
theorem dX11_paste_57 : decode cX11_paste 57 = .ok (.aload 7, 2) := by decide +kernel
theorem dX11_paste_59 : decode cX11_paste 59 = .ok (.getfield 431, 3) := by decide +kernel
theorem dX11_paste_62 : decode cX11_paste 62 = .ok (.if_icmp .eq 6, 3) := by decide +kernel
theorem dX11_paste_65 : decode cX11_paste 65 = .ok (.bipush (-8), 2) := by decide +kernel
theorem dX11_paste_67 : decode cX11_paste 67 = .ok (.ireturn, 1) := by decide +kernel
theorem dX11_paste_68 : decode cX11_paste 68 = .ok (.aload 6, 2) := by decide +kernel
theorem dX11_paste_70 : decode cX11_paste 70 = .ok (.iload_n 2, 1) := by decide +kernel
theorem dX11_paste_71 : decode cX11_paste 71 = .ok (.iload 5, 2) := by decide +kernel
theorem dX11_paste_73 : decode cX11_paste 73 = .ok (.invokevirtual 434, 3) := by decide +kernel
theorem dX11_paste_76 : decode cX11_paste 76 = .ok (.ifCond .eq 15, 3) := by decide +kernel
theorem dX11_paste_79 : decode cX11_paste 79 = .ok (.aload 7, 2) := by decide +kernel
theorem dX11_paste_81 : decode cX11_paste 81 = .ok (.iload 4, 2) := by decide +kernel
theorem dX11_paste_83 : decode cX11_paste 83 = .ok (.iload 5, 2) := by decide +kernel
theorem dX11_paste_85 : decode cX11_paste 85 = .ok (.invokevirtual 434, 3) := by decide +kernel
theorem dX11_paste_88 : decode cX11_paste 88 = .ok (.ifCond .ne 6, 3) := by decide +kernel
theorem dX11_paste_91 : decode cX11_paste 91 = .ok (.bipush (-7), 2) := by decide +kernel
theorem dX11_paste_93 : decode cX11_paste 93 = .ok (.ireturn, 1) := by decide +kernel
theorem dX11_paste_94 : decode cX11_paste 94 = .ok (.aload 6, 2) := by decide +kernel
theorem dX11_paste_96 : decode cX11_paste 96 = .ok (.getfield 437, 3) := by decide +kernel
theorem dX11_paste_99 : decode cX11_paste 99 = .ok (.iload_n 2, 1) := by decide +kernel
theorem dX11_paste_100 : decode cX11_paste 100 = .ok (.aload 7, 2) := by decide +kernel
theorem dX11_paste_102 : decode cX11_paste 102 = .ok (.getfield 437, 3) := by decide +kernel
theorem dX11_paste_105 : decode cX11_paste 105 = .ok (.iload 4, 2) := by decide +kernel
theorem dX11_paste_107 : decode cX11_paste 107 = .ok (.iload 5, 2) := by decide +kernel
theorem dX11_paste_109 : decode cX11_paste 109 = .ok (.invokestatic 441, 3) := by decide +kernel
theorem dX11_paste_112 : decode cX11_paste 112 = .ok (.iconst 0, 1) := by decide +kernel
theorem dX11_paste_113 : decode cX11_paste 113 = .ok (.ireturn, 1) := by decide +kernel
theorem dX11_put_0 : decode cX11_put 0 = .ok (.iload_n 1, 1) := by decide +kernel
theorem dX11_put_1 : decode cX11_put 1 = .ok (.invokestatic 326, 3) := by decide +kernel
theorem dX11_put_4 : decode cX11_put 4 = .ok (.ifCond .eq 24, 3) := by decide +kernel
theorem dX11_put_7 : decode cX11_put 7 = .ok (.aload_n 0, 1) := by decide +kernel
theorem dX11_put_8 : decode cX11_put 8 = .ok (.getfield 32, 3) := by decide +kernel
theorem dX11_put_11 : decode cX11_put 11 = .ok (.iload_n 2, 1) := by decide +kernel
theorem dX11_put_12 : decode cX11_put 12 = .ok (.invokevirtual 147, 3) := by decide +kernel
theorem dX11_put_15 : decode cX11_put 15 = .ok (.ifCond .eq 13, 3) := by decide +kernel
theorem dX11_put_18 : decode cX11_put 18 = .ok (.aload_n 0, 1) := by decide +kernel
theorem dX11_put_19 : decode cX11_put 19 = .ok (.getfield 32, 3) := by decide +kernel
theorem dX11_put_22 : decode cX11_put 22 = .ok (.getfield 230, 3) := by decide +kernel
theorem dX11_put_25 : decode cX11_put 25 = .ok (.ifCond .ne 6, 3) := by decide +kernel
theorem dX11_put_28 : decode cX11_put 28 = .ok (.bipush (-2), 2) := by decide +kernel
theorem dX11_put_30 : decode cX11_put 30 = .ok (.ireturn, 1) := by decide +kernel
theorem dX11_put_31 : decode cX11_put 31 = .ok (.aload_n 0, 1) := by decide +kernel
theorem dX11_put_32 : decode cX11_put 32 = .ok (.getfield 73, 3) := by decide +kernel
theorem dX11_put_35 : decode cX11_put 35 = .ok (.invokevirtual 357, 3) := by decide +kernel
theorem dX11_put_38 : decode cX11_put 38 = .ok (.ifCond .ne 5, 3) := by decide +kernel
theorem dX11_put_41 : decode cX11_put 41 = .ok (.iconst (-1), 1) := by decide +kernel
theorem dX11_put_42 : decode cX11_put 42 = .ok (.ireturn, 1) := by decide +kernel
theorem dX11_put_43 : decode cX11_put 43 = .ok (.aload_n 0, 1) := by decide +kernel
theorem dX11_put_44 : decode cX11_put 44 = .ok (.getfield 73, 3) := by decide +kernel
theorem dX11_put_47 : decode cX11_put 47 = .ok (.iload_n 1, 1) := by decide +kernel
theorem dX11_put_48 : decode cX11_put 48 = .ok (.invokevirtual 360, 3) := by decide +kernel
theorem dX11_put_51 : decode cX11_put 51 = .ok (.aload_n 0, 1) := by decide +kernel
theorem dX11_put_52 : decode cX11_put 52 = .ok (.getfield 73, 3) := by decide +kernel
theorem dX11_put_55 : decode cX11_put 55 = .ok (.iload_n 2, 1) := by decide +kernel
theorem dX11_put_56 : decode cX11_put 56 = .ok (.invokevirtual 366, 3) := by decide +kernel
theorem dX11_put_59 : decode cX11_put 59 = .ok (.ireturn, 1) := by decide +kernel
theorem dX11_restless_0 : decode cX11_restless 0 = .ok (.aload_n 0, 1) := by decide +kernel
theorem dX11_restless_1 : decode cX11_restless 1 = .ok (.getfield 32, 3) := by decide +kernel
theorem dX11_restless_4 : decode cX11_restless 4 = .ok (.invokevirtual 227, 3) := by decide +kernel
theorem dX11_restless_7 : decode cX11_restless 7 = .ok (.ifCond .eq 6, 3) := by decide +kernel
theorem dX11_restless_10 : decode cX11_restless 10 = .ok (.bipush (-2), 2) := by decide +kernel
theorem dX11_restless_12 : decode cX11_restless 12 = .ok (.ireturn, 1) := by decide +kernel
theorem dX11_restless_13 : decode cX11_restless 13 = .ok (.iconst 0, 1) := by decide +kernel
theorem dX11_restless_14 : decode cX11_restless 14 = .ok (.istore_n 1, 1) := by decide +kernel
theorem dX11_restless_15 : decode cX11_restless 15 = .ok (.iconst 0, 1) := by decide +kernel
theorem dX11_restless_16 : decode cX11_restless 16 = .ok (.istore_n 2, 1) := by decide +kernel
theorem dX11_restless_17 : decode cX11_restless 17 = .ok (.iload_n 2, 1) := by decide +kernel
theorem dX11_restless_18 : decode cX11_restless 18 = .ok (.aload_n 0, 1) := by decide +kernel
theorem dX11_restless_19 : decode cX11_restless 19 = .ok (.getfield 32, 3) := by decide +kernel
theorem dX11_restless_22 : decode cX11_restless 22 = .ok (.getfield 323, 3) := by decide +kernel
theorem dX11_restless_25 : decode cX11_restless 25 = .ok (.if_icmp .ge 34, 3) := by decide +kernel
theorem dX11_restless_28 : decode cX11_restless 28 = .ok (.aload_n 0, 1) := by decide +kernel
theorem dX11_restless_29 : decode cX11_restless 29 = .ok (.getfield 50, 3) := by decide +kernel
theorem dX11_restless_32 : decode cX11_restless 32 = .ok (.iload_n 2, 1) := by decide +kernel
theorem dX11_restless_33 : decode cX11_restless 33 = .ok (.invokevirtual 314, 3) := by decide +kernel
theorem dX11_restless_36 : decode cX11_restless 36 = .ok (.aload_n 0, 1) := by decide +kernel
theorem dX11_restless_37 : decode cX11_restless 37 = .ok (.getfield 50, 3) := by decide +kernel
theorem dX11_restless_40 : decode cX11_restless 40 = .ok (.getfield 317, 3) := by decide +kernel
theorem dX11_restless_43 : decode cX11_restless 43 = .ok (.iconst (-1), 1) := by decide +kernel
theorem dX11_restless_44 : decode cX11_restless 44 = .ok (.if_icmp .eq 9, 3) := by decide +kernel
theorem dX11_restless_47 : decode cX11_restless 47 = .ok (.iload_n 1, 1) := by decide +kernel
theorem dX11_restless_48 : decode cX11_restless 48 = .ok (.iconst 1, 1) := by decide +kernel
theorem dX11_restless_49 : decode cX11_restless 49 = .ok (.iload_n 2, 1) := by decide +kernel
theorem dX11_restless_50 : decode cX11_restless 50 = .ok (.ishl, 1) := by decide +kernel
theorem dX11_restless_51 : decode cX11_restless 51 = .ok (.ior, 1) := by decide +kernel
theorem dX11_restless_52 : decode cX11_restless 52 = .ok (.istore_n 1, 1) := by decide +kernel
theorem dX11_restless_53 : decode cX11_restless 53 = .ok (.iinc 2 1, 3) := by decide +kernel
theorem dX11_restless_56 : decode cX11_restless 56 = .ok (.goto (-39), 3) := by decide +kernel
theorem dX11_restless_59 : decode cX11_restless 59 = .ok (.iload_n 1, 1) := by decide +kernel
theorem dX11_restless_60 : decode cX11_restless 60 = .ok (.ireturn, 1) := by decide +kernel
theorem dX11_rigged_0 : decode cX11_rigged 0 = .ok (.iload_n 1, 1) := by decide +kernel
theorem dX11_rigged_1 : decode cX11_rigged 1 = .ok (.invokestatic 326, 3) := by decide +kernel
theorem dX11_rigged_4 : decode cX11_rigged 4 = .ok (.ifCond .eq 13, 3) := by decide +kernel
theorem dX11_rigged_7 : decode cX11_rigged 7 = .ok (.aload_n 0, 1) := by decide +kernel
theorem dX11_rigged_8 : decode cX11_rigged 8 = .ok (.getfield 32, 3) := by decide +kernel
theorem dX11_rigged_11 : decode cX11_rigged 11 = .ok (.getfield 230, 3) := by decide +kernel
theorem dX11_rigged_14 : decode cX11_rigged 14 = .ok (.ifCond .ne 6, 3) := by decide +kernel
theorem dX11_rigged_17 : decode cX11_rigged 17 = .ok (.bipush (-2), 2) := by decide +kernel
theorem dX11_rigged_19 : decode cX11_rigged 19 = .ok (.ireturn, 1) := by decide +kernel
theorem dX11_rigged_20 : decode cX11_rigged 20 = .ok (.aload_n 0, 1) := by decide +kernel
theorem dX11_rigged_21 : decode cX11_rigged 21 = .ok (.getfield 73, 3) := by decide +kernel
theorem dX11_rigged_24 : decode cX11_rigged 24 = .ok (.invokevirtual 357, 3) := by decide +kernel
theorem dX11_rigged_27 : decode cX11_rigged 27 = .ok (.ifCond .ne 5, 3) := by decide +kernel
theorem dX11_rigged_30 : decode cX11_rigged 30 = .ok (.iconst (-1), 1) := by decide +kernel
theorem dX11_rigged_31 : decode cX11_rigged 31 = .ok (.ireturn, 1) := by decide +kernel
theorem dX11_rigged_32 : decode cX11_rigged 32 = .ok (.aload_n 0, 1) := by decide +kernel
theorem dX11_rigged_33 : decode cX11_rigged 33 = .ok (.getfield 73, 3) := by decide +kernel
theorem dX11_rigged_36 : decode cX11_rigged 36 = .ok (.iload_n 1, 1) := by decide +kernel
theorem dX11_rigged_37 : decode cX11_rigged 37 = .ok (.invokevirtual 360, 3) := by decide +kernel
theorem dX11_rigged_40 : decode cX11_rigged 40 = .ok (.aload_n 0, 1) := by decide +kernel
theorem dX11_rigged_41 : decode cX11_rigged 41 = .ok (.getfield 73, 3) := by decide +kernel
theorem dX11_rigged_44 : decode cX11_rigged 44 = .ok (.getfield 363, 3) := by decide +kernel
theorem dX11_rigged_47 : decode cX11_rigged 47 = .ok (.ireturn, 1) := by decide +kernel
theorem dX11_round_0 : decode cX11_round 0 = .ok (.aload_n 0, 1) := by decide +kernel
theorem dX11_round_1 : decode cX11_round 1 = .ok (.getfield 32, 3) := by decide +kernel
theorem dX11_round_4 : decode cX11_round 4 = .ok (.iload_n 1, 1) := by decide +kernel
theorem dX11_round_5 : decode cX11_round 5 = .ok (.invokevirtual 272, 3) := by decide +kernel
theorem dX11_round_8 : decode cX11_round 8 = .ok (.ifCond .ne 6, 3) := by decide +kernel
theorem dX11_round_11 : decode cX11_round 11 = .ok (.bipush (-2), 2) := by decide +kernel
theorem dX11_round_13 : decode cX11_round 13 = .ok (.ireturn, 1) := by decide +kernel
theorem dX11_round_14 : decode cX11_round 14 = .ok (.aload_n 0, 1) := by decide +kernel
theorem dX11_round_15 : decode cX11_round 15 = .ok (.getfield 57, 3) := by decide +kernel
theorem dX11_round_18 : decode cX11_round 18 = .ok (.aload_n 0, 1) := by decide +kernel
theorem dX11_round_19 : decode cX11_round 19 = .ok (.getfield 32, 3) := by decide +kernel
theorem dX11_round_22 : decode cX11_round 22 = .ok (.getfield 131, 3) := by decide +kernel
theorem dX11_round_25 : decode cX11_round 25 = .ok (.getfield 245, 3) := by decide +kernel
theorem dX11_round_28 : decode cX11_round 28 = .ok (.invokevirtual 275, 3) := by decide +kernel
theorem dX11_round_31 : decode cX11_round 31 = .ok (.aload_n 0, 1) := by decide +kernel
theorem dX11_round_32 : decode cX11_round 32 = .ok (.getfield 57, 3) := by decide +kernel
theorem dX11_round_35 : decode cX11_round 35 = .ok (.iload_n 1, 1) := by decide +kernel
theorem dX11_round_36 : decode cX11_round 36 = .ok (.invokevirtual 287, 3) := by decide +kernel
theorem dX11_round_39 : decode cX11_round 39 = .ok (.ireturn, 1) := by decide +kernel
theorem dX11_row_0 : decode cX11_row 0 = .ok (.iload_n 1, 1) := by decide +kernel
theorem dX11_row_1 : decode cX11_row 1 = .ok (.invokestatic 416, 3) := by decide +kernel
theorem dX11_row_4 : decode cX11_row 4 = .ok (.ifCond .eq 18, 3) := by decide +kernel
theorem dX11_row_7 : decode cX11_row 7 = .ok (.iload_n 2, 1) := by decide +kernel
theorem dX11_row_8 : decode cX11_row 8 = .ok (.ifCond .lt 14, 3) := by decide +kernel
theorem dX11_row_11 : decode cX11_row 11 = .ok (.iload_n 2, 1) := by decide +kernel
theorem dX11_row_12 : decode cX11_row 12 = .ok (.iconst 4, 1) := by decide +kernel
theorem dX11_row_13 : decode cX11_row 13 = .ok (.if_icmp .ge 9, 3) := by decide +kernel
theorem dX11_row_16 : decode cX11_row 16 = .ok (.iload_n 3, 1) := by decide +kernel
theorem dX11_row_17 : decode cX11_row 17 = .ok (.bipush 60, 2) := by decide +kernel
theorem dX11_row_19 : decode cX11_row 19 = .ok (.if_icmp .le 6, 3) := by decide +kernel
theorem dX11_row_22 : decode cX11_row 22 = .ok (.bipush (-2), 2) := by decide +kernel
theorem dX11_row_24 : decode cX11_row 24 = .ok (.ireturn, 1) := by decide +kernel
theorem dX11_row_25 : decode cX11_row 25 = .ok (.iload_n 3, 1) := by decide +kernel
theorem dX11_row_26 : decode cX11_row 26 = .ok (.ifCond .ge 6, 3) := by decide +kernel
theorem dX11_row_29 : decode cX11_row 29 = .ok (.bipush (-3), 2) := by decide +kernel
theorem dX11_row_31 : decode cX11_row 31 = .ok (.ireturn, 1) := by decide +kernel
theorem dX11_row_32 : decode cX11_row 32 = .ok (.aload_n 0, 1) := by decide +kernel
theorem dX11_row_33 : decode cX11_row 33 = .ok (.getfield 41, 3) := by decide +kernel
theorem dX11_row_36 : decode cX11_row 36 = .ok (.iload_n 1, 1) := by decide +kernel
theorem dX11_row_37 : decode cX11_row 37 = .ok (.aaload, 1) := by decide +kernel
theorem dX11_row_38 : decode cX11_row 38 = .ok (.iload_n 2, 1) := by decide +kernel
theorem dX11_row_39 : decode cX11_row 39 = .ok (.iload_n 3, 1) := by decide +kernel
theorem dX11_row_40 : decode cX11_row 40 = .ok (.invokevirtual 419, 3) := by decide +kernel
theorem dX11_row_43 : decode cX11_row 43 = .ok (.iconst 0, 1) := by decide +kernel
theorem dX11_row_44 : decode cX11_row 44 = .ok (.ireturn, 1) := by decide +kernel
theorem dX11_said_0 : decode cX11_said 0 = .ok (.aload_n 0, 1) := by decide +kernel
theorem dX11_said_1 : decode cX11_said 1 = .ok (.getfield 32, 3) := by decide +kernel
theorem dX11_said_4 : decode cX11_said 4 = .ok (.iload_n 1, 1) := by decide +kernel
theorem dX11_said_5 : decode cX11_said 5 = .ok (.invokevirtual 272, 3) := by decide +kernel
theorem dX11_said_8 : decode cX11_said 8 = .ok (.ifCond .ne 6, 3) := by decide +kernel
theorem dX11_said_11 : decode cX11_said 11 = .ok (.bipush (-2), 2) := by decide +kernel
theorem dX11_said_13 : decode cX11_said 13 = .ok (.ireturn, 1) := by decide +kernel
theorem dX11_said_14 : decode cX11_said 14 = .ok (.aload_n 0, 1) := by decide +kernel
theorem dX11_said_15 : decode cX11_said 15 = .ok (.getfield 57, 3) := by decide +kernel
theorem dX11_said_18 : decode cX11_said 18 = .ok (.aload_n 0, 1) := by decide +kernel
theorem dX11_said_19 : decode cX11_said 19 = .ok (.getfield 32, 3) := by decide +kernel
theorem dX11_said_22 : decode cX11_said 22 = .ok (.getfield 131, 3) := by decide +kernel
theorem dX11_said_25 : decode cX11_said 25 = .ok (.getfield 245, 3) := by decide +kernel
theorem dX11_said_28 : decode cX11_said 28 = .ok (.invokevirtual 275, 3) := by decide +kernel
theorem dX11_said_31 : decode cX11_said 31 = .ok (.aload_n 0, 1) := by decide +kernel
theorem dX11_said_32 : decode cX11_said 32 = .ok (.getfield 57, 3) := by decide +kernel
theorem dX11_said_35 : decode cX11_said 35 = .ok (.aload_n 0, 1) := by decide +kernel
theorem dX11_said_36 : decode cX11_said 36 = .ok (.getfield 57, 3) := by decide +kernel
theorem dX11_said_39 : decode cX11_said 39 = .ok (.getfield 278, 3) := by decide +kernel
theorem dX11_said_42 : decode cX11_said 42 = .ok (.iload_n 1, 1) := by decide +kernel
theorem dX11_said_43 : decode cX11_said 43 = .ok (.iaload, 1) := by decide +kernel
theorem dX11_said_44 : decode cX11_said 44 = .ok (.invokevirtual 281, 3) := by decide +kernel
theorem dX11_said_47 : decode cX11_said 47 = .ok (.ireturn, 1) := by decide +kernel
theorem dX11_seats_0 : decode cX11_seats 0 = .ok (.aload_n 0, 1) := by decide +kernel
theorem dX11_seats_1 : decode cX11_seats 1 = .ok (.getfield 32, 3) := by decide +kernel
theorem dX11_seats_4 : decode cX11_seats 4 = .ok (.invokevirtual 227, 3) := by decide +kernel
theorem dX11_seats_7 : decode cX11_seats 7 = .ok (.ifCond .ne 10, 3) := by decide +kernel
theorem dX11_seats_10 : decode cX11_seats 10 = .ok (.iload_n 1, 1) := by decide +kernel
theorem dX11_seats_11 : decode cX11_seats 11 = .ok (.invokestatic 326, 3) := by decide +kernel
theorem dX11_seats_14 : decode cX11_seats 14 = .ok (.ifCond .ne 8, 3) := by decide +kernel
theorem dX11_seats_17 : decode cX11_seats 17 = .ok (.bipush (-2), 2) := by decide +kernel
theorem dX11_seats_19 : decode cX11_seats 19 = .ok (.goto 13, 3) := by decide +kernel
theorem dX11_seats_22 : decode cX11_seats 22 = .ok (.aload_n 0, 1) := by decide +kernel
theorem dX11_seats_23 : decode cX11_seats 23 = .ok (.getfield 64, 3) := by decide +kernel
theorem dX11_seats_26 : decode cX11_seats 26 = .ok (.iconst 1, 1) := by decide +kernel
theorem dX11_seats_27 : decode cX11_seats 27 = .ok (.iload_n 1, 1) := by decide +kernel
theorem dX11_seats_28 : decode cX11_seats 28 = .ok (.ishl, 1) := by decide +kernel
theorem dX11_seats_29 : decode cX11_seats 29 = .ok (.invokevirtual 329, 3) := by decide +kernel
theorem dX11_seats_32 : decode cX11_seats 32 = .ok (.ireturn, 1) := by decide +kernel
theorem dX11_share_0 : decode cX11_share 0 = .ok (.aload_n 0, 1) := by decide +kernel
theorem dX11_share_1 : decode cX11_share 1 = .ok (.getfield 32, 3) := by decide +kernel
theorem dX11_share_4 : decode cX11_share 4 = .ok (.invokevirtual 227, 3) := by decide +kernel
theorem dX11_share_7 : decode cX11_share 7 = .ok (.ifCond .ne 19, 3) := by decide +kernel
theorem dX11_share_10 : decode cX11_share 10 = .ok (.iload_n 1, 1) := by decide +kernel
theorem dX11_share_11 : decode cX11_share 11 = .ok (.invokestatic 326, 3) := by decide +kernel
theorem dX11_share_14 : decode cX11_share 14 = .ok (.ifCond .eq 12, 3) := by decide +kernel
theorem dX11_share_17 : decode cX11_share 17 = .ok (.iload_n 2, 1) := by decide +kernel
theorem dX11_share_18 : decode cX11_share 18 = .ok (.ifCond .lt 8, 3) := by decide +kernel
theorem dX11_share_21 : decode cX11_share 21 = .ok (.iload_n 2, 1) := by decide +kernel
theorem dX11_share_22 : decode cX11_share 22 = .ok (.iconst 1, 1) := by decide +kernel
theorem dX11_share_23 : decode cX11_share 23 = .ok (.if_icmp .le 6, 3) := by decide +kernel
theorem dX11_share_26 : decode cX11_share 26 = .ok (.bipush (-2), 2) := by decide +kernel
theorem dX11_share_28 : decode cX11_share 28 = .ok (.ireturn, 1) := by decide +kernel
theorem dX11_share_29 : decode cX11_share 29 = .ok (.aload_n 0, 1) := by decide +kernel
theorem dX11_share_30 : decode cX11_share 30 = .ok (.getfield 64, 3) := by decide +kernel
theorem dX11_share_33 : decode cX11_share 33 = .ok (.iload_n 1, 1) := by decide +kernel
theorem dX11_share_34 : decode cX11_share 34 = .ok (.invokevirtual 335, 3) := by decide +kernel
theorem dX11_share_37 : decode cX11_share 37 = .ok (.istore_n 3, 1) := by decide +kernel
theorem dX11_share_38 : decode cX11_share 38 = .ok (.iload_n 2, 1) := by decide +kernel
theorem dX11_share_39 : decode cX11_share 39 = .ok (.ifCond .ne 7, 3) := by decide +kernel
theorem dX11_share_42 : decode cX11_share 42 = .ok (.iload_n 3, 1) := by decide +kernel
theorem dX11_share_43 : decode cX11_share 43 = .ok (.goto 5, 3) := by decide +kernel
theorem dX11_share_46 : decode cX11_share 46 = .ok (.bipush 24, 2) := by decide +kernel
theorem dX11_share_48 : decode cX11_share 48 = .ok (.iload_n 3, 1) := by decide +kernel
theorem dX11_share_49 : decode cX11_share 49 = .ok (.invokestatic 338, 3) := by decide +kernel
theorem dX11_share_52 : decode cX11_share 52 = .ok (.idiv, 1) := by decide +kernel
theorem dX11_share_53 : decode cX11_share 53 = .ok (.ireturn, 1) := by decide +kernel
theorem dX11_sits_0 : decode cX11_sits 0 = .ok (.aload_n 0, 1) := by decide +kernel
theorem dX11_sits_1 : decode cX11_sits 1 = .ok (.getfield 32, 3) := by decide +kernel
theorem dX11_sits_4 : decode cX11_sits 4 = .ok (.iload_n 1, 1) := by decide +kernel
theorem dX11_sits_5 : decode cX11_sits 5 = .ok (.invokevirtual 161, 3) := by decide +kernel
theorem dX11_sits_8 : decode cX11_sits 8 = .ok (.ifCond .eq 10, 3) := by decide +kernel
theorem dX11_sits_11 : decode cX11_sits 11 = .ok (.iload_n 2, 1) := by decide +kernel
theorem dX11_sits_12 : decode cX11_sits 12 = .ok (.invokestatic 202, 3) := by decide +kernel
theorem dX11_sits_15 : decode cX11_sits 15 = .ok (.ifCond .ne 6, 3) := by decide +kernel
theorem dX11_sits_18 : decode cX11_sits 18 = .ok (.bipush (-2), 2) := by decide +kernel
theorem dX11_sits_20 : decode cX11_sits 20 = .ok (.ireturn, 1) := by decide +kernel
theorem dX11_sits_21 : decode cX11_sits 21 = .ok (.aload_n 0, 1) := by decide +kernel
theorem dX11_sits_22 : decode cX11_sits 22 = .ok (.getfield 50, 3) := by decide +kernel
theorem dX11_sits_25 : decode cX11_sits 25 = .ok (.iload_n 1, 1) := by decide +kernel
theorem dX11_sits_26 : decode cX11_sits 26 = .ok (.iload_n 2, 1) := by decide +kernel
theorem dX11_sits_27 : decode cX11_sits 27 = .ok (.invokevirtual 211, 3) := by decide +kernel
theorem dX11_sits_30 : decode cX11_sits 30 = .ok (.ireturn, 1) := by decide +kernel
theorem dX11_sitting_0 : decode cX11_sitting 0 = .ok (.aload_n 0, 1) := by decide +kernel
theorem dX11_sitting_1 : decode cX11_sitting 1 = .ok (.getfield 32, 3) := by decide +kernel
theorem dX11_sitting_4 : decode cX11_sitting 4 = .ok (.invokevirtual 227, 3) := by decide +kernel
theorem dX11_sitting_7 : decode cX11_sitting 7 = .ok (.ifCond .eq 8, 3) := by decide +kernel
theorem dX11_sitting_10 : decode cX11_sitting 10 = .ok (.bipush (-2), 2) := by decide +kernel
theorem dX11_sitting_12 : decode cX11_sitting 12 = .ok (.goto 13, 3) := by decide +kernel
theorem dX11_sitting_15 : decode cX11_sitting 15 = .ok (.aload_n 0, 1) := by decide +kernel
theorem dX11_sitting_16 : decode cX11_sitting 16 = .ok (.getfield 32, 3) := by decide +kernel
theorem dX11_sitting_19 : decode cX11_sitting 19 = .ok (.getfield 131, 3) := by decide +kernel
theorem dX11_sitting_22 : decode cX11_sitting 22 = .ok (.getfield 245, 3) := by decide +kernel
theorem dX11_sitting_25 : decode cX11_sitting 25 = .ok (.ireturn, 1) := by decide +kernel
theorem dX11_speaker_0 : decode cX11_speaker 0 = .ok (.aload_n 0, 1) := by decide +kernel
theorem dX11_speaker_1 : decode cX11_speaker 1 = .ok (.getfield 32, 3) := by decide +kernel
theorem dX11_speaker_4 : decode cX11_speaker 4 = .ok (.iload_n 1, 1) := by decide +kernel
theorem dX11_speaker_5 : decode cX11_speaker 5 = .ok (.invokevirtual 147, 3) := by decide +kernel
theorem dX11_speaker_8 : decode cX11_speaker 8 = .ok (.ifCond .ne 6, 3) := by decide +kernel
theorem dX11_speaker_11 : decode cX11_speaker 11 = .ok (.bipush (-2), 2) := by decide +kernel
theorem dX11_speaker_13 : decode cX11_speaker 13 = .ok (.ireturn, 1) := by decide +kernel
theorem dX11_speaker_14 : decode cX11_speaker 14 = .ok (.iload_n 2, 1) := by decide +kernel
theorem dX11_speaker_15 : decode cX11_speaker 15 = .ok (.tableswitch 69 0 3 #[29, 39, 49, 59], 29) := by decide +kernel
theorem dX11_speaker_44 : decode cX11_speaker 44 = .ok (.aload_n 0, 1) := by decide +kernel
theorem dX11_speaker_45 : decode cX11_speaker 45 = .ok (.getfield 32, 3) := by decide +kernel
theorem dX11_speaker_48 : decode cX11_speaker 48 = .ok (.getfield 150, 3) := by decide +kernel
theorem dX11_speaker_51 : decode cX11_speaker 51 = .ok (.iload_n 1, 1) := by decide +kernel
theorem dX11_speaker_52 : decode cX11_speaker 52 = .ok (.iaload, 1) := by decide +kernel
theorem dX11_speaker_53 : decode cX11_speaker 53 = .ok (.ireturn, 1) := by decide +kernel
theorem dX11_speaker_54 : decode cX11_speaker 54 = .ok (.aload_n 0, 1) := by decide +kernel
theorem dX11_speaker_55 : decode cX11_speaker 55 = .ok (.getfield 32, 3) := by decide +kernel
theorem dX11_speaker_58 : decode cX11_speaker 58 = .ok (.getfield 152, 3) := by decide +kernel
theorem dX11_speaker_61 : decode cX11_speaker 61 = .ok (.iload_n 1, 1) := by decide +kernel
theorem dX11_speaker_62 : decode cX11_speaker 62 = .ok (.iaload, 1) := by decide +kernel
theorem dX11_speaker_63 : decode cX11_speaker 63 = .ok (.ireturn, 1) := by decide +kernel
theorem dX11_speaker_64 : decode cX11_speaker 64 = .ok (.aload_n 0, 1) := by decide +kernel
theorem dX11_speaker_65 : decode cX11_speaker 65 = .ok (.getfield 32, 3) := by decide +kernel
theorem dX11_speaker_68 : decode cX11_speaker 68 = .ok (.getfield 155, 3) := by decide +kernel
theorem dX11_speaker_71 : decode cX11_speaker 71 = .ok (.iload_n 1, 1) := by decide +kernel
theorem dX11_speaker_72 : decode cX11_speaker 72 = .ok (.iaload, 1) := by decide +kernel
theorem dX11_speaker_73 : decode cX11_speaker 73 = .ok (.ireturn, 1) := by decide +kernel
theorem dX11_speaker_74 : decode cX11_speaker 74 = .ok (.aload_n 0, 1) := by decide +kernel
theorem dX11_speaker_75 : decode cX11_speaker 75 = .ok (.getfield 32, 3) := by decide +kernel
theorem dX11_speaker_78 : decode cX11_speaker 78 = .ok (.getfield 158, 3) := by decide +kernel
theorem dX11_speaker_81 : decode cX11_speaker 81 = .ok (.iload_n 1, 1) := by decide +kernel
theorem dX11_speaker_82 : decode cX11_speaker 82 = .ok (.iaload, 1) := by decide +kernel
theorem dX11_speaker_83 : decode cX11_speaker 83 = .ok (.ireturn, 1) := by decide +kernel
theorem dX11_speaker_84 : decode cX11_speaker 84 = .ok (.bipush (-2), 2) := by decide +kernel
theorem dX11_speaker_86 : decode cX11_speaker 86 = .ok (.ireturn, 1) := by decide +kernel
theorem dX11_spoilers_0 : decode cX11_spoilers 0 = .ok (.aload_n 0, 1) := by decide +kernel
theorem dX11_spoilers_1 : decode cX11_spoilers 1 = .ok (.getfield 32, 3) := by decide +kernel
theorem dX11_spoilers_4 : decode cX11_spoilers 4 = .ok (.invokevirtual 227, 3) := by decide +kernel
theorem dX11_spoilers_7 : decode cX11_spoilers 7 = .ok (.ifCond .eq 8, 3) := by decide +kernel
theorem dX11_spoilers_10 : decode cX11_spoilers 10 = .ok (.bipush (-2), 2) := by decide +kernel
theorem dX11_spoilers_12 : decode cX11_spoilers 12 = .ok (.goto 10, 3) := by decide +kernel
theorem dX11_spoilers_15 : decode cX11_spoilers 15 = .ok (.aload_n 0, 1) := by decide +kernel
theorem dX11_spoilers_16 : decode cX11_spoilers 16 = .ok (.getfield 50, 3) := by decide +kernel
theorem dX11_spoilers_19 : decode cX11_spoilers 19 = .ok (.invokevirtual 239, 3) := by decide +kernel
theorem dX11_spoilers_22 : decode cX11_spoilers 22 = .ok (.ireturn, 1) := by decide +kernel
theorem dX11_spoils_0 : decode cX11_spoils 0 = .ok (.aload_n 0, 1) := by decide +kernel
theorem dX11_spoils_1 : decode cX11_spoils 1 = .ok (.getfield 32, 3) := by decide +kernel
theorem dX11_spoils_4 : decode cX11_spoils 4 = .ok (.iload_n 1, 1) := by decide +kernel
theorem dX11_spoils_5 : decode cX11_spoils 5 = .ok (.invokevirtual 114, 3) := by decide +kernel
theorem dX11_spoils_8 : decode cX11_spoils 8 = .ok (.ifCond .eq 20, 3) := by decide +kernel
theorem dX11_spoils_11 : decode cX11_spoils 11 = .ok (.aload_n 0, 1) := by decide +kernel
theorem dX11_spoils_12 : decode cX11_spoils 12 = .ok (.getfield 32, 3) := by decide +kernel
theorem dX11_spoils_15 : decode cX11_spoils 15 = .ok (.getfield 131, 3) := by decide +kernel
theorem dX11_spoils_18 : decode cX11_spoils 18 = .ok (.getfield 140, 3) := by decide +kernel
theorem dX11_spoils_21 : decode cX11_spoils 21 = .ok (.iload_n 1, 1) := by decide +kernel
theorem dX11_spoils_22 : decode cX11_spoils 22 = .ok (.invokestatic 143, 3) := by decide +kernel
theorem dX11_spoils_25 : decode cX11_spoils 25 = .ok (.ifCond .eq 6, 3) := by decide +kernel
theorem dX11_spoils_28 : decode cX11_spoils 28 = .ok (.bipush (-2), 2) := by decide +kernel
theorem dX11_spoils_30 : decode cX11_spoils 30 = .ok (.ireturn, 1) := by decide +kernel
theorem dX11_spoils_31 : decode cX11_spoils 31 = .ok (.aload_n 0, 1) := by decide +kernel
theorem dX11_spoils_32 : decode cX11_spoils 32 = .ok (.getfield 50, 3) := by decide +kernel
theorem dX11_spoils_35 : decode cX11_spoils 35 = .ok (.iload_n 1, 1) := by decide +kernel
theorem dX11_spoils_36 : decode cX11_spoils 36 = .ok (.invokevirtual 236, 3) := by decide +kernel
theorem dX11_spoils_39 : decode cX11_spoils 39 = .ok (.ireturn, 1) := by decide +kernel
theorem dX11_stand_0 : decode cX11_stand 0 = .ok (.aload_n 0, 1) := by decide +kernel
theorem dX11_stand_1 : decode cX11_stand 1 = .ok (.getfield 32, 3) := by decide +kernel
theorem dX11_stand_4 : decode cX11_stand 4 = .ok (.iload_n 1, 1) := by decide +kernel
theorem dX11_stand_5 : decode cX11_stand 5 = .ok (.invokevirtual 114, 3) := by decide +kernel
theorem dX11_stand_8 : decode cX11_stand 8 = .ok (.ifCond .eq 14, 3) := by decide +kernel
theorem dX11_stand_11 : decode cX11_stand 11 = .ok (.aload_n 0, 1) := by decide +kernel
theorem dX11_stand_12 : decode cX11_stand 12 = .ok (.getfield 32, 3) := by decide +kernel
theorem dX11_stand_15 : decode cX11_stand 15 = .ok (.iload_n 2, 1) := by decide +kernel
theorem dX11_stand_16 : decode cX11_stand 16 = .ok (.invokevirtual 161, 3) := by decide +kernel
theorem dX11_stand_19 : decode cX11_stand 19 = .ok (.ifCond .ne 6, 3) := by decide +kernel
theorem dX11_stand_22 : decode cX11_stand 22 = .ok (.bipush (-2), 2) := by decide +kernel
theorem dX11_stand_24 : decode cX11_stand 24 = .ok (.ireturn, 1) := by decide +kernel
theorem dX11_stand_25 : decode cX11_stand 25 = .ok (.aload_n 0, 1) := by decide +kernel
theorem dX11_stand_26 : decode cX11_stand 26 = .ok (.getfield 32, 3) := by decide +kernel
theorem dX11_stand_29 : decode cX11_stand 29 = .ok (.getfield 131, 3) := by decide +kernel
theorem dX11_stand_32 : decode cX11_stand 32 = .ok (.getfield 248, 3) := by decide +kernel
theorem dX11_stand_35 : decode cX11_stand 35 = .ok (.ifCond .le 6, 3) := by decide +kernel
theorem dX11_stand_38 : decode cX11_stand 38 = .ok (.bipush (-5), 2) := by decide +kernel
theorem dX11_stand_40 : decode cX11_stand 40 = .ok (.ireturn, 1) := by decide +kernel
theorem dX11_stand_41 : decode cX11_stand 41 = .ok (.aload_n 0, 1) := by decide +kernel
theorem dX11_stand_42 : decode cX11_stand 42 = .ok (.getfield 32, 3) := by decide +kernel
theorem dX11_stand_45 : decode cX11_stand 45 = .ok (.getfield 122, 3) := by decide +kernel
theorem dX11_stand_48 : decode cX11_stand 48 = .ok (.iload_n 1, 1) := by decide +kernel
theorem dX11_stand_49 : decode cX11_stand 49 = .ok (.iaload, 1) := by decide +kernel
theorem dX11_stand_50 : decode cX11_stand 50 = .ok (.istore_n 3, 1) := by decide +kernel
theorem dX11_stand_51 : decode cX11_stand 51 = .ok (.aload_n 0, 1) := by decide +kernel
theorem dX11_stand_52 : decode cX11_stand 52 = .ok (.getfield 32, 3) := by decide +kernel
theorem dX11_stand_55 : decode cX11_stand 55 = .ok (.getfield 122, 3) := by decide +kernel
theorem dX11_stand_58 : decode cX11_stand 58 = .ok (.iload_n 1, 1) := by decide +kernel
theorem dX11_stand_59 : decode cX11_stand 59 = .ok (.iload_n 2, 1) := by decide +kernel
theorem dX11_stand_60 : decode cX11_stand 60 = .ok (.iastore, 1) := by decide +kernel
theorem dX11_stand_61 : decode cX11_stand 61 = .ok (.iload_n 3, 1) := by decide +kernel
theorem dX11_stand_62 : decode cX11_stand 62 = .ok (.ireturn, 1) := by decide +kernel
theorem dX11_struck_0 : decode cX11_struck 0 = .ok (.aload_n 0, 1) := by decide +kernel
theorem dX11_struck_1 : decode cX11_struck 1 = .ok (.getfield 32, 3) := by decide +kernel
theorem dX11_struck_4 : decode cX11_struck 4 = .ok (.iload_n 1, 1) := by decide +kernel
theorem dX11_struck_5 : decode cX11_struck 5 = .ok (.invokevirtual 161, 3) := by decide +kernel
theorem dX11_struck_8 : decode cX11_struck 8 = .ok (.ifCond .ne 6, 3) := by decide +kernel
theorem dX11_struck_11 : decode cX11_struck 11 = .ok (.bipush (-2), 2) := by decide +kernel
theorem dX11_struck_13 : decode cX11_struck 13 = .ok (.ireturn, 1) := by decide +kernel
theorem dX11_struck_14 : decode cX11_struck 14 = .ok (.aload_n 0, 1) := by decide +kernel
theorem dX11_struck_15 : decode cX11_struck 15 = .ok (.getfield 50, 3) := by decide +kernel
theorem dX11_struck_18 : decode cX11_struck 18 = .ok (.iload_n 1, 1) := by decide +kernel
theorem dX11_struck_19 : decode cX11_struck 19 = .ok (.invokevirtual 181, 3) := by decide +kernel
theorem dX11_struck_22 : decode cX11_struck 22 = .ok (.aload_n 0, 1) := by decide +kernel
theorem dX11_struck_23 : decode cX11_struck 23 = .ok (.getfield 50, 3) := by decide +kernel
theorem dX11_struck_26 : decode cX11_struck 26 = .ok (.iconst 2, 1) := by decide +kernel
theorem dX11_struck_27 : decode cX11_struck 27 = .ok (.invokevirtual 205, 3) := by decide +kernel
theorem dX11_struck_30 : decode cX11_struck 30 = .ok (.aload_n 0, 1) := by decide +kernel
theorem dX11_struck_31 : decode cX11_struck 31 = .ok (.getfield 50, 3) := by decide +kernel
theorem dX11_struck_34 : decode cX11_struck 34 = .ok (.iload_n 2, 1) := by decide +kernel
theorem dX11_struck_35 : decode cX11_struck 35 = .ok (.invokevirtual 217, 3) := by decide +kernel
theorem dX11_struck_38 : decode cX11_struck 38 = .ok (.ireturn, 1) := by decide +kernel
theorem dX11_synonyms_0 : decode cX11_synonyms 0 = .ok (.aload_n 0, 1) := by decide +kernel
theorem dX11_synonyms_1 : decode cX11_synonyms 1 = .ok (.getfield 32, 3) := by decide +kernel
theorem dX11_synonyms_4 : decode cX11_synonyms 4 = .ok (.iload_n 1, 1) := by decide +kernel
theorem dX11_synonyms_5 : decode cX11_synonyms 5 = .ok (.invokevirtual 114, 3) := by decide +kernel
theorem dX11_synonyms_8 : decode cX11_synonyms 8 = .ok (.ifCond .ne 6, 3) := by decide +kernel
theorem dX11_synonyms_11 : decode cX11_synonyms 11 = .ok (.bipush (-2), 2) := by decide +kernel
theorem dX11_synonyms_13 : decode cX11_synonyms 13 = .ok (.ireturn, 1) := by decide +kernel
theorem dX11_synonyms_14 : decode cX11_synonyms 14 = .ok (.iconst 0, 1) := by decide +kernel
theorem dX11_synonyms_15 : decode cX11_synonyms 15 = .ok (.istore_n 2, 1) := by decide +kernel
theorem dX11_synonyms_16 : decode cX11_synonyms 16 = .ok (.aload_n 0, 1) := by decide +kernel
theorem dX11_synonyms_17 : decode cX11_synonyms 17 = .ok (.getfield 32, 3) := by decide +kernel
theorem dX11_synonyms_20 : decode cX11_synonyms 20 = .ok (.aload_n 0, 1) := by decide +kernel
theorem dX11_synonyms_21 : decode cX11_synonyms 21 = .ok (.getfield 32, 3) := by decide +kernel
theorem dX11_synonyms_24 : decode cX11_synonyms 24 = .ok (.getfield 122, 3) := by decide +kernel
theorem dX11_synonyms_27 : decode cX11_synonyms 27 = .ok (.iload_n 1, 1) := by decide +kernel
theorem dX11_synonyms_28 : decode cX11_synonyms 28 = .ok (.iaload, 1) := by decide +kernel
theorem dX11_synonyms_29 : decode cX11_synonyms 29 = .ok (.invokevirtual 167, 3) := by decide +kernel
theorem dX11_synonyms_32 : decode cX11_synonyms 32 = .ok (.istore_n 3, 1) := by decide +kernel
theorem dX11_synonyms_33 : decode cX11_synonyms 33 = .ok (.iconst 0, 1) := by decide +kernel
theorem dX11_synonyms_34 : decode cX11_synonyms 34 = .ok (.istore 4, 2) := by decide +kernel
theorem dX11_synonyms_36 : decode cX11_synonyms 36 = .ok (.iload 4, 2) := by decide +kernel
theorem dX11_synonyms_38 : decode cX11_synonyms 38 = .ok (.aload_n 0, 1) := by decide +kernel
theorem dX11_synonyms_39 : decode cX11_synonyms 39 = .ok (.getfield 32, 3) := by decide +kernel
theorem dX11_synonyms_42 : decode cX11_synonyms 42 = .ok (.getfield 233, 3) := by decide +kernel
theorem dX11_synonyms_45 : decode cX11_synonyms 45 = .ok (.if_icmp .ge 53, 3) := by decide +kernel
theorem dX11_synonyms_48 : decode cX11_synonyms 48 = .ok (.iload 4, 2) := by decide +kernel
theorem dX11_synonyms_50 : decode cX11_synonyms 50 = .ok (.iload_n 1, 1) := by decide +kernel
theorem dX11_synonyms_51 : decode cX11_synonyms 51 = .ok (.if_icmp .eq 41, 3) := by decide +kernel
theorem dX11_synonyms_54 : decode cX11_synonyms 54 = .ok (.iload_n 3, 1) := by decide +kernel
theorem dX11_synonyms_55 : decode cX11_synonyms 55 = .ok (.iload 4, 2) := by decide +kernel
theorem dX11_synonyms_57 : decode cX11_synonyms 57 = .ok (.invokestatic 143, 3) := by decide +kernel
theorem dX11_synonyms_60 : decode cX11_synonyms 60 = .ok (.ifCond .eq 32, 3) := by decide +kernel
theorem dX11_synonyms_63 : decode cX11_synonyms 63 = .ok (.aload_n 0, 1) := by decide +kernel
theorem dX11_synonyms_64 : decode cX11_synonyms 64 = .ok (.getfield 32, 3) := by decide +kernel
theorem dX11_synonyms_67 : decode cX11_synonyms 67 = .ok (.getfield 128, 3) := by decide +kernel
theorem dX11_synonyms_70 : decode cX11_synonyms 70 = .ok (.iload 4, 2) := by decide +kernel
theorem dX11_synonyms_72 : decode cX11_synonyms 72 = .ok (.iaload, 1) := by decide +kernel
theorem dX11_synonyms_73 : decode cX11_synonyms 73 = .ok (.aload_n 0, 1) := by decide +kernel
theorem dX11_synonyms_74 : decode cX11_synonyms 74 = .ok (.getfield 32, 3) := by decide +kernel
theorem dX11_synonyms_77 : decode cX11_synonyms 77 = .ok (.getfield 128, 3) := by decide +kernel
theorem dX11_synonyms_80 : decode cX11_synonyms 80 = .ok (.iload_n 1, 1) := by decide +kernel
theorem dX11_synonyms_81 : decode cX11_synonyms 81 = .ok (.iaload, 1) := by decide +kernel
theorem dX11_synonyms_82 : decode cX11_synonyms 82 = .ok (.if_icmp .ne 10, 3) := by decide +kernel
theorem dX11_synonyms_85 : decode cX11_synonyms 85 = .ok (.iload_n 2, 1) := by decide +kernel
theorem dX11_synonyms_86 : decode cX11_synonyms 86 = .ok (.iconst 1, 1) := by decide +kernel
theorem dX11_synonyms_87 : decode cX11_synonyms 87 = .ok (.iload 4, 2) := by decide +kernel
theorem dX11_synonyms_89 : decode cX11_synonyms 89 = .ok (.ishl, 1) := by decide +kernel
theorem dX11_synonyms_90 : decode cX11_synonyms 90 = .ok (.ior, 1) := by decide +kernel
theorem dX11_synonyms_91 : decode cX11_synonyms 91 = .ok (.istore_n 2, 1) := by decide +kernel
theorem dX11_synonyms_92 : decode cX11_synonyms 92 = .ok (.iinc 4 1, 3) := by decide +kernel
theorem dX11_synonyms_95 : decode cX11_synonyms 95 = .ok (.goto (-59), 3) := by decide +kernel
theorem dX11_synonyms_98 : decode cX11_synonyms 98 = .ok (.iload_n 2, 1) := by decide +kernel
theorem dX11_synonyms_99 : decode cX11_synonyms 99 = .ok (.ireturn, 1) := by decide +kernel
theorem dX11_term_0 : decode cX11_term 0 = .ok (.aload_n 0, 1) := by decide +kernel
theorem dX11_term_1 : decode cX11_term 1 = .ok (.getfield 32, 3) := by decide +kernel
theorem dX11_term_4 : decode cX11_term 4 = .ok (.invokevirtual 227, 3) := by decide +kernel
theorem dX11_term_7 : decode cX11_term 7 = .ok (.ifCond .eq 6, 3) := by decide +kernel
theorem dX11_term_10 : decode cX11_term 10 = .ok (.bipush (-2), 2) := by decide +kernel
theorem dX11_term_12 : decode cX11_term 12 = .ok (.ireturn, 1) := by decide +kernel
theorem dX11_term_13 : decode cX11_term 13 = .ok (.aload_n 0, 1) := by decide +kernel
theorem dX11_term_14 : decode cX11_term 14 = .ok (.getfield 32, 3) := by decide +kernel
theorem dX11_term_17 : decode cX11_term 17 = .ok (.getfield 131, 3) := by decide +kernel
theorem dX11_term_20 : decode cX11_term 20 = .ok (.getfield 248, 3) := by decide +kernel
theorem dX11_term_23 : decode cX11_term 23 = .ok (.bipush 60, 2) := by decide +kernel
theorem dX11_term_25 : decode cX11_term 25 = .ok (.if_icmp .lt 6, 3) := by decide +kernel
theorem dX11_term_28 : decode cX11_term 28 = .ok (.bipush (-5), 2) := by decide +kernel
theorem dX11_term_30 : decode cX11_term 30 = .ok (.ireturn, 1) := by decide +kernel
theorem dX11_term_31 : decode cX11_term 31 = .ok (.aload_n 0, 1) := by decide +kernel
theorem dX11_term_32 : decode cX11_term 32 = .ok (.getfield 32, 3) := by decide +kernel
theorem dX11_term_35 : decode cX11_term 35 = .ok (.getfield 131, 3) := by decide +kernel
theorem dX11_term_38 : decode cX11_term 38 = .ok (.aload_n 0, 1) := by decide +kernel
theorem dX11_term_39 : decode cX11_term 39 = .ok (.getfield 50, 3) := by decide +kernel
theorem dX11_term_42 : decode cX11_term 42 = .ok (.invokevirtual 242, 3) := by decide +kernel
theorem dX11_term_45 : decode cX11_term 45 = .ok (.aload_n 0, 1) := by decide +kernel
theorem dX11_term_46 : decode cX11_term 46 = .ok (.getfield 32, 3) := by decide +kernel
theorem dX11_term_49 : decode cX11_term 49 = .ok (.getfield 233, 3) := by decide +kernel
theorem dX11_term_52 : decode cX11_term 52 = .ok (.aload_n 0, 1) := by decide +kernel
theorem dX11_term_53 : decode cX11_term 53 = .ok (.getfield 32, 3) := by decide +kernel
theorem dX11_term_56 : decode cX11_term 56 = .ok (.getfield 251, 3) := by decide +kernel
theorem dX11_term_59 : decode cX11_term 59 = .ok (.invokevirtual 254, 3) := by decide +kernel
theorem dX11_term_62 : decode cX11_term 62 = .ok (.aload_n 0, 1) := by decide +kernel
theorem dX11_term_63 : decode cX11_term 63 = .ok (.getfield 32, 3) := by decide +kernel
theorem dX11_term_66 : decode cX11_term 66 = .ok (.getfield 131, 3) := by decide +kernel
theorem dX11_term_69 : decode cX11_term 69 = .ok (.getfield 245, 3) := by decide +kernel
theorem dX11_term_72 : decode cX11_term 72 = .ok (.invokestatic 257, 3) := by decide +kernel
theorem dX11_term_75 : decode cX11_term 75 = .ok (.ireturn, 1) := by decide +kernel
theorem dX11_undo_0 : decode cX11_undo 0 = .ok (.aload_n 0, 1) := by decide +kernel
theorem dX11_undo_1 : decode cX11_undo 1 = .ok (.getfield 32, 3) := by decide +kernel
theorem dX11_undo_4 : decode cX11_undo 4 = .ok (.invokevirtual 227, 3) := by decide +kernel
theorem dX11_undo_7 : decode cX11_undo 7 = .ok (.ifCond .eq 6, 3) := by decide +kernel
theorem dX11_undo_10 : decode cX11_undo 10 = .ok (.bipush (-2), 2) := by decide +kernel
theorem dX11_undo_12 : decode cX11_undo 12 = .ok (.ireturn, 1) := by decide +kernel
theorem dX11_undo_13 : decode cX11_undo 13 = .ok (.aload_n 0, 1) := by decide +kernel
theorem dX11_undo_14 : decode cX11_undo 14 = .ok (.getfield 32, 3) := by decide +kernel
theorem dX11_undo_17 : decode cX11_undo 17 = .ok (.getfield 131, 3) := by decide +kernel
theorem dX11_undo_20 : decode cX11_undo 20 = .ok (.getfield 248, 3) := by decide +kernel
theorem dX11_undo_23 : decode cX11_undo 23 = .ok (.ifCond .ne 6, 3) := by decide +kernel
theorem dX11_undo_26 : decode cX11_undo 26 = .ok (.bipush (-5), 2) := by decide +kernel
theorem dX11_undo_28 : decode cX11_undo 28 = .ok (.ireturn, 1) := by decide +kernel
theorem dX11_undo_29 : decode cX11_undo 29 = .ok (.aload_n 0, 1) := by decide +kernel
theorem dX11_undo_30 : decode cX11_undo 30 = .ok (.getfield 32, 3) := by decide +kernel
theorem dX11_undo_33 : decode cX11_undo 33 = .ok (.getfield 131, 3) := by decide +kernel
theorem dX11_undo_36 : decode cX11_undo 36 = .ok (.invokevirtual 262, 3) := by decide +kernel
theorem dX11_undo_39 : decode cX11_undo 39 = .ok (.aload_n 0, 1) := by decide +kernel
theorem dX11_undo_40 : decode cX11_undo 40 = .ok (.getfield 32, 3) := by decide +kernel
theorem dX11_undo_43 : decode cX11_undo 43 = .ok (.getfield 131, 3) := by decide +kernel
theorem dX11_undo_46 : decode cX11_undo 46 = .ok (.getfield 248, 3) := by decide +kernel
theorem dX11_undo_49 : decode cX11_undo 49 = .ok (.ireturn, 1) := by decide +kernel
theorem dX11_unlike_0 : decode cX11_unlike 0 = .ok (.aload_n 0, 1) := by decide +kernel
theorem dX11_unlike_1 : decode cX11_unlike 1 = .ok (.getfield 32, 3) := by decide +kernel
theorem dX11_unlike_4 : decode cX11_unlike 4 = .ok (.invokevirtual 227, 3) := by decide +kernel
theorem dX11_unlike_7 : decode cX11_unlike 7 = .ok (.ifCond .ne 17, 3) := by decide +kernel
theorem dX11_unlike_10 : decode cX11_unlike 10 = .ok (.iload_n 1, 1) := by decide +kernel
theorem dX11_unlike_11 : decode cX11_unlike 11 = .ok (.invokestatic 202, 3) := by decide +kernel
theorem dX11_unlike_14 : decode cX11_unlike 14 = .ok (.ifCond .eq 10, 3) := by decide +kernel
theorem dX11_unlike_17 : decode cX11_unlike 17 = .ok (.iload_n 2, 1) := by decide +kernel
theorem dX11_unlike_18 : decode cX11_unlike 18 = .ok (.invokestatic 202, 3) := by decide +kernel
theorem dX11_unlike_21 : decode cX11_unlike 21 = .ok (.ifCond .ne 6, 3) := by decide +kernel
theorem dX11_unlike_24 : decode cX11_unlike 24 = .ok (.bipush (-2), 2) := by decide +kernel
theorem dX11_unlike_26 : decode cX11_unlike 26 = .ok (.ireturn, 1) := by decide +kernel
theorem dX11_unlike_27 : decode cX11_unlike 27 = .ok (.iconst 0, 1) := by decide +kernel
theorem dX11_unlike_28 : decode cX11_unlike 28 = .ok (.istore_n 3, 1) := by decide +kernel
theorem dX11_unlike_29 : decode cX11_unlike 29 = .ok (.iconst 0, 1) := by decide +kernel
theorem dX11_unlike_30 : decode cX11_unlike 30 = .ok (.istore 4, 2) := by decide +kernel
theorem dX11_unlike_32 : decode cX11_unlike 32 = .ok (.iload 4, 2) := by decide +kernel
theorem dX11_unlike_34 : decode cX11_unlike 34 = .ok (.aload_n 0, 1) := by decide +kernel
theorem dX11_unlike_35 : decode cX11_unlike 35 = .ok (.getfield 32, 3) := by decide +kernel
theorem dX11_unlike_38 : decode cX11_unlike 38 = .ok (.getfield 230, 3) := by decide +kernel
theorem dX11_unlike_41 : decode cX11_unlike 41 = .ok (.if_icmp .ge 35, 3) := by decide +kernel
theorem dX11_unlike_44 : decode cX11_unlike 44 = .ok (.aload_n 0, 1) := by decide +kernel
theorem dX11_unlike_45 : decode cX11_unlike 45 = .ok (.getfield 50, 3) := by decide +kernel
theorem dX11_unlike_48 : decode cX11_unlike 48 = .ok (.iload 4, 2) := by decide +kernel
theorem dX11_unlike_50 : decode cX11_unlike 50 = .ok (.iload_n 1, 1) := by decide +kernel
theorem dX11_unlike_51 : decode cX11_unlike 51 = .ok (.invokevirtual 211, 3) := by decide +kernel
theorem dX11_unlike_54 : decode cX11_unlike 54 = .ok (.aload_n 0, 1) := by decide +kernel
theorem dX11_unlike_55 : decode cX11_unlike 55 = .ok (.getfield 50, 3) := by decide +kernel
theorem dX11_unlike_58 : decode cX11_unlike 58 = .ok (.iload 4, 2) := by decide +kernel
theorem dX11_unlike_60 : decode cX11_unlike 60 = .ok (.iload_n 2, 1) := by decide +kernel
theorem dX11_unlike_61 : decode cX11_unlike 61 = .ok (.invokevirtual 211, 3) := by decide +kernel
theorem dX11_unlike_64 : decode cX11_unlike 64 = .ok (.if_icmp .eq 6, 3) := by decide +kernel
theorem dX11_unlike_67 : decode cX11_unlike 67 = .ok (.iinc 3 1, 3) := by decide +kernel
theorem dX11_unlike_70 : decode cX11_unlike 70 = .ok (.iinc 4 1, 3) := by decide +kernel
theorem dX11_unlike_73 : decode cX11_unlike 73 = .ok (.goto (-41), 3) := by decide +kernel
theorem dX11_unlike_76 : decode cX11_unlike 76 = .ok (.iload_n 3, 1) := by decide +kernel
theorem dX11_unlike_77 : decode cX11_unlike 77 = .ok (.ireturn, 1) := by decide +kernel
theorem dX11_votes_0 : decode cX11_votes 0 = .ok (.aload_n 0, 1) := by decide +kernel
theorem dX11_votes_1 : decode cX11_votes 1 = .ok (.getfield 32, 3) := by decide +kernel
theorem dX11_votes_4 : decode cX11_votes 4 = .ok (.iload_n 1, 1) := by decide +kernel
theorem dX11_votes_5 : decode cX11_votes 5 = .ok (.invokevirtual 114, 3) := by decide +kernel
theorem dX11_votes_8 : decode cX11_votes 8 = .ok (.ifCond .ne 6, 3) := by decide +kernel
theorem dX11_votes_11 : decode cX11_votes 11 = .ok (.bipush (-2), 2) := by decide +kernel
theorem dX11_votes_13 : decode cX11_votes 13 = .ok (.ireturn, 1) := by decide +kernel
theorem dX11_votes_14 : decode cX11_votes 14 = .ok (.aload_n 0, 1) := by decide +kernel
theorem dX11_votes_15 : decode cX11_votes 15 = .ok (.getfield 50, 3) := by decide +kernel
theorem dX11_votes_18 : decode cX11_votes 18 = .ok (.aload_n 0, 1) := by decide +kernel
theorem dX11_votes_19 : decode cX11_votes 19 = .ok (.getfield 32, 3) := by decide +kernel
theorem dX11_votes_22 : decode cX11_votes 22 = .ok (.getfield 122, 3) := by decide +kernel
theorem dX11_votes_25 : decode cX11_votes 25 = .ok (.iload_n 1, 1) := by decide +kernel
theorem dX11_votes_26 : decode cX11_votes 26 = .ok (.iaload, 1) := by decide +kernel
theorem dX11_votes_27 : decode cX11_votes 27 = .ok (.invokevirtual 181, 3) := by decide +kernel
theorem dX11_votes_30 : decode cX11_votes 30 = .ok (.aload_n 0, 1) := by decide +kernel
theorem dX11_votes_31 : decode cX11_votes 31 = .ok (.getfield 50, 3) := by decide +kernel
theorem dX11_votes_34 : decode cX11_votes 34 = .ok (.aload_n 0, 1) := by decide +kernel
theorem dX11_votes_35 : decode cX11_votes 35 = .ok (.getfield 50, 3) := by decide +kernel
theorem dX11_votes_38 : decode cX11_votes 38 = .ok (.getfield 187, 3) := by decide +kernel
theorem dX11_votes_41 : decode cX11_votes 41 = .ok (.invokevirtual 190, 3) := by decide +kernel
theorem dX11_votes_44 : decode cX11_votes 44 = .ok (.aload_n 0, 1) := by decide +kernel
theorem dX11_votes_45 : decode cX11_votes 45 = .ok (.getfield 50, 3) := by decide +kernel
theorem dX11_votes_48 : decode cX11_votes 48 = .ok (.getfield 193, 3) := by decide +kernel
theorem dX11_votes_51 : decode cX11_votes 51 = .ok (.iload_n 1, 1) := by decide +kernel
theorem dX11_votes_52 : decode cX11_votes 52 = .ok (.iaload, 1) := by decide +kernel
theorem dX11_votes_53 : decode cX11_votes 53 = .ok (.ireturn, 1) := by decide +kernel
theorem dX11_wins_0 : decode cX11_wins 0 = .ok (.aload_n 0, 1) := by decide +kernel
theorem dX11_wins_1 : decode cX11_wins 1 = .ok (.getfield 32, 3) := by decide +kernel
theorem dX11_wins_4 : decode cX11_wins 4 = .ok (.iload_n 1, 1) := by decide +kernel
theorem dX11_wins_5 : decode cX11_wins 5 = .ok (.invokevirtual 161, 3) := by decide +kernel
theorem dX11_wins_8 : decode cX11_wins 8 = .ok (.ifCond .eq 10, 3) := by decide +kernel
theorem dX11_wins_11 : decode cX11_wins 11 = .ok (.iload_n 2, 1) := by decide +kernel
theorem dX11_wins_12 : decode cX11_wins 12 = .ok (.invokestatic 202, 3) := by decide +kernel
theorem dX11_wins_15 : decode cX11_wins 15 = .ok (.ifCond .ne 6, 3) := by decide +kernel
theorem dX11_wins_18 : decode cX11_wins 18 = .ok (.bipush (-2), 2) := by decide +kernel
theorem dX11_wins_20 : decode cX11_wins 20 = .ok (.ireturn, 1) := by decide +kernel
theorem dX11_wins_21 : decode cX11_wins 21 = .ok (.aload_n 0, 1) := by decide +kernel
theorem dX11_wins_22 : decode cX11_wins 22 = .ok (.getfield 50, 3) := by decide +kernel
theorem dX11_wins_25 : decode cX11_wins 25 = .ok (.iload_n 1, 1) := by decide +kernel
theorem dX11_wins_26 : decode cX11_wins 26 = .ok (.invokevirtual 181, 3) := by decide +kernel
theorem dX11_wins_29 : decode cX11_wins 29 = .ok (.aload_n 0, 1) := by decide +kernel
theorem dX11_wins_30 : decode cX11_wins 30 = .ok (.getfield 50, 3) := by decide +kernel
theorem dX11_wins_33 : decode cX11_wins 33 = .ok (.iload_n 2, 1) := by decide +kernel
theorem dX11_wins_34 : decode cX11_wins 34 = .ok (.invokevirtual 205, 3) := by decide +kernel
theorem dX11_wins_37 : decode cX11_wins 37 = .ok (.aload_n 0, 1) := by decide +kernel
theorem dX11_wins_38 : decode cX11_wins 38 = .ok (.getfield 50, 3) := by decide +kernel
theorem dX11_wins_41 : decode cX11_wins 41 = .ok (.getfield 208, 3) := by decide +kernel
theorem dX11_wins_44 : decode cX11_wins 44 = .ok (.ireturn, 1) := by decide +kernel
theorem dX11_with_0 : decode cX11_with 0 = .ok (.aload_n 0, 1) := by decide +kernel
theorem dX11_with_1 : decode cX11_with 1 = .ok (.getfield 32, 3) := by decide +kernel
theorem dX11_with_4 : decode cX11_with 4 = .ok (.iload_n 1, 1) := by decide +kernel
theorem dX11_with_5 : decode cX11_with 5 = .ok (.invokevirtual 161, 3) := by decide +kernel
theorem dX11_with_8 : decode cX11_with 8 = .ok (.ifCond .eq 10, 3) := by decide +kernel
theorem dX11_with_11 : decode cX11_with 11 = .ok (.iload_n 2, 1) := by decide +kernel
theorem dX11_with_12 : decode cX11_with 12 = .ok (.invokestatic 202, 3) := by decide +kernel
theorem dX11_with_15 : decode cX11_with 15 = .ok (.ifCond .ne 6, 3) := by decide +kernel
theorem dX11_with_18 : decode cX11_with 18 = .ok (.bipush (-2), 2) := by decide +kernel
theorem dX11_with_20 : decode cX11_with 20 = .ok (.ireturn, 1) := by decide +kernel
theorem dX11_with_21 : decode cX11_with 21 = .ok (.aload_n 0, 1) := by decide +kernel
theorem dX11_with_22 : decode cX11_with 22 = .ok (.getfield 50, 3) := by decide +kernel
theorem dX11_with_25 : decode cX11_with 25 = .ok (.iload_n 1, 1) := by decide +kernel
theorem dX11_with_26 : decode cX11_with 26 = .ok (.invokevirtual 181, 3) := by decide +kernel
theorem dX11_with_29 : decode cX11_with 29 = .ok (.aload_n 0, 1) := by decide +kernel
theorem dX11_with_30 : decode cX11_with 30 = .ok (.getfield 50, 3) := by decide +kernel
theorem dX11_with_33 : decode cX11_with 33 = .ok (.iload_n 2, 1) := by decide +kernel
theorem dX11_with_34 : decode cX11_with 34 = .ok (.invokevirtual 205, 3) := by decide +kernel
theorem dX11_with_37 : decode cX11_with 37 = .ok (.aload_n 0, 1) := by decide +kernel
theorem dX11_with_38 : decode cX11_with 38 = .ok (.getfield 50, 3) := by decide +kernel
theorem dX11_with_41 : decode cX11_with 41 = .ok (.getfield 208, 3) := by decide +kernel
theorem dX11_with_44 : decode cX11_with 44 = .ok (.iconst (-1), 1) := by decide +kernel
theorem dX11_with_45 : decode cX11_with 45 = .ok (.if_icmp .ne 7, 3) := by decide +kernel
theorem dX11_with_48 : decode cX11_with 48 = .ok (.iconst (-1), 1) := by decide +kernel
theorem dX11_with_49 : decode cX11_with 49 = .ok (.goto 10, 3) := by decide +kernel
theorem dX11_with_52 : decode cX11_with 52 = .ok (.aload_n 0, 1) := by decide +kernel
theorem dX11_with_53 : decode cX11_with 53 = .ok (.getfield 50, 3) := by decide +kernel
theorem dX11_with_56 : decode cX11_with 56 = .ok (.getfield 214, 3) := by decide +kernel
theorem dX11_with_59 : decode cX11_with 59 = .ok (.ireturn, 1) := by decide +kernel
theorem dX11_word_0 : decode cX11_word 0 = .ok (.aload_n 0, 1) := by decide +kernel
theorem dX11_word_1 : decode cX11_word 1 = .ok (.getfield 32, 3) := by decide +kernel
theorem dX11_word_4 : decode cX11_word 4 = .ok (.iload_n 1, 1) := by decide +kernel
theorem dX11_word_5 : decode cX11_word 5 = .ok (.invokevirtual 114, 3) := by decide +kernel
theorem dX11_word_8 : decode cX11_word 8 = .ok (.ifCond .ne 6, 3) := by decide +kernel
theorem dX11_word_11 : decode cX11_word 11 = .ok (.bipush (-2), 2) := by decide +kernel
theorem dX11_word_13 : decode cX11_word 13 = .ok (.ireturn, 1) := by decide +kernel
theorem dX11_word_14 : decode cX11_word 14 = .ok (.iload_n 2, 1) := by decide +kernel
theorem dX11_word_15 : decode cX11_word 15 = .ok (.tableswitch 113 0 5 #[37, 47, 57, 67, 77, 90], 37) := by decide +kernel
theorem dX11_word_52 : decode cX11_word 52 = .ok (.aload_n 0, 1) := by decide +kernel
theorem dX11_word_53 : decode cX11_word 53 = .ok (.getfield 32, 3) := by decide +kernel
theorem dX11_word_56 : decode cX11_word 56 = .ok (.getfield 118, 3) := by decide +kernel
theorem dX11_word_59 : decode cX11_word 59 = .ok (.iload_n 1, 1) := by decide +kernel
theorem dX11_word_60 : decode cX11_word 60 = .ok (.iaload, 1) := by decide +kernel
theorem dX11_word_61 : decode cX11_word 61 = .ok (.ireturn, 1) := by decide +kernel
theorem dX11_word_62 : decode cX11_word 62 = .ok (.aload_n 0, 1) := by decide +kernel
theorem dX11_word_63 : decode cX11_word 63 = .ok (.getfield 32, 3) := by decide +kernel
theorem dX11_word_66 : decode cX11_word 66 = .ok (.getfield 122, 3) := by decide +kernel
theorem dX11_word_69 : decode cX11_word 69 = .ok (.iload_n 1, 1) := by decide +kernel
theorem dX11_word_70 : decode cX11_word 70 = .ok (.iaload, 1) := by decide +kernel
theorem dX11_word_71 : decode cX11_word 71 = .ok (.ireturn, 1) := by decide +kernel
theorem dX11_word_72 : decode cX11_word 72 = .ok (.aload_n 0, 1) := by decide +kernel
theorem dX11_word_73 : decode cX11_word 73 = .ok (.getfield 32, 3) := by decide +kernel
theorem dX11_word_76 : decode cX11_word 76 = .ok (.getfield 125, 3) := by decide +kernel
theorem dX11_word_79 : decode cX11_word 79 = .ok (.iload_n 1, 1) := by decide +kernel
theorem dX11_word_80 : decode cX11_word 80 = .ok (.iaload, 1) := by decide +kernel
theorem dX11_word_81 : decode cX11_word 81 = .ok (.ireturn, 1) := by decide +kernel
theorem dX11_word_82 : decode cX11_word 82 = .ok (.aload_n 0, 1) := by decide +kernel
theorem dX11_word_83 : decode cX11_word 83 = .ok (.getfield 32, 3) := by decide +kernel
theorem dX11_word_86 : decode cX11_word 86 = .ok (.getfield 128, 3) := by decide +kernel
theorem dX11_word_89 : decode cX11_word 89 = .ok (.iload_n 1, 1) := by decide +kernel
theorem dX11_word_90 : decode cX11_word 90 = .ok (.iaload, 1) := by decide +kernel
theorem dX11_word_91 : decode cX11_word 91 = .ok (.ireturn, 1) := by decide +kernel
theorem dX11_word_92 : decode cX11_word 92 = .ok (.aload_n 0, 1) := by decide +kernel
theorem dX11_word_93 : decode cX11_word 93 = .ok (.getfield 32, 3) := by decide +kernel
theorem dX11_word_96 : decode cX11_word 96 = .ok (.getfield 131, 3) := by decide +kernel
theorem dX11_word_99 : decode cX11_word 99 = .ok (.getfield 135, 3) := by decide +kernel
theorem dX11_word_102 : decode cX11_word 102 = .ok (.iload_n 1, 1) := by decide +kernel
theorem dX11_word_103 : decode cX11_word 103 = .ok (.iaload, 1) := by decide +kernel
theorem dX11_word_104 : decode cX11_word 104 = .ok (.ireturn, 1) := by decide +kernel
theorem dX11_word_105 : decode cX11_word 105 = .ok (.aload_n 0, 1) := by decide +kernel
theorem dX11_word_106 : decode cX11_word 106 = .ok (.getfield 32, 3) := by decide +kernel
theorem dX11_word_109 : decode cX11_word 109 = .ok (.getfield 131, 3) := by decide +kernel
theorem dX11_word_112 : decode cX11_word 112 = .ok (.getfield 140, 3) := by decide +kernel
theorem dX11_word_115 : decode cX11_word 115 = .ok (.iload_n 1, 1) := by decide +kernel
theorem dX11_word_116 : decode cX11_word 116 = .ok (.invokestatic 143, 3) := by decide +kernel
theorem dX11_word_119 : decode cX11_word 119 = .ok (.ifCond .eq 7, 3) := by decide +kernel
theorem dX11_word_122 : decode cX11_word 122 = .ok (.iconst 1, 1) := by decide +kernel
theorem dX11_word_123 : decode cX11_word 123 = .ok (.goto 4, 3) := by decide +kernel
theorem dX11_word_126 : decode cX11_word 126 = .ok (.iconst 0, 1) := by decide +kernel
theorem dX11_word_127 : decode cX11_word 127 = .ok (.ireturn, 1) := by decide +kernel
theorem dX11_word_128 : decode cX11_word 128 = .ok (.bipush (-2), 2) := by decide +kernel
theorem dX11_word_130 : decode cX11_word 130 = .ok (.ireturn, 1) := by decide +kernel
theorem dX11_write_0 : decode cX11_write 0 = .ok (.iload_n 1, 1) := by decide +kernel
theorem dX11_write_1 : decode cX11_write 1 = .ok (.invokestatic 416, 3) := by decide +kernel
theorem dX11_write_4 : decode cX11_write 4 = .ok (.ifCond .ne 6, 3) := by decide +kernel
theorem dX11_write_7 : decode cX11_write 7 = .ok (.bipush (-2), 2) := by decide +kernel
theorem dX11_write_9 : decode cX11_write 9 = .ok (.ireturn, 1) := by decide +kernel
theorem dX11_write_10 : decode cX11_write 10 = .ok (.aload_n 0, 1) := by decide +kernel
theorem dX11_write_11 : decode cX11_write 11 = .ok (.getfield 41, 3) := by decide +kernel
theorem dX11_write_14 : decode cX11_write 14 = .ok (.iload_n 1, 1) := by decide +kernel
theorem dX11_write_15 : decode cX11_write 15 = .ok (.aaload, 1) := by decide +kernel
theorem dX11_write_16 : decode cX11_write 16 = .ok (.invokevirtual 423, 3) := by decide +kernel
theorem dX11_write_19 : decode cX11_write 19 = .ok (.ifCond .eq 6, 3) := by decide +kernel
theorem dX11_write_22 : decode cX11_write 22 = .ok (.bipush (-6), 2) := by decide +kernel
theorem dX11_write_24 : decode cX11_write 24 = .ok (.ireturn, 1) := by decide +kernel
theorem dX11_write_25 : decode cX11_write 25 = .ok (.iload_n 2, 1) := by decide +kernel
theorem dX11_write_26 : decode cX11_write 26 = .ok (.ifCond .lt 16, 3) := by decide +kernel
theorem dX11_write_29 : decode cX11_write 29 = .ok (.iload_n 2, 1) := by decide +kernel
theorem dX11_write_30 : decode cX11_write 30 = .ok (.aload_n 0, 1) := by decide +kernel
theorem dX11_write_31 : decode cX11_write 31 = .ok (.getfield 41, 3) := by decide +kernel
theorem dX11_write_34 : decode cX11_write 34 = .ok (.iload_n 1, 1) := by decide +kernel
theorem dX11_write_35 : decode cX11_write 35 = .ok (.aaload, 1) := by decide +kernel
theorem dX11_write_36 : decode cX11_write 36 = .ok (.getfield 426, 3) := by decide +kernel
theorem dX11_write_39 : decode cX11_write 39 = .ok (.if_icmp .lt 6, 3) := by decide +kernel
theorem dX11_write_42 : decode cX11_write 42 = .ok (.bipush (-7), 2) := by decide +kernel
theorem dX11_write_44 : decode cX11_write 44 = .ok (.ireturn, 1) := by decide +kernel
theorem dX11_write_45 : decode cX11_write 45 = .ok (.aload_n 0, 1) := by decide +kernel
theorem dX11_write_46 : decode cX11_write 46 = .ok (.getfield 41, 3) := by decide +kernel
theorem dX11_write_49 : decode cX11_write 49 = .ok (.iload_n 1, 1) := by decide +kernel
theorem dX11_write_50 : decode cX11_write 50 = .ok (.aaload, 1) := by decide +kernel
theorem dX11_write_51 : decode cX11_write 51 = .ok (.iload_n 2, 1) := by decide +kernel
theorem dX11_write_52 : decode cX11_write 52 = .ok (.lload_n 3, 1) := by decide +kernel
theorem dX11_write_53 : decode cX11_write 53 = .ok (.invokevirtual 427, 3) := by decide +kernel
theorem dX11_write_56 : decode cX11_write 56 = .ok (.iconst 0, 1) := by decide +kernel
theorem dX11_write_57 : decode cX11_write 57 = .ok (.ireturn, 1) := by decide +kernel
theorem dX11_years_0 : decode cX11_years 0 = .ok (.iload_n 1, 1) := by decide +kernel
theorem dX11_years_1 : decode cX11_years 1 = .ok (.invokestatic 395, 3) := by decide +kernel
theorem dX11_years_4 : decode cX11_years 4 = .ok (.ifCond .eq 25, 3) := by decide +kernel
theorem dX11_years_7 : decode cX11_years 7 = .ok (.iload_n 2, 1) := by decide +kernel
theorem dX11_years_8 : decode cX11_years 8 = .ok (.iconst 1, 1) := by decide +kernel
theorem dX11_years_9 : decode cX11_years 9 = .ok (.if_icmp .lt 20, 3) := by decide +kernel
theorem dX11_years_12 : decode cX11_years 12 = .ok (.iload_n 2, 1) := by decide +kernel
theorem dX11_years_13 : decode cX11_years 13 = .ok (.bipush 20, 2) := by decide +kernel
theorem dX11_years_15 : decode cX11_years 15 = .ok (.if_icmp .gt 14, 3) := by decide +kernel
theorem dX11_years_18 : decode cX11_years 18 = .ok (.aload_n 0, 1) := by decide +kernel
theorem dX11_years_19 : decode cX11_years 19 = .ok (.getfield 32, 3) := by decide +kernel
theorem dX11_years_22 : decode cX11_years 22 = .ok (.iload_n 3, 1) := by decide +kernel
theorem dX11_years_23 : decode cX11_years 23 = .ok (.invokevirtual 114, 3) := by decide +kernel
theorem dX11_years_26 : decode cX11_years 26 = .ok (.ifCond .ne 6, 3) := by decide +kernel
theorem dX11_years_29 : decode cX11_years 29 = .ok (.bipush (-2), 2) := by decide +kernel
theorem dX11_years_31 : decode cX11_years 31 = .ok (.ireturn, 1) := by decide +kernel
theorem dX11_years_32 : decode cX11_years 32 = .ok (.iconst 0, 1) := by decide +kernel
theorem dX11_years_33 : decode cX11_years 33 = .ok (.istore 4, 2) := by decide +kernel
theorem dX11_years_35 : decode cX11_years 35 = .ok (.iconst 0, 1) := by decide +kernel
theorem dX11_years_36 : decode cX11_years 36 = .ok (.istore 5, 2) := by decide +kernel
theorem dX11_years_38 : decode cX11_years 38 = .ok (.iload 5, 2) := by decide +kernel
theorem dX11_years_40 : decode cX11_years 40 = .ok (.iload_n 2, 1) := by decide +kernel
theorem dX11_years_41 : decode cX11_years 41 = .ok (.if_icmp .ge 36, 3) := by decide +kernel
theorem dX11_years_44 : decode cX11_years 44 = .ok (.aload_n 0, 1) := by decide +kernel
theorem dX11_years_45 : decode cX11_years 45 = .ok (.getfield 50, 3) := by decide +kernel
theorem dX11_years_48 : decode cX11_years 48 = .ok (.iload_n 1, 1) := by decide +kernel
theorem dX11_years_49 : decode cX11_years 49 = .ok (.iload 5, 2) := by decide +kernel
theorem dX11_years_51 : decode cX11_years 51 = .ok (.iadd, 1) := by decide +kernel
theorem dX11_years_52 : decode cX11_years 52 = .ok (.aload_n 0, 1) := by decide +kernel
theorem dX11_years_53 : decode cX11_years 53 = .ok (.getfield 32, 3) := by decide +kernel
theorem dX11_years_56 : decode cX11_years 56 = .ok (.getfield 122, 3) := by decide +kernel
theorem dX11_years_59 : decode cX11_years 59 = .ok (.iload_n 3, 1) := by decide +kernel
theorem dX11_years_60 : decode cX11_years 60 = .ok (.iaload, 1) := by decide +kernel
theorem dX11_years_61 : decode cX11_years 61 = .ok (.invokevirtual 398, 3) := by decide +kernel
theorem dX11_years_64 : decode cX11_years 64 = .ok (.iload_n 3, 1) := by decide +kernel
theorem dX11_years_65 : decode cX11_years 65 = .ok (.if_icmp .ne 6, 3) := by decide +kernel
theorem dX11_years_68 : decode cX11_years 68 = .ok (.iinc 4 1, 3) := by decide +kernel
theorem dX11_years_71 : decode cX11_years 71 = .ok (.iinc 5 1, 3) := by decide +kernel
theorem dX11_years_74 : decode cX11_years 74 = .ok (.goto (-36), 3) := by decide +kernel
theorem dX11_years_77 : decode cX11_years 77 = .ok (.iload 4, 2) := by decide +kernel
theorem dX11_years_79 : decode cX11_years 79 = .ok (.ireturn, 1) := by decide +kernel
theorem dX1_canDraw_0 : decode cX1_canDraw 0 = .ok (.aload_n 0, 1) := by decide +kernel
theorem dX1_canDraw_1 : decode cX1_canDraw 1 = .ok (.getfield 19, 3) := by decide +kernel
theorem dX1_canDraw_4 : decode cX1_canDraw 4 = .ok (.getfield 27, 3) := by decide +kernel
theorem dX1_canDraw_7 : decode cX1_canDraw 7 = .ok (.ifCond .le 36, 3) := by decide +kernel
theorem dX1_canDraw_10 : decode cX1_canDraw 10 = .ok (.aload_n 0, 1) := by decide +kernel
theorem dX1_canDraw_11 : decode cX1_canDraw 11 = .ok (.getfield 19, 3) := by decide +kernel
theorem dX1_canDraw_14 : decode cX1_canDraw 14 = .ok (.getfield 33, 3) := by decide +kernel
theorem dX1_canDraw_17 : decode cX1_canDraw 17 = .ok (.aload_n 0, 1) := by decide +kernel
theorem dX1_canDraw_18 : decode cX1_canDraw 18 = .ok (.getfield 19, 3) := by decide +kernel
theorem dX1_canDraw_21 : decode cX1_canDraw 21 = .ok (.getfield 27, 3) := by decide +kernel
theorem dX1_canDraw_24 : decode cX1_canDraw 24 = .ok (.if_icmp .lt 19, 3) := by decide +kernel
theorem dX1_canDraw_27 : decode cX1_canDraw 27 = .ok (.aload_n 0, 1) := by decide +kernel
theorem dX1_canDraw_28 : decode cX1_canDraw 28 = .ok (.getfield 19, 3) := by decide +kernel
theorem dX1_canDraw_31 : decode cX1_canDraw 31 = .ok (.getfield 33, 3) := by decide +kernel
theorem dX1_canDraw_34 : decode cX1_canDraw 34 = .ok (.bipush 6, 2) := by decide +kernel
theorem dX1_canDraw_36 : decode cX1_canDraw 36 = .ok (.if_icmp .gt 7, 3) := by decide +kernel
theorem dX1_canDraw_39 : decode cX1_canDraw 39 = .ok (.iconst 1, 1) := by decide +kernel
theorem dX1_canDraw_40 : decode cX1_canDraw 40 = .ok (.goto 4, 3) := by decide +kernel
theorem dX1_canDraw_43 : decode cX1_canDraw 43 = .ok (.iconst 0, 1) := by decide +kernel
theorem dX1_canDraw_44 : decode cX1_canDraw 44 = .ok (.ireturn, 1) := by decide +kernel
theorem dX1_countTheirs_0 : decode cX1_countTheirs 0 = .ok (.aload_n 0, 1) := by decide +kernel
theorem dX1_countTheirs_1 : decode cX1_countTheirs 1 = .ok (.getfield 15, 3) := by decide +kernel
theorem dX1_countTheirs_4 : decode cX1_countTheirs 4 = .ok (.iconst 0, 1) := by decide +kernel
theorem dX1_countTheirs_5 : decode cX1_countTheirs 5 = .ok (.invokestatic 76, 3) := by decide +kernel
theorem dX1_countTheirs_8 : decode cX1_countTheirs 8 = .ok (.iload_n 1, 1) := by decide +kernel
theorem dX1_countTheirs_9 : decode cX1_countTheirs 9 = .ok (.istore_n 2, 1) := by decide +kernel
theorem dX1_countTheirs_10 : decode cX1_countTheirs 10 = .ok (.aload_n 0, 1) := by decide +kernel
theorem dX1_countTheirs_11 : decode cX1_countTheirs 11 = .ok (.getfield 19, 3) := by decide +kernel
theorem dX1_countTheirs_14 : decode cX1_countTheirs 14 = .ok (.getfield 33, 3) := by decide +kernel
theorem dX1_countTheirs_17 : decode cX1_countTheirs 17 = .ok (.iconst 1, 1) := by decide +kernel
theorem dX1_countTheirs_18 : decode cX1_countTheirs 18 = .ok (.isub, 1) := by decide +kernel
theorem dX1_countTheirs_19 : decode cX1_countTheirs 19 = .ok (.istore_n 3, 1) := by decide +kernel
theorem dX1_countTheirs_20 : decode cX1_countTheirs 20 = .ok (.iload_n 3, 1) := by decide +kernel
theorem dX1_countTheirs_21 : decode cX1_countTheirs 21 = .ok (.ifCond .lt 39, 3) := by decide +kernel
theorem dX1_countTheirs_24 : decode cX1_countTheirs 24 = .ok (.aload_n 0, 1) := by decide +kernel
theorem dX1_countTheirs_25 : decode cX1_countTheirs 25 = .ok (.getfield 15, 3) := by decide +kernel
theorem dX1_countTheirs_28 : decode cX1_countTheirs 28 = .ok (.iload_n 2, 1) := by decide +kernel
theorem dX1_countTheirs_29 : decode cX1_countTheirs 29 = .ok (.aload_n 0, 1) := by decide +kernel
theorem dX1_countTheirs_30 : decode cX1_countTheirs 30 = .ok (.getfield 19, 3) := by decide +kernel
theorem dX1_countTheirs_33 : decode cX1_countTheirs 33 = .ok (.getfield 27, 3) := by decide +kernel
theorem dX1_countTheirs_36 : decode cX1_countTheirs 36 = .ok (.irem, 1) := by decide +kernel
theorem dX1_countTheirs_37 : decode cX1_countTheirs 37 = .ok (.dup2, 1) := by decide +kernel
theorem dX1_countTheirs_38 : decode cX1_countTheirs 38 = .ok (.iaload, 1) := by decide +kernel
theorem dX1_countTheirs_39 : decode cX1_countTheirs 39 = .ok (.iconst 1, 1) := by decide +kernel
theorem dX1_countTheirs_40 : decode cX1_countTheirs 40 = .ok (.iload_n 3, 1) := by decide +kernel
theorem dX1_countTheirs_41 : decode cX1_countTheirs 41 = .ok (.ishl, 1) := by decide +kernel
theorem dX1_countTheirs_42 : decode cX1_countTheirs 42 = .ok (.ior, 1) := by decide +kernel
theorem dX1_countTheirs_43 : decode cX1_countTheirs 43 = .ok (.iastore, 1) := by decide +kernel
theorem dX1_countTheirs_44 : decode cX1_countTheirs 44 = .ok (.iload_n 2, 1) := by decide +kernel
theorem dX1_countTheirs_45 : decode cX1_countTheirs 45 = .ok (.aload_n 0, 1) := by decide +kernel
theorem dX1_countTheirs_46 : decode cX1_countTheirs 46 = .ok (.getfield 19, 3) := by decide +kernel
theorem dX1_countTheirs_49 : decode cX1_countTheirs 49 = .ok (.getfield 27, 3) := by decide +kernel
theorem dX1_countTheirs_52 : decode cX1_countTheirs 52 = .ok (.idiv, 1) := by decide +kernel
theorem dX1_countTheirs_53 : decode cX1_countTheirs 53 = .ok (.istore_n 2, 1) := by decide +kernel
theorem dX1_countTheirs_54 : decode cX1_countTheirs 54 = .ok (.iinc 3 (-1), 3) := by decide +kernel
theorem dX1_countTheirs_57 : decode cX1_countTheirs 57 = .ok (.goto (-37), 3) := by decide +kernel
theorem dX1_countTheirs_60 : decode cX1_countTheirs 60 = .ok (.iconst 0, 1) := by decide +kernel
theorem dX1_countTheirs_61 : decode cX1_countTheirs 61 = .ok (.istore_n 3, 1) := by decide +kernel
theorem dX1_countTheirs_62 : decode cX1_countTheirs 62 = .ok (.iconst 0, 1) := by decide +kernel
theorem dX1_countTheirs_63 : decode cX1_countTheirs 63 = .ok (.istore 4, 2) := by decide +kernel
theorem dX1_countTheirs_65 : decode cX1_countTheirs 65 = .ok (.iload 4, 2) := by decide +kernel
theorem dX1_countTheirs_67 : decode cX1_countTheirs 67 = .ok (.aload_n 0, 1) := by decide +kernel
theorem dX1_countTheirs_68 : decode cX1_countTheirs 68 = .ok (.getfield 19, 3) := by decide +kernel
theorem dX1_countTheirs_71 : decode cX1_countTheirs 71 = .ok (.getfield 27, 3) := by decide +kernel
theorem dX1_countTheirs_74 : decode cX1_countTheirs 74 = .ok (.if_icmp .ge 45, 3) := by decide +kernel
theorem dX1_countTheirs_77 : decode cX1_countTheirs 77 = .ok (.aload_n 0, 1) := by decide +kernel
theorem dX1_countTheirs_78 : decode cX1_countTheirs 78 = .ok (.getfield 15, 3) := by decide +kernel
theorem dX1_countTheirs_81 : decode cX1_countTheirs 81 = .ok (.iload 4, 2) := by decide +kernel
theorem dX1_countTheirs_83 : decode cX1_countTheirs 83 = .ok (.iaload, 1) := by decide +kernel
theorem dX1_countTheirs_84 : decode cX1_countTheirs 84 = .ok (.ifCond .ne 5, 3) := by decide +kernel
theorem dX1_countTheirs_87 : decode cX1_countTheirs 87 = .ok (.iconst (-1), 1) := by decide +kernel
theorem dX1_countTheirs_88 : decode cX1_countTheirs 88 = .ok (.ireturn, 1) := by decide +kernel
theorem dX1_countTheirs_89 : decode cX1_countTheirs 89 = .ok (.aload_n 0, 1) := by decide +kernel
theorem dX1_countTheirs_90 : decode cX1_countTheirs 90 = .ok (.getfield 11, 3) := by decide +kernel
theorem dX1_countTheirs_93 : decode cX1_countTheirs 93 = .ok (.iload 4, 2) := by decide +kernel
theorem dX1_countTheirs_95 : decode cX1_countTheirs 95 = .ok (.bipush 6, 2) := by decide +kernel
theorem dX1_countTheirs_97 : decode cX1_countTheirs 97 = .ok (.ishl, 1) := by decide +kernel
theorem dX1_countTheirs_98 : decode cX1_countTheirs 98 = .ok (.aload_n 0, 1) := by decide +kernel
theorem dX1_countTheirs_99 : decode cX1_countTheirs 99 = .ok (.getfield 15, 3) := by decide +kernel
theorem dX1_countTheirs_102 : decode cX1_countTheirs 102 = .ok (.iload 4, 2) := by decide +kernel
theorem dX1_countTheirs_104 : decode cX1_countTheirs 104 = .ok (.iaload, 1) := by decide +kernel
theorem dX1_countTheirs_105 : decode cX1_countTheirs 105 = .ok (.iadd, 1) := by decide +kernel
theorem dX1_countTheirs_106 : decode cX1_countTheirs 106 = .ok (.baload, 1) := by decide +kernel
theorem dX1_countTheirs_107 : decode cX1_countTheirs 107 = .ok (.ifCond .eq 6, 3) := by decide +kernel
theorem dX1_countTheirs_110 : decode cX1_countTheirs 110 = .ok (.iinc 3 1, 3) := by decide +kernel
theorem dX1_countTheirs_113 : decode cX1_countTheirs 113 = .ok (.iinc 4 1, 3) := by decide +kernel
theorem dX1_countTheirs_116 : decode cX1_countTheirs 116 = .ok (.goto (-51), 3) := by decide +kernel
theorem dX1_countTheirs_119 : decode cX1_countTheirs 119 = .ok (.iload_n 3, 1) := by decide +kernel
theorem dX1_countTheirs_120 : decode cX1_countTheirs 120 = .ok (.ireturn, 1) := by decide +kernel
theorem dX1_draw_0 : decode cX1_draw 0 = .ok (.aload_n 0, 1) := by decide +kernel
theorem dX1_draw_1 : decode cX1_draw 1 = .ok (.iconst (-1), 1) := by decide +kernel
theorem dX1_draw_2 : decode cX1_draw 2 = .ok (.putfield 36, 3) := by decide +kernel
theorem dX1_draw_5 : decode cX1_draw 5 = .ok (.aload_n 0, 1) := by decide +kernel
theorem dX1_draw_6 : decode cX1_draw 6 = .ok (.iconst 0, 1) := by decide +kernel
theorem dX1_draw_7 : decode cX1_draw 7 = .ok (.putfield 39, 3) := by decide +kernel
theorem dX1_draw_10 : decode cX1_draw 10 = .ok (.aload_n 0, 1) := by decide +kernel
theorem dX1_draw_11 : decode cX1_draw 11 = .ok (.invokevirtual 42, 3) := by decide +kernel
theorem dX1_draw_14 : decode cX1_draw 14 = .ok (.ifCond .ne 4, 3) := by decide +kernel
theorem dX1_draw_17 : decode cX1_draw 17 = .ok (.return_, 1) := by decide +kernel
theorem dX1_draw_18 : decode cX1_draw 18 = .ok (.iconst 0, 1) := by decide +kernel
theorem dX1_draw_19 : decode cX1_draw 19 = .ok (.istore_n 2, 1) := by decide +kernel
theorem dX1_draw_20 : decode cX1_draw 20 = .ok (.iload_n 2, 1) := by decide +kernel
theorem dX1_draw_21 : decode cX1_draw 21 = .ok (.aload_n 0, 1) := by decide +kernel
theorem dX1_draw_22 : decode cX1_draw 22 = .ok (.getfield 19, 3) := by decide +kernel
theorem dX1_draw_25 : decode cX1_draw 25 = .ok (.getfield 27, 3) := by decide +kernel
theorem dX1_draw_28 : decode cX1_draw 28 = .ok (.if_icmp .ge 15, 3) := by decide +kernel
theorem dX1_draw_31 : decode cX1_draw 31 = .ok (.aload_n 0, 1) := by decide +kernel
theorem dX1_draw_32 : decode cX1_draw 32 = .ok (.iload_n 1, 1) := by decide +kernel
theorem dX1_draw_33 : decode cX1_draw 33 = .ok (.iload_n 2, 1) := by decide +kernel
theorem dX1_draw_34 : decode cX1_draw 34 = .ok (.invokevirtual 46, 3) := by decide +kernel
theorem dX1_draw_37 : decode cX1_draw 37 = .ok (.iinc 2 1, 3) := by decide +kernel
theorem dX1_draw_40 : decode cX1_draw 40 = .ok (.goto (-20), 3) := by decide +kernel
theorem dX1_draw_43 : decode cX1_draw 43 = .ok (.iconst 1, 1) := by decide +kernel
theorem dX1_draw_44 : decode cX1_draw 44 = .ok (.istore_n 2, 1) := by decide +kernel
theorem dX1_draw_45 : decode cX1_draw 45 = .ok (.iconst 0, 1) := by decide +kernel
theorem dX1_draw_46 : decode cX1_draw 46 = .ok (.istore_n 3, 1) := by decide +kernel
theorem dX1_draw_47 : decode cX1_draw 47 = .ok (.iload_n 3, 1) := by decide +kernel
theorem dX1_draw_48 : decode cX1_draw 48 = .ok (.aload_n 0, 1) := by decide +kernel
theorem dX1_draw_49 : decode cX1_draw 49 = .ok (.getfield 19, 3) := by decide +kernel
theorem dX1_draw_52 : decode cX1_draw 52 = .ok (.getfield 33, 3) := by decide +kernel
theorem dX1_draw_55 : decode cX1_draw 55 = .ok (.if_icmp .ge 19, 3) := by decide +kernel
theorem dX1_draw_58 : decode cX1_draw 58 = .ok (.iload_n 2, 1) := by decide +kernel
theorem dX1_draw_59 : decode cX1_draw 59 = .ok (.aload_n 0, 1) := by decide +kernel
theorem dX1_draw_60 : decode cX1_draw 60 = .ok (.getfield 19, 3) := by decide +kernel
theorem dX1_draw_63 : decode cX1_draw 63 = .ok (.getfield 27, 3) := by decide +kernel
theorem dX1_draw_66 : decode cX1_draw 66 = .ok (.imul, 1) := by decide +kernel
theorem dX1_draw_67 : decode cX1_draw 67 = .ok (.istore_n 2, 1) := by decide +kernel
theorem dX1_draw_68 : decode cX1_draw 68 = .ok (.iinc 3 1, 3) := by decide +kernel
theorem dX1_draw_71 : decode cX1_draw 71 = .ok (.goto (-24), 3) := by decide +kernel
theorem dX1_draw_74 : decode cX1_draw 74 = .ok (.iconst 0, 1) := by decide +kernel
theorem dX1_draw_75 : decode cX1_draw 75 = .ok (.istore_n 3, 1) := by decide +kernel
theorem dX1_draw_76 : decode cX1_draw 76 = .ok (.iload_n 3, 1) := by decide +kernel
theorem dX1_draw_77 : decode cX1_draw 77 = .ok (.iload_n 2, 1) := by decide +kernel
theorem dX1_draw_78 : decode cX1_draw 78 = .ok (.if_icmp .ge 36, 3) := by decide +kernel
theorem dX1_draw_81 : decode cX1_draw 81 = .ok (.aload_n 0, 1) := by decide +kernel
theorem dX1_draw_82 : decode cX1_draw 82 = .ok (.iload_n 3, 1) := by decide +kernel
theorem dX1_draw_83 : decode cX1_draw 83 = .ok (.invokevirtual 50, 3) := by decide +kernel
theorem dX1_draw_86 : decode cX1_draw 86 = .ok (.istore 4, 2) := by decide +kernel
theorem dX1_draw_88 : decode cX1_draw 88 = .ok (.iload 4, 2) := by decide +kernel
theorem dX1_draw_90 : decode cX1_draw 90 = .ok (.aload_n 0, 1) := by decide +kernel
theorem dX1_draw_91 : decode cX1_draw 91 = .ok (.getfield 36, 3) := by decide +kernel
theorem dX1_draw_94 : decode cX1_draw 94 = .ok (.if_icmp .le 14, 3) := by decide +kernel
theorem dX1_draw_97 : decode cX1_draw 97 = .ok (.aload_n 0, 1) := by decide +kernel
theorem dX1_draw_98 : decode cX1_draw 98 = .ok (.iload 4, 2) := by decide +kernel
theorem dX1_draw_100 : decode cX1_draw 100 = .ok (.putfield 36, 3) := by decide +kernel
theorem dX1_draw_103 : decode cX1_draw 103 = .ok (.aload_n 0, 1) := by decide +kernel
theorem dX1_draw_104 : decode cX1_draw 104 = .ok (.iload_n 3, 1) := by decide +kernel
theorem dX1_draw_105 : decode cX1_draw 105 = .ok (.putfield 39, 3) := by decide +kernel
theorem dX1_draw_108 : decode cX1_draw 108 = .ok (.iinc 3 1, 3) := by decide +kernel
theorem dX1_draw_111 : decode cX1_draw 111 = .ok (.goto (-35), 3) := by decide +kernel
theorem dX1_draw_114 : decode cX1_draw 114 = .ok (.return_, 1) := by decide +kernel
theorem dX1_placeOf_0 : decode cX1_placeOf 0 = .ok (.aload_n 0, 1) := by decide +kernel
theorem dX1_placeOf_1 : decode cX1_placeOf 1 = .ok (.invokevirtual 42, 3) := by decide +kernel
theorem dX1_placeOf_4 : decode cX1_placeOf 4 = .ok (.ifCond .ne 5, 3) := by decide +kernel
theorem dX1_placeOf_7 : decode cX1_placeOf 7 = .ok (.iconst (-1), 1) := by decide +kernel
theorem dX1_placeOf_8 : decode cX1_placeOf 8 = .ok (.ireturn, 1) := by decide +kernel
theorem dX1_placeOf_9 : decode cX1_placeOf 9 = .ok (.aload_n 0, 1) := by decide +kernel
theorem dX1_placeOf_10 : decode cX1_placeOf 10 = .ok (.getfield 39, 3) := by decide +kernel
theorem dX1_placeOf_13 : decode cX1_placeOf 13 = .ok (.istore_n 2, 1) := by decide +kernel
theorem dX1_placeOf_14 : decode cX1_placeOf 14 = .ok (.aload_n 0, 1) := by decide +kernel
theorem dX1_placeOf_15 : decode cX1_placeOf 15 = .ok (.getfield 19, 3) := by decide +kernel
theorem dX1_placeOf_18 : decode cX1_placeOf 18 = .ok (.getfield 33, 3) := by decide +kernel
theorem dX1_placeOf_21 : decode cX1_placeOf 21 = .ok (.iconst 1, 1) := by decide +kernel
theorem dX1_placeOf_22 : decode cX1_placeOf 22 = .ok (.isub, 1) := by decide +kernel
theorem dX1_placeOf_23 : decode cX1_placeOf 23 = .ok (.istore_n 3, 1) := by decide +kernel
theorem dX1_placeOf_24 : decode cX1_placeOf 24 = .ok (.iload_n 3, 1) := by decide +kernel
theorem dX1_placeOf_25 : decode cX1_placeOf 25 = .ok (.iload_n 1, 1) := by decide +kernel
theorem dX1_placeOf_26 : decode cX1_placeOf 26 = .ok (.if_icmp .le 19, 3) := by decide +kernel
theorem dX1_placeOf_29 : decode cX1_placeOf 29 = .ok (.iload_n 2, 1) := by decide +kernel
theorem dX1_placeOf_30 : decode cX1_placeOf 30 = .ok (.aload_n 0, 1) := by decide +kernel
theorem dX1_placeOf_31 : decode cX1_placeOf 31 = .ok (.getfield 19, 3) := by decide +kernel
theorem dX1_placeOf_34 : decode cX1_placeOf 34 = .ok (.getfield 27, 3) := by decide +kernel
theorem dX1_placeOf_37 : decode cX1_placeOf 37 = .ok (.idiv, 1) := by decide +kernel
theorem dX1_placeOf_38 : decode cX1_placeOf 38 = .ok (.istore_n 2, 1) := by decide +kernel
theorem dX1_placeOf_39 : decode cX1_placeOf 39 = .ok (.iinc 3 (-1), 3) := by decide +kernel
theorem dX1_placeOf_42 : decode cX1_placeOf 42 = .ok (.goto (-18), 3) := by decide +kernel
theorem dX1_placeOf_45 : decode cX1_placeOf 45 = .ok (.iload_n 2, 1) := by decide +kernel
theorem dX1_placeOf_46 : decode cX1_placeOf 46 = .ok (.aload_n 0, 1) := by decide +kernel
theorem dX1_placeOf_47 : decode cX1_placeOf 47 = .ok (.getfield 19, 3) := by decide +kernel
theorem dX1_placeOf_50 : decode cX1_placeOf 50 = .ok (.getfield 27, 3) := by decide +kernel
theorem dX1_placeOf_53 : decode cX1_placeOf 53 = .ok (.irem, 1) := by decide +kernel
theorem dX1_placeOf_54 : decode cX1_placeOf 54 = .ok (.ireturn, 1) := by decide +kernel
theorem dX1_tryPeople_0 : decode cX1_tryPeople 0 = .ok (.aload_n 0, 1) := by decide +kernel
theorem dX1_tryPeople_1 : decode cX1_tryPeople 1 = .ok (.getfield 23, 3) := by decide +kernel
theorem dX1_tryPeople_4 : decode cX1_tryPeople 4 = .ok (.iload_n 2, 1) := by decide +kernel
theorem dX1_tryPeople_5 : decode cX1_tryPeople 5 = .ok (.invokevirtual 54, 3) := by decide +kernel
theorem dX1_tryPeople_8 : decode cX1_tryPeople 8 = .ok (.iconst 1, 1) := by decide +kernel
theorem dX1_tryPeople_9 : decode cX1_tryPeople 9 = .ok (.istore_n 3, 1) := by decide +kernel
theorem dX1_tryPeople_10 : decode cX1_tryPeople 10 = .ok (.iload_n 3, 1) := by decide +kernel
theorem dX1_tryPeople_11 : decode cX1_tryPeople 11 = .ok (.iconst 1, 1) := by decide +kernel
theorem dX1_tryPeople_12 : decode cX1_tryPeople 12 = .ok (.aload_n 0, 1) := by decide +kernel
theorem dX1_tryPeople_13 : decode cX1_tryPeople 13 = .ok (.getfield 19, 3) := by decide +kernel
theorem dX1_tryPeople_16 : decode cX1_tryPeople 16 = .ok (.getfield 33, 3) := by decide +kernel
theorem dX1_tryPeople_19 : decode cX1_tryPeople 19 = .ok (.ishl, 1) := by decide +kernel
theorem dX1_tryPeople_20 : decode cX1_tryPeople 20 = .ok (.if_icmp .ge 76, 3) := by decide +kernel
theorem dX1_tryPeople_23 : decode cX1_tryPeople 23 = .ok (.aload_n 0, 1) := by decide +kernel
theorem dX1_tryPeople_24 : decode cX1_tryPeople 24 = .ok (.getfield 23, 3) := by decide +kernel
theorem dX1_tryPeople_27 : decode cX1_tryPeople 27 = .ok (.iload_n 3, 1) := by decide +kernel
theorem dX1_tryPeople_28 : decode cX1_tryPeople 28 = .ok (.invokevirtual 60, 3) := by decide +kernel
theorem dX1_tryPeople_31 : decode cX1_tryPeople 31 = .ok (.aload_n 0, 1) := by decide +kernel
theorem dX1_tryPeople_32 : decode cX1_tryPeople 32 = .ok (.getfield 23, 3) := by decide +kernel
theorem dX1_tryPeople_35 : decode cX1_tryPeople 35 = .ok (.aload_n 0, 1) := by decide +kernel
theorem dX1_tryPeople_36 : decode cX1_tryPeople 36 = .ok (.getfield 19, 3) := by decide +kernel
theorem dX1_tryPeople_39 : decode cX1_tryPeople 39 = .ok (.getfield 63, 3) := by decide +kernel
theorem dX1_tryPeople_42 : decode cX1_tryPeople 42 = .ok (.invokevirtual 66, 3) := by decide +kernel
theorem dX1_tryPeople_45 : decode cX1_tryPeople 45 = .ok (.aload_n 0, 1) := by decide +kernel
theorem dX1_tryPeople_46 : decode cX1_tryPeople 46 = .ok (.getfield 23, 3) := by decide +kernel
theorem dX1_tryPeople_49 : decode cX1_tryPeople 49 = .ok (.invokevirtual 69, 3) := by decide +kernel
theorem dX1_tryPeople_52 : decode cX1_tryPeople 52 = .ok (.istore 4, 2) := by decide +kernel
theorem dX1_tryPeople_54 : decode cX1_tryPeople 54 = .ok (.aload_n 0, 1) := by decide +kernel
theorem dX1_tryPeople_55 : decode cX1_tryPeople 55 = .ok (.getfield 11, 3) := by decide +kernel
theorem dX1_tryPeople_58 : decode cX1_tryPeople 58 = .ok (.iload_n 2, 1) := by decide +kernel
theorem dX1_tryPeople_59 : decode cX1_tryPeople 59 = .ok (.bipush 6, 2) := by decide +kernel
theorem dX1_tryPeople_61 : decode cX1_tryPeople 61 = .ok (.ishl, 1) := by decide +kernel
theorem dX1_tryPeople_62 : decode cX1_tryPeople 62 = .ok (.iload_n 3, 1) := by decide +kernel
theorem dX1_tryPeople_63 : decode cX1_tryPeople 63 = .ok (.iadd, 1) := by decide +kernel
theorem dX1_tryPeople_64 : decode cX1_tryPeople 64 = .ok (.iload 4, 2) := by decide +kernel
theorem dX1_tryPeople_66 : decode cX1_tryPeople 66 = .ok (.iconst (-1), 1) := by decide +kernel
theorem dX1_tryPeople_67 : decode cX1_tryPeople 67 = .ok (.if_icmp .eq 21, 3) := by decide +kernel
theorem dX1_tryPeople_70 : decode cX1_tryPeople 70 = .ok (.aload_n 0, 1) := by decide +kernel
theorem dX1_tryPeople_71 : decode cX1_tryPeople 71 = .ok (.getfield 19, 3) := by decide +kernel
theorem dX1_tryPeople_74 : decode cX1_tryPeople 74 = .ok (.getfield 73, 3) := by decide +kernel
theorem dX1_tryPeople_77 : decode cX1_tryPeople 77 = .ok (.iload 4, 2) := by decide +kernel
theorem dX1_tryPeople_79 : decode cX1_tryPeople 79 = .ok (.iaload, 1) := by decide +kernel
theorem dX1_tryPeople_80 : decode cX1_tryPeople 80 = .ok (.iload_n 1, 1) := by decide +kernel
theorem dX1_tryPeople_81 : decode cX1_tryPeople 81 = .ok (.if_icmp .ne 7, 3) := by decide +kernel
theorem dX1_tryPeople_84 : decode cX1_tryPeople 84 = .ok (.iconst 1, 1) := by decide +kernel
theorem dX1_tryPeople_85 : decode cX1_tryPeople 85 = .ok (.goto 4, 3) := by decide +kernel
theorem dX1_tryPeople_88 : decode cX1_tryPeople 88 = .ok (.iconst 0, 1) := by decide +kernel
theorem dX1_tryPeople_89 : decode cX1_tryPeople 89 = .ok (.bastore, 1) := by decide +kernel
theorem dX1_tryPeople_90 : decode cX1_tryPeople 90 = .ok (.iinc 3 1, 3) := by decide +kernel
theorem dX1_tryPeople_93 : decode cX1_tryPeople 93 = .ok (.goto (-83), 3) := by decide +kernel
theorem dX1_tryPeople_96 : decode cX1_tryPeople 96 = .ok (.return_, 1) := by decide +kernel
theorem dX2_ahead_0 : decode cX2_ahead 0 = .ok (.iconst 0, 1) := by decide +kernel
theorem dX2_ahead_1 : decode cX2_ahead 1 = .ok (.istore_n 3, 1) := by decide +kernel
theorem dX2_ahead_2 : decode cX2_ahead 2 = .ok (.iconst 0, 1) := by decide +kernel
theorem dX2_ahead_3 : decode cX2_ahead 3 = .ok (.istore 4, 2) := by decide +kernel
theorem dX2_ahead_5 : decode cX2_ahead 5 = .ok (.iload 4, 2) := by decide +kernel
theorem dX2_ahead_7 : decode cX2_ahead 7 = .ok (.aload_n 0, 1) := by decide +kernel
theorem dX2_ahead_8 : decode cX2_ahead 8 = .ok (.getfield 21, 3) := by decide +kernel
theorem dX2_ahead_11 : decode cX2_ahead 11 = .ok (.getfield 35, 3) := by decide +kernel
theorem dX2_ahead_14 : decode cX2_ahead 14 = .ok (.if_icmp .ge 51, 3) := by decide +kernel
theorem dX2_ahead_17 : decode cX2_ahead 17 = .ok (.aload_n 0, 1) := by decide +kernel
theorem dX2_ahead_18 : decode cX2_ahead 18 = .ok (.getfield 48, 3) := by decide +kernel
theorem dX2_ahead_21 : decode cX2_ahead 21 = .ok (.iload 4, 2) := by decide +kernel
theorem dX2_ahead_23 : decode cX2_ahead 23 = .ok (.invokestatic 60, 3) := by decide +kernel
theorem dX2_ahead_26 : decode cX2_ahead 26 = .ok (.ifCond .eq 33, 3) := by decide +kernel
theorem dX2_ahead_29 : decode cX2_ahead 29 = .ok (.aload_n 0, 1) := by decide +kernel
theorem dX2_ahead_30 : decode cX2_ahead 30 = .ok (.iload 4, 2) := by decide +kernel
theorem dX2_ahead_32 : decode cX2_ahead 32 = .ok (.iload_n 1, 1) := by decide +kernel
theorem dX2_ahead_33 : decode cX2_ahead 33 = .ok (.invokevirtual 118, 3) := by decide +kernel
theorem dX2_ahead_36 : decode cX2_ahead 36 = .ok (.aload_n 0, 1) := by decide +kernel
theorem dX2_ahead_37 : decode cX2_ahead 37 = .ok (.iload 4, 2) := by decide +kernel
theorem dX2_ahead_39 : decode cX2_ahead 39 = .ok (.iload_n 2, 1) := by decide +kernel
theorem dX2_ahead_40 : decode cX2_ahead 40 = .ok (.invokevirtual 118, 3) := by decide +kernel
theorem dX2_ahead_43 : decode cX2_ahead 43 = .ok (.if_icmp .le 16, 3) := by decide +kernel
theorem dX2_ahead_46 : decode cX2_ahead 46 = .ok (.iload_n 3, 1) := by decide +kernel
theorem dX2_ahead_47 : decode cX2_ahead 47 = .ok (.aload_n 0, 1) := by decide +kernel
theorem dX2_ahead_48 : decode cX2_ahead 48 = .ok (.getfield 21, 3) := by decide +kernel
theorem dX2_ahead_51 : decode cX2_ahead 51 = .ok (.getfield 115, 3) := by decide +kernel
theorem dX2_ahead_54 : decode cX2_ahead 54 = .ok (.iload 4, 2) := by decide +kernel
theorem dX2_ahead_56 : decode cX2_ahead 56 = .ok (.iaload, 1) := by decide +kernel
theorem dX2_ahead_57 : decode cX2_ahead 57 = .ok (.iadd, 1) := by decide +kernel
theorem dX2_ahead_58 : decode cX2_ahead 58 = .ok (.istore_n 3, 1) := by decide +kernel
theorem dX2_ahead_59 : decode cX2_ahead 59 = .ok (.iinc 4 1, 3) := by decide +kernel
theorem dX2_ahead_62 : decode cX2_ahead 62 = .ok (.goto (-57), 3) := by decide +kernel
theorem dX2_ahead_65 : decode cX2_ahead 65 = .ok (.iload_n 3, 1) := by decide +kernel
theorem dX2_ahead_66 : decode cX2_ahead 66 = .ok (.ireturn, 1) := by decide +kernel
theorem dX2_beatsAll_0 : decode cX2_beatsAll 0 = .ok (.iconst 0, 1) := by decide +kernel
theorem dX2_beatsAll_1 : decode cX2_beatsAll 1 = .ok (.istore_n 1, 1) := by decide +kernel
theorem dX2_beatsAll_2 : decode cX2_beatsAll 2 = .ok (.iload_n 1, 1) := by decide +kernel
theorem dX2_beatsAll_3 : decode cX2_beatsAll 3 = .ok (.aload_n 0, 1) := by decide +kernel
theorem dX2_beatsAll_4 : decode cX2_beatsAll 4 = .ok (.getfield 21, 3) := by decide +kernel
theorem dX2_beatsAll_7 : decode cX2_beatsAll 7 = .ok (.getfield 57, 3) := by decide +kernel
theorem dX2_beatsAll_10 : decode cX2_beatsAll 10 = .ok (.if_icmp .ge 30, 3) := by decide +kernel
theorem dX2_beatsAll_13 : decode cX2_beatsAll 13 = .ok (.aload_n 0, 1) := by decide +kernel
theorem dX2_beatsAll_14 : decode cX2_beatsAll 14 = .ok (.getfield 31, 3) := by decide +kernel
theorem dX2_beatsAll_17 : decode cX2_beatsAll 17 = .ok (.iload_n 1, 1) := by decide +kernel
theorem dX2_beatsAll_18 : decode cX2_beatsAll 18 = .ok (.invokestatic 60, 3) := by decide +kernel
theorem dX2_beatsAll_21 : decode cX2_beatsAll 21 = .ok (.ifCond .eq 13, 3) := by decide +kernel
theorem dX2_beatsAll_24 : decode cX2_beatsAll 24 = .ok (.aload_n 0, 1) := by decide +kernel
theorem dX2_beatsAll_25 : decode cX2_beatsAll 25 = .ok (.iload_n 1, 1) := by decide +kernel
theorem dX2_beatsAll_26 : decode cX2_beatsAll 26 = .ok (.invokevirtual 177, 3) := by decide +kernel
theorem dX2_beatsAll_29 : decode cX2_beatsAll 29 = .ok (.ifCond .eq 5, 3) := by decide +kernel
theorem dX2_beatsAll_32 : decode cX2_beatsAll 32 = .ok (.iload_n 1, 1) := by decide +kernel
theorem dX2_beatsAll_33 : decode cX2_beatsAll 33 = .ok (.ireturn, 1) := by decide +kernel
theorem dX2_beatsAll_34 : decode cX2_beatsAll 34 = .ok (.iinc 1 1, 3) := by decide +kernel
theorem dX2_beatsAll_37 : decode cX2_beatsAll 37 = .ok (.goto (-35), 3) := by decide +kernel
theorem dX2_beatsAll_40 : decode cX2_beatsAll 40 = .ok (.iconst (-1), 1) := by decide +kernel
theorem dX2_beatsAll_41 : decode cX2_beatsAll 41 = .ok (.ireturn, 1) := by decide +kernel
theorem dX2_beatsEach_0 : decode cX2_beatsEach 0 = .ok (.iconst 0, 1) := by decide +kernel
theorem dX2_beatsEach_1 : decode cX2_beatsEach 1 = .ok (.istore_n 2, 1) := by decide +kernel
theorem dX2_beatsEach_2 : decode cX2_beatsEach 2 = .ok (.iload_n 2, 1) := by decide +kernel
theorem dX2_beatsEach_3 : decode cX2_beatsEach 3 = .ok (.aload_n 0, 1) := by decide +kernel
theorem dX2_beatsEach_4 : decode cX2_beatsEach 4 = .ok (.getfield 21, 3) := by decide +kernel
theorem dX2_beatsEach_7 : decode cX2_beatsEach 7 = .ok (.getfield 57, 3) := by decide +kernel
theorem dX2_beatsEach_10 : decode cX2_beatsEach 10 = .ok (.if_icmp .ge 42, 3) := by decide +kernel
theorem dX2_beatsEach_13 : decode cX2_beatsEach 13 = .ok (.iload_n 2, 1) := by decide +kernel
theorem dX2_beatsEach_14 : decode cX2_beatsEach 14 = .ok (.iload_n 1, 1) := by decide +kernel
theorem dX2_beatsEach_15 : decode cX2_beatsEach 15 = .ok (.if_icmp .eq 31, 3) := by decide +kernel
theorem dX2_beatsEach_18 : decode cX2_beatsEach 18 = .ok (.aload_n 0, 1) := by decide +kernel
theorem dX2_beatsEach_19 : decode cX2_beatsEach 19 = .ok (.getfield 31, 3) := by decide +kernel
theorem dX2_beatsEach_22 : decode cX2_beatsEach 22 = .ok (.iload_n 2, 1) := by decide +kernel
theorem dX2_beatsEach_23 : decode cX2_beatsEach 23 = .ok (.invokestatic 60, 3) := by decide +kernel
theorem dX2_beatsEach_26 : decode cX2_beatsEach 26 = .ok (.ifCond .eq 20, 3) := by decide +kernel
theorem dX2_beatsEach_29 : decode cX2_beatsEach 29 = .ok (.aload_n 0, 1) := by decide +kernel
theorem dX2_beatsEach_30 : decode cX2_beatsEach 30 = .ok (.iload_n 1, 1) := by decide +kernel
theorem dX2_beatsEach_31 : decode cX2_beatsEach 31 = .ok (.iload_n 2, 1) := by decide +kernel
theorem dX2_beatsEach_32 : decode cX2_beatsEach 32 = .ok (.invokevirtual 181, 3) := by decide +kernel
theorem dX2_beatsEach_35 : decode cX2_beatsEach 35 = .ok (.aload_n 0, 1) := by decide +kernel
theorem dX2_beatsEach_36 : decode cX2_beatsEach 36 = .ok (.iload_n 2, 1) := by decide +kernel
theorem dX2_beatsEach_37 : decode cX2_beatsEach 37 = .ok (.iload_n 1, 1) := by decide +kernel
theorem dX2_beatsEach_38 : decode cX2_beatsEach 38 = .ok (.invokevirtual 181, 3) := by decide +kernel
theorem dX2_beatsEach_41 : decode cX2_beatsEach 41 = .ok (.if_icmp .gt 5, 3) := by decide +kernel
theorem dX2_beatsEach_44 : decode cX2_beatsEach 44 = .ok (.iconst 0, 1) := by decide +kernel
theorem dX2_beatsEach_45 : decode cX2_beatsEach 45 = .ok (.ireturn, 1) := by decide +kernel
theorem dX2_beatsEach_46 : decode cX2_beatsEach 46 = .ok (.iinc 2 1, 3) := by decide +kernel
theorem dX2_beatsEach_49 : decode cX2_beatsEach 49 = .ok (.goto (-47), 3) := by decide +kernel
theorem dX2_beatsEach_52 : decode cX2_beatsEach 52 = .ok (.iconst 1, 1) := by decide +kernel
theorem dX2_beatsEach_53 : decode cX2_beatsEach 53 = .ok (.ireturn, 1) := by decide +kernel
theorem dX2_comers_0 : decode cX2_comers 0 = .ok (.iconst 0, 1) := by decide +kernel
theorem dX2_comers_1 : decode cX2_comers 1 = .ok (.istore_n 2, 1) := by decide +kernel
theorem dX2_comers_2 : decode cX2_comers 2 = .ok (.iload_n 1, 1) := by decide +kernel
theorem dX2_comers_3 : decode cX2_comers 3 = .ok (.i2l, 1) := by decide +kernel
theorem dX2_comers_4 : decode cX2_comers 4 = .ok (.lstore_n 3, 1) := by decide +kernel
theorem dX2_comers_5 : decode cX2_comers 5 = .ok (.iconst 0, 1) := by decide +kernel
theorem dX2_comers_6 : decode cX2_comers 6 = .ok (.istore 5, 2) := by decide +kernel
theorem dX2_comers_8 : decode cX2_comers 8 = .ok (.iload 5, 2) := by decide +kernel
theorem dX2_comers_10 : decode cX2_comers 10 = .ok (.aload_n 0, 1) := by decide +kernel
theorem dX2_comers_11 : decode cX2_comers 11 = .ok (.getfield 21, 3) := by decide +kernel
theorem dX2_comers_14 : decode cX2_comers 14 = .ok (.getfield 35, 3) := by decide +kernel
theorem dX2_comers_17 : decode cX2_comers 17 = .ok (.if_icmp .ge 54, 3) := by decide +kernel
theorem dX2_comers_20 : decode cX2_comers 20 = .ok (.ldc2_w 152, 3) := by decide +kernel
theorem dX2_comers_23 : decode cX2_comers 23 = .ok (.lload_n 3, 1) := by decide +kernel
theorem dX2_comers_24 : decode cX2_comers 24 = .ok (.lmul, 1) := by decide +kernel
theorem dX2_comers_25 : decode cX2_comers 25 = .ok (.ldc2_w 154, 3) := by decide +kernel
theorem dX2_comers_28 : decode cX2_comers 28 = .ok (.ladd, 1) := by decide +kernel
theorem dX2_comers_29 : decode cX2_comers 29 = .ok (.ldc2_w 156, 3) := by decide +kernel
theorem dX2_comers_32 : decode cX2_comers 32 = .ok (.lrem, 1) := by decide +kernel
theorem dX2_comers_33 : decode cX2_comers 33 = .ok (.lstore_n 3, 1) := by decide +kernel
theorem dX2_comers_34 : decode cX2_comers 34 = .ok (.lload_n 3, 1) := by decide +kernel
theorem dX2_comers_35 : decode cX2_comers 35 = .ok (.ldc2_w 158, 3) := by decide +kernel
theorem dX2_comers_38 : decode cX2_comers 38 = .ok (.ldiv, 1) := by decide +kernel
theorem dX2_comers_39 : decode cX2_comers 39 = .ok (.ldc2_w 160, 3) := by decide +kernel
theorem dX2_comers_42 : decode cX2_comers 42 = .ok (.lrem, 1) := by decide +kernel
theorem dX2_comers_43 : decode cX2_comers 43 = .ok (.aload_n 0, 1) := by decide +kernel
theorem dX2_comers_44 : decode cX2_comers 44 = .ok (.getfield 21, 3) := by decide +kernel
theorem dX2_comers_47 : decode cX2_comers 47 = .ok (.getfield 162, 3) := by decide +kernel
theorem dX2_comers_50 : decode cX2_comers 50 = .ok (.iload 5, 2) := by decide +kernel
theorem dX2_comers_52 : decode cX2_comers 52 = .ok (.iaload, 1) := by decide +kernel
theorem dX2_comers_53 : decode cX2_comers 53 = .ok (.i2l, 1) := by decide +kernel
theorem dX2_comers_54 : decode cX2_comers 54 = .ok (.lcmp, 1) := by decide +kernel
theorem dX2_comers_55 : decode cX2_comers 55 = .ok (.ifCond .ge 10, 3) := by decide +kernel
theorem dX2_comers_58 : decode cX2_comers 58 = .ok (.iload_n 2, 1) := by decide +kernel
theorem dX2_comers_59 : decode cX2_comers 59 = .ok (.iconst 1, 1) := by decide +kernel
theorem dX2_comers_60 : decode cX2_comers 60 = .ok (.iload 5, 2) := by decide +kernel
theorem dX2_comers_62 : decode cX2_comers 62 = .ok (.ishl, 1) := by decide +kernel
theorem dX2_comers_63 : decode cX2_comers 63 = .ok (.ior, 1) := by decide +kernel
theorem dX2_comers_64 : decode cX2_comers 64 = .ok (.istore_n 2, 1) := by decide +kernel
theorem dX2_comers_65 : decode cX2_comers 65 = .ok (.iinc 5 1, 3) := by decide +kernel
theorem dX2_comers_68 : decode cX2_comers 68 = .ok (.goto (-60), 3) := by decide +kernel
theorem dX2_comers_71 : decode cX2_comers 71 = .ok (.iload_n 2, 1) := by decide +kernel
theorem dX2_comers_72 : decode cX2_comers 72 = .ok (.ireturn, 1) := by decide +kernel
theorem dX2_enrol_0 : decode cX2_enrol 0 = .ok (.aload_n 0, 1) := by decide +kernel
theorem dX2_enrol_1 : decode cX2_enrol 1 = .ok (.iload_n 1, 1) := by decide +kernel
theorem dX2_enrol_2 : decode cX2_enrol 2 = .ok (.putfield 48, 3) := by decide +kernel
theorem dX2_enrol_5 : decode cX2_enrol 5 = .ok (.aload_n 0, 1) := by decide +kernel
theorem dX2_enrol_6 : decode cX2_enrol 6 = .ok (.aload_n 0, 1) := by decide +kernel
theorem dX2_enrol_7 : decode cX2_enrol 7 = .ok (.getfield 21, 3) := by decide +kernel
theorem dX2_enrol_10 : decode cX2_enrol 10 = .ok (.iload_n 1, 1) := by decide +kernel
theorem dX2_enrol_11 : decode cX2_enrol 11 = .ok (.invokevirtual 51, 3) := by decide +kernel
theorem dX2_enrol_14 : decode cX2_enrol 14 = .ok (.putfield 54, 3) := by decide +kernel
theorem dX2_enrol_17 : decode cX2_enrol 17 = .ok (.return_, 1) := by decide +kernel
theorem dX2_fallenAt_0 : decode cX2_fallenAt 0 = .ok (.iload_n 1, 1) := by decide +kernel
theorem dX2_fallenAt_1 : decode cX2_fallenAt 1 = .ok (.ifCond .lt 20, 3) := by decide +kernel
theorem dX2_fallenAt_4 : decode cX2_fallenAt 4 = .ok (.iload_n 1, 1) := by decide +kernel
theorem dX2_fallenAt_5 : decode cX2_fallenAt 5 = .ok (.aload_n 0, 1) := by decide +kernel
theorem dX2_fallenAt_6 : decode cX2_fallenAt 6 = .ok (.getfield 71, 3) := by decide +kernel
theorem dX2_fallenAt_9 : decode cX2_fallenAt 9 = .ok (.if_icmp .ge 12, 3) := by decide +kernel
theorem dX2_fallenAt_12 : decode cX2_fallenAt 12 = .ok (.aload_n 0, 1) := by decide +kernel
theorem dX2_fallenAt_13 : decode cX2_fallenAt 13 = .ok (.getfield 18, 3) := by decide +kernel
theorem dX2_fallenAt_16 : decode cX2_fallenAt 16 = .ok (.iload_n 1, 1) := by decide +kernel
theorem dX2_fallenAt_17 : decode cX2_fallenAt 17 = .ok (.iaload, 1) := by decide +kernel
theorem dX2_fallenAt_18 : decode cX2_fallenAt 18 = .ok (.goto 4, 3) := by decide +kernel
theorem dX2_fallenAt_21 : decode cX2_fallenAt 21 = .ok (.iconst (-1), 1) := by decide +kernel
theorem dX2_fallenAt_22 : decode cX2_fallenAt 22 = .ok (.ireturn, 1) := by decide +kernel
theorem dX2_favourite_0 : decode cX2_favourite 0 = .ok (.iconst (-1), 1) := by decide +kernel
theorem dX2_favourite_1 : decode cX2_favourite 1 = .ok (.istore_n 3, 1) := by decide +kernel
theorem dX2_favourite_2 : decode cX2_favourite 2 = .ok (.iconst 0, 1) := by decide +kernel
theorem dX2_favourite_3 : decode cX2_favourite 3 = .ok (.istore 4, 2) := by decide +kernel
theorem dX2_favourite_5 : decode cX2_favourite 5 = .ok (.iconst 0, 1) := by decide +kernel
theorem dX2_favourite_6 : decode cX2_favourite 6 = .ok (.istore 5, 2) := by decide +kernel
theorem dX2_favourite_8 : decode cX2_favourite 8 = .ok (.iload 5, 2) := by decide +kernel
theorem dX2_favourite_10 : decode cX2_favourite 10 = .ok (.aload_n 0, 1) := by decide +kernel
theorem dX2_favourite_11 : decode cX2_favourite 11 = .ok (.getfield 21, 3) := by decide +kernel
theorem dX2_favourite_14 : decode cX2_favourite 14 = .ok (.getfield 57, 3) := by decide +kernel
theorem dX2_favourite_17 : decode cX2_favourite 17 = .ok (.if_icmp .ge 42, 3) := by decide +kernel
theorem dX2_favourite_20 : decode cX2_favourite 20 = .ok (.iload_n 2, 1) := by decide +kernel
theorem dX2_favourite_21 : decode cX2_favourite 21 = .ok (.iload 5, 2) := by decide +kernel
theorem dX2_favourite_23 : decode cX2_favourite 23 = .ok (.invokestatic 60, 3) := by decide +kernel
theorem dX2_favourite_26 : decode cX2_favourite 26 = .ok (.ifCond .eq 27, 3) := by decide +kernel
theorem dX2_favourite_29 : decode cX2_favourite 29 = .ok (.aload_n 0, 1) := by decide +kernel
theorem dX2_favourite_30 : decode cX2_favourite 30 = .ok (.iload_n 1, 1) := by decide +kernel
theorem dX2_favourite_31 : decode cX2_favourite 31 = .ok (.iload 5, 2) := by decide +kernel
theorem dX2_favourite_33 : decode cX2_favourite 33 = .ok (.invokevirtual 118, 3) := by decide +kernel
theorem dX2_favourite_36 : decode cX2_favourite 36 = .ok (.iload 4, 2) := by decide +kernel
theorem dX2_favourite_38 : decode cX2_favourite 38 = .ok (.if_icmp .le 15, 3) := by decide +kernel
theorem dX2_favourite_41 : decode cX2_favourite 41 = .ok (.iload 5, 2) := by decide +kernel
theorem dX2_favourite_43 : decode cX2_favourite 43 = .ok (.istore_n 3, 1) := by decide +kernel
theorem dX2_favourite_44 : decode cX2_favourite 44 = .ok (.aload_n 0, 1) := by decide +kernel
theorem dX2_favourite_45 : decode cX2_favourite 45 = .ok (.iload_n 1, 1) := by decide +kernel
theorem dX2_favourite_46 : decode cX2_favourite 46 = .ok (.iload 5, 2) := by decide +kernel
theorem dX2_favourite_48 : decode cX2_favourite 48 = .ok (.invokevirtual 118, 3) := by decide +kernel
theorem dX2_favourite_51 : decode cX2_favourite 51 = .ok (.istore 4, 2) := by decide +kernel
theorem dX2_favourite_53 : decode cX2_favourite 53 = .ok (.iinc 5 1, 3) := by decide +kernel
theorem dX2_favourite_56 : decode cX2_favourite 56 = .ok (.goto (-48), 3) := by decide +kernel
theorem dX2_favourite_59 : decode cX2_favourite 59 = .ok (.iload_n 3, 1) := by decide +kernel
theorem dX2_favourite_60 : decode cX2_favourite 60 = .ok (.ireturn, 1) := by decide +kernel
theorem dX2_fillZeal_0 : decode cX2_fillZeal 0 = .ok (.iconst 0, 1) := by decide +kernel
theorem dX2_fillZeal_1 : decode cX2_fillZeal 1 = .ok (.istore_n 2, 1) := by decide +kernel
theorem dX2_fillZeal_2 : decode cX2_fillZeal 2 = .ok (.iload_n 2, 1) := by decide +kernel
theorem dX2_fillZeal_3 : decode cX2_fillZeal 3 = .ok (.aload_n 0, 1) := by decide +kernel
theorem dX2_fillZeal_4 : decode cX2_fillZeal 4 = .ok (.getfield 21, 3) := by decide +kernel
theorem dX2_fillZeal_7 : decode cX2_fillZeal 7 = .ok (.getfield 57, 3) := by decide +kernel
theorem dX2_fillZeal_10 : decode cX2_fillZeal 10 = .ok (.if_icmp .ge 76, 3) := by decide +kernel
theorem dX2_fillZeal_13 : decode cX2_fillZeal 13 = .ok (.aload_n 0, 1) := by decide +kernel
theorem dX2_fillZeal_14 : decode cX2_fillZeal 14 = .ok (.getfield 31, 3) := by decide +kernel
theorem dX2_fillZeal_17 : decode cX2_fillZeal 17 = .ok (.iload_n 2, 1) := by decide +kernel
theorem dX2_fillZeal_18 : decode cX2_fillZeal 18 = .ok (.invokestatic 60, 3) := by decide +kernel
theorem dX2_fillZeal_21 : decode cX2_fillZeal 21 = .ok (.ifCond .eq 59, 3) := by decide +kernel
theorem dX2_fillZeal_24 : decode cX2_fillZeal 24 = .ok (.aload_n 0, 1) := by decide +kernel
theorem dX2_fillZeal_25 : decode cX2_fillZeal 25 = .ok (.getfield 21, 3) := by decide +kernel
theorem dX2_fillZeal_28 : decode cX2_fillZeal 28 = .ok (.iload_n 1, 1) := by decide +kernel
theorem dX2_fillZeal_29 : decode cX2_fillZeal 29 = .ok (.iload_n 2, 1) := by decide +kernel
theorem dX2_fillZeal_30 : decode cX2_fillZeal 30 = .ok (.invokevirtual 64, 3) := by decide +kernel
theorem dX2_fillZeal_33 : decode cX2_fillZeal 33 = .ok (.istore_n 3, 1) := by decide +kernel
theorem dX2_fillZeal_34 : decode cX2_fillZeal 34 = .ok (.bipush 16, 2) := by decide +kernel
theorem dX2_fillZeal_36 : decode cX2_fillZeal 36 = .ok (.aload_n 0, 1) := by decide +kernel
theorem dX2_fillZeal_37 : decode cX2_fillZeal 37 = .ok (.getfield 21, 3) := by decide +kernel
theorem dX2_fillZeal_40 : decode cX2_fillZeal 40 = .ok (.getfield 68, 3) := by decide +kernel
theorem dX2_fillZeal_43 : decode cX2_fillZeal 43 = .ok (.iload_n 2, 1) := by decide +kernel
theorem dX2_fillZeal_44 : decode cX2_fillZeal 44 = .ok (.iaload, 1) := by decide +kernel
theorem dX2_fillZeal_45 : decode cX2_fillZeal 45 = .ok (.imul, 1) := by decide +kernel
theorem dX2_fillZeal_46 : decode cX2_fillZeal 46 = .ok (.bipush 9, 2) := by decide +kernel
theorem dX2_fillZeal_48 : decode cX2_fillZeal 48 = .ok (.iadd, 1) := by decide +kernel
theorem dX2_fillZeal_49 : decode cX2_fillZeal 49 = .ok (.iload_n 2, 1) := by decide +kernel
theorem dX2_fillZeal_50 : decode cX2_fillZeal 50 = .ok (.isub, 1) := by decide +kernel
theorem dX2_fillZeal_51 : decode cX2_fillZeal 51 = .ok (.istore 4, 2) := by decide +kernel
theorem dX2_fillZeal_53 : decode cX2_fillZeal 53 = .ok (.aload_n 0, 1) := by decide +kernel
theorem dX2_fillZeal_54 : decode cX2_fillZeal 54 = .ok (.getfield 11, 3) := by decide +kernel
theorem dX2_fillZeal_57 : decode cX2_fillZeal 57 = .ok (.iload_n 1, 1) := by decide +kernel
theorem dX2_fillZeal_58 : decode cX2_fillZeal 58 = .ok (.bipush 9, 2) := by decide +kernel
theorem dX2_fillZeal_60 : decode cX2_fillZeal 60 = .ok (.imul, 1) := by decide +kernel
theorem dX2_fillZeal_61 : decode cX2_fillZeal 61 = .ok (.iload_n 2, 1) := by decide +kernel
theorem dX2_fillZeal_62 : decode cX2_fillZeal 62 = .ok (.iadd, 1) := by decide +kernel
theorem dX2_fillZeal_63 : decode cX2_fillZeal 63 = .ok (.iload_n 3, 1) := by decide +kernel
theorem dX2_fillZeal_64 : decode cX2_fillZeal 64 = .ok (.ifCond .ne 7, 3) := by decide +kernel
theorem dX2_fillZeal_67 : decode cX2_fillZeal 67 = .ok (.iconst 0, 1) := by decide +kernel
theorem dX2_fillZeal_68 : decode cX2_fillZeal 68 = .ok (.goto 11, 3) := by decide +kernel
theorem dX2_fillZeal_71 : decode cX2_fillZeal 71 = .ok (.sipush 256, 3) := by decide +kernel
theorem dX2_fillZeal_74 : decode cX2_fillZeal 74 = .ok (.iload_n 3, 1) := by decide +kernel
theorem dX2_fillZeal_75 : decode cX2_fillZeal 75 = .ok (.imul, 1) := by decide +kernel
theorem dX2_fillZeal_76 : decode cX2_fillZeal 76 = .ok (.iload 4, 2) := by decide +kernel
theorem dX2_fillZeal_78 : decode cX2_fillZeal 78 = .ok (.iadd, 1) := by decide +kernel
theorem dX2_fillZeal_79 : decode cX2_fillZeal 79 = .ok (.iastore, 1) := by decide +kernel
theorem dX2_fillZeal_80 : decode cX2_fillZeal 80 = .ok (.iinc 2 1, 3) := by decide +kernel
theorem dX2_fillZeal_83 : decode cX2_fillZeal 83 = .ok (.goto (-81), 3) := by decide +kernel
theorem dX2_fillZeal_86 : decode cX2_fillZeal 86 = .ok (.return_, 1) := by decide +kernel
theorem dX2_hold_0 : decode cX2_hold 0 = .ok (.aload_n 0, 1) := by decide +kernel
theorem dX2_hold_1 : decode cX2_hold 1 = .ok (.iconst 0, 1) := by decide +kernel
theorem dX2_hold_2 : decode cX2_hold 2 = .ok (.putfield 71, 3) := by decide +kernel
theorem dX2_hold_5 : decode cX2_hold 5 = .ok (.iload_n 1, 1) := by decide +kernel
theorem dX2_hold_6 : decode cX2_hold 6 = .ok (.tableswitch 59 1 3 #[26, 33, 40], 26) := by decide +kernel
theorem dX2_hold_32 : decode cX2_hold 32 = .ok (.aload_n 0, 1) := by decide +kernel
theorem dX2_hold_33 : decode cX2_hold 33 = .ok (.invokevirtual 74, 3) := by decide +kernel
theorem dX2_hold_36 : decode cX2_hold 36 = .ok (.goto 49, 3) := by decide +kernel
theorem dX2_hold_39 : decode cX2_hold 39 = .ok (.aload_n 0, 1) := by decide +kernel
theorem dX2_hold_40 : decode cX2_hold 40 = .ok (.invokevirtual 77, 3) := by decide +kernel
theorem dX2_hold_43 : decode cX2_hold 43 = .ok (.goto 42, 3) := by decide +kernel
theorem dX2_hold_46 : decode cX2_hold 46 = .ok (.aload_n 0, 1) := by decide +kernel
theorem dX2_hold_47 : decode cX2_hold 47 = .ok (.invokevirtual 80, 3) := by decide +kernel
theorem dX2_hold_50 : decode cX2_hold 50 = .ok (.aload_n 0, 1) := by decide +kernel
theorem dX2_hold_51 : decode cX2_hold 51 = .ok (.aload_n 0, 1) := by decide +kernel
theorem dX2_hold_52 : decode cX2_hold 52 = .ok (.aload_n 0, 1) := by decide +kernel
theorem dX2_hold_53 : decode cX2_hold 53 = .ok (.getfield 31, 3) := by decide +kernel
theorem dX2_hold_56 : decode cX2_hold 56 = .ok (.invokevirtual 83, 3) := by decide +kernel
theorem dX2_hold_59 : decode cX2_hold 59 = .ok (.putfield 86, 3) := by decide +kernel
theorem dX2_hold_62 : decode cX2_hold 62 = .ok (.goto 23, 3) := by decide +kernel
theorem dX2_hold_65 : decode cX2_hold 65 = .ok (.aload_n 0, 1) := by decide +kernel
theorem dX2_hold_66 : decode cX2_hold 66 = .ok (.aload_n 0, 1) := by decide +kernel
theorem dX2_hold_67 : decode cX2_hold 67 = .ok (.getfield 31, 3) := by decide +kernel
theorem dX2_hold_70 : decode cX2_hold 70 = .ok (.invokevirtual 89, 3) := by decide +kernel
theorem dX2_hold_73 : decode cX2_hold 73 = .ok (.aload_n 0, 1) := by decide +kernel
theorem dX2_hold_74 : decode cX2_hold 74 = .ok (.aload_n 0, 1) := by decide +kernel
theorem dX2_hold_75 : decode cX2_hold 75 = .ok (.aload_n 0, 1) := by decide +kernel
theorem dX2_hold_76 : decode cX2_hold 76 = .ok (.getfield 31, 3) := by decide +kernel
theorem dX2_hold_79 : decode cX2_hold 79 = .ok (.invokevirtual 83, 3) := by decide +kernel
theorem dX2_hold_82 : decode cX2_hold 82 = .ok (.putfield 86, 3) := by decide +kernel
theorem dX2_hold_85 : decode cX2_hold 85 = .ok (.aload_n 0, 1) := by decide +kernel
theorem dX2_hold_86 : decode cX2_hold 86 = .ok (.aload_n 0, 1) := by decide +kernel
theorem dX2_hold_87 : decode cX2_hold 87 = .ok (.getfield 86, 3) := by decide +kernel
theorem dX2_hold_90 : decode cX2_hold 90 = .ok (.iconst (-1), 1) := by decide +kernel
theorem dX2_hold_91 : decode cX2_hold 91 = .ok (.if_icmp .ne 7, 3) := by decide +kernel
theorem dX2_hold_94 : decode cX2_hold 94 = .ok (.iconst 0, 1) := by decide +kernel
theorem dX2_hold_95 : decode cX2_hold 95 = .ok (.goto 12, 3) := by decide +kernel
theorem dX2_hold_98 : decode cX2_hold 98 = .ok (.aload_n 0, 1) := by decide +kernel
theorem dX2_hold_99 : decode cX2_hold 99 = .ok (.getfield 15, 3) := by decide +kernel
theorem dX2_hold_102 : decode cX2_hold 102 = .ok (.aload_n 0, 1) := by decide +kernel
theorem dX2_hold_103 : decode cX2_hold 103 = .ok (.getfield 86, 3) := by decide +kernel
theorem dX2_hold_106 : decode cX2_hold 106 = .ok (.iaload, 1) := by decide +kernel
theorem dX2_hold_107 : decode cX2_hold 107 = .ok (.putfield 92, 3) := by decide +kernel
theorem dX2_hold_110 : decode cX2_hold 110 = .ok (.aload_n 0, 1) := by decide +kernel
theorem dX2_hold_111 : decode cX2_hold 111 = .ok (.getfield 92, 3) := by decide +kernel
theorem dX2_hold_114 : decode cX2_hold 114 = .ok (.ifCond .ne 8, 3) := by decide +kernel
theorem dX2_hold_117 : decode cX2_hold 117 = .ok (.aload_n 0, 1) := by decide +kernel
theorem dX2_hold_118 : decode cX2_hold 118 = .ok (.iconst (-1), 1) := by decide +kernel
theorem dX2_hold_119 : decode cX2_hold 119 = .ok (.putfield 86, 3) := by decide +kernel
theorem dX2_hold_122 : decode cX2_hold 122 = .ok (.return_, 1) := by decide +kernel
theorem dX2_inOrder_0 : decode cX2_inOrder 0 = .ok (.aload_n 0, 1) := by decide +kernel
theorem dX2_inOrder_1 : decode cX2_inOrder 1 = .ok (.getfield 31, 3) := by decide +kernel
theorem dX2_inOrder_4 : decode cX2_inOrder 4 = .ok (.istore_n 3, 1) := by decide +kernel
theorem dX2_inOrder_5 : decode cX2_inOrder 5 = .ok (.iload_n 2, 1) := by decide +kernel
theorem dX2_inOrder_6 : decode cX2_inOrder 6 = .ok (.ifCond .ge 7, 3) := by decide +kernel
theorem dX2_inOrder_9 : decode cX2_inOrder 9 = .ok (.iconst (-1), 1) := by decide +kernel
theorem dX2_inOrder_10 : decode cX2_inOrder 10 = .ok (.goto 9, 3) := by decide +kernel
theorem dX2_inOrder_13 : decode cX2_inOrder 13 = .ok (.aload_n 0, 1) := by decide +kernel
theorem dX2_inOrder_14 : decode cX2_inOrder 14 = .ok (.iload_n 1, 1) := by decide +kernel
theorem dX2_inOrder_15 : decode cX2_inOrder 15 = .ok (.iload_n 3, 1) := by decide +kernel
theorem dX2_inOrder_16 : decode cX2_inOrder 16 = .ok (.invokevirtual 112, 3) := by decide +kernel
theorem dX2_inOrder_19 : decode cX2_inOrder 19 = .ok (.istore 4, 2) := by decide +kernel
theorem dX2_inOrder_21 : decode cX2_inOrder 21 = .ok (.iconst 0, 1) := by decide +kernel
theorem dX2_inOrder_22 : decode cX2_inOrder 22 = .ok (.istore 5, 2) := by decide +kernel
theorem dX2_inOrder_24 : decode cX2_inOrder 24 = .ok (.iload 5, 2) := by decide +kernel
theorem dX2_inOrder_26 : decode cX2_inOrder 26 = .ok (.bipush 9, 2) := by decide +kernel
theorem dX2_inOrder_28 : decode cX2_inOrder 28 = .ok (.if_icmp .ge 38, 3) := by decide +kernel
theorem dX2_inOrder_31 : decode cX2_inOrder 31 = .ok (.iload 5, 2) := by decide +kernel
theorem dX2_inOrder_33 : decode cX2_inOrder 33 = .ok (.iload_n 2, 1) := by decide +kernel
theorem dX2_inOrder_34 : decode cX2_inOrder 34 = .ok (.if_icmp .ge 32, 3) := by decide +kernel
theorem dX2_inOrder_37 : decode cX2_inOrder 37 = .ok (.iload 4, 2) := by decide +kernel
theorem dX2_inOrder_39 : decode cX2_inOrder 39 = .ok (.iconst (-1), 1) := by decide +kernel
theorem dX2_inOrder_40 : decode cX2_inOrder 40 = .ok (.if_icmp .eq 26, 3) := by decide +kernel
theorem dX2_inOrder_43 : decode cX2_inOrder 43 = .ok (.iload_n 3, 1) := by decide +kernel
theorem dX2_inOrder_44 : decode cX2_inOrder 44 = .ok (.iconst 1, 1) := by decide +kernel
theorem dX2_inOrder_45 : decode cX2_inOrder 45 = .ok (.iload 4, 2) := by decide +kernel
theorem dX2_inOrder_47 : decode cX2_inOrder 47 = .ok (.ishl, 1) := by decide +kernel
theorem dX2_inOrder_48 : decode cX2_inOrder 48 = .ok (.iconst (-1), 1) := by decide +kernel
theorem dX2_inOrder_49 : decode cX2_inOrder 49 = .ok (.ixor, 1) := by decide +kernel
theorem dX2_inOrder_50 : decode cX2_inOrder 50 = .ok (.iand, 1) := by decide +kernel
theorem dX2_inOrder_51 : decode cX2_inOrder 51 = .ok (.istore_n 3, 1) := by decide +kernel
theorem dX2_inOrder_52 : decode cX2_inOrder 52 = .ok (.aload_n 0, 1) := by decide +kernel
theorem dX2_inOrder_53 : decode cX2_inOrder 53 = .ok (.iload_n 1, 1) := by decide +kernel
theorem dX2_inOrder_54 : decode cX2_inOrder 54 = .ok (.iload_n 3, 1) := by decide +kernel
theorem dX2_inOrder_55 : decode cX2_inOrder 55 = .ok (.invokevirtual 112, 3) := by decide +kernel
theorem dX2_inOrder_58 : decode cX2_inOrder 58 = .ok (.istore 4, 2) := by decide +kernel
theorem dX2_inOrder_60 : decode cX2_inOrder 60 = .ok (.iinc 5 1, 3) := by decide +kernel
theorem dX2_inOrder_63 : decode cX2_inOrder 63 = .ok (.goto (-39), 3) := by decide +kernel
theorem dX2_inOrder_66 : decode cX2_inOrder 66 = .ok (.iload 4, 2) := by decide +kernel
theorem dX2_inOrder_68 : decode cX2_inOrder 68 = .ok (.ireturn, 1) := by decide +kernel
theorem dX2_leader_0 : decode cX2_leader 0 = .ok (.iconst (-1), 1) := by decide +kernel
theorem dX2_leader_1 : decode cX2_leader 1 = .ok (.istore_n 2, 1) := by decide +kernel
theorem dX2_leader_2 : decode cX2_leader 2 = .ok (.iconst 0, 1) := by decide +kernel
theorem dX2_leader_3 : decode cX2_leader 3 = .ok (.istore_n 3, 1) := by decide +kernel
theorem dX2_leader_4 : decode cX2_leader 4 = .ok (.iload_n 3, 1) := by decide +kernel
theorem dX2_leader_5 : decode cX2_leader 5 = .ok (.aload_n 0, 1) := by decide +kernel
theorem dX2_leader_6 : decode cX2_leader 6 = .ok (.getfield 21, 3) := by decide +kernel
theorem dX2_leader_9 : decode cX2_leader 9 = .ok (.getfield 57, 3) := by decide +kernel
theorem dX2_leader_12 : decode cX2_leader 12 = .ok (.if_icmp .ge 33, 3) := by decide +kernel
theorem dX2_leader_15 : decode cX2_leader 15 = .ok (.iload_n 1, 1) := by decide +kernel
theorem dX2_leader_16 : decode cX2_leader 16 = .ok (.iload_n 3, 1) := by decide +kernel
theorem dX2_leader_17 : decode cX2_leader 17 = .ok (.invokestatic 60, 3) := by decide +kernel
theorem dX2_leader_20 : decode cX2_leader 20 = .ok (.ifCond .eq 19, 3) := by decide +kernel
theorem dX2_leader_23 : decode cX2_leader 23 = .ok (.iload_n 2, 1) := by decide +kernel
theorem dX2_leader_24 : decode cX2_leader 24 = .ok (.iconst (-1), 1) := by decide +kernel
theorem dX2_leader_25 : decode cX2_leader 25 = .ok (.if_icmp .eq 12, 3) := by decide +kernel
theorem dX2_leader_28 : decode cX2_leader 28 = .ok (.aload_n 0, 1) := by decide +kernel
theorem dX2_leader_29 : decode cX2_leader 29 = .ok (.iload_n 3, 1) := by decide +kernel
theorem dX2_leader_30 : decode cX2_leader 30 = .ok (.iload_n 2, 1) := by decide +kernel
theorem dX2_leader_31 : decode cX2_leader 31 = .ok (.invokevirtual 121, 3) := by decide +kernel
theorem dX2_leader_34 : decode cX2_leader 34 = .ok (.ifCond .eq 5, 3) := by decide +kernel
theorem dX2_leader_37 : decode cX2_leader 37 = .ok (.iload_n 3, 1) := by decide +kernel
theorem dX2_leader_38 : decode cX2_leader 38 = .ok (.istore_n 2, 1) := by decide +kernel
theorem dX2_leader_39 : decode cX2_leader 39 = .ok (.iinc 3 1, 3) := by decide +kernel
theorem dX2_leader_42 : decode cX2_leader 42 = .ok (.goto (-38), 3) := by decide +kernel
theorem dX2_leader_45 : decode cX2_leader 45 = .ok (.iload_n 2, 1) := by decide +kernel
theorem dX2_leader_46 : decode cX2_leader 46 = .ok (.ireturn, 1) := by decide +kernel
theorem dX2_leads_0 : decode cX2_leads 0 = .ok (.aload_n 0, 1) := by decide +kernel
theorem dX2_leads_1 : decode cX2_leads 1 = .ok (.getfield 15, 3) := by decide +kernel
theorem dX2_leads_4 : decode cX2_leads 4 = .ok (.iload_n 1, 1) := by decide +kernel
theorem dX2_leads_5 : decode cX2_leads 5 = .ok (.iaload, 1) := by decide +kernel
theorem dX2_leads_6 : decode cX2_leads 6 = .ok (.aload_n 0, 1) := by decide +kernel
theorem dX2_leads_7 : decode cX2_leads 7 = .ok (.getfield 15, 3) := by decide +kernel
theorem dX2_leads_10 : decode cX2_leads 10 = .ok (.iload_n 2, 1) := by decide +kernel
theorem dX2_leads_11 : decode cX2_leads 11 = .ok (.iaload, 1) := by decide +kernel
theorem dX2_leads_12 : decode cX2_leads 12 = .ok (.if_icmp .eq 24, 3) := by decide +kernel
theorem dX2_leads_15 : decode cX2_leads 15 = .ok (.aload_n 0, 1) := by decide +kernel
theorem dX2_leads_16 : decode cX2_leads 16 = .ok (.getfield 15, 3) := by decide +kernel
theorem dX2_leads_19 : decode cX2_leads 19 = .ok (.iload_n 1, 1) := by decide +kernel
theorem dX2_leads_20 : decode cX2_leads 20 = .ok (.iaload, 1) := by decide +kernel
theorem dX2_leads_21 : decode cX2_leads 21 = .ok (.aload_n 0, 1) := by decide +kernel
theorem dX2_leads_22 : decode cX2_leads 22 = .ok (.getfield 15, 3) := by decide +kernel
theorem dX2_leads_25 : decode cX2_leads 25 = .ok (.iload_n 2, 1) := by decide +kernel
theorem dX2_leads_26 : decode cX2_leads 26 = .ok (.iaload, 1) := by decide +kernel
theorem dX2_leads_27 : decode cX2_leads 27 = .ok (.if_icmp .le 7, 3) := by decide +kernel
theorem dX2_leads_30 : decode cX2_leads 30 = .ok (.iconst 1, 1) := by decide +kernel
theorem dX2_leads_31 : decode cX2_leads 31 = .ok (.goto 4, 3) := by decide +kernel
theorem dX2_leads_34 : decode cX2_leads 34 = .ok (.iconst 0, 1) := by decide +kernel
theorem dX2_leads_35 : decode cX2_leads 35 = .ok (.ireturn, 1) := by decide +kernel
theorem dX2_leads_36 : decode cX2_leads 36 = .ok (.aload_n 0, 1) := by decide +kernel
theorem dX2_leads_37 : decode cX2_leads 37 = .ok (.getfield 21, 3) := by decide +kernel
theorem dX2_leads_40 : decode cX2_leads 40 = .ok (.getfield 68, 3) := by decide +kernel
theorem dX2_leads_43 : decode cX2_leads 43 = .ok (.iload_n 1, 1) := by decide +kernel
theorem dX2_leads_44 : decode cX2_leads 44 = .ok (.iaload, 1) := by decide +kernel
theorem dX2_leads_45 : decode cX2_leads 45 = .ok (.aload_n 0, 1) := by decide +kernel
theorem dX2_leads_46 : decode cX2_leads 46 = .ok (.getfield 21, 3) := by decide +kernel
theorem dX2_leads_49 : decode cX2_leads 49 = .ok (.getfield 68, 3) := by decide +kernel
theorem dX2_leads_52 : decode cX2_leads 52 = .ok (.iload_n 2, 1) := by decide +kernel
theorem dX2_leads_53 : decode cX2_leads 53 = .ok (.iaload, 1) := by decide +kernel
theorem dX2_leads_54 : decode cX2_leads 54 = .ok (.if_icmp .eq 30, 3) := by decide +kernel
theorem dX2_leads_57 : decode cX2_leads 57 = .ok (.aload_n 0, 1) := by decide +kernel
theorem dX2_leads_58 : decode cX2_leads 58 = .ok (.getfield 21, 3) := by decide +kernel
theorem dX2_leads_61 : decode cX2_leads 61 = .ok (.getfield 68, 3) := by decide +kernel
theorem dX2_leads_64 : decode cX2_leads 64 = .ok (.iload_n 1, 1) := by decide +kernel
theorem dX2_leads_65 : decode cX2_leads 65 = .ok (.iaload, 1) := by decide +kernel
theorem dX2_leads_66 : decode cX2_leads 66 = .ok (.aload_n 0, 1) := by decide +kernel
theorem dX2_leads_67 : decode cX2_leads 67 = .ok (.getfield 21, 3) := by decide +kernel
theorem dX2_leads_70 : decode cX2_leads 70 = .ok (.getfield 68, 3) := by decide +kernel
theorem dX2_leads_73 : decode cX2_leads 73 = .ok (.iload_n 2, 1) := by decide +kernel
theorem dX2_leads_74 : decode cX2_leads 74 = .ok (.iaload, 1) := by decide +kernel
theorem dX2_leads_75 : decode cX2_leads 75 = .ok (.if_icmp .le 7, 3) := by decide +kernel
theorem dX2_leads_78 : decode cX2_leads 78 = .ok (.iconst 1, 1) := by decide +kernel
theorem dX2_leads_79 : decode cX2_leads 79 = .ok (.goto 4, 3) := by decide +kernel
theorem dX2_leads_82 : decode cX2_leads 82 = .ok (.iconst 0, 1) := by decide +kernel
theorem dX2_leads_83 : decode cX2_leads 83 = .ok (.ireturn, 1) := by decide +kernel
theorem dX2_leads_84 : decode cX2_leads 84 = .ok (.iload_n 1, 1) := by decide +kernel
theorem dX2_leads_85 : decode cX2_leads 85 = .ok (.iload_n 2, 1) := by decide +kernel
theorem dX2_leads_86 : decode cX2_leads 86 = .ok (.if_icmp .ge 7, 3) := by decide +kernel
theorem dX2_leads_89 : decode cX2_leads 89 = .ok (.iconst 1, 1) := by decide +kernel
theorem dX2_leads_90 : decode cX2_leads 90 = .ok (.goto 4, 3) := by decide +kernel
theorem dX2_leads_93 : decode cX2_leads 93 = .ok (.iconst 0, 1) := by decide +kernel
theorem dX2_leads_94 : decode cX2_leads 94 = .ok (.ireturn, 1) := by decide +kernel
theorem dX2_open_0 : decode cX2_open 0 = .ok (.aload_n 0, 1) := by decide +kernel
theorem dX2_open_1 : decode cX2_open 1 = .ok (.aload_n 0, 1) := by decide +kernel
theorem dX2_open_2 : decode cX2_open 2 = .ok (.getfield 21, 3) := by decide +kernel
theorem dX2_open_5 : decode cX2_open 5 = .ok (.iload_n 1, 1) := by decide +kernel
theorem dX2_open_6 : decode cX2_open 6 = .ok (.invokevirtual 25, 3) := by decide +kernel
theorem dX2_open_9 : decode cX2_open 9 = .ok (.putfield 31, 3) := by decide +kernel
theorem dX2_open_12 : decode cX2_open 12 = .ok (.iconst 0, 1) := by decide +kernel
theorem dX2_open_13 : decode cX2_open 13 = .ok (.istore_n 2, 1) := by decide +kernel
theorem dX2_open_14 : decode cX2_open 14 = .ok (.iload_n 2, 1) := by decide +kernel
theorem dX2_open_15 : decode cX2_open 15 = .ok (.aload_n 0, 1) := by decide +kernel
theorem dX2_open_16 : decode cX2_open 16 = .ok (.getfield 21, 3) := by decide +kernel
theorem dX2_open_19 : decode cX2_open 19 = .ok (.getfield 35, 3) := by decide +kernel
theorem dX2_open_22 : decode cX2_open 22 = .ok (.if_icmp .ge 14, 3) := by decide +kernel
theorem dX2_open_25 : decode cX2_open 25 = .ok (.aload_n 0, 1) := by decide +kernel
theorem dX2_open_26 : decode cX2_open 26 = .ok (.iload_n 2, 1) := by decide +kernel
theorem dX2_open_27 : decode cX2_open 27 = .ok (.invokevirtual 38, 3) := by decide +kernel
theorem dX2_open_30 : decode cX2_open 30 = .ok (.iinc 2 1, 3) := by decide +kernel
theorem dX2_open_33 : decode cX2_open 33 = .ok (.goto (-19), 3) := by decide +kernel
theorem dX2_open_36 : decode cX2_open 36 = .ok (.aload_n 0, 1) := by decide +kernel
theorem dX2_open_37 : decode cX2_open 37 = .ok (.aload_n 0, 1) := by decide +kernel
theorem dX2_open_38 : decode cX2_open 38 = .ok (.getfield 21, 3) := by decide +kernel
theorem dX2_open_41 : decode cX2_open 41 = .ok (.iload_n 1, 1) := by decide +kernel
theorem dX2_open_42 : decode cX2_open 42 = .ok (.invokevirtual 42, 3) := by decide +kernel
theorem dX2_open_45 : decode cX2_open 45 = .ok (.invokevirtual 45, 3) := by decide +kernel
theorem dX2_open_48 : decode cX2_open 48 = .ok (.return_, 1) := by decide +kernel
theorem dX2_runOff_0 : decode cX2_runOff 0 = .ok (.aload_n 0, 1) := by decide +kernel
theorem dX2_runOff_1 : decode cX2_runOff 1 = .ok (.aload_n 0, 1) := by decide +kernel
theorem dX2_runOff_2 : decode cX2_runOff 2 = .ok (.getfield 31, 3) := by decide +kernel
theorem dX2_runOff_5 : decode cX2_runOff 5 = .ok (.invokevirtual 89, 3) := by decide +kernel
theorem dX2_runOff_8 : decode cX2_runOff 8 = .ok (.aload_n 0, 1) := by decide +kernel
theorem dX2_runOff_9 : decode cX2_runOff 9 = .ok (.aload_n 0, 1) := by decide +kernel
theorem dX2_runOff_10 : decode cX2_runOff 10 = .ok (.getfield 31, 3) := by decide +kernel
theorem dX2_runOff_13 : decode cX2_runOff 13 = .ok (.invokevirtual 83, 3) := by decide +kernel
theorem dX2_runOff_16 : decode cX2_runOff 16 = .ok (.istore_n 1, 1) := by decide +kernel
theorem dX2_runOff_17 : decode cX2_runOff 17 = .ok (.iload_n 1, 1) := by decide +kernel
theorem dX2_runOff_18 : decode cX2_runOff 18 = .ok (.iconst (-1), 1) := by decide +kernel
theorem dX2_runOff_19 : decode cX2_runOff 19 = .ok (.if_icmp .ne 7, 3) := by decide +kernel
theorem dX2_runOff_22 : decode cX2_runOff 22 = .ok (.iconst 0, 1) := by decide +kernel
theorem dX2_runOff_23 : decode cX2_runOff 23 = .ok (.goto 6, 3) := by decide +kernel
theorem dX2_runOff_26 : decode cX2_runOff 26 = .ok (.iconst 1, 1) := by decide +kernel
theorem dX2_runOff_27 : decode cX2_runOff 27 = .ok (.iload_n 1, 1) := by decide +kernel
theorem dX2_runOff_28 : decode cX2_runOff 28 = .ok (.ishl, 1) := by decide +kernel
theorem dX2_runOff_29 : decode cX2_runOff 29 = .ok (.istore_n 2, 1) := by decide +kernel
theorem dX2_runOff_30 : decode cX2_runOff 30 = .ok (.aload_n 0, 1) := by decide +kernel
theorem dX2_runOff_31 : decode cX2_runOff 31 = .ok (.aload_n 0, 1) := by decide +kernel
theorem dX2_runOff_32 : decode cX2_runOff 32 = .ok (.getfield 31, 3) := by decide +kernel
theorem dX2_runOff_35 : decode cX2_runOff 35 = .ok (.iload_n 2, 1) := by decide +kernel
theorem dX2_runOff_36 : decode cX2_runOff 36 = .ok (.iconst (-1), 1) := by decide +kernel
theorem dX2_runOff_37 : decode cX2_runOff 37 = .ok (.ixor, 1) := by decide +kernel
theorem dX2_runOff_38 : decode cX2_runOff 38 = .ok (.iand, 1) := by decide +kernel
theorem dX2_runOff_39 : decode cX2_runOff 39 = .ok (.invokevirtual 83, 3) := by decide +kernel
theorem dX2_runOff_42 : decode cX2_runOff 42 = .ok (.istore_n 3, 1) := by decide +kernel
theorem dX2_runOff_43 : decode cX2_runOff 43 = .ok (.iload_n 2, 1) := by decide +kernel
theorem dX2_runOff_44 : decode cX2_runOff 44 = .ok (.iload_n 3, 1) := by decide +kernel
theorem dX2_runOff_45 : decode cX2_runOff 45 = .ok (.iconst (-1), 1) := by decide +kernel
theorem dX2_runOff_46 : decode cX2_runOff 46 = .ok (.if_icmp .ne 7, 3) := by decide +kernel
theorem dX2_runOff_49 : decode cX2_runOff 49 = .ok (.iconst 0, 1) := by decide +kernel
theorem dX2_runOff_50 : decode cX2_runOff 50 = .ok (.goto 6, 3) := by decide +kernel
theorem dX2_runOff_53 : decode cX2_runOff 53 = .ok (.iconst 1, 1) := by decide +kernel
theorem dX2_runOff_54 : decode cX2_runOff 54 = .ok (.iload_n 3, 1) := by decide +kernel
theorem dX2_runOff_55 : decode cX2_runOff 55 = .ok (.ishl, 1) := by decide +kernel
theorem dX2_runOff_56 : decode cX2_runOff 56 = .ok (.ior, 1) := by decide +kernel
theorem dX2_runOff_57 : decode cX2_runOff 57 = .ok (.istore_n 2, 1) := by decide +kernel
theorem dX2_runOff_58 : decode cX2_runOff 58 = .ok (.aload_n 0, 1) := by decide +kernel
theorem dX2_runOff_59 : decode cX2_runOff 59 = .ok (.iload_n 2, 1) := by decide +kernel
theorem dX2_runOff_60 : decode cX2_runOff 60 = .ok (.invokevirtual 89, 3) := by decide +kernel
theorem dX2_runOff_63 : decode cX2_runOff 63 = .ok (.aload_n 0, 1) := by decide +kernel
theorem dX2_runOff_64 : decode cX2_runOff 64 = .ok (.aload_n 0, 1) := by decide +kernel
theorem dX2_runOff_65 : decode cX2_runOff 65 = .ok (.iload_n 2, 1) := by decide +kernel
theorem dX2_runOff_66 : decode cX2_runOff 66 = .ok (.invokevirtual 83, 3) := by decide +kernel
theorem dX2_runOff_69 : decode cX2_runOff 69 = .ok (.putfield 86, 3) := by decide +kernel
theorem dX2_runOff_72 : decode cX2_runOff 72 = .ok (.return_, 1) := by decide +kernel
theorem dX2_seekFeint_0 : decode cX2_seekFeint 0 = .ok (.aload_n 0, 1) := by decide +kernel
theorem dX2_seekFeint_1 : decode cX2_seekFeint 1 = .ok (.iconst (-1), 1) := by decide +kernel
theorem dX2_seekFeint_2 : decode cX2_seekFeint 2 = .ok (.putfield 184, 3) := by decide +kernel
theorem dX2_seekFeint_5 : decode cX2_seekFeint 5 = .ok (.aload_n 0, 1) := by decide +kernel
theorem dX2_seekFeint_6 : decode cX2_seekFeint 6 = .ok (.iconst 0, 1) := by decide +kernel
theorem dX2_seekFeint_7 : decode cX2_seekFeint 7 = .ok (.putfield 187, 3) := by decide +kernel
theorem dX2_seekFeint_10 : decode cX2_seekFeint 10 = .ok (.aload_n 0, 1) := by decide +kernel
theorem dX2_seekFeint_11 : decode cX2_seekFeint 11 = .ok (.getfield 21, 3) := by decide +kernel
theorem dX2_seekFeint_14 : decode cX2_seekFeint 14 = .ok (.getfield 190, 3) := by decide +kernel
theorem dX2_seekFeint_17 : decode cX2_seekFeint 17 = .ok (.iload_n 1, 1) := by decide +kernel
theorem dX2_seekFeint_18 : decode cX2_seekFeint 18 = .ok (.iaload, 1) := by decide +kernel
theorem dX2_seekFeint_19 : decode cX2_seekFeint 19 = .ok (.istore_n 2, 1) := by decide +kernel
theorem dX2_seekFeint_20 : decode cX2_seekFeint 20 = .ok (.aload_n 0, 1) := by decide +kernel
theorem dX2_seekFeint_21 : decode cX2_seekFeint 21 = .ok (.getfield 21, 3) := by decide +kernel
theorem dX2_seekFeint_24 : decode cX2_seekFeint 24 = .ok (.iload_n 1, 1) := by decide +kernel
theorem dX2_seekFeint_25 : decode cX2_seekFeint 25 = .ok (.aload_n 0, 1) := by decide +kernel
theorem dX2_seekFeint_26 : decode cX2_seekFeint 26 = .ok (.iload_n 2, 1) := by decide +kernel
theorem dX2_seekFeint_27 : decode cX2_seekFeint 27 = .ok (.aload_n 0, 1) := by decide +kernel
theorem dX2_seekFeint_28 : decode cX2_seekFeint 28 = .ok (.getfield 21, 3) := by decide +kernel
theorem dX2_seekFeint_31 : decode cX2_seekFeint 31 = .ok (.getfield 140, 3) := by decide +kernel
theorem dX2_seekFeint_34 : decode cX2_seekFeint 34 = .ok (.invokevirtual 143, 3) := by decide +kernel
theorem dX2_seekFeint_37 : decode cX2_seekFeint 37 = .ok (.invokevirtual 64, 3) := by decide +kernel
theorem dX2_seekFeint_40 : decode cX2_seekFeint 40 = .ok (.istore_n 3, 1) := by decide +kernel
theorem dX2_seekFeint_41 : decode cX2_seekFeint 41 = .ok (.aload_n 0, 1) := by decide +kernel
theorem dX2_seekFeint_42 : decode cX2_seekFeint 42 = .ok (.getfield 21, 3) := by decide +kernel
theorem dX2_seekFeint_45 : decode cX2_seekFeint 45 = .ok (.iload_n 2, 1) := by decide +kernel
theorem dX2_seekFeint_46 : decode cX2_seekFeint 46 = .ok (.invokevirtual 25, 3) := by decide +kernel
theorem dX2_seekFeint_49 : decode cX2_seekFeint 49 = .ok (.istore 4, 2) := by decide +kernel
theorem dX2_seekFeint_51 : decode cX2_seekFeint 51 = .ok (.iconst 0, 1) := by decide +kernel
theorem dX2_seekFeint_52 : decode cX2_seekFeint 52 = .ok (.istore 5, 2) := by decide +kernel
theorem dX2_seekFeint_54 : decode cX2_seekFeint 54 = .ok (.iload 5, 2) := by decide +kernel
theorem dX2_seekFeint_56 : decode cX2_seekFeint 56 = .ok (.aload_n 0, 1) := by decide +kernel
theorem dX2_seekFeint_57 : decode cX2_seekFeint 57 = .ok (.getfield 21, 3) := by decide +kernel
theorem dX2_seekFeint_60 : decode cX2_seekFeint 60 = .ok (.getfield 57, 3) := by decide +kernel
theorem dX2_seekFeint_63 : decode cX2_seekFeint 63 = .ok (.if_icmp .ge 59, 3) := by decide +kernel
theorem dX2_seekFeint_66 : decode cX2_seekFeint 66 = .ok (.iload 4, 2) := by decide +kernel
theorem dX2_seekFeint_68 : decode cX2_seekFeint 68 = .ok (.iload 5, 2) := by decide +kernel
theorem dX2_seekFeint_70 : decode cX2_seekFeint 70 = .ok (.invokestatic 60, 3) := by decide +kernel
theorem dX2_seekFeint_73 : decode cX2_seekFeint 73 = .ok (.ifCond .eq 43, 3) := by decide +kernel
theorem dX2_seekFeint_76 : decode cX2_seekFeint 76 = .ok (.aload_n 0, 1) := by decide +kernel
theorem dX2_seekFeint_77 : decode cX2_seekFeint 77 = .ok (.getfield 21, 3) := by decide +kernel
theorem dX2_seekFeint_80 : decode cX2_seekFeint 80 = .ok (.iload_n 1, 1) := by decide +kernel
theorem dX2_seekFeint_81 : decode cX2_seekFeint 81 = .ok (.aload_n 0, 1) := by decide +kernel
theorem dX2_seekFeint_82 : decode cX2_seekFeint 82 = .ok (.iload_n 1, 1) := by decide +kernel
theorem dX2_seekFeint_83 : decode cX2_seekFeint 83 = .ok (.iload 5, 2) := by decide +kernel
theorem dX2_seekFeint_85 : decode cX2_seekFeint 85 = .ok (.invokevirtual 193, 3) := by decide +kernel
theorem dX2_seekFeint_88 : decode cX2_seekFeint 88 = .ok (.invokevirtual 64, 3) := by decide +kernel
theorem dX2_seekFeint_91 : decode cX2_seekFeint 91 = .ok (.iload_n 3, 1) := by decide +kernel
theorem dX2_seekFeint_92 : decode cX2_seekFeint 92 = .ok (.isub, 1) := by decide +kernel
theorem dX2_seekFeint_93 : decode cX2_seekFeint 93 = .ok (.istore 6, 2) := by decide +kernel
theorem dX2_seekFeint_95 : decode cX2_seekFeint 95 = .ok (.iload 6, 2) := by decide +kernel
theorem dX2_seekFeint_97 : decode cX2_seekFeint 97 = .ok (.aload_n 0, 1) := by decide +kernel
theorem dX2_seekFeint_98 : decode cX2_seekFeint 98 = .ok (.getfield 187, 3) := by decide +kernel
theorem dX2_seekFeint_101 : decode cX2_seekFeint 101 = .ok (.if_icmp .le 15, 3) := by decide +kernel
theorem dX2_seekFeint_104 : decode cX2_seekFeint 104 = .ok (.aload_n 0, 1) := by decide +kernel
theorem dX2_seekFeint_105 : decode cX2_seekFeint 105 = .ok (.iload 5, 2) := by decide +kernel
theorem dX2_seekFeint_107 : decode cX2_seekFeint 107 = .ok (.putfield 184, 3) := by decide +kernel
theorem dX2_seekFeint_110 : decode cX2_seekFeint 110 = .ok (.aload_n 0, 1) := by decide +kernel
theorem dX2_seekFeint_111 : decode cX2_seekFeint 111 = .ok (.iload 6, 2) := by decide +kernel
theorem dX2_seekFeint_113 : decode cX2_seekFeint 113 = .ok (.putfield 187, 3) := by decide +kernel
theorem dX2_seekFeint_116 : decode cX2_seekFeint 116 = .ok (.iinc 5 1, 3) := by decide +kernel
theorem dX2_seekFeint_119 : decode cX2_seekFeint 119 = .ok (.goto (-65), 3) := by decide +kernel
theorem dX2_seekFeint_122 : decode cX2_seekFeint 122 = .ok (.return_, 1) := by decide +kernel
theorem dX2_spoiling_0 : decode cX2_spoiling 0 = .ok (.iconst 0, 1) := by decide +kernel
theorem dX2_spoiling_1 : decode cX2_spoiling 1 = .ok (.istore_n 1, 1) := by decide +kernel
theorem dX2_spoiling_2 : decode cX2_spoiling 2 = .ok (.iconst 0, 1) := by decide +kernel
theorem dX2_spoiling_3 : decode cX2_spoiling 3 = .ok (.istore_n 2, 1) := by decide +kernel
theorem dX2_spoiling_4 : decode cX2_spoiling 4 = .ok (.iload_n 2, 1) := by decide +kernel
theorem dX2_spoiling_5 : decode cX2_spoiling 5 = .ok (.aload_n 0, 1) := by decide +kernel
theorem dX2_spoiling_6 : decode cX2_spoiling 6 = .ok (.getfield 21, 3) := by decide +kernel
theorem dX2_spoiling_9 : decode cX2_spoiling 9 = .ok (.getfield 57, 3) := by decide +kernel
theorem dX2_spoiling_12 : decode cX2_spoiling 12 = .ok (.if_icmp .ge 77, 3) := by decide +kernel
theorem dX2_spoiling_15 : decode cX2_spoiling 15 = .ok (.aload_n 0, 1) := by decide +kernel
theorem dX2_spoiling_16 : decode cX2_spoiling 16 = .ok (.getfield 21, 3) := by decide +kernel
theorem dX2_spoiling_19 : decode cX2_spoiling 19 = .ok (.getfield 165, 3) := by decide +kernel
theorem dX2_spoiling_22 : decode cX2_spoiling 22 = .ok (.getfield 169, 3) := by decide +kernel
theorem dX2_spoiling_25 : decode cX2_spoiling 25 = .ok (.iload_n 2, 1) := by decide +kernel
theorem dX2_spoiling_26 : decode cX2_spoiling 26 = .ok (.invokestatic 60, 3) := by decide +kernel
theorem dX2_spoiling_29 : decode cX2_spoiling 29 = .ok (.ifCond .ne 54, 3) := by decide +kernel
theorem dX2_spoiling_32 : decode cX2_spoiling 32 = .ok (.aload_n 0, 1) := by decide +kernel
theorem dX2_spoiling_33 : decode cX2_spoiling 33 = .ok (.aload_n 0, 1) := by decide +kernel
theorem dX2_spoiling_34 : decode cX2_spoiling 34 = .ok (.getfield 21, 3) := by decide +kernel
theorem dX2_spoiling_37 : decode cX2_spoiling 37 = .ok (.getfield 146, 3) := by decide +kernel
theorem dX2_spoiling_40 : decode cX2_spoiling 40 = .ok (.iload_n 2, 1) := by decide +kernel
theorem dX2_spoiling_41 : decode cX2_spoiling 41 = .ok (.iaload, 1) := by decide +kernel
theorem dX2_spoiling_42 : decode cX2_spoiling 42 = .ok (.aload_n 0, 1) := by decide +kernel
theorem dX2_spoiling_43 : decode cX2_spoiling 43 = .ok (.getfield 21, 3) := by decide +kernel
theorem dX2_spoiling_46 : decode cX2_spoiling 46 = .ok (.getfield 140, 3) := by decide +kernel
theorem dX2_spoiling_49 : decode cX2_spoiling 49 = .ok (.invokevirtual 143, 3) := by decide +kernel
theorem dX2_spoiling_52 : decode cX2_spoiling 52 = .ok (.istore_n 3, 1) := by decide +kernel
theorem dX2_spoiling_53 : decode cX2_spoiling 53 = .ok (.aload_n 0, 1) := by decide +kernel
theorem dX2_spoiling_54 : decode cX2_spoiling 54 = .ok (.iload_n 2, 1) := by decide +kernel
theorem dX2_spoiling_55 : decode cX2_spoiling 55 = .ok (.invokevirtual 174, 3) := by decide +kernel
theorem dX2_spoiling_58 : decode cX2_spoiling 58 = .ok (.istore 4, 2) := by decide +kernel
theorem dX2_spoiling_60 : decode cX2_spoiling 60 = .ok (.iload_n 3, 1) := by decide +kernel
theorem dX2_spoiling_61 : decode cX2_spoiling 61 = .ok (.iload_n 2, 1) := by decide +kernel
theorem dX2_spoiling_62 : decode cX2_spoiling 62 = .ok (.if_icmp .eq 21, 3) := by decide +kernel
theorem dX2_spoiling_65 : decode cX2_spoiling 65 = .ok (.iload 4, 2) := by decide +kernel
theorem dX2_spoiling_67 : decode cX2_spoiling 67 = .ok (.iload_n 3, 1) := by decide +kernel
theorem dX2_spoiling_68 : decode cX2_spoiling 68 = .ok (.if_icmp .eq 15, 3) := by decide +kernel
theorem dX2_spoiling_71 : decode cX2_spoiling 71 = .ok (.iload 4, 2) := by decide +kernel
theorem dX2_spoiling_73 : decode cX2_spoiling 73 = .ok (.iconst (-1), 1) := by decide +kernel
theorem dX2_spoiling_74 : decode cX2_spoiling 74 = .ok (.if_icmp .eq 9, 3) := by decide +kernel
theorem dX2_spoiling_77 : decode cX2_spoiling 77 = .ok (.iload_n 1, 1) := by decide +kernel
theorem dX2_spoiling_78 : decode cX2_spoiling 78 = .ok (.iconst 1, 1) := by decide +kernel
theorem dX2_spoiling_79 : decode cX2_spoiling 79 = .ok (.iload_n 2, 1) := by decide +kernel
theorem dX2_spoiling_80 : decode cX2_spoiling 80 = .ok (.ishl, 1) := by decide +kernel
theorem dX2_spoiling_81 : decode cX2_spoiling 81 = .ok (.ior, 1) := by decide +kernel
theorem dX2_spoiling_82 : decode cX2_spoiling 82 = .ok (.istore_n 1, 1) := by decide +kernel
theorem dX2_spoiling_83 : decode cX2_spoiling 83 = .ok (.iinc 2 1, 3) := by decide +kernel
theorem dX2_spoiling_86 : decode cX2_spoiling 86 = .ok (.goto (-82), 3) := by decide +kernel
theorem dX2_spoiling_89 : decode cX2_spoiling 89 = .ok (.iload_n 1, 1) := by decide +kernel
theorem dX2_spoiling_90 : decode cX2_spoiling 90 = .ok (.ireturn, 1) := by decide +kernel
theorem dX2_strikeOut_0 : decode cX2_strikeOut 0 = .ok (.aload_n 0, 1) := by decide +kernel
theorem dX2_strikeOut_1 : decode cX2_strikeOut 1 = .ok (.getfield 31, 3) := by decide +kernel
theorem dX2_strikeOut_4 : decode cX2_strikeOut 4 = .ok (.istore_n 1, 1) := by decide +kernel
theorem dX2_strikeOut_5 : decode cX2_strikeOut 5 = .ok (.aload_n 0, 1) := by decide +kernel
theorem dX2_strikeOut_6 : decode cX2_strikeOut 6 = .ok (.iload_n 1, 1) := by decide +kernel
theorem dX2_strikeOut_7 : decode cX2_strikeOut 7 = .ok (.invokevirtual 89, 3) := by decide +kernel
theorem dX2_strikeOut_10 : decode cX2_strikeOut 10 = .ok (.aload_n 0, 1) := by decide +kernel
theorem dX2_strikeOut_11 : decode cX2_strikeOut 11 = .ok (.aload_n 0, 1) := by decide +kernel
theorem dX2_strikeOut_12 : decode cX2_strikeOut 12 = .ok (.iload_n 1, 1) := by decide +kernel
theorem dX2_strikeOut_13 : decode cX2_strikeOut 13 = .ok (.invokevirtual 83, 3) := by decide +kernel
theorem dX2_strikeOut_16 : decode cX2_strikeOut 16 = .ok (.putfield 86, 3) := by decide +kernel
theorem dX2_strikeOut_19 : decode cX2_strikeOut 19 = .ok (.iconst 0, 1) := by decide +kernel
theorem dX2_strikeOut_20 : decode cX2_strikeOut 20 = .ok (.istore_n 2, 1) := by decide +kernel
theorem dX2_strikeOut_21 : decode cX2_strikeOut 21 = .ok (.iload_n 2, 1) := by decide +kernel
theorem dX2_strikeOut_22 : decode cX2_strikeOut 22 = .ok (.bipush 9, 2) := by decide +kernel
theorem dX2_strikeOut_24 : decode cX2_strikeOut 24 = .ok (.if_icmp .ge 83, 3) := by decide +kernel
theorem dX2_strikeOut_27 : decode cX2_strikeOut 27 = .ok (.iload_n 1, 1) := by decide +kernel
theorem dX2_strikeOut_28 : decode cX2_strikeOut 28 = .ok (.invokestatic 95, 3) := by decide +kernel
theorem dX2_strikeOut_31 : decode cX2_strikeOut 31 = .ok (.iconst 1, 1) := by decide +kernel
theorem dX2_strikeOut_32 : decode cX2_strikeOut 32 = .ok (.if_icmp .le 75, 3) := by decide +kernel
theorem dX2_strikeOut_35 : decode cX2_strikeOut 35 = .ok (.iconst 2, 1) := by decide +kernel
theorem dX2_strikeOut_36 : decode cX2_strikeOut 36 = .ok (.aload_n 0, 1) := by decide +kernel
theorem dX2_strikeOut_37 : decode cX2_strikeOut 37 = .ok (.getfield 15, 3) := by decide +kernel
theorem dX2_strikeOut_40 : decode cX2_strikeOut 40 = .ok (.aload_n 0, 1) := by decide +kernel
theorem dX2_strikeOut_41 : decode cX2_strikeOut 41 = .ok (.getfield 86, 3) := by decide +kernel
theorem dX2_strikeOut_44 : decode cX2_strikeOut 44 = .ok (.iaload, 1) := by decide +kernel
theorem dX2_strikeOut_45 : decode cX2_strikeOut 45 = .ok (.imul, 1) := by decide +kernel
theorem dX2_strikeOut_46 : decode cX2_strikeOut 46 = .ok (.aload_n 0, 1) := by decide +kernel
theorem dX2_strikeOut_47 : decode cX2_strikeOut 47 = .ok (.getfield 100, 3) := by decide +kernel
theorem dX2_strikeOut_50 : decode cX2_strikeOut 50 = .ok (.if_icmp .gt 57, 3) := by decide +kernel
theorem dX2_strikeOut_53 : decode cX2_strikeOut 53 = .ok (.aload_n 0, 1) := by decide +kernel
theorem dX2_strikeOut_54 : decode cX2_strikeOut 54 = .ok (.iload_n 1, 1) := by decide +kernel
theorem dX2_strikeOut_55 : decode cX2_strikeOut 55 = .ok (.invokevirtual 103, 3) := by decide +kernel
theorem dX2_strikeOut_58 : decode cX2_strikeOut 58 = .ok (.istore_n 3, 1) := by decide +kernel
theorem dX2_strikeOut_59 : decode cX2_strikeOut 59 = .ok (.aload_n 0, 1) := by decide +kernel
theorem dX2_strikeOut_60 : decode cX2_strikeOut 60 = .ok (.getfield 18, 3) := by decide +kernel
theorem dX2_strikeOut_63 : decode cX2_strikeOut 63 = .ok (.aload_n 0, 1) := by decide +kernel
theorem dX2_strikeOut_64 : decode cX2_strikeOut 64 = .ok (.getfield 71, 3) := by decide +kernel
theorem dX2_strikeOut_67 : decode cX2_strikeOut 67 = .ok (.iload_n 3, 1) := by decide +kernel
theorem dX2_strikeOut_68 : decode cX2_strikeOut 68 = .ok (.iastore, 1) := by decide +kernel
theorem dX2_strikeOut_69 : decode cX2_strikeOut 69 = .ok (.aload_n 0, 1) := by decide +kernel
theorem dX2_strikeOut_70 : decode cX2_strikeOut 70 = .ok (.dup, 1) := by decide +kernel
theorem dX2_strikeOut_71 : decode cX2_strikeOut 71 = .ok (.getfield 71, 3) := by decide +kernel
theorem dX2_strikeOut_74 : decode cX2_strikeOut 74 = .ok (.iconst 1, 1) := by decide +kernel
theorem dX2_strikeOut_75 : decode cX2_strikeOut 75 = .ok (.iadd, 1) := by decide +kernel
theorem dX2_strikeOut_76 : decode cX2_strikeOut 76 = .ok (.putfield 71, 3) := by decide +kernel
theorem dX2_strikeOut_79 : decode cX2_strikeOut 79 = .ok (.iload_n 1, 1) := by decide +kernel
theorem dX2_strikeOut_80 : decode cX2_strikeOut 80 = .ok (.iconst 1, 1) := by decide +kernel
theorem dX2_strikeOut_81 : decode cX2_strikeOut 81 = .ok (.iload_n 3, 1) := by decide +kernel
theorem dX2_strikeOut_82 : decode cX2_strikeOut 82 = .ok (.ishl, 1) := by decide +kernel
theorem dX2_strikeOut_83 : decode cX2_strikeOut 83 = .ok (.iconst (-1), 1) := by decide +kernel
theorem dX2_strikeOut_84 : decode cX2_strikeOut 84 = .ok (.ixor, 1) := by decide +kernel
theorem dX2_strikeOut_85 : decode cX2_strikeOut 85 = .ok (.iand, 1) := by decide +kernel
theorem dX2_strikeOut_86 : decode cX2_strikeOut 86 = .ok (.istore_n 1, 1) := by decide +kernel
theorem dX2_strikeOut_87 : decode cX2_strikeOut 87 = .ok (.aload_n 0, 1) := by decide +kernel
theorem dX2_strikeOut_88 : decode cX2_strikeOut 88 = .ok (.iload_n 1, 1) := by decide +kernel
theorem dX2_strikeOut_89 : decode cX2_strikeOut 89 = .ok (.invokevirtual 89, 3) := by decide +kernel
theorem dX2_strikeOut_92 : decode cX2_strikeOut 92 = .ok (.aload_n 0, 1) := by decide +kernel
theorem dX2_strikeOut_93 : decode cX2_strikeOut 93 = .ok (.aload_n 0, 1) := by decide +kernel
theorem dX2_strikeOut_94 : decode cX2_strikeOut 94 = .ok (.iload_n 1, 1) := by decide +kernel
theorem dX2_strikeOut_95 : decode cX2_strikeOut 95 = .ok (.invokevirtual 83, 3) := by decide +kernel
theorem dX2_strikeOut_98 : decode cX2_strikeOut 98 = .ok (.putfield 86, 3) := by decide +kernel
theorem dX2_strikeOut_101 : decode cX2_strikeOut 101 = .ok (.iinc 2 1, 3) := by decide +kernel
theorem dX2_strikeOut_104 : decode cX2_strikeOut 104 = .ok (.goto (-83), 3) := by decide +kernel
theorem dX2_strikeOut_107 : decode cX2_strikeOut 107 = .ok (.return_, 1) := by decide +kernel
theorem dX2_taker_0 : decode cX2_taker 0 = .ok (.aload_n 0, 1) := by decide +kernel
theorem dX2_taker_1 : decode cX2_taker 1 = .ok (.getfield 86, 3) := by decide +kernel
theorem dX2_taker_4 : decode cX2_taker 4 = .ok (.iconst (-1), 1) := by decide +kernel
theorem dX2_taker_5 : decode cX2_taker 5 = .ok (.if_icmp .eq 32, 3) := by decide +kernel
theorem dX2_taker_8 : decode cX2_taker 8 = .ok (.aload_n 0, 1) := by decide +kernel
theorem dX2_taker_9 : decode cX2_taker 9 = .ok (.getfield 92, 3) := by decide +kernel
theorem dX2_taker_12 : decode cX2_taker 12 = .ok (.bipush 100, 2) := by decide +kernel
theorem dX2_taker_14 : decode cX2_taker 14 = .ok (.imul, 1) := by decide +kernel
theorem dX2_taker_15 : decode cX2_taker 15 = .ok (.aload_n 0, 1) := by decide +kernel
theorem dX2_taker_16 : decode cX2_taker 16 = .ok (.getfield 21, 3) := by decide +kernel
theorem dX2_taker_19 : decode cX2_taker 19 = .ok (.getfield 124, 3) := by decide +kernel
theorem dX2_taker_22 : decode cX2_taker 22 = .ok (.aload_n 0, 1) := by decide +kernel
theorem dX2_taker_23 : decode cX2_taker 23 = .ok (.getfield 54, 3) := by decide +kernel
theorem dX2_taker_26 : decode cX2_taker 26 = .ok (.imul, 1) := by decide +kernel
theorem dX2_taker_27 : decode cX2_taker 27 = .ok (.if_icmp .lt 10, 3) := by decide +kernel
theorem dX2_taker_30 : decode cX2_taker 30 = .ok (.aload_n 0, 1) := by decide +kernel
theorem dX2_taker_31 : decode cX2_taker 31 = .ok (.getfield 86, 3) := by decide +kernel
theorem dX2_taker_34 : decode cX2_taker 34 = .ok (.goto 4, 3) := by decide +kernel
theorem dX2_taker_37 : decode cX2_taker 37 = .ok (.iconst (-1), 1) := by decide +kernel
theorem dX2_taker_38 : decode cX2_taker 38 = .ok (.ireturn, 1) := by decide +kernel
theorem dX2_takerByFeint_0 : decode cX2_takerByFeint 0 = .ok (.aload_n 0, 1) := by decide +kernel
theorem dX2_takerByFeint_1 : decode cX2_takerByFeint 1 = .ok (.aload_n 0, 1) := by decide +kernel
theorem dX2_takerByFeint_2 : decode cX2_takerByFeint 2 = .ok (.getfield 21, 3) := by decide +kernel
theorem dX2_takerByFeint_5 : decode cX2_takerByFeint 5 = .ok (.getfield 190, 3) := by decide +kernel
theorem dX2_takerByFeint_8 : decode cX2_takerByFeint 8 = .ok (.iload_n 1, 1) := by decide +kernel
theorem dX2_takerByFeint_9 : decode cX2_takerByFeint 9 = .ok (.iaload, 1) := by decide +kernel
theorem dX2_takerByFeint_10 : decode cX2_takerByFeint 10 = .ok (.invokevirtual 127, 3) := by decide +kernel
theorem dX2_takerByFeint_13 : decode cX2_takerByFeint 13 = .ok (.aload_n 0, 1) := by decide +kernel
theorem dX2_takerByFeint_14 : decode cX2_takerByFeint 14 = .ok (.getfield 11, 3) := by decide +kernel
theorem dX2_takerByFeint_17 : decode cX2_takerByFeint 17 = .ok (.iload_n 1, 1) := by decide +kernel
theorem dX2_takerByFeint_18 : decode cX2_takerByFeint 18 = .ok (.bipush 9, 2) := by decide +kernel
theorem dX2_takerByFeint_20 : decode cX2_takerByFeint 20 = .ok (.imul, 1) := by decide +kernel
theorem dX2_takerByFeint_21 : decode cX2_takerByFeint 21 = .ok (.iload_n 2, 1) := by decide +kernel
theorem dX2_takerByFeint_22 : decode cX2_takerByFeint 22 = .ok (.iadd, 1) := by decide +kernel
theorem dX2_takerByFeint_23 : decode cX2_takerByFeint 23 = .ok (.sipush 4096, 3) := by decide +kernel
theorem dX2_takerByFeint_26 : decode cX2_takerByFeint 26 = .ok (.iastore, 1) := by decide +kernel
theorem dX2_takerByFeint_27 : decode cX2_takerByFeint 27 = .ok (.aload_n 0, 1) := by decide +kernel
theorem dX2_takerByFeint_28 : decode cX2_takerByFeint 28 = .ok (.aload_n 0, 1) := by decide +kernel
theorem dX2_takerByFeint_29 : decode cX2_takerByFeint 29 = .ok (.getfield 21, 3) := by decide +kernel
theorem dX2_takerByFeint_32 : decode cX2_takerByFeint 32 = .ok (.getfield 140, 3) := by decide +kernel
theorem dX2_takerByFeint_35 : decode cX2_takerByFeint 35 = .ok (.invokevirtual 130, 3) := by decide +kernel
theorem dX2_takerByFeint_38 : decode cX2_takerByFeint 38 = .ok (.aload_n 0, 1) := by decide +kernel
theorem dX2_takerByFeint_39 : decode cX2_takerByFeint 39 = .ok (.invokevirtual 133, 3) := by decide +kernel
theorem dX2_takerByFeint_42 : decode cX2_takerByFeint 42 = .ok (.ireturn, 1) := by decide +kernel
theorem dX2_takerDrawn_0 : decode cX2_takerDrawn 0 = .ok (.aload_n 0, 1) := by decide +kernel
theorem dX2_takerDrawn_1 : decode cX2_takerDrawn 1 = .ok (.iload_n 2, 1) := by decide +kernel
theorem dX2_takerDrawn_2 : decode cX2_takerDrawn 2 = .ok (.invokevirtual 127, 3) := by decide +kernel
theorem dX2_takerDrawn_5 : decode cX2_takerDrawn 5 = .ok (.aload_n 0, 1) := by decide +kernel
theorem dX2_takerDrawn_6 : decode cX2_takerDrawn 6 = .ok (.dup, 1) := by decide +kernel
theorem dX2_takerDrawn_7 : decode cX2_takerDrawn 7 = .ok (.getfield 48, 3) := by decide +kernel
theorem dX2_takerDrawn_10 : decode cX2_takerDrawn 10 = .ok (.aload_n 0, 1) := by decide +kernel
theorem dX2_takerDrawn_11 : decode cX2_takerDrawn 11 = .ok (.iload_n 1, 1) := by decide +kernel
theorem dX2_takerDrawn_12 : decode cX2_takerDrawn 12 = .ok (.invokevirtual 149, 3) := by decide +kernel
theorem dX2_takerDrawn_15 : decode cX2_takerDrawn 15 = .ok (.iand, 1) := by decide +kernel
theorem dX2_takerDrawn_16 : decode cX2_takerDrawn 16 = .ok (.putfield 48, 3) := by decide +kernel
theorem dX2_takerDrawn_19 : decode cX2_takerDrawn 19 = .ok (.aload_n 0, 1) := by decide +kernel
theorem dX2_takerDrawn_20 : decode cX2_takerDrawn 20 = .ok (.aload_n 0, 1) := by decide +kernel
theorem dX2_takerDrawn_21 : decode cX2_takerDrawn 21 = .ok (.getfield 21, 3) := by decide +kernel
theorem dX2_takerDrawn_24 : decode cX2_takerDrawn 24 = .ok (.getfield 140, 3) := by decide +kernel
theorem dX2_takerDrawn_27 : decode cX2_takerDrawn 27 = .ok (.invokevirtual 130, 3) := by decide +kernel
theorem dX2_takerDrawn_30 : decode cX2_takerDrawn 30 = .ok (.aload_n 0, 1) := by decide +kernel
theorem dX2_takerDrawn_31 : decode cX2_takerDrawn 31 = .ok (.invokevirtual 133, 3) := by decide +kernel
theorem dX2_takerDrawn_34 : decode cX2_takerDrawn 34 = .ok (.ireturn, 1) := by decide +kernel
theorem dX2_takerIn_0 : decode cX2_takerIn 0 = .ok (.aload_n 0, 1) := by decide +kernel
theorem dX2_takerIn_1 : decode cX2_takerIn 1 = .ok (.iload_n 1, 1) := by decide +kernel
theorem dX2_takerIn_2 : decode cX2_takerIn 2 = .ok (.invokevirtual 127, 3) := by decide +kernel
theorem dX2_takerIn_5 : decode cX2_takerIn 5 = .ok (.aload_n 0, 1) := by decide +kernel
theorem dX2_takerIn_6 : decode cX2_takerIn 6 = .ok (.iload_n 2, 1) := by decide +kernel
theorem dX2_takerIn_7 : decode cX2_takerIn 7 = .ok (.invokevirtual 130, 3) := by decide +kernel
theorem dX2_takerIn_10 : decode cX2_takerIn 10 = .ok (.aload_n 0, 1) := by decide +kernel
theorem dX2_takerIn_11 : decode cX2_takerIn 11 = .ok (.invokevirtual 133, 3) := by decide +kernel
theorem dX2_takerIn_14 : decode cX2_takerIn 14 = .ok (.ireturn, 1) := by decide +kernel
theorem dX2_takerWithout_0 : decode cX2_takerWithout 0 = .ok (.aload_n 0, 1) := by decide +kernel
theorem dX2_takerWithout_1 : decode cX2_takerWithout 1 = .ok (.aload_n 0, 1) := by decide +kernel
theorem dX2_takerWithout_2 : decode cX2_takerWithout 2 = .ok (.getfield 21, 3) := by decide +kernel
theorem dX2_takerWithout_5 : decode cX2_takerWithout 5 = .ok (.getfield 146, 3) := by decide +kernel
theorem dX2_takerWithout_8 : decode cX2_takerWithout 8 = .ok (.iload_n 1, 1) := by decide +kernel
theorem dX2_takerWithout_9 : decode cX2_takerWithout 9 = .ok (.iaload, 1) := by decide +kernel
theorem dX2_takerWithout_10 : decode cX2_takerWithout 10 = .ok (.invokevirtual 127, 3) := by decide +kernel
theorem dX2_takerWithout_13 : decode cX2_takerWithout 13 = .ok (.aload_n 0, 1) := by decide +kernel
theorem dX2_takerWithout_14 : decode cX2_takerWithout 14 = .ok (.dup, 1) := by decide +kernel
theorem dX2_takerWithout_15 : decode cX2_takerWithout 15 = .ok (.getfield 31, 3) := by decide +kernel
theorem dX2_takerWithout_18 : decode cX2_takerWithout 18 = .ok (.iconst 1, 1) := by decide +kernel
theorem dX2_takerWithout_19 : decode cX2_takerWithout 19 = .ok (.iload_n 1, 1) := by decide +kernel
theorem dX2_takerWithout_20 : decode cX2_takerWithout 20 = .ok (.ishl, 1) := by decide +kernel
theorem dX2_takerWithout_21 : decode cX2_takerWithout 21 = .ok (.iconst (-1), 1) := by decide +kernel
theorem dX2_takerWithout_22 : decode cX2_takerWithout 22 = .ok (.ixor, 1) := by decide +kernel
theorem dX2_takerWithout_23 : decode cX2_takerWithout 23 = .ok (.iand, 1) := by decide +kernel
theorem dX2_takerWithout_24 : decode cX2_takerWithout 24 = .ok (.putfield 31, 3) := by decide +kernel
theorem dX2_takerWithout_27 : decode cX2_takerWithout 27 = .ok (.aload_n 0, 1) := by decide +kernel
theorem dX2_takerWithout_28 : decode cX2_takerWithout 28 = .ok (.aload_n 0, 1) := by decide +kernel
theorem dX2_takerWithout_29 : decode cX2_takerWithout 29 = .ok (.getfield 21, 3) := by decide +kernel
theorem dX2_takerWithout_32 : decode cX2_takerWithout 32 = .ok (.getfield 140, 3) := by decide +kernel
theorem dX2_takerWithout_35 : decode cX2_takerWithout 35 = .ok (.invokevirtual 130, 3) := by decide +kernel
theorem dX2_takerWithout_38 : decode cX2_takerWithout 38 = .ok (.aload_n 0, 1) := by decide +kernel
theorem dX2_takerWithout_39 : decode cX2_takerWithout 39 = .ok (.invokevirtual 133, 3) := by decide +kernel
theorem dX2_takerWithout_42 : decode cX2_takerWithout 42 = .ok (.ireturn, 1) := by decide +kernel
theorem dX2_takers_0 : decode cX2_takers 0 = .ok (.iconst 0, 1) := by decide +kernel
theorem dX2_takers_1 : decode cX2_takers 1 = .ok (.istore_n 1, 1) := by decide +kernel
theorem dX2_takers_2 : decode cX2_takers 2 = .ok (.iconst 0, 1) := by decide +kernel
theorem dX2_takers_3 : decode cX2_takers 3 = .ok (.istore_n 2, 1) := by decide +kernel
theorem dX2_takers_4 : decode cX2_takers 4 = .ok (.iload_n 2, 1) := by decide +kernel
theorem dX2_takers_5 : decode cX2_takers 5 = .ok (.aload_n 0, 1) := by decide +kernel
theorem dX2_takers_6 : decode cX2_takers 6 = .ok (.getfield 21, 3) := by decide +kernel
theorem dX2_takers_9 : decode cX2_takers 9 = .ok (.getfield 137, 3) := by decide +kernel
theorem dX2_takers_12 : decode cX2_takers 12 = .ok (.if_icmp .ge 37, 3) := by decide +kernel
theorem dX2_takers_15 : decode cX2_takers 15 = .ok (.aload_n 0, 1) := by decide +kernel
theorem dX2_takers_16 : decode cX2_takers 16 = .ok (.iload_n 2, 1) := by decide +kernel
theorem dX2_takers_17 : decode cX2_takers 17 = .ok (.aload_n 0, 1) := by decide +kernel
theorem dX2_takers_18 : decode cX2_takers 18 = .ok (.getfield 21, 3) := by decide +kernel
theorem dX2_takers_21 : decode cX2_takers 21 = .ok (.getfield 140, 3) := by decide +kernel
theorem dX2_takers_24 : decode cX2_takers 24 = .ok (.invokevirtual 143, 3) := by decide +kernel
theorem dX2_takers_27 : decode cX2_takers 27 = .ok (.istore_n 3, 1) := by decide +kernel
theorem dX2_takers_28 : decode cX2_takers 28 = .ok (.iload_n 1, 1) := by decide +kernel
theorem dX2_takers_29 : decode cX2_takers 29 = .ok (.iload_n 3, 1) := by decide +kernel
theorem dX2_takers_30 : decode cX2_takers 30 = .ok (.iconst (-1), 1) := by decide +kernel
theorem dX2_takers_31 : decode cX2_takers 31 = .ok (.if_icmp .ne 7, 3) := by decide +kernel
theorem dX2_takers_34 : decode cX2_takers 34 = .ok (.iconst 0, 1) := by decide +kernel
theorem dX2_takers_35 : decode cX2_takers 35 = .ok (.goto 6, 3) := by decide +kernel
theorem dX2_takers_38 : decode cX2_takers 38 = .ok (.iconst 1, 1) := by decide +kernel
theorem dX2_takers_39 : decode cX2_takers 39 = .ok (.iload_n 3, 1) := by decide +kernel
theorem dX2_takers_40 : decode cX2_takers 40 = .ok (.ishl, 1) := by decide +kernel
theorem dX2_takers_41 : decode cX2_takers 41 = .ok (.ior, 1) := by decide +kernel
theorem dX2_takers_42 : decode cX2_takers 42 = .ok (.istore_n 1, 1) := by decide +kernel
theorem dX2_takers_43 : decode cX2_takers 43 = .ok (.iinc 2 1, 3) := by decide +kernel
theorem dX2_takers_46 : decode cX2_takers 46 = .ok (.goto (-42), 3) := by decide +kernel
theorem dX2_takers_49 : decode cX2_takers 49 = .ok (.iload_n 1, 1) := by decide +kernel
theorem dX2_takers_50 : decode cX2_takers 50 = .ok (.ireturn, 1) := by decide +kernel
theorem dX2_tallyFirst_0 : decode cX2_tallyFirst 0 = .ok (.aload_n 0, 1) := by decide +kernel
theorem dX2_tallyFirst_1 : decode cX2_tallyFirst 1 = .ok (.getfield 15, 3) := by decide +kernel
theorem dX2_tallyFirst_4 : decode cX2_tallyFirst 4 = .ok (.iconst 0, 1) := by decide +kernel
theorem dX2_tallyFirst_5 : decode cX2_tallyFirst 5 = .ok (.invokestatic 106, 3) := by decide +kernel
theorem dX2_tallyFirst_8 : decode cX2_tallyFirst 8 = .ok (.aload_n 0, 1) := by decide +kernel
theorem dX2_tallyFirst_9 : decode cX2_tallyFirst 9 = .ok (.iconst 0, 1) := by decide +kernel
theorem dX2_tallyFirst_10 : decode cX2_tallyFirst 10 = .ok (.putfield 100, 3) := by decide +kernel
theorem dX2_tallyFirst_13 : decode cX2_tallyFirst 13 = .ok (.iconst 0, 1) := by decide +kernel
theorem dX2_tallyFirst_14 : decode cX2_tallyFirst 14 = .ok (.istore_n 2, 1) := by decide +kernel
theorem dX2_tallyFirst_15 : decode cX2_tallyFirst 15 = .ok (.iload_n 2, 1) := by decide +kernel
theorem dX2_tallyFirst_16 : decode cX2_tallyFirst 16 = .ok (.aload_n 0, 1) := by decide +kernel
theorem dX2_tallyFirst_17 : decode cX2_tallyFirst 17 = .ok (.getfield 21, 3) := by decide +kernel
theorem dX2_tallyFirst_20 : decode cX2_tallyFirst 20 = .ok (.getfield 35, 3) := by decide +kernel
theorem dX2_tallyFirst_23 : decode cX2_tallyFirst 23 = .ok (.if_icmp .ge 72, 3) := by decide +kernel
theorem dX2_tallyFirst_26 : decode cX2_tallyFirst 26 = .ok (.aload_n 0, 1) := by decide +kernel
theorem dX2_tallyFirst_27 : decode cX2_tallyFirst 27 = .ok (.getfield 48, 3) := by decide +kernel
theorem dX2_tallyFirst_30 : decode cX2_tallyFirst 30 = .ok (.iload_n 2, 1) := by decide +kernel
theorem dX2_tallyFirst_31 : decode cX2_tallyFirst 31 = .ok (.invokestatic 60, 3) := by decide +kernel
theorem dX2_tallyFirst_34 : decode cX2_tallyFirst 34 = .ok (.ifCond .eq 12, 3) := by decide +kernel
theorem dX2_tallyFirst_37 : decode cX2_tallyFirst 37 = .ok (.aload_n 0, 1) := by decide +kernel
theorem dX2_tallyFirst_38 : decode cX2_tallyFirst 38 = .ok (.iload_n 2, 1) := by decide +kernel
theorem dX2_tallyFirst_39 : decode cX2_tallyFirst 39 = .ok (.iload_n 1, 1) := by decide +kernel
theorem dX2_tallyFirst_40 : decode cX2_tallyFirst 40 = .ok (.invokevirtual 112, 3) := by decide +kernel
theorem dX2_tallyFirst_43 : decode cX2_tallyFirst 43 = .ok (.goto 4, 3) := by decide +kernel
theorem dX2_tallyFirst_46 : decode cX2_tallyFirst 46 = .ok (.iconst (-1), 1) := by decide +kernel
theorem dX2_tallyFirst_47 : decode cX2_tallyFirst 47 = .ok (.istore_n 3, 1) := by decide +kernel
theorem dX2_tallyFirst_48 : decode cX2_tallyFirst 48 = .ok (.iload_n 3, 1) := by decide +kernel
theorem dX2_tallyFirst_49 : decode cX2_tallyFirst 49 = .ok (.iconst (-1), 1) := by decide +kernel
theorem dX2_tallyFirst_50 : decode cX2_tallyFirst 50 = .ok (.if_icmp .eq 39, 3) := by decide +kernel
theorem dX2_tallyFirst_53 : decode cX2_tallyFirst 53 = .ok (.aload_n 0, 1) := by decide +kernel
theorem dX2_tallyFirst_54 : decode cX2_tallyFirst 54 = .ok (.getfield 15, 3) := by decide +kernel
theorem dX2_tallyFirst_57 : decode cX2_tallyFirst 57 = .ok (.iload_n 3, 1) := by decide +kernel
theorem dX2_tallyFirst_58 : decode cX2_tallyFirst 58 = .ok (.dup2, 1) := by decide +kernel
theorem dX2_tallyFirst_59 : decode cX2_tallyFirst 59 = .ok (.iaload, 1) := by decide +kernel
theorem dX2_tallyFirst_60 : decode cX2_tallyFirst 60 = .ok (.aload_n 0, 1) := by decide +kernel
theorem dX2_tallyFirst_61 : decode cX2_tallyFirst 61 = .ok (.getfield 21, 3) := by decide +kernel
theorem dX2_tallyFirst_64 : decode cX2_tallyFirst 64 = .ok (.getfield 115, 3) := by decide +kernel
theorem dX2_tallyFirst_67 : decode cX2_tallyFirst 67 = .ok (.iload_n 2, 1) := by decide +kernel
theorem dX2_tallyFirst_68 : decode cX2_tallyFirst 68 = .ok (.iaload, 1) := by decide +kernel
theorem dX2_tallyFirst_69 : decode cX2_tallyFirst 69 = .ok (.iadd, 1) := by decide +kernel
theorem dX2_tallyFirst_70 : decode cX2_tallyFirst 70 = .ok (.iastore, 1) := by decide +kernel
theorem dX2_tallyFirst_71 : decode cX2_tallyFirst 71 = .ok (.aload_n 0, 1) := by decide +kernel
theorem dX2_tallyFirst_72 : decode cX2_tallyFirst 72 = .ok (.dup, 1) := by decide +kernel
theorem dX2_tallyFirst_73 : decode cX2_tallyFirst 73 = .ok (.getfield 100, 3) := by decide +kernel
theorem dX2_tallyFirst_76 : decode cX2_tallyFirst 76 = .ok (.aload_n 0, 1) := by decide +kernel
theorem dX2_tallyFirst_77 : decode cX2_tallyFirst 77 = .ok (.getfield 21, 3) := by decide +kernel
theorem dX2_tallyFirst_80 : decode cX2_tallyFirst 80 = .ok (.getfield 115, 3) := by decide +kernel
theorem dX2_tallyFirst_83 : decode cX2_tallyFirst 83 = .ok (.iload_n 2, 1) := by decide +kernel
theorem dX2_tallyFirst_84 : decode cX2_tallyFirst 84 = .ok (.iaload, 1) := by decide +kernel
theorem dX2_tallyFirst_85 : decode cX2_tallyFirst 85 = .ok (.iadd, 1) := by decide +kernel
theorem dX2_tallyFirst_86 : decode cX2_tallyFirst 86 = .ok (.putfield 100, 3) := by decide +kernel
theorem dX2_tallyFirst_89 : decode cX2_tallyFirst 89 = .ok (.iinc 2 1, 3) := by decide +kernel
theorem dX2_tallyFirst_92 : decode cX2_tallyFirst 92 = .ok (.goto (-77), 3) := by decide +kernel
theorem dX2_tallyFirst_95 : decode cX2_tallyFirst 95 = .ok (.return_, 1) := by decide +kernel
theorem dX2_tallyLiked_0 : decode cX2_tallyLiked 0 = .ok (.aload_n 0, 1) := by decide +kernel
theorem dX2_tallyLiked_1 : decode cX2_tallyLiked 1 = .ok (.getfield 15, 3) := by decide +kernel
theorem dX2_tallyLiked_4 : decode cX2_tallyLiked 4 = .ok (.iconst 0, 1) := by decide +kernel
theorem dX2_tallyLiked_5 : decode cX2_tallyLiked 5 = .ok (.invokestatic 106, 3) := by decide +kernel
theorem dX2_tallyLiked_8 : decode cX2_tallyLiked 8 = .ok (.iconst 0, 1) := by decide +kernel
theorem dX2_tallyLiked_9 : decode cX2_tallyLiked 9 = .ok (.istore_n 1, 1) := by decide +kernel
theorem dX2_tallyLiked_10 : decode cX2_tallyLiked 10 = .ok (.iload_n 1, 1) := by decide +kernel
theorem dX2_tallyLiked_11 : decode cX2_tallyLiked 11 = .ok (.aload_n 0, 1) := by decide +kernel
theorem dX2_tallyLiked_12 : decode cX2_tallyLiked 12 = .ok (.getfield 21, 3) := by decide +kernel
theorem dX2_tallyLiked_15 : decode cX2_tallyLiked 15 = .ok (.getfield 35, 3) := by decide +kernel
theorem dX2_tallyLiked_18 : decode cX2_tallyLiked 18 = .ok (.if_icmp .ge 77, 3) := by decide +kernel
theorem dX2_tallyLiked_21 : decode cX2_tallyLiked 21 = .ok (.iconst 0, 1) := by decide +kernel
theorem dX2_tallyLiked_22 : decode cX2_tallyLiked 22 = .ok (.istore_n 2, 1) := by decide +kernel
theorem dX2_tallyLiked_23 : decode cX2_tallyLiked 23 = .ok (.iload_n 2, 1) := by decide +kernel
theorem dX2_tallyLiked_24 : decode cX2_tallyLiked 24 = .ok (.aload_n 0, 1) := by decide +kernel
theorem dX2_tallyLiked_25 : decode cX2_tallyLiked 25 = .ok (.getfield 21, 3) := by decide +kernel
theorem dX2_tallyLiked_28 : decode cX2_tallyLiked 28 = .ok (.getfield 57, 3) := by decide +kernel
theorem dX2_tallyLiked_31 : decode cX2_tallyLiked 31 = .ok (.if_icmp .ge 58, 3) := by decide +kernel
theorem dX2_tallyLiked_34 : decode cX2_tallyLiked 34 = .ok (.aload_n 0, 1) := by decide +kernel
theorem dX2_tallyLiked_35 : decode cX2_tallyLiked 35 = .ok (.getfield 48, 3) := by decide +kernel
theorem dX2_tallyLiked_38 : decode cX2_tallyLiked 38 = .ok (.iload_n 1, 1) := by decide +kernel
theorem dX2_tallyLiked_39 : decode cX2_tallyLiked 39 = .ok (.invokestatic 60, 3) := by decide +kernel
theorem dX2_tallyLiked_42 : decode cX2_tallyLiked 42 = .ok (.ifCond .eq 41, 3) := by decide +kernel
theorem dX2_tallyLiked_45 : decode cX2_tallyLiked 45 = .ok (.aload_n 0, 1) := by decide +kernel
theorem dX2_tallyLiked_46 : decode cX2_tallyLiked 46 = .ok (.getfield 31, 3) := by decide +kernel
theorem dX2_tallyLiked_49 : decode cX2_tallyLiked 49 = .ok (.iload_n 2, 1) := by decide +kernel
theorem dX2_tallyLiked_50 : decode cX2_tallyLiked 50 = .ok (.invokestatic 60, 3) := by decide +kernel
theorem dX2_tallyLiked_53 : decode cX2_tallyLiked 53 = .ok (.ifCond .eq 30, 3) := by decide +kernel
theorem dX2_tallyLiked_56 : decode cX2_tallyLiked 56 = .ok (.aload_n 0, 1) := by decide +kernel
theorem dX2_tallyLiked_57 : decode cX2_tallyLiked 57 = .ok (.iload_n 1, 1) := by decide +kernel
theorem dX2_tallyLiked_58 : decode cX2_tallyLiked 58 = .ok (.iload_n 2, 1) := by decide +kernel
theorem dX2_tallyLiked_59 : decode cX2_tallyLiked 59 = .ok (.invokevirtual 118, 3) := by decide +kernel
theorem dX2_tallyLiked_62 : decode cX2_tallyLiked 62 = .ok (.ifCond .le 21, 3) := by decide +kernel
theorem dX2_tallyLiked_65 : decode cX2_tallyLiked 65 = .ok (.aload_n 0, 1) := by decide +kernel
theorem dX2_tallyLiked_66 : decode cX2_tallyLiked 66 = .ok (.getfield 15, 3) := by decide +kernel
theorem dX2_tallyLiked_69 : decode cX2_tallyLiked 69 = .ok (.iload_n 2, 1) := by decide +kernel
theorem dX2_tallyLiked_70 : decode cX2_tallyLiked 70 = .ok (.dup2, 1) := by decide +kernel
theorem dX2_tallyLiked_71 : decode cX2_tallyLiked 71 = .ok (.iaload, 1) := by decide +kernel
theorem dX2_tallyLiked_72 : decode cX2_tallyLiked 72 = .ok (.aload_n 0, 1) := by decide +kernel
theorem dX2_tallyLiked_73 : decode cX2_tallyLiked 73 = .ok (.getfield 21, 3) := by decide +kernel
theorem dX2_tallyLiked_76 : decode cX2_tallyLiked 76 = .ok (.getfield 115, 3) := by decide +kernel
theorem dX2_tallyLiked_79 : decode cX2_tallyLiked 79 = .ok (.iload_n 1, 1) := by decide +kernel
theorem dX2_tallyLiked_80 : decode cX2_tallyLiked 80 = .ok (.iaload, 1) := by decide +kernel
theorem dX2_tallyLiked_81 : decode cX2_tallyLiked 81 = .ok (.iadd, 1) := by decide +kernel
theorem dX2_tallyLiked_82 : decode cX2_tallyLiked 82 = .ok (.iastore, 1) := by decide +kernel
theorem dX2_tallyLiked_83 : decode cX2_tallyLiked 83 = .ok (.iinc 2 1, 3) := by decide +kernel
theorem dX2_tallyLiked_86 : decode cX2_tallyLiked 86 = .ok (.goto (-63), 3) := by decide +kernel
theorem dX2_tallyLiked_89 : decode cX2_tallyLiked 89 = .ok (.iinc 1 1, 3) := by decide +kernel
theorem dX2_tallyLiked_92 : decode cX2_tallyLiked 92 = .ok (.goto (-82), 3) := by decide +kernel
theorem dX2_tallyLiked_95 : decode cX2_tallyLiked 95 = .ok (.return_, 1) := by decide +kernel
theorem dX2_trailer_0 : decode cX2_trailer 0 = .ok (.iconst (-1), 1) := by decide +kernel
theorem dX2_trailer_1 : decode cX2_trailer 1 = .ok (.istore_n 2, 1) := by decide +kernel
theorem dX2_trailer_2 : decode cX2_trailer 2 = .ok (.iconst 0, 1) := by decide +kernel
theorem dX2_trailer_3 : decode cX2_trailer 3 = .ok (.istore_n 3, 1) := by decide +kernel
theorem dX2_trailer_4 : decode cX2_trailer 4 = .ok (.iload_n 3, 1) := by decide +kernel
theorem dX2_trailer_5 : decode cX2_trailer 5 = .ok (.aload_n 0, 1) := by decide +kernel
theorem dX2_trailer_6 : decode cX2_trailer 6 = .ok (.getfield 21, 3) := by decide +kernel
theorem dX2_trailer_9 : decode cX2_trailer 9 = .ok (.getfield 57, 3) := by decide +kernel
theorem dX2_trailer_12 : decode cX2_trailer 12 = .ok (.if_icmp .ge 33, 3) := by decide +kernel
theorem dX2_trailer_15 : decode cX2_trailer 15 = .ok (.iload_n 1, 1) := by decide +kernel
theorem dX2_trailer_16 : decode cX2_trailer 16 = .ok (.iload_n 3, 1) := by decide +kernel
theorem dX2_trailer_17 : decode cX2_trailer 17 = .ok (.invokestatic 60, 3) := by decide +kernel
theorem dX2_trailer_20 : decode cX2_trailer 20 = .ok (.ifCond .eq 19, 3) := by decide +kernel
theorem dX2_trailer_23 : decode cX2_trailer 23 = .ok (.iload_n 2, 1) := by decide +kernel
theorem dX2_trailer_24 : decode cX2_trailer 24 = .ok (.iconst (-1), 1) := by decide +kernel
theorem dX2_trailer_25 : decode cX2_trailer 25 = .ok (.if_icmp .eq 12, 3) := by decide +kernel
theorem dX2_trailer_28 : decode cX2_trailer 28 = .ok (.aload_n 0, 1) := by decide +kernel
theorem dX2_trailer_29 : decode cX2_trailer 29 = .ok (.iload_n 2, 1) := by decide +kernel
theorem dX2_trailer_30 : decode cX2_trailer 30 = .ok (.iload_n 3, 1) := by decide +kernel
theorem dX2_trailer_31 : decode cX2_trailer 31 = .ok (.invokevirtual 121, 3) := by decide +kernel
theorem dX2_trailer_34 : decode cX2_trailer 34 = .ok (.ifCond .eq 5, 3) := by decide +kernel
theorem dX2_trailer_37 : decode cX2_trailer 37 = .ok (.iload_n 3, 1) := by decide +kernel
theorem dX2_trailer_38 : decode cX2_trailer 38 = .ok (.istore_n 2, 1) := by decide +kernel
theorem dX2_trailer_39 : decode cX2_trailer 39 = .ok (.iinc 3 1, 3) := by decide +kernel
theorem dX2_trailer_42 : decode cX2_trailer 42 = .ok (.goto (-38), 3) := by decide +kernel
theorem dX2_trailer_45 : decode cX2_trailer 45 = .ok (.iload_n 2, 1) := by decide +kernel
theorem dX2_trailer_46 : decode cX2_trailer 46 = .ok (.ireturn, 1) := by decide +kernel
theorem dX2_zealOf_0 : decode cX2_zealOf 0 = .ok (.aload_n 0, 1) := by decide +kernel
theorem dX2_zealOf_1 : decode cX2_zealOf 1 = .ok (.getfield 11, 3) := by decide +kernel
theorem dX2_zealOf_4 : decode cX2_zealOf 4 = .ok (.iload_n 1, 1) := by decide +kernel
theorem dX2_zealOf_5 : decode cX2_zealOf 5 = .ok (.bipush 9, 2) := by decide +kernel
theorem dX2_zealOf_7 : decode cX2_zealOf 7 = .ok (.imul, 1) := by decide +kernel
theorem dX2_zealOf_8 : decode cX2_zealOf 8 = .ok (.iload_n 2, 1) := by decide +kernel
theorem dX2_zealOf_9 : decode cX2_zealOf 9 = .ok (.iadd, 1) := by decide +kernel
theorem dX2_zealOf_10 : decode cX2_zealOf 10 = .ok (.iaload, 1) := by decide +kernel
theorem dX2_zealOf_11 : decode cX2_zealOf 11 = .ok (.ireturn, 1) := by decide +kernel
theorem dX3_allot_0 : decode cX3_allot 0 = .ok (.aload_n 0, 1) := by decide +kernel
theorem dX3_allot_1 : decode cX3_allot 1 = .ok (.getfield 15, 3) := by decide +kernel
theorem dX3_allot_4 : decode cX3_allot 4 = .ok (.iconst 0, 1) := by decide +kernel
theorem dX3_allot_5 : decode cX3_allot 5 = .ok (.invokestatic 69, 3) := by decide +kernel
theorem dX3_allot_8 : decode cX3_allot 8 = .ok (.iconst 0, 1) := by decide +kernel
theorem dX3_allot_9 : decode cX3_allot 9 = .ok (.istore_n 2, 1) := by decide +kernel
theorem dX3_allot_10 : decode cX3_allot 10 = .ok (.iload_n 2, 1) := by decide +kernel
theorem dX3_allot_11 : decode cX3_allot 11 = .ok (.iload_n 1, 1) := by decide +kernel
theorem dX3_allot_12 : decode cX3_allot 12 = .ok (.if_icmp .ge 83, 3) := by decide +kernel
theorem dX3_allot_15 : decode cX3_allot 15 = .ok (.iconst 0, 1) := by decide +kernel
theorem dX3_allot_16 : decode cX3_allot 16 = .ok (.istore_n 3, 1) := by decide +kernel
theorem dX3_allot_17 : decode cX3_allot 17 = .ok (.iconst 1, 1) := by decide +kernel
theorem dX3_allot_18 : decode cX3_allot 18 = .ok (.istore 4, 2) := by decide +kernel
theorem dX3_allot_20 : decode cX3_allot 20 = .ok (.iload 4, 2) := by decide +kernel
theorem dX3_allot_22 : decode cX3_allot 22 = .ok (.iconst 4, 1) := by decide +kernel
theorem dX3_allot_23 : decode cX3_allot 23 = .ok (.if_icmp .ge 47, 3) := by decide +kernel
theorem dX3_allot_26 : decode cX3_allot 26 = .ok (.aload_n 0, 1) := by decide +kernel
theorem dX3_allot_27 : decode cX3_allot 27 = .ok (.getfield 9, 3) := by decide +kernel
theorem dX3_allot_30 : decode cX3_allot 30 = .ok (.iload 4, 2) := by decide +kernel
theorem dX3_allot_32 : decode cX3_allot 32 = .ok (.iaload, 1) := by decide +kernel
theorem dX3_allot_33 : decode cX3_allot 33 = .ok (.aload_n 0, 1) := by decide +kernel
theorem dX3_allot_34 : decode cX3_allot 34 = .ok (.getfield 15, 3) := by decide +kernel
theorem dX3_allot_37 : decode cX3_allot 37 = .ok (.iload_n 3, 1) := by decide +kernel
theorem dX3_allot_38 : decode cX3_allot 38 = .ok (.iaload, 1) := by decide +kernel
theorem dX3_allot_39 : decode cX3_allot 39 = .ok (.iconst 1, 1) := by decide +kernel
theorem dX3_allot_40 : decode cX3_allot 40 = .ok (.iadd, 1) := by decide +kernel
theorem dX3_allot_41 : decode cX3_allot 41 = .ok (.imul, 1) := by decide +kernel
theorem dX3_allot_42 : decode cX3_allot 42 = .ok (.aload_n 0, 1) := by decide +kernel
theorem dX3_allot_43 : decode cX3_allot 43 = .ok (.getfield 9, 3) := by decide +kernel
theorem dX3_allot_46 : decode cX3_allot 46 = .ok (.iload_n 3, 1) := by decide +kernel
theorem dX3_allot_47 : decode cX3_allot 47 = .ok (.iaload, 1) := by decide +kernel
theorem dX3_allot_48 : decode cX3_allot 48 = .ok (.aload_n 0, 1) := by decide +kernel
theorem dX3_allot_49 : decode cX3_allot 49 = .ok (.getfield 15, 3) := by decide +kernel
theorem dX3_allot_52 : decode cX3_allot 52 = .ok (.iload 4, 2) := by decide +kernel
theorem dX3_allot_54 : decode cX3_allot 54 = .ok (.iaload, 1) := by decide +kernel
theorem dX3_allot_55 : decode cX3_allot 55 = .ok (.iconst 1, 1) := by decide +kernel
theorem dX3_allot_56 : decode cX3_allot 56 = .ok (.iadd, 1) := by decide +kernel
theorem dX3_allot_57 : decode cX3_allot 57 = .ok (.imul, 1) := by decide +kernel
theorem dX3_allot_58 : decode cX3_allot 58 = .ok (.if_icmp .le 6, 3) := by decide +kernel
theorem dX3_allot_61 : decode cX3_allot 61 = .ok (.iload 4, 2) := by decide +kernel
theorem dX3_allot_63 : decode cX3_allot 63 = .ok (.istore_n 3, 1) := by decide +kernel
theorem dX3_allot_64 : decode cX3_allot 64 = .ok (.iinc 4 1, 3) := by decide +kernel
theorem dX3_allot_67 : decode cX3_allot 67 = .ok (.goto (-47), 3) := by decide +kernel
theorem dX3_allot_70 : decode cX3_allot 70 = .ok (.aload_n 0, 1) := by decide +kernel
theorem dX3_allot_71 : decode cX3_allot 71 = .ok (.getfield 9, 3) := by decide +kernel
theorem dX3_allot_74 : decode cX3_allot 74 = .ok (.iload_n 3, 1) := by decide +kernel
theorem dX3_allot_75 : decode cX3_allot 75 = .ok (.iaload, 1) := by decide +kernel
theorem dX3_allot_76 : decode cX3_allot 76 = .ok (.ifCond .le 13, 3) := by decide +kernel
theorem dX3_allot_79 : decode cX3_allot 79 = .ok (.aload_n 0, 1) := by decide +kernel
theorem dX3_allot_80 : decode cX3_allot 80 = .ok (.getfield 15, 3) := by decide +kernel
theorem dX3_allot_83 : decode cX3_allot 83 = .ok (.iload_n 3, 1) := by decide +kernel
theorem dX3_allot_84 : decode cX3_allot 84 = .ok (.dup2, 1) := by decide +kernel
theorem dX3_allot_85 : decode cX3_allot 85 = .ok (.iaload, 1) := by decide +kernel
theorem dX3_allot_86 : decode cX3_allot 86 = .ok (.iconst 1, 1) := by decide +kernel
theorem dX3_allot_87 : decode cX3_allot 87 = .ok (.iadd, 1) := by decide +kernel
theorem dX3_allot_88 : decode cX3_allot 88 = .ok (.iastore, 1) := by decide +kernel
theorem dX3_allot_89 : decode cX3_allot 89 = .ok (.iinc 2 1, 3) := by decide +kernel
theorem dX3_allot_92 : decode cX3_allot 92 = .ok (.goto (-82), 3) := by decide +kernel
theorem dX3_allot_95 : decode cX3_allot 95 = .ok (.return_, 1) := by decide +kernel
theorem dX3_commonDivisor_0 : decode cX3_commonDivisor 0 = .ok (.bipush 24, 2) := by decide +kernel
theorem dX3_commonDivisor_2 : decode cX3_commonDivisor 2 = .ok (.istore_n 1, 1) := by decide +kernel
theorem dX3_commonDivisor_3 : decode cX3_commonDivisor 3 = .ok (.iload_n 1, 1) := by decide +kernel
theorem dX3_commonDivisor_4 : decode cX3_commonDivisor 4 = .ok (.iconst 1, 1) := by decide +kernel
theorem dX3_commonDivisor_5 : decode cX3_commonDivisor 5 = .ok (.if_icmp .le 24, 3) := by decide +kernel
theorem dX3_commonDivisor_8 : decode cX3_commonDivisor 8 = .ok (.iload_n 0, 1) := by decide +kernel
theorem dX3_commonDivisor_9 : decode cX3_commonDivisor 9 = .ok (.iload_n 1, 1) := by decide +kernel
theorem dX3_commonDivisor_10 : decode cX3_commonDivisor 10 = .ok (.irem, 1) := by decide +kernel
theorem dX3_commonDivisor_11 : decode cX3_commonDivisor 11 = .ok (.ifCond .ne 12, 3) := by decide +kernel
theorem dX3_commonDivisor_14 : decode cX3_commonDivisor 14 = .ok (.bipush 24, 2) := by decide +kernel
theorem dX3_commonDivisor_16 : decode cX3_commonDivisor 16 = .ok (.iload_n 1, 1) := by decide +kernel
theorem dX3_commonDivisor_17 : decode cX3_commonDivisor 17 = .ok (.irem, 1) := by decide +kernel
theorem dX3_commonDivisor_18 : decode cX3_commonDivisor 18 = .ok (.ifCond .ne 5, 3) := by decide +kernel
theorem dX3_commonDivisor_21 : decode cX3_commonDivisor 21 = .ok (.iload_n 1, 1) := by decide +kernel
theorem dX3_commonDivisor_22 : decode cX3_commonDivisor 22 = .ok (.ireturn, 1) := by decide +kernel
theorem dX3_commonDivisor_23 : decode cX3_commonDivisor 23 = .ok (.iinc 1 (-1), 3) := by decide +kernel
theorem dX3_commonDivisor_26 : decode cX3_commonDivisor 26 = .ok (.goto (-23), 3) := by decide +kernel
theorem dX3_commonDivisor_29 : decode cX3_commonDivisor 29 = .ok (.iconst 1, 1) := by decide +kernel
theorem dX3_commonDivisor_30 : decode cX3_commonDivisor 30 = .ok (.ireturn, 1) := by decide +kernel
theorem dX3_gather_0 : decode cX3_gather 0 = .ok (.aload_n 0, 1) := by decide +kernel
theorem dX3_gather_1 : decode cX3_gather 1 = .ok (.getfield 9, 3) := by decide +kernel
theorem dX3_gather_4 : decode cX3_gather 4 = .ok (.iconst 0, 1) := by decide +kernel
theorem dX3_gather_5 : decode cX3_gather 5 = .ok (.invokestatic 69, 3) := by decide +kernel
theorem dX3_gather_8 : decode cX3_gather 8 = .ok (.iconst 0, 1) := by decide +kernel
theorem dX3_gather_9 : decode cX3_gather 9 = .ok (.istore_n 2, 1) := by decide +kernel
theorem dX3_gather_10 : decode cX3_gather 10 = .ok (.iload_n 2, 1) := by decide +kernel
theorem dX3_gather_11 : decode cX3_gather 11 = .ok (.aload_n 0, 1) := by decide +kernel
theorem dX3_gather_12 : decode cX3_gather 12 = .ok (.getfield 18, 3) := by decide +kernel
theorem dX3_gather_15 : decode cX3_gather 15 = .ok (.getfield 50, 3) := by decide +kernel
theorem dX3_gather_18 : decode cX3_gather 18 = .ok (.if_icmp .ge 64, 3) := by decide +kernel
theorem dX3_gather_21 : decode cX3_gather 21 = .ok (.aload_n 1, 1) := by decide +kernel
theorem dX3_gather_22 : decode cX3_gather 22 = .ok (.iload_n 2, 1) := by decide +kernel
theorem dX3_gather_23 : decode cX3_gather 23 = .ok (.invokevirtual 75, 3) := by decide +kernel
theorem dX3_gather_26 : decode cX3_gather 26 = .ok (.aload_n 1, 1) := by decide +kernel
theorem dX3_gather_27 : decode cX3_gather 27 = .ok (.aload_n 1, 1) := by decide +kernel
theorem dX3_gather_28 : decode cX3_gather 28 = .ok (.getfield 81, 3) := by decide +kernel
theorem dX3_gather_31 : decode cX3_gather 31 = .ok (.invokevirtual 84, 3) := by decide +kernel
theorem dX3_gather_34 : decode cX3_gather 34 = .ok (.iconst 0, 1) := by decide +kernel
theorem dX3_gather_35 : decode cX3_gather 35 = .ok (.istore_n 3, 1) := by decide +kernel
theorem dX3_gather_36 : decode cX3_gather 36 = .ok (.iload_n 3, 1) := by decide +kernel
theorem dX3_gather_37 : decode cX3_gather 37 = .ok (.aload_n 0, 1) := by decide +kernel
theorem dX3_gather_38 : decode cX3_gather 38 = .ok (.getfield 18, 3) := by decide +kernel
theorem dX3_gather_41 : decode cX3_gather 41 = .ok (.getfield 22, 3) := by decide +kernel
theorem dX3_gather_44 : decode cX3_gather 44 = .ok (.if_icmp .ge 32, 3) := by decide +kernel
theorem dX3_gather_47 : decode cX3_gather 47 = .ok (.aload_n 0, 1) := by decide +kernel
theorem dX3_gather_48 : decode cX3_gather 48 = .ok (.getfield 9, 3) := by decide +kernel
theorem dX3_gather_51 : decode cX3_gather 51 = .ok (.aload_n 0, 1) := by decide +kernel
theorem dX3_gather_52 : decode cX3_gather 52 = .ok (.getfield 18, 3) := by decide +kernel
theorem dX3_gather_55 : decode cX3_gather 55 = .ok (.getfield 41, 3) := by decide +kernel
theorem dX3_gather_58 : decode cX3_gather 58 = .ok (.iload_n 3, 1) := by decide +kernel
theorem dX3_gather_59 : decode cX3_gather 59 = .ok (.iaload, 1) := by decide +kernel
theorem dX3_gather_60 : decode cX3_gather 60 = .ok (.dup2, 1) := by decide +kernel
theorem dX3_gather_61 : decode cX3_gather 61 = .ok (.iaload, 1) := by decide +kernel
theorem dX3_gather_62 : decode cX3_gather 62 = .ok (.aload_n 1, 1) := by decide +kernel
theorem dX3_gather_63 : decode cX3_gather 63 = .ok (.getfield 87, 3) := by decide +kernel
theorem dX3_gather_66 : decode cX3_gather 66 = .ok (.iload_n 3, 1) := by decide +kernel
theorem dX3_gather_67 : decode cX3_gather 67 = .ok (.iaload, 1) := by decide +kernel
theorem dX3_gather_68 : decode cX3_gather 68 = .ok (.iadd, 1) := by decide +kernel
theorem dX3_gather_69 : decode cX3_gather 69 = .ok (.iastore, 1) := by decide +kernel
theorem dX3_gather_70 : decode cX3_gather 70 = .ok (.iinc 3 1, 3) := by decide +kernel
theorem dX3_gather_73 : decode cX3_gather 73 = .ok (.goto (-37), 3) := by decide +kernel
theorem dX3_gather_76 : decode cX3_gather 76 = .ok (.iinc 2 1, 3) := by decide +kernel
theorem dX3_gather_79 : decode cX3_gather 79 = .ok (.goto (-69), 3) := by decide +kernel
theorem dX3_gather_82 : decode cX3_gather 82 = .ok (.return_, 1) := by decide +kernel
theorem dX3_needed_0 : decode cX3_needed 0 = .ok (.iconst 0, 1) := by decide +kernel
theorem dX3_needed_1 : decode cX3_needed 1 = .ok (.istore_n 2, 1) := by decide +kernel
theorem dX3_needed_2 : decode cX3_needed 2 = .ok (.iconst 0, 1) := by decide +kernel
theorem dX3_needed_3 : decode cX3_needed 3 = .ok (.istore_n 3, 1) := by decide +kernel
theorem dX3_needed_4 : decode cX3_needed 4 = .ok (.iload_n 3, 1) := by decide +kernel
theorem dX3_needed_5 : decode cX3_needed 5 = .ok (.iconst 4, 1) := by decide +kernel
theorem dX3_needed_6 : decode cX3_needed 6 = .ok (.if_icmp .ge 45, 3) := by decide +kernel
theorem dX3_needed_9 : decode cX3_needed 9 = .ok (.iload_n 1, 1) := by decide +kernel
theorem dX3_needed_10 : decode cX3_needed 10 = .ok (.iload_n 3, 1) := by decide +kernel
theorem dX3_needed_11 : decode cX3_needed 11 = .ok (.invokestatic 37, 3) := by decide +kernel
theorem dX3_needed_14 : decode cX3_needed 14 = .ok (.ifCond .eq 31, 3) := by decide +kernel
theorem dX3_needed_17 : decode cX3_needed 17 = .ok (.aload_n 0, 1) := by decide +kernel
theorem dX3_needed_18 : decode cX3_needed 18 = .ok (.iload_n 1, 1) := by decide +kernel
theorem dX3_needed_19 : decode cX3_needed 19 = .ok (.invokevirtual 57, 3) := by decide +kernel
theorem dX3_needed_22 : decode cX3_needed 22 = .ok (.ifCond .eq 23, 3) := by decide +kernel
theorem dX3_needed_25 : decode cX3_needed 25 = .ok (.aload_n 0, 1) := by decide +kernel
theorem dX3_needed_26 : decode cX3_needed 26 = .ok (.iload_n 1, 1) := by decide +kernel
theorem dX3_needed_27 : decode cX3_needed 27 = .ok (.iconst 1, 1) := by decide +kernel
theorem dX3_needed_28 : decode cX3_needed 28 = .ok (.iload_n 3, 1) := by decide +kernel
theorem dX3_needed_29 : decode cX3_needed 29 = .ok (.ishl, 1) := by decide +kernel
theorem dX3_needed_30 : decode cX3_needed 30 = .ok (.iconst (-1), 1) := by decide +kernel
theorem dX3_needed_31 : decode cX3_needed 31 = .ok (.ixor, 1) := by decide +kernel
theorem dX3_needed_32 : decode cX3_needed 32 = .ok (.iand, 1) := by decide +kernel
theorem dX3_needed_33 : decode cX3_needed 33 = .ok (.invokevirtual 57, 3) := by decide +kernel
theorem dX3_needed_36 : decode cX3_needed 36 = .ok (.ifCond .ne 9, 3) := by decide +kernel
theorem dX3_needed_39 : decode cX3_needed 39 = .ok (.iload_n 2, 1) := by decide +kernel
theorem dX3_needed_40 : decode cX3_needed 40 = .ok (.iconst 1, 1) := by decide +kernel
theorem dX3_needed_41 : decode cX3_needed 41 = .ok (.iload_n 3, 1) := by decide +kernel
theorem dX3_needed_42 : decode cX3_needed 42 = .ok (.ishl, 1) := by decide +kernel
theorem dX3_needed_43 : decode cX3_needed 43 = .ok (.ior, 1) := by decide +kernel
theorem dX3_needed_44 : decode cX3_needed 44 = .ok (.istore_n 2, 1) := by decide +kernel
theorem dX3_needed_45 : decode cX3_needed 45 = .ok (.iinc 3 1, 3) := by decide +kernel
theorem dX3_needed_48 : decode cX3_needed 48 = .ok (.goto (-44), 3) := by decide +kernel
theorem dX3_needed_51 : decode cX3_needed 51 = .ok (.iload_n 2, 1) := by decide +kernel
theorem dX3_needed_52 : decode cX3_needed 52 = .ok (.ireturn, 1) := by decide +kernel
theorem dX3_rule_0 : decode cX3_rule 0 = .ok (.iconst 0, 1) := by decide +kernel
theorem dX3_rule_1 : decode cX3_rule 1 = .ok (.istore_n 2, 1) := by decide +kernel
theorem dX3_rule_2 : decode cX3_rule 2 = .ok (.iconst 0, 1) := by decide +kernel
theorem dX3_rule_3 : decode cX3_rule 3 = .ok (.istore_n 3, 1) := by decide +kernel
theorem dX3_rule_4 : decode cX3_rule 4 = .ok (.iload_n 3, 1) := by decide +kernel
theorem dX3_rule_5 : decode cX3_rule 5 = .ok (.aload_n 0, 1) := by decide +kernel
theorem dX3_rule_6 : decode cX3_rule 6 = .ok (.getfield 18, 3) := by decide +kernel
theorem dX3_rule_9 : decode cX3_rule 9 = .ok (.getfield 50, 3) := by decide +kernel
theorem dX3_rule_12 : decode cX3_rule 12 = .ok (.if_icmp .ge 21, 3) := by decide +kernel
theorem dX3_rule_15 : decode cX3_rule 15 = .ok (.iload_n 2, 1) := by decide +kernel
theorem dX3_rule_16 : decode cX3_rule 16 = .ok (.aload_n 0, 1) := by decide +kernel
theorem dX3_rule_17 : decode cX3_rule 17 = .ok (.getfield 18, 3) := by decide +kernel
theorem dX3_rule_20 : decode cX3_rule 20 = .ok (.getfield 44, 3) := by decide +kernel
theorem dX3_rule_23 : decode cX3_rule 23 = .ok (.iload_n 3, 1) := by decide +kernel
theorem dX3_rule_24 : decode cX3_rule 24 = .ok (.iaload, 1) := by decide +kernel
theorem dX3_rule_25 : decode cX3_rule 25 = .ok (.iadd, 1) := by decide +kernel
theorem dX3_rule_26 : decode cX3_rule 26 = .ok (.istore_n 2, 1) := by decide +kernel
theorem dX3_rule_27 : decode cX3_rule 27 = .ok (.iinc 3 1, 3) := by decide +kernel
theorem dX3_rule_30 : decode cX3_rule 30 = .ok (.goto (-26), 3) := by decide +kernel
theorem dX3_rule_33 : decode cX3_rule 33 = .ok (.iconst 2, 1) := by decide +kernel
theorem dX3_rule_34 : decode cX3_rule 34 = .ok (.aload_n 0, 1) := by decide +kernel
theorem dX3_rule_35 : decode cX3_rule 35 = .ok (.iload_n 1, 1) := by decide +kernel
theorem dX3_rule_36 : decode cX3_rule 36 = .ok (.invokevirtual 53, 3) := by decide +kernel
theorem dX3_rule_39 : decode cX3_rule 39 = .ok (.imul, 1) := by decide +kernel
theorem dX3_rule_40 : decode cX3_rule 40 = .ok (.iload_n 2, 1) := by decide +kernel
theorem dX3_rule_41 : decode cX3_rule 41 = .ok (.if_icmp .le 7, 3) := by decide +kernel
theorem dX3_rule_44 : decode cX3_rule 44 = .ok (.iconst 1, 1) := by decide +kernel
theorem dX3_rule_45 : decode cX3_rule 45 = .ok (.goto 4, 3) := by decide +kernel
theorem dX3_rule_48 : decode cX3_rule 48 = .ok (.iconst 0, 1) := by decide +kernel
theorem dX3_rule_49 : decode cX3_rule 49 = .ok (.ireturn, 1) := by decide +kernel
theorem dX3_seatsOf_0 : decode cX3_seatsOf 0 = .ok (.iconst 0, 1) := by decide +kernel
theorem dX3_seatsOf_1 : decode cX3_seatsOf 1 = .ok (.istore_n 2, 1) := by decide +kernel
theorem dX3_seatsOf_2 : decode cX3_seatsOf 2 = .ok (.iconst 0, 1) := by decide +kernel
theorem dX3_seatsOf_3 : decode cX3_seatsOf 3 = .ok (.istore_n 3, 1) := by decide +kernel
theorem dX3_seatsOf_4 : decode cX3_seatsOf 4 = .ok (.iload_n 3, 1) := by decide +kernel
theorem dX3_seatsOf_5 : decode cX3_seatsOf 5 = .ok (.aload_n 0, 1) := by decide +kernel
theorem dX3_seatsOf_6 : decode cX3_seatsOf 6 = .ok (.getfield 18, 3) := by decide +kernel
theorem dX3_seatsOf_9 : decode cX3_seatsOf 9 = .ok (.getfield 22, 3) := by decide +kernel
theorem dX3_seatsOf_12 : decode cX3_seatsOf 12 = .ok (.if_icmp .ge 62, 3) := by decide +kernel
theorem dX3_seatsOf_15 : decode cX3_seatsOf 15 = .ok (.aload_n 0, 1) := by decide +kernel
theorem dX3_seatsOf_16 : decode cX3_seatsOf 16 = .ok (.getfield 18, 3) := by decide +kernel
theorem dX3_seatsOf_19 : decode cX3_seatsOf 19 = .ok (.getfield 28, 3) := by decide +kernel
theorem dX3_seatsOf_22 : decode cX3_seatsOf 22 = .ok (.getfield 32, 3) := by decide +kernel
theorem dX3_seatsOf_25 : decode cX3_seatsOf 25 = .ok (.iload_n 3, 1) := by decide +kernel
theorem dX3_seatsOf_26 : decode cX3_seatsOf 26 = .ok (.invokestatic 37, 3) := by decide +kernel
theorem dX3_seatsOf_29 : decode cX3_seatsOf 29 = .ok (.ifCond .eq 39, 3) := by decide +kernel
theorem dX3_seatsOf_32 : decode cX3_seatsOf 32 = .ok (.iload_n 1, 1) := by decide +kernel
theorem dX3_seatsOf_33 : decode cX3_seatsOf 33 = .ok (.aload_n 0, 1) := by decide +kernel
theorem dX3_seatsOf_34 : decode cX3_seatsOf 34 = .ok (.getfield 18, 3) := by decide +kernel
theorem dX3_seatsOf_37 : decode cX3_seatsOf 37 = .ok (.getfield 41, 3) := by decide +kernel
theorem dX3_seatsOf_40 : decode cX3_seatsOf 40 = .ok (.iload_n 3, 1) := by decide +kernel
theorem dX3_seatsOf_41 : decode cX3_seatsOf 41 = .ok (.iaload, 1) := by decide +kernel
theorem dX3_seatsOf_42 : decode cX3_seatsOf 42 = .ok (.invokestatic 37, 3) := by decide +kernel
theorem dX3_seatsOf_45 : decode cX3_seatsOf 45 = .ok (.ifCond .eq 23, 3) := by decide +kernel
theorem dX3_seatsOf_48 : decode cX3_seatsOf 48 = .ok (.iload_n 2, 1) := by decide +kernel
theorem dX3_seatsOf_49 : decode cX3_seatsOf 49 = .ok (.aload_n 0, 1) := by decide +kernel
theorem dX3_seatsOf_50 : decode cX3_seatsOf 50 = .ok (.getfield 18, 3) := by decide +kernel
theorem dX3_seatsOf_53 : decode cX3_seatsOf 53 = .ok (.getfield 44, 3) := by decide +kernel
theorem dX3_seatsOf_56 : decode cX3_seatsOf 56 = .ok (.aload_n 0, 1) := by decide +kernel
theorem dX3_seatsOf_57 : decode cX3_seatsOf 57 = .ok (.getfield 18, 3) := by decide +kernel
theorem dX3_seatsOf_60 : decode cX3_seatsOf 60 = .ok (.getfield 47, 3) := by decide +kernel
theorem dX3_seatsOf_63 : decode cX3_seatsOf 63 = .ok (.iload_n 3, 1) := by decide +kernel
theorem dX3_seatsOf_64 : decode cX3_seatsOf 64 = .ok (.iaload, 1) := by decide +kernel
theorem dX3_seatsOf_65 : decode cX3_seatsOf 65 = .ok (.iaload, 1) := by decide +kernel
theorem dX3_seatsOf_66 : decode cX3_seatsOf 66 = .ok (.iadd, 1) := by decide +kernel
theorem dX3_seatsOf_67 : decode cX3_seatsOf 67 = .ok (.istore_n 2, 1) := by decide +kernel
theorem dX3_seatsOf_68 : decode cX3_seatsOf 68 = .ok (.iinc 3 1, 3) := by decide +kernel
theorem dX3_seatsOf_71 : decode cX3_seatsOf 71 = .ok (.goto (-67), 3) := by decide +kernel
theorem dX3_seatsOf_74 : decode cX3_seatsOf 74 = .ok (.iload_n 2, 1) := by decide +kernel
theorem dX3_seatsOf_75 : decode cX3_seatsOf 75 = .ok (.ireturn, 1) := by decide +kernel
theorem dX3_smallestRule_0 : decode cX3_smallestRule 0 = .ok (.iconst (-1), 1) := by decide +kernel
theorem dX3_smallestRule_1 : decode cX3_smallestRule 1 = .ok (.istore_n 1, 1) := by decide +kernel
theorem dX3_smallestRule_2 : decode cX3_smallestRule 2 = .ok (.iconst 0, 1) := by decide +kernel
theorem dX3_smallestRule_3 : decode cX3_smallestRule 3 = .ok (.istore_n 2, 1) := by decide +kernel
theorem dX3_smallestRule_4 : decode cX3_smallestRule 4 = .ok (.iload_n 2, 1) := by decide +kernel
theorem dX3_smallestRule_5 : decode cX3_smallestRule 5 = .ok (.bipush 16, 2) := by decide +kernel
theorem dX3_smallestRule_7 : decode cX3_smallestRule 7 = .ok (.if_icmp .ge 45, 3) := by decide +kernel
theorem dX3_smallestRule_10 : decode cX3_smallestRule 10 = .ok (.iload_n 1, 1) := by decide +kernel
theorem dX3_smallestRule_11 : decode cX3_smallestRule 11 = .ok (.iconst (-1), 1) := by decide +kernel
theorem dX3_smallestRule_12 : decode cX3_smallestRule 12 = .ok (.if_icmp .eq 14, 3) := by decide +kernel
theorem dX3_smallestRule_15 : decode cX3_smallestRule 15 = .ok (.iload_n 2, 1) := by decide +kernel
theorem dX3_smallestRule_16 : decode cX3_smallestRule 16 = .ok (.invokestatic 64, 3) := by decide +kernel
theorem dX3_smallestRule_19 : decode cX3_smallestRule 19 = .ok (.iload_n 1, 1) := by decide +kernel
theorem dX3_smallestRule_20 : decode cX3_smallestRule 20 = .ok (.invokestatic 64, 3) := by decide +kernel
theorem dX3_smallestRule_23 : decode cX3_smallestRule 23 = .ok (.if_icmp .ge 7, 3) := by decide +kernel
theorem dX3_smallestRule_26 : decode cX3_smallestRule 26 = .ok (.iconst 1, 1) := by decide +kernel
theorem dX3_smallestRule_27 : decode cX3_smallestRule 27 = .ok (.goto 4, 3) := by decide +kernel
theorem dX3_smallestRule_30 : decode cX3_smallestRule 30 = .ok (.iconst 0, 1) := by decide +kernel
theorem dX3_smallestRule_31 : decode cX3_smallestRule 31 = .ok (.istore_n 3, 1) := by decide +kernel
theorem dX3_smallestRule_32 : decode cX3_smallestRule 32 = .ok (.iload_n 3, 1) := by decide +kernel
theorem dX3_smallestRule_33 : decode cX3_smallestRule 33 = .ok (.ifCond .eq 13, 3) := by decide +kernel
theorem dX3_smallestRule_36 : decode cX3_smallestRule 36 = .ok (.aload_n 0, 1) := by decide +kernel
theorem dX3_smallestRule_37 : decode cX3_smallestRule 37 = .ok (.iload_n 2, 1) := by decide +kernel
theorem dX3_smallestRule_38 : decode cX3_smallestRule 38 = .ok (.invokevirtual 57, 3) := by decide +kernel
theorem dX3_smallestRule_41 : decode cX3_smallestRule 41 = .ok (.ifCond .eq 5, 3) := by decide +kernel
theorem dX3_smallestRule_44 : decode cX3_smallestRule 44 = .ok (.iload_n 2, 1) := by decide +kernel
theorem dX3_smallestRule_45 : decode cX3_smallestRule 45 = .ok (.istore_n 1, 1) := by decide +kernel
theorem dX3_smallestRule_46 : decode cX3_smallestRule 46 = .ok (.iinc 2 1, 3) := by decide +kernel
theorem dX3_smallestRule_49 : decode cX3_smallestRule 49 = .ok (.goto (-45), 3) := by decide +kernel
theorem dX3_smallestRule_52 : decode cX3_smallestRule 52 = .ok (.iload_n 1, 1) := by decide +kernel
theorem dX3_smallestRule_53 : decode cX3_smallestRule 53 = .ok (.ireturn, 1) := by decide +kernel
theorem dX3_turns_0 : decode cX3_turns 0 = .ok (.iconst 0, 1) := by decide +kernel
theorem dX3_turns_1 : decode cX3_turns 1 = .ok (.istore_n 2, 1) := by decide +kernel
theorem dX3_turns_2 : decode cX3_turns 2 = .ok (.iconst 0, 1) := by decide +kernel
theorem dX3_turns_3 : decode cX3_turns 3 = .ok (.istore_n 3, 1) := by decide +kernel
theorem dX3_turns_4 : decode cX3_turns 4 = .ok (.iload_n 3, 1) := by decide +kernel
theorem dX3_turns_5 : decode cX3_turns 5 = .ok (.bipush 16, 2) := by decide +kernel
theorem dX3_turns_7 : decode cX3_turns 7 = .ok (.if_icmp .ge 48, 3) := by decide +kernel
theorem dX3_turns_10 : decode cX3_turns 10 = .ok (.iload_n 3, 1) := by decide +kernel
theorem dX3_turns_11 : decode cX3_turns 11 = .ok (.iload_n 1, 1) := by decide +kernel
theorem dX3_turns_12 : decode cX3_turns 12 = .ok (.invokestatic 37, 3) := by decide +kernel
theorem dX3_turns_15 : decode cX3_turns 15 = .ok (.ifCond .ne 34, 3) := by decide +kernel
theorem dX3_turns_18 : decode cX3_turns 18 = .ok (.aload_n 0, 1) := by decide +kernel
theorem dX3_turns_19 : decode cX3_turns 19 = .ok (.iload_n 3, 1) := by decide +kernel
theorem dX3_turns_20 : decode cX3_turns 20 = .ok (.invokevirtual 57, 3) := by decide +kernel
theorem dX3_turns_23 : decode cX3_turns 23 = .ok (.ifCond .ne 26, 3) := by decide +kernel
theorem dX3_turns_26 : decode cX3_turns 26 = .ok (.aload_n 0, 1) := by decide +kernel
theorem dX3_turns_27 : decode cX3_turns 27 = .ok (.iload_n 3, 1) := by decide +kernel
theorem dX3_turns_28 : decode cX3_turns 28 = .ok (.iconst 1, 1) := by decide +kernel
theorem dX3_turns_29 : decode cX3_turns 29 = .ok (.iload_n 1, 1) := by decide +kernel
theorem dX3_turns_30 : decode cX3_turns 30 = .ok (.ishl, 1) := by decide +kernel
theorem dX3_turns_31 : decode cX3_turns 31 = .ok (.ior, 1) := by decide +kernel
theorem dX3_turns_32 : decode cX3_turns 32 = .ok (.invokevirtual 57, 3) := by decide +kernel
theorem dX3_turns_35 : decode cX3_turns 35 = .ok (.ifCond .eq 14, 3) := by decide +kernel
theorem dX3_turns_38 : decode cX3_turns 38 = .ok (.iload_n 2, 1) := by decide +kernel
theorem dX3_turns_39 : decode cX3_turns 39 = .ok (.getstatic 61, 3) := by decide +kernel
theorem dX3_turns_42 : decode cX3_turns 42 = .ok (.iload_n 3, 1) := by decide +kernel
theorem dX3_turns_43 : decode cX3_turns 43 = .ok (.invokestatic 64, 3) := by decide +kernel
theorem dX3_turns_46 : decode cX3_turns 46 = .ok (.iaload, 1) := by decide +kernel
theorem dX3_turns_47 : decode cX3_turns 47 = .ok (.iadd, 1) := by decide +kernel
theorem dX3_turns_48 : decode cX3_turns 48 = .ok (.istore_n 2, 1) := by decide +kernel
theorem dX3_turns_49 : decode cX3_turns 49 = .ok (.iinc 3 1, 3) := by decide +kernel
theorem dX3_turns_52 : decode cX3_turns 52 = .ok (.goto (-48), 3) := by decide +kernel
theorem dX3_turns_55 : decode cX3_turns 55 = .ok (.iload_n 2, 1) := by decide +kernel
theorem dX3_turns_56 : decode cX3_turns 56 = .ok (.ireturn, 1) := by decide +kernel
theorem dX5_add_0 : decode cX5_add 0 = .ok (.aload_n 0, 1) := by decide +kernel
theorem dX5_add_1 : decode cX5_add 1 = .ok (.getfield 21, 3) := by decide +kernel
theorem dX5_add_4 : decode cX5_add 4 = .ok (.bipush 8, 2) := by decide +kernel
theorem dX5_add_6 : decode cX5_add 6 = .ok (.if_icmp .ge 43, 3) := by decide +kernel
theorem dX5_add_9 : decode cX5_add 9 = .ok (.aload_n 0, 1) := by decide +kernel
theorem dX5_add_10 : decode cX5_add 10 = .ok (.getfield 9, 3) := by decide +kernel
theorem dX5_add_13 : decode cX5_add 13 = .ok (.aload_n 0, 1) := by decide +kernel
theorem dX5_add_14 : decode cX5_add 14 = .ok (.getfield 21, 3) := by decide +kernel
theorem dX5_add_17 : decode cX5_add 17 = .ok (.iload_n 1, 1) := by decide +kernel
theorem dX5_add_18 : decode cX5_add 18 = .ok (.iastore, 1) := by decide +kernel
theorem dX5_add_19 : decode cX5_add 19 = .ok (.aload_n 0, 1) := by decide +kernel
theorem dX5_add_20 : decode cX5_add 20 = .ok (.getfield 15, 3) := by decide +kernel
theorem dX5_add_23 : decode cX5_add 23 = .ok (.aload_n 0, 1) := by decide +kernel
theorem dX5_add_24 : decode cX5_add 24 = .ok (.getfield 21, 3) := by decide +kernel
theorem dX5_add_27 : decode cX5_add 27 = .ok (.iload_n 2, 1) := by decide +kernel
theorem dX5_add_28 : decode cX5_add 28 = .ok (.iastore, 1) := by decide +kernel
theorem dX5_add_29 : decode cX5_add 29 = .ok (.aload_n 0, 1) := by decide +kernel
theorem dX5_add_30 : decode cX5_add 30 = .ok (.getfield 18, 3) := by decide +kernel
theorem dX5_add_33 : decode cX5_add 33 = .ok (.aload_n 0, 1) := by decide +kernel
theorem dX5_add_34 : decode cX5_add 34 = .ok (.getfield 21, 3) := by decide +kernel
theorem dX5_add_37 : decode cX5_add 37 = .ok (.iload_n 3, 1) := by decide +kernel
theorem dX5_add_38 : decode cX5_add 38 = .ok (.iastore, 1) := by decide +kernel
theorem dX5_add_39 : decode cX5_add 39 = .ok (.aload_n 0, 1) := by decide +kernel
theorem dX5_add_40 : decode cX5_add 40 = .ok (.dup, 1) := by decide +kernel
theorem dX5_add_41 : decode cX5_add 41 = .ok (.getfield 21, 3) := by decide +kernel
theorem dX5_add_44 : decode cX5_add 44 = .ok (.iconst 1, 1) := by decide +kernel
theorem dX5_add_45 : decode cX5_add 45 = .ok (.iadd, 1) := by decide +kernel
theorem dX5_add_46 : decode cX5_add 46 = .ok (.putfield 21, 3) := by decide +kernel
theorem dX5_add_49 : decode cX5_add 49 = .ok (.return_, 1) := by decide +kernel
theorem dX5_copyFrom_0 : decode cX5_copyFrom 0 = .ok (.aload_n 0, 1) := by decide +kernel
theorem dX5_copyFrom_1 : decode cX5_copyFrom 1 = .ok (.aload_n 1, 1) := by decide +kernel
theorem dX5_copyFrom_2 : decode cX5_copyFrom 2 = .ok (.getfield 21, 3) := by decide +kernel
theorem dX5_copyFrom_5 : decode cX5_copyFrom 5 = .ok (.putfield 21, 3) := by decide +kernel
theorem dX5_copyFrom_8 : decode cX5_copyFrom 8 = .ok (.aload_n 1, 1) := by decide +kernel
theorem dX5_copyFrom_9 : decode cX5_copyFrom 9 = .ok (.getfield 9, 3) := by decide +kernel
theorem dX5_copyFrom_12 : decode cX5_copyFrom 12 = .ok (.iconst 0, 1) := by decide +kernel
theorem dX5_copyFrom_13 : decode cX5_copyFrom 13 = .ok (.aload_n 0, 1) := by decide +kernel
theorem dX5_copyFrom_14 : decode cX5_copyFrom 14 = .ok (.getfield 9, 3) := by decide +kernel
theorem dX5_copyFrom_17 : decode cX5_copyFrom 17 = .ok (.iconst 0, 1) := by decide +kernel
theorem dX5_copyFrom_18 : decode cX5_copyFrom 18 = .ok (.bipush 8, 2) := by decide +kernel
theorem dX5_copyFrom_20 : decode cX5_copyFrom 20 = .ok (.invokestatic 25, 3) := by decide +kernel
theorem dX5_copyFrom_23 : decode cX5_copyFrom 23 = .ok (.aload_n 1, 1) := by decide +kernel
theorem dX5_copyFrom_24 : decode cX5_copyFrom 24 = .ok (.getfield 15, 3) := by decide +kernel
theorem dX5_copyFrom_27 : decode cX5_copyFrom 27 = .ok (.iconst 0, 1) := by decide +kernel
theorem dX5_copyFrom_28 : decode cX5_copyFrom 28 = .ok (.aload_n 0, 1) := by decide +kernel
theorem dX5_copyFrom_29 : decode cX5_copyFrom 29 = .ok (.getfield 15, 3) := by decide +kernel
theorem dX5_copyFrom_32 : decode cX5_copyFrom 32 = .ok (.iconst 0, 1) := by decide +kernel
theorem dX5_copyFrom_33 : decode cX5_copyFrom 33 = .ok (.bipush 8, 2) := by decide +kernel
theorem dX5_copyFrom_35 : decode cX5_copyFrom 35 = .ok (.invokestatic 25, 3) := by decide +kernel
theorem dX5_copyFrom_38 : decode cX5_copyFrom 38 = .ok (.aload_n 1, 1) := by decide +kernel
theorem dX5_copyFrom_39 : decode cX5_copyFrom 39 = .ok (.getfield 18, 3) := by decide +kernel
theorem dX5_copyFrom_42 : decode cX5_copyFrom 42 = .ok (.iconst 0, 1) := by decide +kernel
theorem dX5_copyFrom_43 : decode cX5_copyFrom 43 = .ok (.aload_n 0, 1) := by decide +kernel
theorem dX5_copyFrom_44 : decode cX5_copyFrom 44 = .ok (.getfield 18, 3) := by decide +kernel
theorem dX5_copyFrom_47 : decode cX5_copyFrom 47 = .ok (.iconst 0, 1) := by decide +kernel
theorem dX5_copyFrom_48 : decode cX5_copyFrom 48 = .ok (.bipush 8, 2) := by decide +kernel
theorem dX5_copyFrom_50 : decode cX5_copyFrom 50 = .ok (.invokestatic 25, 3) := by decide +kernel
theorem dX5_copyFrom_53 : decode cX5_copyFrom 53 = .ok (.return_, 1) := by decide +kernel
theorem dX6_cut_0 : decode cX6_cut 0 = .ok (.aload_n 0, 1) := by decide +kernel
theorem dX6_cut_1 : decode cX6_cut 1 = .ok (.getfield 15, 3) := by decide +kernel
theorem dX6_cut_4 : decode cX6_cut 4 = .ok (.tableswitch 42 0 2 #[28, 33, 38], 28) := by decide +kernel
theorem dX6_cut_32 : decode cX6_cut 32 = .ok (.lload_n 1, 1) := by decide +kernel
theorem dX6_cut_33 : decode cX6_cut 33 = .ok (.l2i, 1) := by decide +kernel
theorem dX6_cut_34 : decode cX6_cut 34 = .ok (.i2b, 1) := by decide +kernel
theorem dX6_cut_35 : decode cX6_cut 35 = .ok (.i2l, 1) := by decide +kernel
theorem dX6_cut_36 : decode cX6_cut 36 = .ok (.lreturn, 1) := by decide +kernel
theorem dX6_cut_37 : decode cX6_cut 37 = .ok (.lload_n 1, 1) := by decide +kernel
theorem dX6_cut_38 : decode cX6_cut 38 = .ok (.l2i, 1) := by decide +kernel
theorem dX6_cut_39 : decode cX6_cut 39 = .ok (.i2s, 1) := by decide +kernel
theorem dX6_cut_40 : decode cX6_cut 40 = .ok (.i2l, 1) := by decide +kernel
theorem dX6_cut_41 : decode cX6_cut 41 = .ok (.lreturn, 1) := by decide +kernel
theorem dX6_cut_42 : decode cX6_cut 42 = .ok (.lload_n 1, 1) := by decide +kernel
theorem dX6_cut_43 : decode cX6_cut 43 = .ok (.l2i, 1) := by decide +kernel
theorem dX6_cut_44 : decode cX6_cut 44 = .ok (.i2l, 1) := by decide +kernel
theorem dX6_cut_45 : decode cX6_cut 45 = .ok (.lreturn, 1) := by decide +kernel
theorem dX6_cut_46 : decode cX6_cut 46 = .ok (.lload_n 1, 1) := by decide +kernel
theorem dX6_cut_47 : decode cX6_cut 47 = .ok (.lreturn, 1) := by decide +kernel
theorem dX6_isNothing_0 : decode cX6_isNothing 0 = .ok (.aload_n 0, 1) := by decide +kernel
theorem dX6_isNothing_1 : decode cX6_isNothing 1 = .ok (.getfield 15, 3) := by decide +kernel
theorem dX6_isNothing_4 : decode cX6_isNothing 4 = .ok (.iconst (-1), 1) := by decide +kernel
theorem dX6_isNothing_5 : decode cX6_isNothing 5 = .ok (.if_icmp .ne 7, 3) := by decide +kernel
theorem dX6_isNothing_8 : decode cX6_isNothing 8 = .ok (.iconst 1, 1) := by decide +kernel
theorem dX6_isNothing_9 : decode cX6_isNothing 9 = .ok (.goto 4, 3) := by decide +kernel
theorem dX6_isNothing_12 : decode cX6_isNothing 12 = .ok (.iconst 0, 1) := by decide +kernel
theorem dX6_isNothing_13 : decode cX6_isNothing 13 = .ok (.ireturn, 1) := by decide +kernel
theorem dX6_lay_0 : decode cX6_lay 0 = .ok (.aload_n 0, 1) := by decide +kernel
theorem dX6_lay_1 : decode cX6_lay 1 = .ok (.iload_n 1, 1) := by decide +kernel
theorem dX6_lay_2 : decode cX6_lay 2 = .ok (.putfield 15, 3) := by decide +kernel
theorem dX6_lay_5 : decode cX6_lay 5 = .ok (.aload_n 0, 1) := by decide +kernel
theorem dX6_lay_6 : decode cX6_lay 6 = .ok (.iload_n 2, 1) := by decide +kernel
theorem dX6_lay_7 : decode cX6_lay 7 = .ok (.putfield 19, 3) := by decide +kernel
theorem dX6_lay_10 : decode cX6_lay 10 = .ok (.aload_n 0, 1) := by decide +kernel
theorem dX6_lay_11 : decode cX6_lay 11 = .ok (.getfield 9, 3) := by decide +kernel
theorem dX6_lay_14 : decode cX6_lay 14 = .ok (.lconst 0, 1) := by decide +kernel
theorem dX6_lay_15 : decode cX6_lay 15 = .ok (.invokestatic 22, 3) := by decide +kernel
theorem dX6_lay_18 : decode cX6_lay 18 = .ok (.return_, 1) := by decide +kernel
theorem dX6_reaches_0 : decode cX6_reaches 0 = .ok (.iload_n 1, 1) := by decide +kernel
theorem dX6_reaches_1 : decode cX6_reaches 1 = .ok (.ifCond .lt 25, 3) := by decide +kernel
theorem dX6_reaches_4 : decode cX6_reaches 4 = .ok (.iload_n 2, 1) := by decide +kernel
theorem dX6_reaches_5 : decode cX6_reaches 5 = .ok (.ifCond .lt 21, 3) := by decide +kernel
theorem dX6_reaches_8 : decode cX6_reaches 8 = .ok (.iload_n 1, 1) := by decide +kernel
theorem dX6_reaches_9 : decode cX6_reaches 9 = .ok (.i2l, 1) := by decide +kernel
theorem dX6_reaches_10 : decode cX6_reaches 10 = .ok (.iload_n 2, 1) := by decide +kernel
theorem dX6_reaches_11 : decode cX6_reaches 11 = .ok (.i2l, 1) := by decide +kernel
theorem dX6_reaches_12 : decode cX6_reaches 12 = .ok (.ladd, 1) := by decide +kernel
theorem dX6_reaches_13 : decode cX6_reaches 13 = .ok (.aload_n 0, 1) := by decide +kernel
theorem dX6_reaches_14 : decode cX6_reaches 14 = .ok (.getfield 19, 3) := by decide +kernel
theorem dX6_reaches_17 : decode cX6_reaches 17 = .ok (.i2l, 1) := by decide +kernel
theorem dX6_reaches_18 : decode cX6_reaches 18 = .ok (.lcmp, 1) := by decide +kernel
theorem dX6_reaches_19 : decode cX6_reaches 19 = .ok (.ifCond .gt 7, 3) := by decide +kernel
theorem dX6_reaches_22 : decode cX6_reaches 22 = .ok (.iconst 1, 1) := by decide +kernel
theorem dX6_reaches_23 : decode cX6_reaches 23 = .ok (.goto 4, 3) := by decide +kernel
theorem dX6_reaches_26 : decode cX6_reaches 26 = .ok (.iconst 0, 1) := by decide +kernel
theorem dX6_reaches_27 : decode cX6_reaches 27 = .ok (.ireturn, 1) := by decide +kernel
theorem dX6_set_0 : decode cX6_set 0 = .ok (.aload_n 0, 1) := by decide +kernel
theorem dX6_set_1 : decode cX6_set 1 = .ok (.getfield 9, 3) := by decide +kernel
theorem dX6_set_4 : decode cX6_set 4 = .ok (.iload_n 1, 1) := by decide +kernel
theorem dX6_set_5 : decode cX6_set 5 = .ok (.aload_n 0, 1) := by decide +kernel
theorem dX6_set_6 : decode cX6_set 6 = .ok (.lload_n 2, 1) := by decide +kernel
theorem dX6_set_7 : decode cX6_set 7 = .ok (.invokevirtual 28, 3) := by decide +kernel
theorem dX6_set_10 : decode cX6_set 10 = .ok (.lastore, 1) := by decide +kernel
theorem dX6_set_11 : decode cX6_set 11 = .ok (.return_, 1) := by decide +kernel
theorem dX8_add_0 : decode cX8_add 0 = .ok (.bipush 24, 2) := by decide +kernel
theorem dX8_add_2 : decode cX8_add 2 = .ok (.istore_n 2, 1) := by decide +kernel
theorem dX8_add_3 : decode cX8_add 3 = .ok (.iload_n 2, 1) := by decide +kernel
theorem dX8_add_4 : decode cX8_add 4 = .ok (.ifCond .lt 42, 3) := by decide +kernel
theorem dX8_add_7 : decode cX8_add 7 = .ok (.aload_n 0, 1) := by decide +kernel
theorem dX8_add_8 : decode cX8_add 8 = .ok (.getfield 15, 3) := by decide +kernel
theorem dX8_add_11 : decode cX8_add 11 = .ok (.sipush 1600, 3) := by decide +kernel
theorem dX8_add_14 : decode cX8_add 14 = .ok (.if_icmp .ge 32, 3) := by decide +kernel
theorem dX8_add_17 : decode cX8_add 17 = .ok (.aload_n 0, 1) := by decide +kernel
theorem dX8_add_18 : decode cX8_add 18 = .ok (.getfield 9, 3) := by decide +kernel
theorem dX8_add_21 : decode cX8_add 21 = .ok (.aload_n 0, 1) := by decide +kernel
theorem dX8_add_22 : decode cX8_add 22 = .ok (.getfield 15, 3) := by decide +kernel
theorem dX8_add_25 : decode cX8_add 25 = .ok (.iload_n 1, 1) := by decide +kernel
theorem dX8_add_26 : decode cX8_add 26 = .ok (.iload_n 2, 1) := by decide +kernel
theorem dX8_add_27 : decode cX8_add 27 = .ok (.ishr, 1) := by decide +kernel
theorem dX8_add_28 : decode cX8_add 28 = .ok (.i2b, 1) := by decide +kernel
theorem dX8_add_29 : decode cX8_add 29 = .ok (.bastore, 1) := by decide +kernel
theorem dX8_add_30 : decode cX8_add 30 = .ok (.aload_n 0, 1) := by decide +kernel
theorem dX8_add_31 : decode cX8_add 31 = .ok (.dup, 1) := by decide +kernel
theorem dX8_add_32 : decode cX8_add 32 = .ok (.getfield 15, 3) := by decide +kernel
theorem dX8_add_35 : decode cX8_add 35 = .ok (.iconst 1, 1) := by decide +kernel
theorem dX8_add_36 : decode cX8_add 36 = .ok (.iadd, 1) := by decide +kernel
theorem dX8_add_37 : decode cX8_add 37 = .ok (.putfield 15, 3) := by decide +kernel
theorem dX8_add_40 : decode cX8_add 40 = .ok (.iinc 2 (-8), 3) := by decide +kernel
theorem dX8_add_43 : decode cX8_add 43 = .ok (.goto (-40), 3) := by decide +kernel
theorem dX8_add_46 : decode cX8_add 46 = .ok (.return_, 1) := by decide +kernel
theorem dX8_at_0 : decode cX8_at 0 = .ok (.iload_n 1, 1) := by decide +kernel
theorem dX8_at_1 : decode cX8_at 1 = .ok (.ifCond .lt 24, 3) := by decide +kernel
theorem dX8_at_4 : decode cX8_at 4 = .ok (.iload_n 1, 1) := by decide +kernel
theorem dX8_at_5 : decode cX8_at 5 = .ok (.aload_n 0, 1) := by decide +kernel
theorem dX8_at_6 : decode cX8_at 6 = .ok (.getfield 15, 3) := by decide +kernel
theorem dX8_at_9 : decode cX8_at 9 = .ok (.if_icmp .ge 16, 3) := by decide +kernel
theorem dX8_at_12 : decode cX8_at 12 = .ok (.aload_n 0, 1) := by decide +kernel
theorem dX8_at_13 : decode cX8_at 13 = .ok (.getfield 9, 3) := by decide +kernel
theorem dX8_at_16 : decode cX8_at 16 = .ok (.iload_n 1, 1) := by decide +kernel
theorem dX8_at_17 : decode cX8_at 17 = .ok (.baload, 1) := by decide +kernel
theorem dX8_at_18 : decode cX8_at 18 = .ok (.sipush 255, 3) := by decide +kernel
theorem dX8_at_21 : decode cX8_at 21 = .ok (.iand, 1) := by decide +kernel
theorem dX8_at_22 : decode cX8_at 22 = .ok (.goto 4, 3) := by decide +kernel
theorem dX8_at_25 : decode cX8_at 25 = .ok (.iconst 0, 1) := by decide +kernel
theorem dX8_at_26 : decode cX8_at 26 = .ok (.ireturn, 1) := by decide +kernel
theorem dX8_hasRoom_0 : decode cX8_hasRoom 0 = .ok (.aload_n 0, 1) := by decide +kernel
theorem dX8_hasRoom_1 : decode cX8_hasRoom 1 = .ok (.getfield 15, 3) := by decide +kernel
theorem dX8_hasRoom_4 : decode cX8_hasRoom 4 = .ok (.bipush 20, 2) := by decide +kernel
theorem dX8_hasRoom_6 : decode cX8_hasRoom 6 = .ok (.iadd, 1) := by decide +kernel
theorem dX8_hasRoom_7 : decode cX8_hasRoom 7 = .ok (.sipush 1600, 3) := by decide +kernel
theorem dX8_hasRoom_10 : decode cX8_hasRoom 10 = .ok (.if_icmp .gt 7, 3) := by decide +kernel
theorem dX8_hasRoom_13 : decode cX8_hasRoom 13 = .ok (.iconst 1, 1) := by decide +kernel
theorem dX8_hasRoom_14 : decode cX8_hasRoom 14 = .ok (.goto 4, 3) := by decide +kernel
theorem dX8_hasRoom_17 : decode cX8_hasRoom 17 = .ok (.iconst 0, 1) := by decide +kernel
theorem dX8_hasRoom_18 : decode cX8_hasRoom 18 = .ok (.ireturn, 1) := by decide +kernel
theorem dX9_clear_0 : decode cX9_clear 0 = .ok (.aload_n 0, 1) := by decide +kernel
theorem dX9_clear_1 : decode cX9_clear 1 = .ok (.iconst 0, 1) := by decide +kernel
theorem dX9_clear_2 : decode cX9_clear 2 = .ok (.putfield 24, 3) := by decide +kernel
theorem dX9_clear_5 : decode cX9_clear 5 = .ok (.aload_n 0, 1) := by decide +kernel
theorem dX9_clear_6 : decode cX9_clear 6 = .ok (.iconst 0, 1) := by decide +kernel
theorem dX9_clear_7 : decode cX9_clear 7 = .ok (.putfield 28, 3) := by decide +kernel
theorem dX9_clear_10 : decode cX9_clear 10 = .ok (.aload_n 0, 1) := by decide +kernel
theorem dX9_clear_11 : decode cX9_clear 11 = .ok (.iconst 0, 1) := by decide +kernel
theorem dX9_clear_12 : decode cX9_clear 12 = .ok (.putfield 31, 3) := by decide +kernel
theorem dX9_clear_15 : decode cX9_clear 15 = .ok (.aload_n 0, 1) := by decide +kernel
theorem dX9_clear_16 : decode cX9_clear 16 = .ok (.getfield 9, 3) := by decide +kernel
theorem dX9_clear_19 : decode cX9_clear 19 = .ok (.iconst 0, 1) := by decide +kernel
theorem dX9_clear_20 : decode cX9_clear 20 = .ok (.invokestatic 34, 3) := by decide +kernel
theorem dX9_clear_23 : decode cX9_clear 23 = .ok (.return_, 1) := by decide +kernel
theorem dX9_copyFrom_0 : decode cX9_copyFrom 0 = .ok (.aload_n 0, 1) := by decide +kernel
theorem dX9_copyFrom_1 : decode cX9_copyFrom 1 = .ok (.aload_n 1, 1) := by decide +kernel
theorem dX9_copyFrom_2 : decode cX9_copyFrom 2 = .ok (.getfield 24, 3) := by decide +kernel
theorem dX9_copyFrom_5 : decode cX9_copyFrom 5 = .ok (.putfield 24, 3) := by decide +kernel
theorem dX9_copyFrom_8 : decode cX9_copyFrom 8 = .ok (.aload_n 0, 1) := by decide +kernel
theorem dX9_copyFrom_9 : decode cX9_copyFrom 9 = .ok (.aload_n 1, 1) := by decide +kernel
theorem dX9_copyFrom_10 : decode cX9_copyFrom 10 = .ok (.getfield 28, 3) := by decide +kernel
theorem dX9_copyFrom_13 : decode cX9_copyFrom 13 = .ok (.putfield 28, 3) := by decide +kernel
theorem dX9_copyFrom_16 : decode cX9_copyFrom 16 = .ok (.aload_n 0, 1) := by decide +kernel
theorem dX9_copyFrom_17 : decode cX9_copyFrom 17 = .ok (.aload_n 1, 1) := by decide +kernel
theorem dX9_copyFrom_18 : decode cX9_copyFrom 18 = .ok (.getfield 31, 3) := by decide +kernel
theorem dX9_copyFrom_21 : decode cX9_copyFrom 21 = .ok (.putfield 31, 3) := by decide +kernel
theorem dX9_copyFrom_24 : decode cX9_copyFrom 24 = .ok (.aload_n 1, 1) := by decide +kernel
theorem dX9_copyFrom_25 : decode cX9_copyFrom 25 = .ok (.getfield 9, 3) := by decide +kernel
theorem dX9_copyFrom_28 : decode cX9_copyFrom 28 = .ok (.iconst 0, 1) := by decide +kernel
theorem dX9_copyFrom_29 : decode cX9_copyFrom 29 = .ok (.aload_n 0, 1) := by decide +kernel
theorem dX9_copyFrom_30 : decode cX9_copyFrom 30 = .ok (.getfield 9, 3) := by decide +kernel
theorem dX9_copyFrom_33 : decode cX9_copyFrom 33 = .ok (.iconst 0, 1) := by decide +kernel
theorem dX9_copyFrom_34 : decode cX9_copyFrom 34 = .ok (.bipush 9, 2) := by decide +kernel
theorem dX9_copyFrom_36 : decode cX9_copyFrom 36 = .ok (.invokestatic 40, 3) := by decide +kernel
theorem dX9_copyFrom_39 : decode cX9_copyFrom 39 = .ok (.aload_n 1, 1) := by decide +kernel
theorem dX9_copyFrom_40 : decode cX9_copyFrom 40 = .ok (.getfield 15, 3) := by decide +kernel
theorem dX9_copyFrom_43 : decode cX9_copyFrom 43 = .ok (.iconst 0, 1) := by decide +kernel
theorem dX9_copyFrom_44 : decode cX9_copyFrom 44 = .ok (.aload_n 0, 1) := by decide +kernel
theorem dX9_copyFrom_45 : decode cX9_copyFrom 45 = .ok (.getfield 15, 3) := by decide +kernel
theorem dX9_copyFrom_48 : decode cX9_copyFrom 48 = .ok (.iconst 0, 1) := by decide +kernel
theorem dX9_copyFrom_49 : decode cX9_copyFrom 49 = .ok (.aload_n 0, 1) := by decide +kernel
theorem dX9_copyFrom_50 : decode cX9_copyFrom 50 = .ok (.getfield 24, 3) := by decide +kernel
theorem dX9_copyFrom_53 : decode cX9_copyFrom 53 = .ok (.invokestatic 40, 3) := by decide +kernel
theorem dX9_copyFrom_56 : decode cX9_copyFrom 56 = .ok (.aload_n 1, 1) := by decide +kernel
theorem dX9_copyFrom_57 : decode cX9_copyFrom 57 = .ok (.getfield 18, 3) := by decide +kernel
theorem dX9_copyFrom_60 : decode cX9_copyFrom 60 = .ok (.iconst 0, 1) := by decide +kernel
theorem dX9_copyFrom_61 : decode cX9_copyFrom 61 = .ok (.aload_n 0, 1) := by decide +kernel
theorem dX9_copyFrom_62 : decode cX9_copyFrom 62 = .ok (.getfield 18, 3) := by decide +kernel
theorem dX9_copyFrom_65 : decode cX9_copyFrom 65 = .ok (.iconst 0, 1) := by decide +kernel
theorem dX9_copyFrom_66 : decode cX9_copyFrom 66 = .ok (.aload_n 0, 1) := by decide +kernel
theorem dX9_copyFrom_67 : decode cX9_copyFrom 67 = .ok (.getfield 24, 3) := by decide +kernel
theorem dX9_copyFrom_70 : decode cX9_copyFrom 70 = .ok (.invokestatic 40, 3) := by decide +kernel
theorem dX9_copyFrom_73 : decode cX9_copyFrom 73 = .ok (.aload_n 1, 1) := by decide +kernel
theorem dX9_copyFrom_74 : decode cX9_copyFrom 74 = .ok (.getfield 21, 3) := by decide +kernel
theorem dX9_copyFrom_77 : decode cX9_copyFrom 77 = .ok (.iconst 0, 1) := by decide +kernel
theorem dX9_copyFrom_78 : decode cX9_copyFrom 78 = .ok (.aload_n 0, 1) := by decide +kernel
theorem dX9_copyFrom_79 : decode cX9_copyFrom 79 = .ok (.getfield 21, 3) := by decide +kernel
theorem dX9_copyFrom_82 : decode cX9_copyFrom 82 = .ok (.iconst 0, 1) := by decide +kernel
theorem dX9_copyFrom_83 : decode cX9_copyFrom 83 = .ok (.aload_n 0, 1) := by decide +kernel
theorem dX9_copyFrom_84 : decode cX9_copyFrom 84 = .ok (.getfield 24, 3) := by decide +kernel
theorem dX9_copyFrom_87 : decode cX9_copyFrom 87 = .ok (.bipush 9, 2) := by decide +kernel
theorem dX9_copyFrom_89 : decode cX9_copyFrom 89 = .ok (.imul, 1) := by decide +kernel
theorem dX9_copyFrom_90 : decode cX9_copyFrom 90 = .ok (.invokestatic 40, 3) := by decide +kernel
theorem dX9_copyFrom_93 : decode cX9_copyFrom 93 = .ok (.return_, 1) := by decide +kernel
theorem dX9_firstDeath_0 : decode cX9_firstDeath 0 = .ok (.iconst (-1), 1) := by decide +kernel
theorem dX9_firstDeath_1 : decode cX9_firstDeath 1 = .ok (.istore 4, 2) := by decide +kernel
theorem dX9_firstDeath_3 : decode cX9_firstDeath 3 = .ok (.iconst 0, 1) := by decide +kernel
theorem dX9_firstDeath_4 : decode cX9_firstDeath 4 = .ok (.istore 5, 2) := by decide +kernel
theorem dX9_firstDeath_6 : decode cX9_firstDeath 6 = .ok (.iload 5, 2) := by decide +kernel
theorem dX9_firstDeath_8 : decode cX9_firstDeath 8 = .ok (.iload_n 2, 1) := by decide +kernel
theorem dX9_firstDeath_9 : decode cX9_firstDeath 9 = .ok (.if_icmp .ge 58, 3) := by decide +kernel
theorem dX9_firstDeath_12 : decode cX9_firstDeath 12 = .ok (.iload_n 1, 1) := by decide +kernel
theorem dX9_firstDeath_13 : decode cX9_firstDeath 13 = .ok (.aload_n 0, 1) := by decide +kernel
theorem dX9_firstDeath_14 : decode cX9_firstDeath 14 = .ok (.getfield 31, 3) := by decide +kernel
theorem dX9_firstDeath_17 : decode cX9_firstDeath 17 = .ok (.ior, 1) := by decide +kernel
theorem dX9_firstDeath_18 : decode cX9_firstDeath 18 = .ok (.iload 5, 2) := by decide +kernel
theorem dX9_firstDeath_20 : decode cX9_firstDeath 20 = .ok (.invokestatic 46, 3) := by decide +kernel
theorem dX9_firstDeath_23 : decode cX9_firstDeath 23 = .ok (.ifCond .ne 38, 3) := by decide +kernel
theorem dX9_firstDeath_26 : decode cX9_firstDeath 26 = .ok (.iconst 1, 1) := by decide +kernel
theorem dX9_firstDeath_27 : decode cX9_firstDeath 27 = .ok (.iload_n 3, 1) := by decide +kernel
theorem dX9_firstDeath_28 : decode cX9_firstDeath 28 = .ok (.aload_n 0, 1) := by decide +kernel
theorem dX9_firstDeath_29 : decode cX9_firstDeath 29 = .ok (.getfield 9, 3) := by decide +kernel
theorem dX9_firstDeath_32 : decode cX9_firstDeath 32 = .ok (.iload 5, 2) := by decide +kernel
theorem dX9_firstDeath_34 : decode cX9_firstDeath 34 = .ok (.iaload, 1) := by decide +kernel
theorem dX9_firstDeath_35 : decode cX9_firstDeath 35 = .ok (.isub, 1) := by decide +kernel
theorem dX9_firstDeath_36 : decode cX9_firstDeath 36 = .ok (.invokestatic 50, 3) := by decide +kernel
theorem dX9_firstDeath_39 : decode cX9_firstDeath 39 = .ok (.istore 6, 2) := by decide +kernel
theorem dX9_firstDeath_41 : decode cX9_firstDeath 41 = .ok (.iload 4, 2) := by decide +kernel
theorem dX9_firstDeath_43 : decode cX9_firstDeath 43 = .ok (.iconst (-1), 1) := by decide +kernel
theorem dX9_firstDeath_44 : decode cX9_firstDeath 44 = .ok (.if_icmp .ne 8, 3) := by decide +kernel
theorem dX9_firstDeath_47 : decode cX9_firstDeath 47 = .ok (.iload 6, 2) := by decide +kernel
theorem dX9_firstDeath_49 : decode cX9_firstDeath 49 = .ok (.goto 10, 3) := by decide +kernel
theorem dX9_firstDeath_52 : decode cX9_firstDeath 52 = .ok (.iload 4, 2) := by decide +kernel
theorem dX9_firstDeath_54 : decode cX9_firstDeath 54 = .ok (.iload 6, 2) := by decide +kernel
theorem dX9_firstDeath_56 : decode cX9_firstDeath 56 = .ok (.invokestatic 56, 3) := by decide +kernel
theorem dX9_firstDeath_59 : decode cX9_firstDeath 59 = .ok (.istore 4, 2) := by decide +kernel
theorem dX9_firstDeath_61 : decode cX9_firstDeath 61 = .ok (.iinc 5 1, 3) := by decide +kernel
theorem dX9_firstDeath_64 : decode cX9_firstDeath 64 = .ok (.goto (-58), 3) := by decide +kernel
theorem dX9_firstDeath_67 : decode cX9_firstDeath 67 = .ok (.iload 4, 2) := by decide +kernel
theorem dX9_firstDeath_69 : decode cX9_firstDeath 69 = .ok (.ireturn, 1) := by decide +kernel
theorem dX9_hold_0 : decode cX9_hold 0 = .ok (.aload_n 0, 1) := by decide +kernel
theorem dX9_hold_1 : decode cX9_hold 1 = .ok (.getfield 24, 3) := by decide +kernel
theorem dX9_hold_4 : decode cX9_hold 4 = .ok (.bipush 60, 2) := by decide +kernel
theorem dX9_hold_6 : decode cX9_hold 6 = .ok (.if_icmp .lt 4, 3) := by decide +kernel
theorem dX9_hold_9 : decode cX9_hold 9 = .ok (.return_, 1) := by decide +kernel
theorem dX9_hold_10 : decode cX9_hold 10 = .ok (.aload_n 0, 1) := by decide +kernel
theorem dX9_hold_11 : decode cX9_hold 11 = .ok (.getfield 18, 3) := by decide +kernel
theorem dX9_hold_14 : decode cX9_hold 14 = .ok (.aload_n 0, 1) := by decide +kernel
theorem dX9_hold_15 : decode cX9_hold 15 = .ok (.getfield 24, 3) := by decide +kernel
theorem dX9_hold_18 : decode cX9_hold 18 = .ok (.aload_n 0, 1) := by decide +kernel
theorem dX9_hold_19 : decode cX9_hold 19 = .ok (.getfield 31, 3) := by decide +kernel
theorem dX9_hold_22 : decode cX9_hold 22 = .ok (.iastore, 1) := by decide +kernel
theorem dX9_hold_23 : decode cX9_hold 23 = .ok (.aload_n 0, 1) := by decide +kernel
theorem dX9_hold_24 : decode cX9_hold 24 = .ok (.getfield 9, 3) := by decide +kernel
theorem dX9_hold_27 : decode cX9_hold 27 = .ok (.iconst 0, 1) := by decide +kernel
theorem dX9_hold_28 : decode cX9_hold 28 = .ok (.aload_n 0, 1) := by decide +kernel
theorem dX9_hold_29 : decode cX9_hold 29 = .ok (.getfield 21, 3) := by decide +kernel
theorem dX9_hold_32 : decode cX9_hold 32 = .ok (.aload_n 0, 1) := by decide +kernel
theorem dX9_hold_33 : decode cX9_hold 33 = .ok (.getfield 24, 3) := by decide +kernel
theorem dX9_hold_36 : decode cX9_hold 36 = .ok (.bipush 9, 2) := by decide +kernel
theorem dX9_hold_38 : decode cX9_hold 38 = .ok (.imul, 1) := by decide +kernel
theorem dX9_hold_39 : decode cX9_hold 39 = .ok (.bipush 9, 2) := by decide +kernel
theorem dX9_hold_41 : decode cX9_hold 41 = .ok (.invokestatic 40, 3) := by decide +kernel
theorem dX9_hold_44 : decode cX9_hold 44 = .ok (.aload_n 0, 1) := by decide +kernel
theorem dX9_hold_45 : decode cX9_hold 45 = .ok (.getfield 15, 3) := by decide +kernel
theorem dX9_hold_48 : decode cX9_hold 48 = .ok (.aload_n 0, 1) := by decide +kernel
theorem dX9_hold_49 : decode cX9_hold 49 = .ok (.getfield 24, 3) := by decide +kernel
theorem dX9_hold_52 : decode cX9_hold 52 = .ok (.iload_n 1, 1) := by decide +kernel
theorem dX9_hold_53 : decode cX9_hold 53 = .ok (.iastore, 1) := by decide +kernel
theorem dX9_hold_54 : decode cX9_hold 54 = .ok (.aload_n 0, 1) := by decide +kernel
theorem dX9_hold_55 : decode cX9_hold 55 = .ok (.dup, 1) := by decide +kernel
theorem dX9_hold_56 : decode cX9_hold 56 = .ok (.getfield 24, 3) := by decide +kernel
theorem dX9_hold_59 : decode cX9_hold 59 = .ok (.iconst 1, 1) := by decide +kernel
theorem dX9_hold_60 : decode cX9_hold 60 = .ok (.iadd, 1) := by decide +kernel
theorem dX9_hold_61 : decode cX9_hold 61 = .ok (.putfield 24, 3) := by decide +kernel
theorem dX9_hold_64 : decode cX9_hold 64 = .ok (.aload_n 0, 1) := by decide +kernel
theorem dX9_hold_65 : decode cX9_hold 65 = .ok (.iload_n 1, 1) := by decide +kernel
theorem dX9_hold_66 : decode cX9_hold 66 = .ok (.putfield 28, 3) := by decide +kernel
theorem dX9_hold_69 : decode cX9_hold 69 = .ok (.iconst 0, 1) := by decide +kernel
theorem dX9_hold_70 : decode cX9_hold 70 = .ok (.istore 4, 2) := by decide +kernel
theorem dX9_hold_72 : decode cX9_hold 72 = .ok (.iload 4, 2) := by decide +kernel
theorem dX9_hold_74 : decode cX9_hold 74 = .ok (.iload_n 2, 1) := by decide +kernel
theorem dX9_hold_75 : decode cX9_hold 75 = .ok (.if_icmp .ge 43, 3) := by decide +kernel
theorem dX9_hold_78 : decode cX9_hold 78 = .ok (.aload_n 0, 1) := by decide +kernel
theorem dX9_hold_79 : decode cX9_hold 79 = .ok (.getfield 9, 3) := by decide +kernel
theorem dX9_hold_82 : decode cX9_hold 82 = .ok (.iload 4, 2) := by decide +kernel
theorem dX9_hold_84 : decode cX9_hold 84 = .ok (.iload_n 1, 1) := by decide +kernel
theorem dX9_hold_85 : decode cX9_hold 85 = .ok (.aload_n 0, 1) := by decide +kernel
theorem dX9_hold_86 : decode cX9_hold 86 = .ok (.getfield 31, 3) := by decide +kernel
theorem dX9_hold_89 : decode cX9_hold 89 = .ok (.ior, 1) := by decide +kernel
theorem dX9_hold_90 : decode cX9_hold 90 = .ok (.iload 4, 2) := by decide +kernel
theorem dX9_hold_92 : decode cX9_hold 92 = .ok (.invokestatic 46, 3) := by decide +kernel
theorem dX9_hold_95 : decode cX9_hold 95 = .ok (.ifCond .eq 7, 3) := by decide +kernel
theorem dX9_hold_98 : decode cX9_hold 98 = .ok (.iconst 0, 1) := by decide +kernel
theorem dX9_hold_99 : decode cX9_hold 99 = .ok (.goto 12, 3) := by decide +kernel
theorem dX9_hold_102 : decode cX9_hold 102 = .ok (.aload_n 0, 1) := by decide +kernel
theorem dX9_hold_103 : decode cX9_hold 103 = .ok (.getfield 9, 3) := by decide +kernel
theorem dX9_hold_106 : decode cX9_hold 106 = .ok (.iload 4, 2) := by decide +kernel
theorem dX9_hold_108 : decode cX9_hold 108 = .ok (.iaload, 1) := by decide +kernel
theorem dX9_hold_109 : decode cX9_hold 109 = .ok (.iconst 1, 1) := by decide +kernel
theorem dX9_hold_110 : decode cX9_hold 110 = .ok (.iadd, 1) := by decide +kernel
theorem dX9_hold_111 : decode cX9_hold 111 = .ok (.iastore, 1) := by decide +kernel
theorem dX9_hold_112 : decode cX9_hold 112 = .ok (.iinc 4 1, 3) := by decide +kernel
theorem dX9_hold_115 : decode cX9_hold 115 = .ok (.goto (-43), 3) := by decide +kernel
theorem dX9_hold_118 : decode cX9_hold 118 = .ok (.iconst 0, 1) := by decide +kernel
theorem dX9_hold_119 : decode cX9_hold 119 = .ok (.istore 4, 2) := by decide +kernel
theorem dX9_hold_121 : decode cX9_hold 121 = .ok (.iload 4, 2) := by decide +kernel
theorem dX9_hold_123 : decode cX9_hold 123 = .ok (.iload_n 2, 1) := by decide +kernel
theorem dX9_hold_124 : decode cX9_hold 124 = .ok (.if_icmp .ge 33, 3) := by decide +kernel
theorem dX9_hold_127 : decode cX9_hold 127 = .ok (.aload_n 0, 1) := by decide +kernel
theorem dX9_hold_128 : decode cX9_hold 128 = .ok (.getfield 9, 3) := by decide +kernel
theorem dX9_hold_131 : decode cX9_hold 131 = .ok (.iload 4, 2) := by decide +kernel
theorem dX9_hold_133 : decode cX9_hold 133 = .ok (.iaload, 1) := by decide +kernel
theorem dX9_hold_134 : decode cX9_hold 134 = .ok (.iload_n 3, 1) := by decide +kernel
theorem dX9_hold_135 : decode cX9_hold 135 = .ok (.if_icmp .lt 16, 3) := by decide +kernel
theorem dX9_hold_138 : decode cX9_hold 138 = .ok (.aload_n 0, 1) := by decide +kernel
theorem dX9_hold_139 : decode cX9_hold 139 = .ok (.dup, 1) := by decide +kernel
theorem dX9_hold_140 : decode cX9_hold 140 = .ok (.getfield 31, 3) := by decide +kernel
theorem dX9_hold_143 : decode cX9_hold 143 = .ok (.iconst 1, 1) := by decide +kernel
theorem dX9_hold_144 : decode cX9_hold 144 = .ok (.iload 4, 2) := by decide +kernel
theorem dX9_hold_146 : decode cX9_hold 146 = .ok (.ishl, 1) := by decide +kernel
theorem dX9_hold_147 : decode cX9_hold 147 = .ok (.ior, 1) := by decide +kernel
theorem dX9_hold_148 : decode cX9_hold 148 = .ok (.putfield 31, 3) := by decide +kernel
theorem dX9_hold_151 : decode cX9_hold 151 = .ok (.iinc 4 1, 3) := by decide +kernel
theorem dX9_hold_154 : decode cX9_hold 154 = .ok (.goto (-33), 3) := by decide +kernel
theorem dX9_hold_157 : decode cX9_hold 157 = .ok (.return_, 1) := by decide +kernel
theorem dX9_takeBack_0 : decode cX9_takeBack 0 = .ok (.aload_n 0, 1) := by decide +kernel
theorem dX9_takeBack_1 : decode cX9_takeBack 1 = .ok (.getfield 24, 3) := by decide +kernel
theorem dX9_takeBack_4 : decode cX9_takeBack 4 = .ok (.ifCond .ne 4, 3) := by decide +kernel
theorem dX9_takeBack_7 : decode cX9_takeBack 7 = .ok (.return_, 1) := by decide +kernel
theorem dX9_takeBack_8 : decode cX9_takeBack 8 = .ok (.aload_n 0, 1) := by decide +kernel
theorem dX9_takeBack_9 : decode cX9_takeBack 9 = .ok (.dup, 1) := by decide +kernel
theorem dX9_takeBack_10 : decode cX9_takeBack 10 = .ok (.getfield 24, 3) := by decide +kernel
theorem dX9_takeBack_13 : decode cX9_takeBack 13 = .ok (.iconst 1, 1) := by decide +kernel
theorem dX9_takeBack_14 : decode cX9_takeBack 14 = .ok (.isub, 1) := by decide +kernel
theorem dX9_takeBack_15 : decode cX9_takeBack 15 = .ok (.putfield 24, 3) := by decide +kernel
theorem dX9_takeBack_18 : decode cX9_takeBack 18 = .ok (.aload_n 0, 1) := by decide +kernel
theorem dX9_takeBack_19 : decode cX9_takeBack 19 = .ok (.aload_n 0, 1) := by decide +kernel
theorem dX9_takeBack_20 : decode cX9_takeBack 20 = .ok (.getfield 24, 3) := by decide +kernel
theorem dX9_takeBack_23 : decode cX9_takeBack 23 = .ok (.ifCond .ne 7, 3) := by decide +kernel
theorem dX9_takeBack_26 : decode cX9_takeBack 26 = .ok (.iconst 0, 1) := by decide +kernel
theorem dX9_takeBack_27 : decode cX9_takeBack 27 = .ok (.goto 14, 3) := by decide +kernel
theorem dX9_takeBack_30 : decode cX9_takeBack 30 = .ok (.aload_n 0, 1) := by decide +kernel
theorem dX9_takeBack_31 : decode cX9_takeBack 31 = .ok (.getfield 15, 3) := by decide +kernel
theorem dX9_takeBack_34 : decode cX9_takeBack 34 = .ok (.aload_n 0, 1) := by decide +kernel
theorem dX9_takeBack_35 : decode cX9_takeBack 35 = .ok (.getfield 24, 3) := by decide +kernel
theorem dX9_takeBack_38 : decode cX9_takeBack 38 = .ok (.iconst 1, 1) := by decide +kernel
theorem dX9_takeBack_39 : decode cX9_takeBack 39 = .ok (.isub, 1) := by decide +kernel
theorem dX9_takeBack_40 : decode cX9_takeBack 40 = .ok (.iaload, 1) := by decide +kernel
theorem dX9_takeBack_41 : decode cX9_takeBack 41 = .ok (.putfield 28, 3) := by decide +kernel
theorem dX9_takeBack_44 : decode cX9_takeBack 44 = .ok (.aload_n 0, 1) := by decide +kernel
theorem dX9_takeBack_45 : decode cX9_takeBack 45 = .ok (.aload_n 0, 1) := by decide +kernel
theorem dX9_takeBack_46 : decode cX9_takeBack 46 = .ok (.getfield 18, 3) := by decide +kernel
theorem dX9_takeBack_49 : decode cX9_takeBack 49 = .ok (.aload_n 0, 1) := by decide +kernel
theorem dX9_takeBack_50 : decode cX9_takeBack 50 = .ok (.getfield 24, 3) := by decide +kernel
theorem dX9_takeBack_53 : decode cX9_takeBack 53 = .ok (.iaload, 1) := by decide +kernel
theorem dX9_takeBack_54 : decode cX9_takeBack 54 = .ok (.putfield 31, 3) := by decide +kernel
theorem dX9_takeBack_57 : decode cX9_takeBack 57 = .ok (.aload_n 0, 1) := by decide +kernel
theorem dX9_takeBack_58 : decode cX9_takeBack 58 = .ok (.getfield 21, 3) := by decide +kernel
theorem dX9_takeBack_61 : decode cX9_takeBack 61 = .ok (.aload_n 0, 1) := by decide +kernel
theorem dX9_takeBack_62 : decode cX9_takeBack 62 = .ok (.getfield 24, 3) := by decide +kernel
theorem dX9_takeBack_65 : decode cX9_takeBack 65 = .ok (.bipush 9, 2) := by decide +kernel
theorem dX9_takeBack_67 : decode cX9_takeBack 67 = .ok (.imul, 1) := by decide +kernel
theorem dX9_takeBack_68 : decode cX9_takeBack 68 = .ok (.aload_n 0, 1) := by decide +kernel
theorem dX9_takeBack_69 : decode cX9_takeBack 69 = .ok (.getfield 9, 3) := by decide +kernel
theorem dX9_takeBack_72 : decode cX9_takeBack 72 = .ok (.iconst 0, 1) := by decide +kernel
theorem dX9_takeBack_73 : decode cX9_takeBack 73 = .ok (.bipush 9, 2) := by decide +kernel
theorem dX9_takeBack_75 : decode cX9_takeBack 75 = .ok (.invokestatic 40, 3) := by decide +kernel
theorem dX9_takeBack_78 : decode cX9_takeBack 78 = .ok (.return_, 1) := by decide +kernel
theorem m_10 : Cond.initialized RX1 ∈ TB := tb_m 10 (by decide +kernel) (by decide +kernel)
theorem m_100 : Cond.fieldLink RX9 18 "WordSeats$Terms" "deadAhead" "[I" ∈ TB := tb_m 100 (by decide +kernel) (by decide +kernel)
theorem m_1005 : Cond.methodLink RX11 287 yX10_detour ∈ TB := tb_m 1005 (by decide +kernel) (by decide +kernel)
theorem m_1006 : Cond.instanceMethod yX10_detour ∈ TB := tb_m 1006 (by decide +kernel) (by decide +kernel)
theorem m_1007 : Cond.selects RX10 yX10_detour yX10_detour ∈ TB := tb_m 1007 (by decide +kernel) (by decide +kernel)
theorem m_1008 : Cond.code yX10_detour cX10_detour 3 (some .int) ∈ TB := tb_m 1008 (by decide +kernel) (by decide +kernel)
theorem m_1009 : Cond.methodLink RX10 90 yX10_goesRound ∈ TB := tb_m 1009 (by decide +kernel) (by decide +kernel)
theorem m_101 : Cond.fieldLink RX9 21 "WordSeats$Terms" "idleAhead" "[I" ∈ TB := tb_m 101 (by decide +kernel) (by decide +kernel)
theorem m_1010 : Cond.instanceMethod yX10_goesRound ∈ TB := tb_m 1010 (by decide +kernel) (by decide +kernel)
theorem m_1011 : Cond.selects RX10 yX10_goesRound yX10_goesRound ∈ TB := tb_m 1011 (by decide +kernel) (by decide +kernel)
theorem m_1012 : Cond.code yX10_goesRound cX10_goesRound 2 (some .boolean) ∈ TB := tb_m 1012 (by decide +kernel) (by decide +kernel)
theorem m_1017 : Cond.methodLink RX11 290 yX10_unsayable ∈ TB := tb_m 1017 (by decide +kernel) (by decide +kernel)
theorem m_1018 : Cond.instanceMethod yX10_unsayable ∈ TB := tb_m 1018 (by decide +kernel) (by decide +kernel)
theorem m_1019 : Cond.selects RX10 yX10_unsayable yX10_unsayable ∈ TB := tb_m 1019 (by decide +kernel) (by decide +kernel)
theorem m_1020 : Cond.code yX10_unsayable cX10_unsayable 3 (some .int) ∈ TB := tb_m 1020 (by decide +kernel) (by decide +kernel)
theorem m_1025 : Cond.methodLink RX11 293 yX10_price ∈ TB := tb_m 1025 (by decide +kernel) (by decide +kernel)
theorem m_1026 : Cond.instanceMethod yX10_price ∈ TB := tb_m 1026 (by decide +kernel) (by decide +kernel)
theorem m_1027 : Cond.selects RX10 yX10_price yX10_price ∈ TB := tb_m 1027 (by decide +kernel) (by decide +kernel)
theorem m_1028 : Cond.code yX10_price cX10_price 4 (some .int) ∈ TB := tb_m 1028 (by decide +kernel) (by decide +kernel)
theorem m_1033 : Cond.methodLink RX11 296 yX10_priceOfAll ∈ TB := tb_m 1033 (by decide +kernel) (by decide +kernel)
theorem m_1034 : Cond.instanceMethod yX10_priceOfAll ∈ TB := tb_m 1034 (by decide +kernel) (by decide +kernel)
theorem m_1035 : Cond.selects RX10 yX10_priceOfAll yX10_priceOfAll ∈ TB := tb_m 1035 (by decide +kernel) (by decide +kernel)
theorem m_1036 : Cond.code yX10_priceOfAll cX10_priceOfAll 4 (some .int) ∈ TB := tb_m 1036 (by decide +kernel) (by decide +kernel)
theorem m_1037 : Cond.methodLink RX10 100 yX10_learn ∈ TB := tb_m 1037 (by decide +kernel) (by decide +kernel)
theorem m_1038 : Cond.methodLink RX10 106 yX10_price ∈ TB := tb_m 1038 (by decide +kernel) (by decide +kernel)
theorem m_1043 : Cond.methodLink RX11 299 yX11_isSet ∈ TB := tb_m 1043 (by decide +kernel) (by decide +kernel)
theorem m_1044 : Cond.static yX11_isSet ∈ TB := tb_m 1044 (by decide +kernel) (by decide +kernel)
theorem m_1045 : Cond.code yX11_isSet cX11_isSet 2 (some .boolean) ∈ TB := tb_m 1045 (by decide +kernel) (by decide +kernel)
theorem m_1050 : Cond.methodLink RX11 302 yX10_cheapestIn ∈ TB := tb_m 1050 (by decide +kernel) (by decide +kernel)
theorem m_1051 : Cond.instanceMethod yX10_cheapestIn ∈ TB := tb_m 1051 (by decide +kernel) (by decide +kernel)
theorem m_1052 : Cond.selects RX10 yX10_cheapestIn yX10_cheapestIn ∈ TB := tb_m 1052 (by decide +kernel) (by decide +kernel)
theorem m_1053 : Cond.code yX10_cheapestIn cX10_cheapestIn 8 (some .int) ∈ TB := tb_m 1053 (by decide +kernel) (by decide +kernel)
theorem m_1054 : Cond.methodLink RX10 118 yX0_wordsIn ∈ TB := tb_m 1054 (by decide +kernel) (by decide +kernel)
theorem m_1055 : Cond.methodLink RX10 121 yX0_standingIn ∈ TB := tb_m 1055 (by decide +kernel) (by decide +kernel)
theorem m_1056 : Cond.methodLink RX10 124 yX10_priceOfAll ∈ TB := tb_m 1056 (by decide +kernel) (by decide +kernel)
theorem m_1061 : Cond.methodLink RX11 308 yX10_fewestFor ∈ TB := tb_m 1061 (by decide +kernel) (by decide +kernel)
theorem m_1062 : Cond.instanceMethod yX10_fewestFor ∈ TB := tb_m 1062 (by decide +kernel) (by decide +kernel)
theorem m_1063 : Cond.selects RX10 yX10_fewestFor yX10_fewestFor ∈ TB := tb_m 1063 (by decide +kernel) (by decide +kernel)
theorem m_1064 : Cond.code yX10_fewestFor cX10_fewestFor 6 (some .int) ∈ TB := tb_m 1064 (by decide +kernel) (by decide +kernel)
theorem m_1065 : Cond.methodLink RX10 130 yX10_says ∈ TB := tb_m 1065 (by decide +kernel) (by decide +kernel)
theorem m_1067 : Cond.instanceMethod yX10_says ∈ TB := tb_m 1067 (by decide +kernel) (by decide +kernel)
theorem m_1068 : Cond.code yX10_says cX10_says 3 (some .boolean) ∈ TB := tb_m 1068 (by decide +kernel) (by decide +kernel)
theorem m_1069 : Cond.methodLink RX10 138 yX10_unsayable ∈ TB := tb_m 1069 (by decide +kernel) (by decide +kernel)
theorem m_1070 : Cond.methodLink RX10 133 yJ6_bitCount_0f7a4 ∈ TB := tb_m 1070 (by decide +kernel) (by decide +kernel)
theorem m_1079 : Cond.methodLink RX11 311 yX10_cheapestHouse ∈ TB := tb_m 1079 (by decide +kernel) (by decide +kernel)
theorem m_1080 : Cond.instanceMethod yX10_cheapestHouse ∈ TB := tb_m 1080 (by decide +kernel) (by decide +kernel)
theorem m_1081 : Cond.selects RX10 yX10_cheapestHouse yX10_cheapestHouse ∈ TB := tb_m 1081 (by decide +kernel) (by decide +kernel)
theorem m_1082 : Cond.code yX10_cheapestHouse cX10_cheapestHouse 5 (some .int) ∈ TB := tb_m 1082 (by decide +kernel) (by decide +kernel)
theorem m_1083 : Cond.methodLink RX10 142 yX0_canSit ∈ TB := tb_m 1083 (by decide +kernel) (by decide +kernel)
theorem m_1084 : Cond.instanceMethod yX0_canSit ∈ TB := tb_m 1084 (by decide +kernel) (by decide +kernel)
theorem m_1085 : Cond.selects RX0 yX0_canSit yX0_canSit ∈ TB := tb_m 1085 (by decide +kernel) (by decide +kernel)
theorem m_1086 : Cond.code yX0_canSit cX0_canSit 4 (some .boolean) ∈ TB := tb_m 1086 (by decide +kernel) (by decide +kernel)
theorem m_1095 : Cond.methodLink RX11 314 yX2_seekFeint ∈ TB := tb_m 1095 (by decide +kernel) (by decide +kernel)
theorem m_1096 : Cond.instanceMethod yX2_seekFeint ∈ TB := tb_m 1096 (by decide +kernel) (by decide +kernel)
theorem m_1097 : Cond.selects RX2 yX2_seekFeint yX2_seekFeint ∈ TB := tb_m 1097 (by decide +kernel) (by decide +kernel)
theorem m_1098 : Cond.code yX2_seekFeint cX2_seekFeint 7 none ∈ TB := tb_m 1098 (by decide +kernel) (by decide +kernel)
theorem m_1099 : Cond.methodLink RX2 193 yX2_takerByFeint ∈ TB := tb_m 1099 (by decide +kernel) (by decide +kernel)
theorem m_1101 : Cond.instanceMethod yX2_takerByFeint ∈ TB := tb_m 1101 (by decide +kernel) (by decide +kernel)
theorem m_1102 : Cond.code yX2_takerByFeint cX2_takerByFeint 3 (some .int) ∈ TB := tb_m 1102 (by decide +kernel) (by decide +kernel)
theorem m_1115 : Cond.methodLink RX11 326 yX11_isParty ∈ TB := tb_m 1115 (by decide +kernel) (by decide +kernel)
theorem m_1116 : Cond.static yX11_isParty ∈ TB := tb_m 1116 (by decide +kernel) (by decide +kernel)
theorem m_1117 : Cond.code yX11_isParty cX11_isParty 1 (some .boolean) ∈ TB := tb_m 1117 (by decide +kernel) (by decide +kernel)
theorem m_1118 : Cond.methodLink RX11 329 yX3_seatsOf ∈ TB := tb_m 1118 (by decide +kernel) (by decide +kernel)
theorem m_1119 : Cond.instanceMethod yX3_seatsOf ∈ TB := tb_m 1119 (by decide +kernel) (by decide +kernel)
theorem m_1120 : Cond.selects RX3 yX3_seatsOf yX3_seatsOf ∈ TB := tb_m 1120 (by decide +kernel) (by decide +kernel)
theorem m_1121 : Cond.code yX3_seatsOf cX3_seatsOf 4 (some .int) ∈ TB := tb_m 1121 (by decide +kernel) (by decide +kernel)
theorem m_1127 : Cond.methodLink RX11 332 yX3_rule ∈ TB := tb_m 1127 (by decide +kernel) (by decide +kernel)
theorem m_1128 : Cond.instanceMethod yX3_rule ∈ TB := tb_m 1128 (by decide +kernel) (by decide +kernel)
theorem m_1129 : Cond.selects RX3 yX3_rule yX3_rule ∈ TB := tb_m 1129 (by decide +kernel) (by decide +kernel)
theorem m_1130 : Cond.code yX3_rule cX3_rule 4 (some .boolean) ∈ TB := tb_m 1130 (by decide +kernel) (by decide +kernel)
theorem m_1131 : Cond.methodLink RX3 53 yX3_seatsOf ∈ TB := tb_m 1131 (by decide +kernel) (by decide +kernel)
theorem m_1136 : Cond.methodLink RX11 335 yX3_turns ∈ TB := tb_m 1136 (by decide +kernel) (by decide +kernel)
theorem m_1137 : Cond.instanceMethod yX3_turns ∈ TB := tb_m 1137 (by decide +kernel) (by decide +kernel)
theorem m_1138 : Cond.selects RX3 yX3_turns yX3_turns ∈ TB := tb_m 1138 (by decide +kernel) (by decide +kernel)
theorem m_1139 : Cond.code yX3_turns cX3_turns 4 (some .int) ∈ TB := tb_m 1139 (by decide +kernel) (by decide +kernel)
theorem m_1140 : Cond.methodLink RX3 57 yX3_rule ∈ TB := tb_m 1140 (by decide +kernel) (by decide +kernel)
theorem m_1141 : Cond.fieldLink RX3 61 "WordSeats$Parties" "ORDERS_BEHIND" "[I" ∈ TB := tb_m 1141 (by decide +kernel) (by decide +kernel)
theorem m_1143 : Cond.methodLink RX3 64 yJ6_bitCount_0f7a4 ∈ TB := tb_m 1143 (by decide +kernel) (by decide +kernel)
theorem m_1144 : Cond.methodLink RX11 338 yX3_commonDivisor ∈ TB := tb_m 1144 (by decide +kernel) (by decide +kernel)
theorem m_1145 : Cond.static yX3_commonDivisor ∈ TB := tb_m 1145 (by decide +kernel) (by decide +kernel)
theorem m_1146 : Cond.code yX3_commonDivisor cX3_commonDivisor 2 (some .int) ∈ TB := tb_m 1146 (by decide +kernel) (by decide +kernel)
theorem m_1151 : Cond.methodLink RX11 341 yX3_smallestRule ∈ TB := tb_m 1151 (by decide +kernel) (by decide +kernel)
theorem m_1152 : Cond.instanceMethod yX3_smallestRule ∈ TB := tb_m 1152 (by decide +kernel) (by decide +kernel)
theorem m_1153 : Cond.selects RX3 yX3_smallestRule yX3_smallestRule ∈ TB := tb_m 1153 (by decide +kernel) (by decide +kernel)
theorem m_1154 : Cond.code yX3_smallestRule cX3_smallestRule 4 (some .int) ∈ TB := tb_m 1154 (by decide +kernel) (by decide +kernel)
theorem m_1159 : Cond.methodLink RX11 344 yX3_needed ∈ TB := tb_m 1159 (by decide +kernel) (by decide +kernel)
theorem m_1160 : Cond.instanceMethod yX3_needed ∈ TB := tb_m 1160 (by decide +kernel) (by decide +kernel)
theorem m_1161 : Cond.selects RX3 yX3_needed yX3_needed ∈ TB := tb_m 1161 (by decide +kernel) (by decide +kernel)
theorem m_1162 : Cond.code yX3_needed cX3_needed 4 (some .int) ∈ TB := tb_m 1162 (by decide +kernel) (by decide +kernel)
theorem m_1167 : Cond.methodLink RX11 347 yX3_gather ∈ TB := tb_m 1167 (by decide +kernel) (by decide +kernel)
theorem m_1168 : Cond.instanceMethod yX3_gather ∈ TB := tb_m 1168 (by decide +kernel) (by decide +kernel)
theorem m_1169 : Cond.selects RX3 yX3_gather yX3_gather ∈ TB := tb_m 1169 (by decide +kernel) (by decide +kernel)
theorem m_1170 : Cond.code yX3_gather cX3_gather 4 none ∈ TB := tb_m 1170 (by decide +kernel) (by decide +kernel)
theorem m_1171 : Cond.methodLink RX3 69 yJ7_fill_53178 ∈ TB := tb_m 1171 (by decide +kernel) (by decide +kernel)
theorem m_1172 : Cond.methodLink RX3 75 yX2_open ∈ TB := tb_m 1172 (by decide +kernel) (by decide +kernel)
theorem m_1173 : Cond.methodLink RX3 84 yX2_tallyFirst ∈ TB := tb_m 1173 (by decide +kernel) (by decide +kernel)
theorem m_1174 : Cond.methodLink RX11 351 yX3_allot ∈ TB := tb_m 1174 (by decide +kernel) (by decide +kernel)
theorem m_1175 : Cond.instanceMethod yX3_allot ∈ TB := tb_m 1175 (by decide +kernel) (by decide +kernel)
theorem m_1176 : Cond.selects RX3 yX3_allot yX3_allot ∈ TB := tb_m 1176 (by decide +kernel) (by decide +kernel)
theorem m_1177 : Cond.code yX3_allot cX3_allot 5 none ∈ TB := tb_m 1177 (by decide +kernel) (by decide +kernel)
theorem m_1182 : Cond.methodLink RX11 357 yX1_canDraw ∈ TB := tb_m 1182 (by decide +kernel) (by decide +kernel)
theorem m_1183 : Cond.instanceMethod yX1_canDraw ∈ TB := tb_m 1183 (by decide +kernel) (by decide +kernel)
theorem m_1184 : Cond.selects RX1 yX1_canDraw yX1_canDraw ∈ TB := tb_m 1184 (by decide +kernel) (by decide +kernel)
theorem m_1185 : Cond.code yX1_canDraw cX1_canDraw 1 (some .boolean) ∈ TB := tb_m 1185 (by decide +kernel) (by decide +kernel)
theorem m_1186 : Cond.methodLink RX11 360 yX1_draw ∈ TB := tb_m 1186 (by decide +kernel) (by decide +kernel)
theorem m_1187 : Cond.instanceMethod yX1_draw ∈ TB := tb_m 1187 (by decide +kernel) (by decide +kernel)
theorem m_1188 : Cond.selects RX1 yX1_draw yX1_draw ∈ TB := tb_m 1188 (by decide +kernel) (by decide +kernel)
theorem m_1189 : Cond.code yX1_draw cX1_draw 5 none ∈ TB := tb_m 1189 (by decide +kernel) (by decide +kernel)
theorem m_1190 : Cond.methodLink RX1 42 yX1_canDraw ∈ TB := tb_m 1190 (by decide +kernel) (by decide +kernel)
theorem m_1191 : Cond.methodLink RX1 46 yX1_tryPeople ∈ TB := tb_m 1191 (by decide +kernel) (by decide +kernel)
theorem m_1193 : Cond.instanceMethod yX1_tryPeople ∈ TB := tb_m 1193 (by decide +kernel) (by decide +kernel)
theorem m_1194 : Cond.code yX1_tryPeople cX1_tryPeople 5 none ∈ TB := tb_m 1194 (by decide +kernel) (by decide +kernel)
theorem m_1195 : Cond.methodLink RX1 54 yX2_open ∈ TB := tb_m 1195 (by decide +kernel) (by decide +kernel)
theorem m_1196 : Cond.methodLink RX1 60 yX2_enrol ∈ TB := tb_m 1196 (by decide +kernel) (by decide +kernel)
theorem m_1197 : Cond.methodLink RX1 66 yX2_hold ∈ TB := tb_m 1197 (by decide +kernel) (by decide +kernel)
theorem m_1198 : Cond.methodLink RX1 69 yX2_taker ∈ TB := tb_m 1198 (by decide +kernel) (by decide +kernel)
theorem m_1199 : Cond.methodLink RX1 50 yX1_countTheirs ∈ TB := tb_m 1199 (by decide +kernel) (by decide +kernel)
theorem m_12 : Cond.initialized RX6 ∈ TB := tb_m 12 (by decide +kernel) (by decide +kernel)
theorem m_1201 : Cond.instanceMethod yX1_countTheirs ∈ TB := tb_m 1201 (by decide +kernel) (by decide +kernel)
theorem m_1202 : Cond.code yX1_countTheirs cX1_countTheirs 5 (some .int) ∈ TB := tb_m 1202 (by decide +kernel) (by decide +kernel)
theorem m_1203 : Cond.methodLink RX1 76 yJ7_fill_53178 ∈ TB := tb_m 1203 (by decide +kernel) (by decide +kernel)
theorem m_1208 : Cond.methodLink RX11 366 yX1_placeOf ∈ TB := tb_m 1208 (by decide +kernel) (by decide +kernel)
theorem m_1209 : Cond.instanceMethod yX1_placeOf ∈ TB := tb_m 1209 (by decide +kernel) (by decide +kernel)
theorem m_1210 : Cond.selects RX1 yX1_placeOf yX1_placeOf ∈ TB := tb_m 1210 (by decide +kernel) (by decide +kernel)
theorem m_1211 : Cond.code yX1_placeOf cX1_placeOf 4 (some .int) ∈ TB := tb_m 1211 (by decide +kernel) (by decide +kernel)
theorem m_1220 : Cond.methodLink RX11 416 yX11_isSlot ∈ TB := tb_m 1220 (by decide +kernel) (by decide +kernel)
theorem m_1221 : Cond.static yX11_isSlot ∈ TB := tb_m 1221 (by decide +kernel) (by decide +kernel)
theorem m_1222 : Cond.code yX11_isSlot cX11_isSlot 1 (some .boolean) ∈ TB := tb_m 1222 (by decide +kernel) (by decide +kernel)
theorem m_1223 : Cond.methodLink RX11 423 yX6_isNothing ∈ TB := tb_m 1223 (by decide +kernel) (by decide +kernel)
theorem m_1224 : Cond.instanceMethod yX6_isNothing ∈ TB := tb_m 1224 (by decide +kernel) (by decide +kernel)
theorem m_1225 : Cond.selects RX6 yX6_isNothing yX6_isNothing ∈ TB := tb_m 1225 (by decide +kernel) (by decide +kernel)
theorem m_1226 : Cond.code yX6_isNothing cX6_isNothing 1 (some .boolean) ∈ TB := tb_m 1226 (by decide +kernel) (by decide +kernel)
theorem m_125 : Cond.fieldLink RX0 79 "WordSeats$Chamber" "law" "I" ∈ TB := tb_m 125 (by decide +kernel) (by decide +kernel)
theorem m_1269 : Cond.methodLink RX11 395 yX11_isSeed ∈ TB := tb_m 1269 (by decide +kernel) (by decide +kernel)
theorem m_1270 : Cond.static yX11_isSeed ∈ TB := tb_m 1270 (by decide +kernel) (by decide +kernel)
theorem m_1271 : Cond.code yX11_isSeed cX11_isSeed 1 (some .boolean) ∈ TB := tb_m 1271 (by decide +kernel) (by decide +kernel)
theorem m_1272 : Cond.constant RX11 451 (2000000000) ∈ TB := tb_m 1272 (by decide +kernel) (by decide +kernel)
theorem m_1273 : Cond.methodLink RX11 398 yX2_takerDrawn ∈ TB := tb_m 1273 (by decide +kernel) (by decide +kernel)
theorem m_1274 : Cond.instanceMethod yX2_takerDrawn ∈ TB := tb_m 1274 (by decide +kernel) (by decide +kernel)
theorem m_1275 : Cond.selects RX2 yX2_takerDrawn yX2_takerDrawn ∈ TB := tb_m 1275 (by decide +kernel) (by decide +kernel)
theorem m_1276 : Cond.code yX2_takerDrawn cX2_takerDrawn 3 (some .int) ∈ TB := tb_m 1276 (by decide +kernel) (by decide +kernel)
theorem m_1277 : Cond.methodLink RX2 149 yX2_comers ∈ TB := tb_m 1277 (by decide +kernel) (by decide +kernel)
theorem m_1279 : Cond.instanceMethod yX2_comers ∈ TB := tb_m 1279 (by decide +kernel) (by decide +kernel)
theorem m_1280 : Cond.code yX2_comers cX2_comers 6 (some .int) ∈ TB := tb_m 1280 (by decide +kernel) (by decide +kernel)
theorem m_1281 : Cond.constantLong RX2 152 (1103515245) ∈ TB := tb_m 1281 (by decide +kernel) (by decide +kernel)
theorem m_1282 : Cond.constantLong RX2 154 (12345) ∈ TB := tb_m 1282 (by decide +kernel) (by decide +kernel)
theorem m_1283 : Cond.constantLong RX2 156 (2147483648) ∈ TB := tb_m 1283 (by decide +kernel) (by decide +kernel)
theorem m_1284 : Cond.constantLong RX2 158 (65536) ∈ TB := tb_m 1284 (by decide +kernel) (by decide +kernel)
theorem m_1285 : Cond.constantLong RX2 160 (100) ∈ TB := tb_m 1285 (by decide +kernel) (by decide +kernel)
theorem m_129 : Cond.fieldLink RX0 82 "WordSeats$Chamber" "bar" "I" ∈ TB := tb_m 129 (by decide +kernel) (by decide +kernel)
theorem m_1294 : Cond.methodLink RX11 410 yX11_filledSlots ∈ TB := tb_m 1294 (by decide +kernel) (by decide +kernel)
theorem m_1296 : Cond.instanceMethod yX11_filledSlots ∈ TB := tb_m 1296 (by decide +kernel) (by decide +kernel)
theorem m_1297 : Cond.code yX11_filledSlots cX11_filledSlots 3 (some .int) ∈ TB := tb_m 1297 (by decide +kernel) (by decide +kernel)
theorem m_1310 : Cond.methodLink RX11 419 yX6_lay ∈ TB := tb_m 1310 (by decide +kernel) (by decide +kernel)
theorem m_1311 : Cond.instanceMethod yX6_lay ∈ TB := tb_m 1311 (by decide +kernel) (by decide +kernel)
theorem m_1312 : Cond.selects RX6 yX6_lay yX6_lay ∈ TB := tb_m 1312 (by decide +kernel) (by decide +kernel)
theorem m_1313 : Cond.code yX6_lay cX6_lay 3 none ∈ TB := tb_m 1313 (by decide +kernel) (by decide +kernel)
theorem m_1314 : Cond.methodLink RX6 22 yJ7_fill_d0a16 ∈ TB := tb_m 1314 (by decide +kernel) (by decide +kernel)
theorem m_1315 : Cond.static yJ7_fill_d0a16 ∈ TB := tb_m 1315 (by decide +kernel) (by decide +kernel)
theorem m_1316 : Cond.code yJ7_fill_d0a16 cJ7_fill_d0a16 5 none ∈ TB := tb_m 1316 (by decide +kernel) (by decide +kernel)
theorem m_132 : Cond.fieldLink RX0 85 "WordSeats$Chamber" "dies" "I" ∈ TB := tb_m 132 (by decide +kernel) (by decide +kernel)
theorem m_1321 : Cond.methodLink RX11 427 yX6_set ∈ TB := tb_m 1321 (by decide +kernel) (by decide +kernel)
theorem m_1322 : Cond.instanceMethod yX6_set ∈ TB := tb_m 1322 (by decide +kernel) (by decide +kernel)
theorem m_1323 : Cond.selects RX6 yX6_set yX6_set ∈ TB := tb_m 1323 (by decide +kernel) (by decide +kernel)
theorem m_1324 : Cond.code yX6_set cX6_set 4 none ∈ TB := tb_m 1324 (by decide +kernel) (by decide +kernel)
theorem m_1325 : Cond.methodLink RX6 28 yX6_cut ∈ TB := tb_m 1325 (by decide +kernel) (by decide +kernel)
theorem m_1327 : Cond.instanceMethod yX6_cut ∈ TB := tb_m 1327 (by decide +kernel) (by decide +kernel)
theorem m_1328 : Cond.code yX6_cut cX6_cut 3 (some .long) ∈ TB := tb_m 1328 (by decide +kernel) (by decide +kernel)
theorem m_1333 : Cond.methodLink RX11 434 yX6_reaches ∈ TB := tb_m 1333 (by decide +kernel) (by decide +kernel)
theorem m_1334 : Cond.instanceMethod yX6_reaches ∈ TB := tb_m 1334 (by decide +kernel) (by decide +kernel)
theorem m_1335 : Cond.selects RX6 yX6_reaches yX6_reaches ∈ TB := tb_m 1335 (by decide +kernel) (by decide +kernel)
theorem m_1336 : Cond.code yX6_reaches cX6_reaches 3 (some .boolean) ∈ TB := tb_m 1336 (by decide +kernel) (by decide +kernel)
theorem m_1337 : Cond.methodLink RX11 441 arraycopyName ∈ TB := tb_m 1337 (by decide +kernel) (by decide +kernel)
theorem m_14 : Cond.initialized RJ7 ∈ TB := tb_m 14 (by decide +kernel) (by decide +kernel)
theorem m_153 : Cond.fieldLink RX0 9 "WordSeats$Chamber" "seats" "[I" ∈ TB := tb_m 153 (by decide +kernel) (by decide +kernel)
theorem m_156 : Cond.fieldLink RX0 15 "WordSeats$Chamber" "letters" "[I" ∈ TB := tb_m 156 (by decide +kernel) (by decide +kernel)
theorem m_164 : Cond.fieldLink RX0 21 "WordSeats$Chamber" "party" "[I" ∈ TB := tb_m 164 (by decide +kernel) (by decide +kernel)
theorem m_179 : Cond.fieldLink RX0 33 "WordSeats$Chamber" "comes" "[I" ∈ TB := tb_m 179 (by decide +kernel) (by decide +kernel)
theorem m_185 : Cond.fieldLink RX0 42 "WordSeats$Chamber" "rounds" "LWordSeats$Rounds;" ∈ TB := tb_m 185 (by decide +kernel) (by decide +kernel)
theorem m_2 : Cond.initialized RX8 ∈ TB := tb_m 2 (by decide +kernel) (by decide +kernel)
theorem m_20 : Cond.initialized RJ10 ∈ TB := tb_m 20 (by decide +kernel) (by decide +kernel)
theorem m_275 : Cond.fieldLink RX2 21 "WordSeats$Election" "chamber" "LWordSeats$Chamber;" ∈ TB := tb_m 275 (by decide +kernel) (by decide +kernel)
theorem m_276 : Cond.fieldLink RX2 31 "WordSeats$Election" "standing" "I" ∈ TB := tb_m 276 (by decide +kernel) (by decide +kernel)
theorem m_279 : Cond.fieldLink RX2 48 "WordSeats$Election" "voters" "I" ∈ TB := tb_m 279 (by decide +kernel) (by decide +kernel)
theorem m_280 : Cond.fieldLink RX2 54 "WordSeats$Election" "roll" "I" ∈ TB := tb_m 280 (by decide +kernel) (by decide +kernel)
theorem m_282 : Cond.fieldLink RX2 11 "WordSeats$Election" "zeal" "[I" ∈ TB := tb_m 282 (by decide +kernel) (by decide +kernel)
theorem m_283 : Cond.fieldLink RX2 15 "WordSeats$Election" "tally" "[I" ∈ TB := tb_m 283 (by decide +kernel) (by decide +kernel)
theorem m_286 : Cond.fieldLink RX2 100 "WordSeats$Election" "given" "I" ∈ TB := tb_m 286 (by decide +kernel) (by decide +kernel)
theorem m_288 : Cond.fieldLink RX2 18 "WordSeats$Election" "fallen" "[I" ∈ TB := tb_m 288 (by decide +kernel) (by decide +kernel)
theorem m_289 : Cond.fieldLink RX2 71 "WordSeats$Election" "strikes" "I" ∈ TB := tb_m 289 (by decide +kernel) (by decide +kernel)
theorem m_290 : Cond.fieldLink RX2 86 "WordSeats$Election" "winner" "I" ∈ TB := tb_m 290 (by decide +kernel) (by decide +kernel)
theorem m_292 : Cond.fieldLink RX2 92 "WordSeats$Election" "won" "I" ∈ TB := tb_m 292 (by decide +kernel) (by decide +kernel)
theorem m_294 : Cond.fieldLink RX2 184 "WordSeats$Election" "trick" "I" ∈ TB := tb_m 294 (by decide +kernel) (by decide +kernel)
theorem m_296 : Cond.fieldLink RX2 187 "WordSeats$Election" "profit" "I" ∈ TB := tb_m 296 (by decide +kernel) (by decide +kernel)
theorem m_331 : Cond.fieldLink RX10 18 "WordSeats$Tongue" "chamber" "LWordSeats$Chamber;" ∈ TB := tb_m 331 (by decide +kernel) (by decide +kernel)
theorem m_332 : Cond.fieldLink RX10 9 "WordSeats$Tongue" "plain" "[I" ∈ TB := tb_m 332 (by decide +kernel) (by decide +kernel)
theorem m_334 : Cond.fieldLink RX10 15 "WordSeats$Tongue" "brief" "[I" ∈ TB := tb_m 334 (by decide +kernel) (by decide +kernel)
theorem m_349 : Cond.fieldLink RX3 18 "WordSeats$Parties" "chamber" "LWordSeats$Chamber;" ∈ TB := tb_m 349 (by decide +kernel) (by decide +kernel)
theorem m_350 : Cond.fieldLink RX3 9 "WordSeats$Parties" "firstVotes" "[I" ∈ TB := tb_m 350 (by decide +kernel) (by decide +kernel)
theorem m_351 : Cond.fieldLink RX3 15 "WordSeats$Parties" "allotted" "[I" ∈ TB := tb_m 351 (by decide +kernel) (by decide +kernel)
theorem m_36 : Cond.fieldLink RX8 9 "WordSeats$Tape" "bytes" "[B" ∈ TB := tb_m 36 (by decide +kernel) (by decide +kernel)
theorem m_366 : Cond.fieldLink RX1 19 "WordSeats$Districting" "chamber" "LWordSeats$Chamber;" ∈ TB := tb_m 366 (by decide +kernel) (by decide +kernel)
theorem m_367 : Cond.fieldLink RX1 23 "WordSeats$Districting" "election" "LWordSeats$Election;" ∈ TB := tb_m 367 (by decide +kernel) (by decide +kernel)
theorem m_368 : Cond.fieldLink RX1 11 "WordSeats$Districting" "theirs" "[Z" ∈ TB := tb_m 368 (by decide +kernel) (by decide +kernel)
theorem m_369 : Cond.fieldLink RX1 15 "WordSeats$Districting" "people" "[I" ∈ TB := tb_m 369 (by decide +kernel) (by decide +kernel)
theorem m_37 : Cond.fieldLink RX8 15 "WordSeats$Tape" "length" "I" ∈ TB := tb_m 37 (by decide +kernel) (by decide +kernel)
theorem m_370 : Cond.fieldLink RX1 36 "WordSeats$Districting" "most" "I" ∈ TB := tb_m 370 (by decide +kernel) (by decide +kernel)
theorem m_372 : Cond.fieldLink RX1 39 "WordSeats$Districting" "firstRow" "I" ∈ TB := tb_m 372 (by decide +kernel) (by decide +kernel)
theorem m_4 : Cond.initialized RX5 ∈ TB := tb_m 4 (by decide +kernel) (by decide +kernel)
theorem m_417 : Cond.fieldLink RX6 9 "WordSeats$Row" "numbers" "[J" ∈ TB := tb_m 417 (by decide +kernel) (by decide +kernel)
theorem m_420 : Cond.fieldLink RX6 15 "WordSeats$Row" "width" "I" ∈ TB := tb_m 420 (by decide +kernel) (by decide +kernel)
theorem m_423 : Cond.fieldLink RX6 19 "WordSeats$Row" "length" "I" ∈ TB := tb_m 423 (by decide +kernel) (by decide +kernel)
theorem m_433 : Cond.fieldLink RX11 10 "WordSeats" "tape" "LWordSeats$Tape;" ∈ TB := tb_m 433 (by decide +kernel) (by decide +kernel)
theorem m_435 : Cond.fieldLink RX11 28 "WordSeats" "reader" "LWordSeats$Reader;" ∈ TB := tb_m 435 (by decide +kernel) (by decide +kernel)
theorem m_436 : Cond.fieldLink RX11 32 "WordSeats" "now" "LWordSeats$Chamber;" ∈ TB := tb_m 436 (by decide +kernel) (by decide +kernel)
theorem m_437 : Cond.fieldLink RX11 35 "WordSeats" "images" "[LWordSeats$Chamber;" ∈ TB := tb_m 437 (by decide +kernel) (by decide +kernel)
theorem m_438 : Cond.fieldLink RX11 413 "WordSeats" "imaged" "I" ∈ TB := tb_m 438 (by decide +kernel) (by decide +kernel)
theorem m_439 : Cond.fieldLink RX11 41 "WordSeats" "slots" "[LWordSeats$Row;" ∈ TB := tb_m 439 (by decide +kernel) (by decide +kernel)
theorem m_440 : Cond.fieldLink RX11 50 "WordSeats" "election" "LWordSeats$Election;" ∈ TB := tb_m 440 (by decide +kernel) (by decide +kernel)
theorem m_441 : Cond.fieldLink RX11 57 "WordSeats" "tongue" "LWordSeats$Tongue;" ∈ TB := tb_m 441 (by decide +kernel) (by decide +kernel)
theorem m_442 : Cond.fieldLink RX11 64 "WordSeats" "parties" "LWordSeats$Parties;" ∈ TB := tb_m 442 (by decide +kernel) (by decide +kernel)
theorem m_443 : Cond.fieldLink RX11 73 "WordSeats" "districting" "LWordSeats$Districting;" ∈ TB := tb_m 443 (by decide +kernel) (by decide +kernel)
theorem m_474 : Cond.methodLink RX11 87 yX8_hasRoom ∈ TB := tb_m 474 (by decide +kernel) (by decide +kernel)
theorem m_475 : Cond.instanceMethod yX8_hasRoom ∈ TB := tb_m 475 (by decide +kernel) (by decide +kernel)
theorem m_476 : Cond.selects RX8 yX8_hasRoom yX8_hasRoom ∈ TB := tb_m 476 (by decide +kernel) (by decide +kernel)
theorem m_477 : Cond.code yX8_hasRoom cX8_hasRoom 1 (some .boolean) ∈ TB := tb_m 477 (by decide +kernel) (by decide +kernel)
theorem m_478 : Cond.methodLink RX11 91 yX8_add ∈ TB := tb_m 478 (by decide +kernel) (by decide +kernel)
theorem m_479 : Cond.instanceMethod yX8_add ∈ TB := tb_m 479 (by decide +kernel) (by decide +kernel)
theorem m_480 : Cond.selects RX8 yX8_add yX8_add ∈ TB := tb_m 480 (by decide +kernel) (by decide +kernel)
theorem m_481 : Cond.code yX8_add cX8_add 3 none ∈ TB := tb_m 481 (by decide +kernel) (by decide +kernel)
theorem m_498 : Cond.methodLink RX0 57 yX0_open ∈ TB := tb_m 498 (by decide +kernel) (by decide +kernel)
theorem m_499 : Cond.instanceMethod yX0_open ∈ TB := tb_m 499 (by decide +kernel) (by decide +kernel)
theorem m_5 : Cond.initialized RX9 ∈ TB := tb_m 5 (by decide +kernel) (by decide +kernel)
theorem m_500 : Cond.selects RX0 yX0_open yX0_open ∈ TB := tb_m 500 (by decide +kernel) (by decide +kernel)
theorem m_501 : Cond.code yX0_open cX0_open 5 none ∈ TB := tb_m 501 (by decide +kernel) (by decide +kernel)
theorem m_502 : Cond.methodLink RX0 73 yX9_clear ∈ TB := tb_m 502 (by decide +kernel) (by decide +kernel)
theorem m_503 : Cond.instanceMethod yX9_clear ∈ TB := tb_m 503 (by decide +kernel) (by decide +kernel)
theorem m_504 : Cond.selects RX9 yX9_clear yX9_clear ∈ TB := tb_m 504 (by decide +kernel) (by decide +kernel)
theorem m_505 : Cond.code yX9_clear cX9_clear 1 none ∈ TB := tb_m 505 (by decide +kernel) (by decide +kernel)
theorem m_506 : Cond.methodLink RX9 34 yJ7_fill_53178 ∈ TB := tb_m 506 (by decide +kernel) (by decide +kernel)
theorem m_507 : Cond.static yJ7_fill_53178 ∈ TB := tb_m 507 (by decide +kernel) (by decide +kernel)
theorem m_508 : Cond.code yJ7_fill_53178 cJ7_fill_53178 4 none ∈ TB := tb_m 508 (by decide +kernel) (by decide +kernel)
theorem m_58 : Cond.fieldLink RX5 21 "WordSeats$Rounds" "known" "I" ∈ TB := tb_m 58 (by decide +kernel) (by decide +kernel)
theorem m_63 : Cond.fieldLink RX5 9 "WordSeats$Rounds" "goal" "[I" ∈ TB := tb_m 63 (by decide +kernel) (by decide +kernel)
theorem m_65 : Cond.fieldLink RX5 15 "WordSeats$Rounds" "left" "[I" ∈ TB := tb_m 65 (by decide +kernel) (by decide +kernel)
theorem m_67 : Cond.fieldLink RX5 18 "WordSeats$Rounds" "right" "[I" ∈ TB := tb_m 67 (by decide +kernel) (by decide +kernel)
theorem m_677 : Cond.methodLink RX11 105 yX0_copyFrom ∈ TB := tb_m 677 (by decide +kernel) (by decide +kernel)
theorem m_678 : Cond.instanceMethod yX0_copyFrom ∈ TB := tb_m 678 (by decide +kernel) (by decide +kernel)
theorem m_679 : Cond.selects RX0 yX0_copyFrom yX0_copyFrom ∈ TB := tb_m 679 (by decide +kernel) (by decide +kernel)
theorem m_680 : Cond.code yX0_copyFrom cX0_copyFrom 2 none ∈ TB := tb_m 680 (by decide +kernel) (by decide +kernel)
theorem m_681 : Cond.methodLink RX0 88 arraycopyName ∈ TB := tb_m 681 (by decide +kernel) (by decide +kernel)
theorem m_682 : Cond.static arraycopyName ∈ TB := tb_m 682 (by decide +kernel) (by decide +kernel)
theorem m_683 : Cond.native arraycopyName ∈ TB := tb_m 683 (by decide +kernel) (by decide +kernel)
theorem m_684 : Cond.methodLink RX0 94 yX5_copyFrom ∈ TB := tb_m 684 (by decide +kernel) (by decide +kernel)
theorem m_685 : Cond.instanceMethod yX5_copyFrom ∈ TB := tb_m 685 (by decide +kernel) (by decide +kernel)
theorem m_686 : Cond.selects RX5 yX5_copyFrom yX5_copyFrom ∈ TB := tb_m 686 (by decide +kernel) (by decide +kernel)
theorem m_687 : Cond.code yX5_copyFrom cX5_copyFrom 2 none ∈ TB := tb_m 687 (by decide +kernel) (by decide +kernel)
theorem m_688 : Cond.methodLink RX5 25 arraycopyName ∈ TB := tb_m 688 (by decide +kernel) (by decide +kernel)
theorem m_689 : Cond.methodLink RX0 98 yX9_copyFrom ∈ TB := tb_m 689 (by decide +kernel) (by decide +kernel)
theorem m_690 : Cond.instanceMethod yX9_copyFrom ∈ TB := tb_m 690 (by decide +kernel) (by decide +kernel)
theorem m_691 : Cond.selects RX9 yX9_copyFrom yX9_copyFrom ∈ TB := tb_m 691 (by decide +kernel) (by decide +kernel)
theorem m_692 : Cond.code yX9_copyFrom cX9_copyFrom 2 none ∈ TB := tb_m 692 (by decide +kernel) (by decide +kernel)
theorem m_693 : Cond.methodLink RX9 40 arraycopyName ∈ TB := tb_m 693 (by decide +kernel) (by decide +kernel)
theorem m_7 : Cond.initialized RX2 ∈ TB := tb_m 7 (by decide +kernel) (by decide +kernel)
theorem m_702 : Cond.methodLink RX11 114 yX0_hasWord ∈ TB := tb_m 702 (by decide +kernel) (by decide +kernel)
theorem m_706 : Cond.methodLink RX11 143 yX11_holds ∈ TB := tb_m 706 (by decide +kernel) (by decide +kernel)
theorem m_713 : Cond.methodLink RX11 147 yX0_hasSpeaker ∈ TB := tb_m 713 (by decide +kernel) (by decide +kernel)
theorem m_721 : Cond.methodLink RX11 161 yX0_hasDistrict ∈ TB := tb_m 721 (by decide +kernel) (by decide +kernel)
theorem m_722 : Cond.instanceMethod yX0_hasDistrict ∈ TB := tb_m 722 (by decide +kernel) (by decide +kernel)
theorem m_723 : Cond.selects RX0 yX0_hasDistrict yX0_hasDistrict ∈ TB := tb_m 723 (by decide +kernel) (by decide +kernel)
theorem m_724 : Cond.code yX0_hasDistrict cX0_hasDistrict 2 (some .boolean) ∈ TB := tb_m 724 (by decide +kernel) (by decide +kernel)
theorem m_725 : Cond.methodLink RX11 167 yX0_standingIn ∈ TB := tb_m 725 (by decide +kernel) (by decide +kernel)
theorem m_726 : Cond.instanceMethod yX0_standingIn ∈ TB := tb_m 726 (by decide +kernel) (by decide +kernel)
theorem m_727 : Cond.selects RX0 yX0_standingIn yX0_standingIn ∈ TB := tb_m 727 (by decide +kernel) (by decide +kernel)
theorem m_728 : Cond.code yX0_standingIn cX0_standingIn 2 (some .int) ∈ TB := tb_m 728 (by decide +kernel) (by decide +kernel)
theorem m_733 : Cond.methodLink RX11 171 yX0_speakersIn ∈ TB := tb_m 733 (by decide +kernel) (by decide +kernel)
theorem m_734 : Cond.instanceMethod yX0_speakersIn ∈ TB := tb_m 734 (by decide +kernel) (by decide +kernel)
theorem m_735 : Cond.selects RX0 yX0_speakersIn yX0_speakersIn ∈ TB := tb_m 735 (by decide +kernel) (by decide +kernel)
theorem m_736 : Cond.code yX0_speakersIn cX0_speakersIn 4 (some .int) ∈ TB := tb_m 736 (by decide +kernel) (by decide +kernel)
theorem m_737 : Cond.methodLink RX11 174 yX0_weightOf ∈ TB := tb_m 737 (by decide +kernel) (by decide +kernel)
theorem m_738 : Cond.instanceMethod yX0_weightOf ∈ TB := tb_m 738 (by decide +kernel) (by decide +kernel)
theorem m_739 : Cond.selects RX0 yX0_weightOf yX0_weightOf ∈ TB := tb_m 739 (by decide +kernel) (by decide +kernel)
theorem m_740 : Cond.code yX0_weightOf cX0_weightOf 4 (some .int) ∈ TB := tb_m 740 (by decide +kernel) (by decide +kernel)
theorem m_746 : Cond.methodLink RX11 177 yX0_liking ∈ TB := tb_m 746 (by decide +kernel) (by decide +kernel)
theorem m_747 : Cond.instanceMethod yX0_liking ∈ TB := tb_m 747 (by decide +kernel) (by decide +kernel)
theorem m_748 : Cond.selects RX0 yX0_liking yX0_liking ∈ TB := tb_m 748 (by decide +kernel) (by decide +kernel)
theorem m_749 : Cond.code yX0_liking cX0_liking 3 (some .int) ∈ TB := tb_m 749 (by decide +kernel) (by decide +kernel)
theorem m_762 : Cond.methodLink RX11 181 yX2_open ∈ TB := tb_m 762 (by decide +kernel) (by decide +kernel)
theorem m_763 : Cond.instanceMethod yX2_open ∈ TB := tb_m 763 (by decide +kernel) (by decide +kernel)
theorem m_764 : Cond.selects RX2 yX2_open yX2_open ∈ TB := tb_m 764 (by decide +kernel) (by decide +kernel)
theorem m_765 : Cond.code yX2_open cX2_open 3 none ∈ TB := tb_m 765 (by decide +kernel) (by decide +kernel)
theorem m_766 : Cond.methodLink RX2 25 yX0_standingIn ∈ TB := tb_m 766 (by decide +kernel) (by decide +kernel)
theorem m_767 : Cond.methodLink RX2 38 yX2_fillZeal ∈ TB := tb_m 767 (by decide +kernel) (by decide +kernel)
theorem m_769 : Cond.instanceMethod yX2_fillZeal ∈ TB := tb_m 769 (by decide +kernel) (by decide +kernel)
theorem m_770 : Cond.code yX2_fillZeal cX2_fillZeal 5 none ∈ TB := tb_m 770 (by decide +kernel) (by decide +kernel)
theorem m_772 : Cond.methodLink RX2 64 yX0_liking ∈ TB := tb_m 772 (by decide +kernel) (by decide +kernel)
theorem m_773 : Cond.methodLink RX2 42 yX0_speakersIn ∈ TB := tb_m 773 (by decide +kernel) (by decide +kernel)
theorem m_774 : Cond.methodLink RX2 45 yX2_enrol ∈ TB := tb_m 774 (by decide +kernel) (by decide +kernel)
theorem m_775 : Cond.instanceMethod yX2_enrol ∈ TB := tb_m 775 (by decide +kernel) (by decide +kernel)
theorem m_776 : Cond.selects RX2 yX2_enrol yX2_enrol ∈ TB := tb_m 776 (by decide +kernel) (by decide +kernel)
theorem m_777 : Cond.code yX2_enrol cX2_enrol 2 none ∈ TB := tb_m 777 (by decide +kernel) (by decide +kernel)
theorem m_778 : Cond.methodLink RX2 51 yX0_weightOf ∈ TB := tb_m 778 (by decide +kernel) (by decide +kernel)
theorem m_779 : Cond.methodLink RX11 184 yX2_inOrder ∈ TB := tb_m 779 (by decide +kernel) (by decide +kernel)
theorem m_780 : Cond.instanceMethod yX2_inOrder ∈ TB := tb_m 780 (by decide +kernel) (by decide +kernel)
theorem m_781 : Cond.selects RX2 yX2_inOrder yX2_inOrder ∈ TB := tb_m 781 (by decide +kernel) (by decide +kernel)
theorem m_782 : Cond.code yX2_inOrder cX2_inOrder 6 (some .int) ∈ TB := tb_m 782 (by decide +kernel) (by decide +kernel)
theorem m_783 : Cond.methodLink RX2 112 yX2_favourite ∈ TB := tb_m 783 (by decide +kernel) (by decide +kernel)
theorem m_785 : Cond.instanceMethod yX2_favourite ∈ TB := tb_m 785 (by decide +kernel) (by decide +kernel)
theorem m_786 : Cond.code yX2_favourite cX2_favourite 6 (some .int) ∈ TB := tb_m 786 (by decide +kernel) (by decide +kernel)
theorem m_787 : Cond.methodLink RX2 118 yX2_zealOf ∈ TB := tb_m 787 (by decide +kernel) (by decide +kernel)
theorem m_789 : Cond.instanceMethod yX2_zealOf ∈ TB := tb_m 789 (by decide +kernel) (by decide +kernel)
theorem m_790 : Cond.code yX2_zealOf cX2_zealOf 3 (some .int) ∈ TB := tb_m 790 (by decide +kernel) (by decide +kernel)
theorem m_795 : Cond.methodLink RX11 190 yX2_tallyFirst ∈ TB := tb_m 795 (by decide +kernel) (by decide +kernel)
theorem m_796 : Cond.instanceMethod yX2_tallyFirst ∈ TB := tb_m 796 (by decide +kernel) (by decide +kernel)
theorem m_797 : Cond.selects RX2 yX2_tallyFirst yX2_tallyFirst ∈ TB := tb_m 797 (by decide +kernel) (by decide +kernel)
theorem m_798 : Cond.code yX2_tallyFirst cX2_tallyFirst 4 none ∈ TB := tb_m 798 (by decide +kernel) (by decide +kernel)
theorem m_799 : Cond.methodLink RX2 106 yJ7_fill_53178 ∈ TB := tb_m 799 (by decide +kernel) (by decide +kernel)
theorem m_8 : Cond.initialized RX10 ∈ TB := tb_m 8 (by decide +kernel) (by decide +kernel)
theorem m_808 : Cond.methodLink RX11 202 yX11_isLaw ∈ TB := tb_m 808 (by decide +kernel) (by decide +kernel)
theorem m_809 : Cond.static yX11_isLaw ∈ TB := tb_m 809 (by decide +kernel) (by decide +kernel)
theorem m_810 : Cond.code yX11_isLaw cX11_isLaw 1 (some .boolean) ∈ TB := tb_m 810 (by decide +kernel) (by decide +kernel)
theorem m_811 : Cond.methodLink RX11 205 yX2_hold ∈ TB := tb_m 811 (by decide +kernel) (by decide +kernel)
theorem m_812 : Cond.instanceMethod yX2_hold ∈ TB := tb_m 812 (by decide +kernel) (by decide +kernel)
theorem m_813 : Cond.selects RX2 yX2_hold yX2_hold ∈ TB := tb_m 813 (by decide +kernel) (by decide +kernel)
theorem m_814 : Cond.code yX2_hold cX2_hold 2 none ∈ TB := tb_m 814 (by decide +kernel) (by decide +kernel)
theorem m_815 : Cond.methodLink RX2 74 yX2_runOff ∈ TB := tb_m 815 (by decide +kernel) (by decide +kernel)
theorem m_817 : Cond.instanceMethod yX2_runOff ∈ TB := tb_m 817 (by decide +kernel) (by decide +kernel)
theorem m_818 : Cond.code yX2_runOff cX2_runOff 4 none ∈ TB := tb_m 818 (by decide +kernel) (by decide +kernel)
theorem m_819 : Cond.methodLink RX2 89 yX2_tallyFirst ∈ TB := tb_m 819 (by decide +kernel) (by decide +kernel)
theorem m_820 : Cond.methodLink RX2 83 yX2_leader ∈ TB := tb_m 820 (by decide +kernel) (by decide +kernel)
theorem m_822 : Cond.instanceMethod yX2_leader ∈ TB := tb_m 822 (by decide +kernel) (by decide +kernel)
theorem m_823 : Cond.code yX2_leader cX2_leader 4 (some .int) ∈ TB := tb_m 823 (by decide +kernel) (by decide +kernel)
theorem m_824 : Cond.methodLink RX2 121 yX2_leads ∈ TB := tb_m 824 (by decide +kernel) (by decide +kernel)
theorem m_826 : Cond.instanceMethod yX2_leads ∈ TB := tb_m 826 (by decide +kernel) (by decide +kernel)
theorem m_827 : Cond.code yX2_leads cX2_leads 3 (some .boolean) ∈ TB := tb_m 827 (by decide +kernel) (by decide +kernel)
theorem m_828 : Cond.methodLink RX2 77 yX2_strikeOut ∈ TB := tb_m 828 (by decide +kernel) (by decide +kernel)
theorem m_830 : Cond.instanceMethod yX2_strikeOut ∈ TB := tb_m 830 (by decide +kernel) (by decide +kernel)
theorem m_831 : Cond.code yX2_strikeOut cX2_strikeOut 4 none ∈ TB := tb_m 831 (by decide +kernel) (by decide +kernel)
theorem m_832 : Cond.methodLink RX2 95 yJ6_bitCount_0f7a4 ∈ TB := tb_m 832 (by decide +kernel) (by decide +kernel)
theorem m_833 : Cond.methodLink RX2 103 yX2_trailer ∈ TB := tb_m 833 (by decide +kernel) (by decide +kernel)
theorem m_835 : Cond.instanceMethod yX2_trailer ∈ TB := tb_m 835 (by decide +kernel) (by decide +kernel)
theorem m_836 : Cond.code yX2_trailer cX2_trailer 4 (some .int) ∈ TB := tb_m 836 (by decide +kernel) (by decide +kernel)
theorem m_837 : Cond.methodLink RX2 80 yX2_tallyLiked ∈ TB := tb_m 837 (by decide +kernel) (by decide +kernel)
theorem m_839 : Cond.instanceMethod yX2_tallyLiked ∈ TB := tb_m 839 (by decide +kernel) (by decide +kernel)
theorem m_840 : Cond.code yX2_tallyLiked cX2_tallyLiked 3 none ∈ TB := tb_m 840 (by decide +kernel) (by decide +kernel)
theorem m_845 : Cond.methodLink RX11 211 yX2_takerIn ∈ TB := tb_m 845 (by decide +kernel) (by decide +kernel)
theorem m_846 : Cond.instanceMethod yX2_takerIn ∈ TB := tb_m 846 (by decide +kernel) (by decide +kernel)
theorem m_847 : Cond.selects RX2 yX2_takerIn yX2_takerIn ∈ TB := tb_m 847 (by decide +kernel) (by decide +kernel)
theorem m_848 : Cond.code yX2_takerIn cX2_takerIn 3 (some .int) ∈ TB := tb_m 848 (by decide +kernel) (by decide +kernel)
theorem m_849 : Cond.methodLink RX2 127 yX2_open ∈ TB := tb_m 849 (by decide +kernel) (by decide +kernel)
theorem m_85 : Cond.fieldLink RX9 24 "WordSeats$Terms" "held" "I" ∈ TB := tb_m 85 (by decide +kernel) (by decide +kernel)
theorem m_850 : Cond.methodLink RX2 130 yX2_hold ∈ TB := tb_m 850 (by decide +kernel) (by decide +kernel)
theorem m_851 : Cond.methodLink RX2 133 yX2_taker ∈ TB := tb_m 851 (by decide +kernel) (by decide +kernel)
theorem m_852 : Cond.instanceMethod yX2_taker ∈ TB := tb_m 852 (by decide +kernel) (by decide +kernel)
theorem m_853 : Cond.selects RX2 yX2_taker yX2_taker ∈ TB := tb_m 853 (by decide +kernel) (by decide +kernel)
theorem m_854 : Cond.code yX2_taker cX2_taker 1 (some .int) ∈ TB := tb_m 854 (by decide +kernel) (by decide +kernel)
theorem m_863 : Cond.methodLink RX11 217 yX2_fallenAt ∈ TB := tb_m 863 (by decide +kernel) (by decide +kernel)
theorem m_864 : Cond.instanceMethod yX2_fallenAt ∈ TB := tb_m 864 (by decide +kernel) (by decide +kernel)
theorem m_865 : Cond.selects RX2 yX2_fallenAt yX2_fallenAt ∈ TB := tb_m 865 (by decide +kernel) (by decide +kernel)
theorem m_866 : Cond.code yX2_fallenAt cX2_fallenAt 2 (some .int) ∈ TB := tb_m 866 (by decide +kernel) (by decide +kernel)
theorem m_87 : Cond.fieldLink RX9 28 "WordSeats$Terms" "sitting" "I" ∈ TB := tb_m 87 (by decide +kernel) (by decide +kernel)
theorem m_871 : Cond.methodLink RX11 220 yX2_ahead ∈ TB := tb_m 871 (by decide +kernel) (by decide +kernel)
theorem m_872 : Cond.instanceMethod yX2_ahead ∈ TB := tb_m 872 (by decide +kernel) (by decide +kernel)
theorem m_873 : Cond.selects RX2 yX2_ahead yX2_ahead ∈ TB := tb_m 873 (by decide +kernel) (by decide +kernel)
theorem m_874 : Cond.code yX2_ahead cX2_ahead 5 (some .int) ∈ TB := tb_m 874 (by decide +kernel) (by decide +kernel)
theorem m_879 : Cond.methodLink RX11 223 yX2_beatsAll ∈ TB := tb_m 879 (by decide +kernel) (by decide +kernel)
theorem m_880 : Cond.instanceMethod yX2_beatsAll ∈ TB := tb_m 880 (by decide +kernel) (by decide +kernel)
theorem m_881 : Cond.selects RX2 yX2_beatsAll yX2_beatsAll ∈ TB := tb_m 881 (by decide +kernel) (by decide +kernel)
theorem m_882 : Cond.code yX2_beatsAll cX2_beatsAll 2 (some .int) ∈ TB := tb_m 882 (by decide +kernel) (by decide +kernel)
theorem m_883 : Cond.methodLink RX2 177 yX2_beatsEach ∈ TB := tb_m 883 (by decide +kernel) (by decide +kernel)
theorem m_885 : Cond.instanceMethod yX2_beatsEach ∈ TB := tb_m 885 (by decide +kernel) (by decide +kernel)
theorem m_886 : Cond.code yX2_beatsEach cX2_beatsEach 3 (some .boolean) ∈ TB := tb_m 886 (by decide +kernel) (by decide +kernel)
theorem m_887 : Cond.methodLink RX2 181 yX2_ahead ∈ TB := tb_m 887 (by decide +kernel) (by decide +kernel)
theorem m_892 : Cond.methodLink RX11 227 yX0_isNone ∈ TB := tb_m 892 (by decide +kernel) (by decide +kernel)
theorem m_893 : Cond.instanceMethod yX0_isNone ∈ TB := tb_m 893 (by decide +kernel) (by decide +kernel)
theorem m_894 : Cond.selects RX0 yX0_isNone yX0_isNone ∈ TB := tb_m 894 (by decide +kernel) (by decide +kernel)
theorem m_895 : Cond.code yX0_isNone cX0_isNone 1 (some .boolean) ∈ TB := tb_m 895 (by decide +kernel) (by decide +kernel)
theorem m_9 : Cond.initialized RX3 ∈ TB := tb_m 9 (by decide +kernel) (by decide +kernel)
theorem m_904 : Cond.methodLink RX11 236 yX2_takerWithout ∈ TB := tb_m 904 (by decide +kernel) (by decide +kernel)
theorem m_905 : Cond.instanceMethod yX2_takerWithout ∈ TB := tb_m 905 (by decide +kernel) (by decide +kernel)
theorem m_906 : Cond.selects RX2 yX2_takerWithout yX2_takerWithout ∈ TB := tb_m 906 (by decide +kernel) (by decide +kernel)
theorem m_907 : Cond.code yX2_takerWithout cX2_takerWithout 2 (some .int) ∈ TB := tb_m 907 (by decide +kernel) (by decide +kernel)
theorem m_91 : Cond.fieldLink RX9 31 "WordSeats$Terms" "dead" "I" ∈ TB := tb_m 91 (by decide +kernel) (by decide +kernel)
theorem m_912 : Cond.methodLink RX11 239 yX2_spoiling ∈ TB := tb_m 912 (by decide +kernel) (by decide +kernel)
theorem m_913 : Cond.instanceMethod yX2_spoiling ∈ TB := tb_m 913 (by decide +kernel) (by decide +kernel)
theorem m_914 : Cond.selects RX2 yX2_spoiling yX2_spoiling ∈ TB := tb_m 914 (by decide +kernel) (by decide +kernel)
theorem m_915 : Cond.code yX2_spoiling cX2_spoiling 5 (some .int) ∈ TB := tb_m 915 (by decide +kernel) (by decide +kernel)
theorem m_916 : Cond.methodLink RX2 143 yX2_takerIn ∈ TB := tb_m 916 (by decide +kernel) (by decide +kernel)
theorem m_917 : Cond.methodLink RX2 174 yX2_takerWithout ∈ TB := tb_m 917 (by decide +kernel) (by decide +kernel)
theorem m_922 : Cond.methodLink RX11 242 yX2_takers ∈ TB := tb_m 922 (by decide +kernel) (by decide +kernel)
theorem m_923 : Cond.instanceMethod yX2_takers ∈ TB := tb_m 923 (by decide +kernel) (by decide +kernel)
theorem m_924 : Cond.selects RX2 yX2_takers yX2_takers ∈ TB := tb_m 924 (by decide +kernel) (by decide +kernel)
theorem m_925 : Cond.code yX2_takers cX2_takers 4 (some .int) ∈ TB := tb_m 925 (by decide +kernel) (by decide +kernel)
theorem m_934 : Cond.methodLink RX11 254 yX9_hold ∈ TB := tb_m 934 (by decide +kernel) (by decide +kernel)
theorem m_935 : Cond.instanceMethod yX9_hold ∈ TB := tb_m 935 (by decide +kernel) (by decide +kernel)
theorem m_936 : Cond.selects RX9 yX9_hold yX9_hold ∈ TB := tb_m 936 (by decide +kernel) (by decide +kernel)
theorem m_937 : Cond.code yX9_hold cX9_hold 5 none ∈ TB := tb_m 937 (by decide +kernel) (by decide +kernel)
theorem m_939 : Cond.methodLink RX11 257 yJ6_bitCount_0f7a4 ∈ TB := tb_m 939 (by decide +kernel) (by decide +kernel)
theorem m_944 : Cond.methodLink RX11 262 yX9_takeBack ∈ TB := tb_m 944 (by decide +kernel) (by decide +kernel)
theorem m_945 : Cond.instanceMethod yX9_takeBack ∈ TB := tb_m 945 (by decide +kernel) (by decide +kernel)
theorem m_946 : Cond.selects RX9 yX9_takeBack yX9_takeBack ∈ TB := tb_m 946 (by decide +kernel) (by decide +kernel)
theorem m_947 : Cond.code yX9_takeBack cX9_takeBack 1 none ∈ TB := tb_m 947 (by decide +kernel) (by decide +kernel)
theorem m_956 : Cond.methodLink RX11 268 yX9_firstDeath ∈ TB := tb_m 956 (by decide +kernel) (by decide +kernel)
theorem m_957 : Cond.instanceMethod yX9_firstDeath ∈ TB := tb_m 957 (by decide +kernel) (by decide +kernel)
theorem m_958 : Cond.selects RX9 yX9_firstDeath yX9_firstDeath ∈ TB := tb_m 958 (by decide +kernel) (by decide +kernel)
theorem m_959 : Cond.code yX9_firstDeath cX9_firstDeath 7 (some .int) ∈ TB := tb_m 959 (by decide +kernel) (by decide +kernel)
theorem m_96 : Cond.fieldLink RX9 9 "WordSeats$Terms" "idle" "[I" ∈ TB := tb_m 96 (by decide +kernel) (by decide +kernel)
theorem m_960 : Cond.methodLink RX9 50 Lib.Math.max.name ∈ TB := tb_m 960 (by decide +kernel) (by decide +kernel)
theorem m_961 : Cond.static Lib.Math.max.name ∈ TB := tb_m 961 (by decide +kernel) (by decide +kernel)
theorem m_962 : Cond.code Lib.Math.max.name Lib.Math.max.code 2 (some .int) ∈ TB := tb_m 962 (by decide +kernel) (by decide +kernel)
theorem m_963 : Cond.methodLink RX9 56 Lib.Math.min.name ∈ TB := tb_m 963 (by decide +kernel) (by decide +kernel)
theorem m_968 : Cond.methodLink RX11 272 yX0_hasMeaning ∈ TB := tb_m 968 (by decide +kernel) (by decide +kernel)
theorem m_969 : Cond.instanceMethod yX0_hasMeaning ∈ TB := tb_m 969 (by decide +kernel) (by decide +kernel)
theorem m_970 : Cond.selects RX0 yX0_hasMeaning yX0_hasMeaning ∈ TB := tb_m 970 (by decide +kernel) (by decide +kernel)
theorem m_971 : Cond.code yX0_hasMeaning cX0_hasMeaning 2 (some .boolean) ∈ TB := tb_m 971 (by decide +kernel) (by decide +kernel)
theorem m_972 : Cond.methodLink RX11 275 yX10_learn ∈ TB := tb_m 972 (by decide +kernel) (by decide +kernel)
theorem m_973 : Cond.instanceMethod yX10_learn ∈ TB := tb_m 973 (by decide +kernel) (by decide +kernel)
theorem m_974 : Cond.selects RX10 yX10_learn yX10_learn ∈ TB := tb_m 974 (by decide +kernel) (by decide +kernel)
theorem m_975 : Cond.code yX10_learn cX10_learn 4 none ∈ TB := tb_m 975 (by decide +kernel) (by decide +kernel)
theorem m_976 : Cond.constant RX10 22 (1000000) ∈ TB := tb_m 976 (by decide +kernel) (by decide +kernel)
theorem m_977 : Cond.methodLink RX10 23 yJ7_fill_53178 ∈ TB := tb_m 977 (by decide +kernel) (by decide +kernel)
theorem m_979 : Cond.methodLink RX10 39 yX10_learnWord ∈ TB := tb_m 979 (by decide +kernel) (by decide +kernel)
theorem m_98 : Cond.fieldLink RX9 15 "WordSeats$Terms" "sat" "[I" ∈ TB := tb_m 98 (by decide +kernel) (by decide +kernel)
theorem m_981 : Cond.instanceMethod yX10_learnWord ∈ TB := tb_m 981 (by decide +kernel) (by decide +kernel)
theorem m_982 : Cond.code yX10_learnWord cX10_learnWord 3 none ∈ TB := tb_m 982 (by decide +kernel) (by decide +kernel)
theorem m_983 : Cond.methodLink RX10 62 Lib.Math.min.name ∈ TB := tb_m 983 (by decide +kernel) (by decide +kernel)
theorem m_984 : Cond.methodLink RX10 43 arraycopyName ∈ TB := tb_m 984 (by decide +kernel) (by decide +kernel)
theorem m_985 : Cond.methodLink RX10 49 yX10_shorten ∈ TB := tb_m 985 (by decide +kernel) (by decide +kernel)
theorem m_987 : Cond.instanceMethod yX10_shorten ∈ TB := tb_m 987 (by decide +kernel) (by decide +kernel)
theorem m_988 : Cond.code yX10_shorten cX10_shorten 4 (some .boolean) ∈ TB := tb_m 988 (by decide +kernel) (by decide +kernel)
theorem m_989 : Cond.methodLink RX10 80 yX10_lengthBy ∈ TB := tb_m 989 (by decide +kernel) (by decide +kernel)
theorem m_991 : Cond.instanceMethod yX10_lengthBy ∈ TB := tb_m 991 (by decide +kernel) (by decide +kernel)
theorem m_992 : Cond.code yX10_lengthBy cX10_lengthBy 2 (some .int) ∈ TB := tb_m 992 (by decide +kernel) (by decide +kernel)
theorem m_993 : Cond.methodLink RX11 281 yX10_told ∈ TB := tb_m 993 (by decide +kernel) (by decide +kernel)
theorem m_994 : Cond.instanceMethod yX10_told ∈ TB := tb_m 994 (by decide +kernel) (by decide +kernel)
theorem m_995 : Cond.selects RX10 yX10_told yX10_told ∈ TB := tb_m 995 (by decide +kernel) (by decide +kernel)
theorem m_996 : Cond.code yX10_told cX10_told 2 (some .int) ∈ TB := tb_m 996 (by decide +kernel) (by decide +kernel)
theorem m_s16 : Cond.selects RX2 yX2_fillZeal yX2_fillZeal ∈ TB := tb_s 16 (by decide +kernel) (by decide +kernel)
theorem m_s17 : Cond.selects RX2 yX2_favourite yX2_favourite ∈ TB := tb_s 17 (by decide +kernel) (by decide +kernel)
theorem m_s18 : Cond.selects RX2 yX2_zealOf yX2_zealOf ∈ TB := tb_s 18 (by decide +kernel) (by decide +kernel)
theorem m_s19 : Cond.selects RX2 yX2_runOff yX2_runOff ∈ TB := tb_s 19 (by decide +kernel) (by decide +kernel)
theorem m_s20 : Cond.selects RX2 yX2_leader yX2_leader ∈ TB := tb_s 20 (by decide +kernel) (by decide +kernel)
theorem m_s21 : Cond.selects RX2 yX2_leads yX2_leads ∈ TB := tb_s 21 (by decide +kernel) (by decide +kernel)
theorem m_s22 : Cond.selects RX2 yX2_strikeOut yX2_strikeOut ∈ TB := tb_s 22 (by decide +kernel) (by decide +kernel)
theorem m_s23 : Cond.selects RX2 yX2_trailer yX2_trailer ∈ TB := tb_s 23 (by decide +kernel) (by decide +kernel)
theorem m_s24 : Cond.selects RX2 yX2_tallyLiked yX2_tallyLiked ∈ TB := tb_s 24 (by decide +kernel) (by decide +kernel)
theorem m_s25 : Cond.selects RX2 yX2_beatsEach yX2_beatsEach ∈ TB := tb_s 25 (by decide +kernel) (by decide +kernel)
theorem m_s26 : Cond.selects RX10 yX10_learnWord yX10_learnWord ∈ TB := tb_s 26 (by decide +kernel) (by decide +kernel)
theorem m_s27 : Cond.selects RX10 yX10_shorten yX10_shorten ∈ TB := tb_s 27 (by decide +kernel) (by decide +kernel)
theorem m_s28 : Cond.selects RX10 yX10_lengthBy yX10_lengthBy ∈ TB := tb_s 28 (by decide +kernel) (by decide +kernel)
theorem m_s29 : Cond.selects RX10 yX10_says yX10_says ∈ TB := tb_s 29 (by decide +kernel) (by decide +kernel)
theorem m_s30 : Cond.selects RX2 yX2_takerByFeint yX2_takerByFeint ∈ TB := tb_s 30 (by decide +kernel) (by decide +kernel)
theorem m_s31 : Cond.selects RX1 yX1_tryPeople yX1_tryPeople ∈ TB := tb_s 31 (by decide +kernel) (by decide +kernel)
theorem m_s32 : Cond.selects RX1 yX1_countTheirs yX1_countTheirs ∈ TB := tb_s 32 (by decide +kernel) (by decide +kernel)
theorem m_s34 : Cond.selects RX2 yX2_comers yX2_comers ∈ TB := tb_s 34 (by decide +kernel) (by decide +kernel)
theorem m_s35 : Cond.selects RX11 yX11_filledSlots yX11_filledSlots ∈ TB := tb_s 35 (by decide +kernel) (by decide +kernel)
theorem m_s36 : Cond.selects RX6 yX6_cut yX6_cut ∈ TB := tb_s 36 (by decide +kernel) (by decide +kernel)
theorem n_1122 : Cond.methodLinkNest RX3 37 yX11_holds "WordSeats" ∈ NB := nb_m 1122 (by decide +kernel) rfl
theorem n_119 : Cond.fieldLinkNest RX11 108 "WordSeats$Chamber" "lines" "I" "WordSeats" ∈ NB := nb_m 119 (by decide +kernel) rfl
theorem n_122 : Cond.fieldLinkNest RX10 53 "WordSeats$Chamber" "meanings" "I" "WordSeats" ∈ NB := nb_m 122 (by decide +kernel) rfl
theorem n_124 : Cond.fieldLinkNest RX11 305 "WordSeats$Chamber" "meanings" "I" "WordSeats" ∈ NB := nb_m 124 (by decide +kernel) rfl
theorem n_126 : Cond.fieldLinkNest RX1 63 "WordSeats$Chamber" "law" "I" "WordSeats" ∈ NB := nb_m 126 (by decide +kernel) rfl
theorem n_127 : Cond.fieldLinkNest RX2 140 "WordSeats$Chamber" "law" "I" "WordSeats" ∈ NB := nb_m 127 (by decide +kernel) rfl
theorem n_128 : Cond.fieldLinkNest RX11 389 "WordSeats$Chamber" "law" "I" "WordSeats" ∈ NB := nb_m 128 (by decide +kernel) rfl
theorem n_130 : Cond.fieldLinkNest RX2 124 "WordSeats$Chamber" "bar" "I" "WordSeats" ∈ NB := nb_m 130 (by decide +kernel) rfl
theorem n_131 : Cond.fieldLinkNest RX11 392 "WordSeats$Chamber" "bar" "I" "WordSeats" ∈ NB := nb_m 131 (by decide +kernel) rfl
theorem n_133 : Cond.fieldLinkNest RX11 251 "WordSeats$Chamber" "dies" "I" "WordSeats" ∈ NB := nb_m 133 (by decide +kernel) rfl
theorem n_134 : Cond.fieldLinkNest RX1 27 "WordSeats$Chamber" "districts" "I" "WordSeats" ∈ NB := nb_m 134 (by decide +kernel) rfl
theorem n_136 : Cond.fieldLinkNest RX3 50 "WordSeats$Chamber" "districts" "I" "WordSeats" ∈ NB := nb_m 136 (by decide +kernel) rfl
theorem n_138 : Cond.fieldLinkNest RX2 137 "WordSeats$Chamber" "districts" "I" "WordSeats" ∈ NB := nb_m 138 (by decide +kernel) rfl
theorem n_139 : Cond.fieldLinkNest RX11 230 "WordSeats$Chamber" "districts" "I" "WordSeats" ∈ NB := nb_m 139 (by decide +kernel) rfl
theorem n_140 : Cond.fieldLinkNest RX3 22 "WordSeats$Chamber" "words" "I" "WordSeats" ∈ NB := nb_m 140 (by decide +kernel) rfl
theorem n_141 : Cond.fieldLinkNest RX10 29 "WordSeats$Chamber" "words" "I" "WordSeats" ∈ NB := nb_m 141 (by decide +kernel) rfl
theorem n_144 : Cond.fieldLinkNest RX2 57 "WordSeats$Chamber" "words" "I" "WordSeats" ∈ NB := nb_m 144 (by decide +kernel) rfl
theorem n_146 : Cond.fieldLinkNest RX11 233 "WordSeats$Chamber" "words" "I" "WordSeats" ∈ NB := nb_m 146 (by decide +kernel) rfl
theorem n_147 : Cond.fieldLinkNest RX1 33 "WordSeats$Chamber" "speakers" "I" "WordSeats" ∈ NB := nb_m 147 (by decide +kernel) rfl
theorem n_148 : Cond.fieldLinkNest RX2 35 "WordSeats$Chamber" "speakers" "I" "WordSeats" ∈ NB := nb_m 148 (by decide +kernel) rfl
theorem n_151 : Cond.fieldLinkNest RX10 103 "WordSeats$Chamber" "speakers" "I" "WordSeats" ∈ NB := nb_m 151 (by decide +kernel) rfl
theorem n_152 : Cond.fieldLinkNest RX11 323 "WordSeats$Chamber" "speakers" "I" "WordSeats" ∈ NB := nb_m 152 (by decide +kernel) rfl
theorem n_154 : Cond.fieldLinkNest RX3 44 "WordSeats$Chamber" "seats" "[I" "WordSeats" ∈ NB := nb_m 154 (by decide +kernel) rfl
theorem n_155 : Cond.fieldLinkNest RX11 164 "WordSeats$Chamber" "seats" "[I" "WordSeats" ∈ NB := nb_m 155 (by decide +kernel) rfl
theorem n_157 : Cond.fieldLinkNest RX10 59 "WordSeats$Chamber" "letters" "[I" "WordSeats" ∈ NB := nb_m 157 (by decide +kernel) rfl
theorem n_158 : Cond.fieldLinkNest RX2 68 "WordSeats$Chamber" "letters" "[I" "WordSeats" ∈ NB := nb_m 158 (by decide +kernel) rfl
theorem n_159 : Cond.fieldLinkNest RX11 118 "WordSeats$Chamber" "letters" "[I" "WordSeats" ∈ NB := nb_m 159 (by decide +kernel) rfl
theorem n_161 : Cond.fieldLinkNest RX3 47 "WordSeats$Chamber" "home" "[I" "WordSeats" ∈ NB := nb_m 161 (by decide +kernel) rfl
theorem n_162 : Cond.fieldLinkNest RX11 122 "WordSeats$Chamber" "home" "[I" "WordSeats" ∈ NB := nb_m 162 (by decide +kernel) rfl
theorem n_163 : Cond.fieldLinkNest RX2 146 "WordSeats$Chamber" "home" "[I" "WordSeats" ∈ NB := nb_m 163 (by decide +kernel) rfl
theorem n_165 : Cond.fieldLinkNest RX3 41 "WordSeats$Chamber" "party" "[I" "WordSeats" ∈ NB := nb_m 165 (by decide +kernel) rfl
theorem n_166 : Cond.fieldLinkNest RX1 73 "WordSeats$Chamber" "party" "[I" "WordSeats" ∈ NB := nb_m 166 (by decide +kernel) rfl
theorem n_167 : Cond.fieldLinkNest RX11 125 "WordSeats$Chamber" "party" "[I" "WordSeats" ∈ NB := nb_m 167 (by decide +kernel) rfl
theorem n_169 : Cond.fieldLinkNest RX10 56 "WordSeats$Chamber" "means" "[I" "WordSeats" ∈ NB := nb_m 169 (by decide +kernel) rfl
theorem n_171 : Cond.fieldLinkNest RX11 128 "WordSeats$Chamber" "means" "[I" "WordSeats" ∈ NB := nb_m 171 (by decide +kernel) rfl
theorem n_173 : Cond.fieldLinkNest RX11 150 "WordSeats$Chamber" "place" "[I" "WordSeats" ∈ NB := nb_m 173 (by decide +kernel) rfl
theorem n_174 : Cond.fieldLinkNest RX2 190 "WordSeats$Chamber" "place" "[I" "WordSeats" ∈ NB := nb_m 174 (by decide +kernel) rfl
theorem n_176 : Cond.fieldLinkNest RX11 152 "WordSeats$Chamber" "weight" "[I" "WordSeats" ∈ NB := nb_m 176 (by decide +kernel) rfl
theorem n_177 : Cond.fieldLinkNest RX2 115 "WordSeats$Chamber" "weight" "[I" "WordSeats" ∈ NB := nb_m 177 (by decide +kernel) rfl
theorem n_178 : Cond.fieldLinkNest RX10 97 "WordSeats$Chamber" "weight" "[I" "WordSeats" ∈ NB := nb_m 178 (by decide +kernel) rfl
theorem n_180 : Cond.fieldLinkNest RX11 155 "WordSeats$Chamber" "comes" "[I" "WordSeats" ∈ NB := nb_m 180 (by decide +kernel) rfl
theorem n_181 : Cond.fieldLinkNest RX2 162 "WordSeats$Chamber" "comes" "[I" "WordSeats" ∈ NB := nb_m 181 (by decide +kernel) rfl
theorem n_183 : Cond.fieldLinkNest RX11 158 "WordSeats$Chamber" "needs" "[I" "WordSeats" ∈ NB := nb_m 183 (by decide +kernel) rfl
theorem n_184 : Cond.fieldLinkNest RX10 94 "WordSeats$Chamber" "needs" "[I" "WordSeats" ∈ NB := nb_m 184 (by decide +kernel) rfl
theorem n_186 : Cond.fieldLinkNest RX10 68 "WordSeats$Chamber" "rounds" "LWordSeats$Rounds;" "WordSeats" ∈ NB := nb_m 186 (by decide +kernel) rfl
theorem n_188 : Cond.fieldLinkNest RX11 401 "WordSeats$Chamber" "rounds" "LWordSeats$Rounds;" "WordSeats" ∈ NB := nb_m 188 (by decide +kernel) rfl
theorem n_190 : Cond.fieldLinkNest RX3 28 "WordSeats$Chamber" "terms" "LWordSeats$Terms;" "WordSeats" ∈ NB := nb_m 190 (by decide +kernel) rfl
theorem n_191 : Cond.fieldLinkNest RX11 131 "WordSeats$Chamber" "terms" "LWordSeats$Terms;" "WordSeats" ∈ NB := nb_m 191 (by decide +kernel) rfl
theorem n_192 : Cond.fieldLinkNest RX10 109 "WordSeats$Chamber" "terms" "LWordSeats$Terms;" "WordSeats" ∈ NB := nb_m 192 (by decide +kernel) rfl
theorem n_193 : Cond.fieldLinkNest RX2 165 "WordSeats$Chamber" "terms" "LWordSeats$Terms;" "WordSeats" ∈ NB := nb_m 193 (by decide +kernel) rfl
theorem n_242 : Cond.fieldLinkNest RX11 102 "WordSeats$Reader" "fault" "I" "WordSeats" ∈ NB := nb_m 242 (by decide +kernel) rfl
theorem n_244 : Cond.fieldLinkNest RX11 111 "WordSeats$Reader" "place" "I" "WordSeats" ∈ NB := nb_m 244 (by decide +kernel) rfl
theorem n_277 : Cond.fieldLinkNest RX3 81 "WordSeats$Election" "standing" "I" "WordSeats" ∈ NB := nb_m 277 (by decide +kernel) rfl
theorem n_278 : Cond.fieldLinkNest RX11 187 "WordSeats$Election" "standing" "I" "WordSeats" ∈ NB := nb_m 278 (by decide +kernel) rfl
theorem n_281 : Cond.fieldLinkNest RX11 196 "WordSeats$Election" "roll" "I" "WordSeats" ∈ NB := nb_m 281 (by decide +kernel) rfl
theorem n_284 : Cond.fieldLinkNest RX3 87 "WordSeats$Election" "tally" "[I" "WordSeats" ∈ NB := nb_m 284 (by decide +kernel) rfl
theorem n_285 : Cond.fieldLinkNest RX11 193 "WordSeats$Election" "tally" "[I" "WordSeats" ∈ NB := nb_m 285 (by decide +kernel) rfl
theorem n_287 : Cond.fieldLinkNest RX11 199 "WordSeats$Election" "given" "I" "WordSeats" ∈ NB := nb_m 287 (by decide +kernel) rfl
theorem n_291 : Cond.fieldLinkNest RX11 208 "WordSeats$Election" "winner" "I" "WordSeats" ∈ NB := nb_m 291 (by decide +kernel) rfl
theorem n_293 : Cond.fieldLinkNest RX11 214 "WordSeats$Election" "won" "I" "WordSeats" ∈ NB := nb_m 293 (by decide +kernel) rfl
theorem n_295 : Cond.fieldLinkNest RX11 317 "WordSeats$Election" "trick" "I" "WordSeats" ∈ NB := nb_m 295 (by decide +kernel) rfl
theorem n_297 : Cond.fieldLinkNest RX11 320 "WordSeats$Election" "profit" "I" "WordSeats" ∈ NB := nb_m 297 (by decide +kernel) rfl
theorem n_333 : Cond.fieldLinkNest RX11 278 "WordSeats$Tongue" "plain" "[I" "WordSeats" ∈ NB := nb_m 333 (by decide +kernel) rfl
theorem n_335 : Cond.fieldLinkNest RX11 284 "WordSeats$Tongue" "brief" "[I" "WordSeats" ∈ NB := nb_m 335 (by decide +kernel) rfl
theorem n_352 : Cond.fieldLinkNest RX11 354 "WordSeats$Parties" "allotted" "[I" "WordSeats" ∈ NB := nb_m 352 (by decide +kernel) rfl
theorem n_371 : Cond.fieldLinkNest RX11 363 "WordSeats$Districting" "most" "I" "WordSeats" ∈ NB := nb_m 371 (by decide +kernel) rfl
theorem n_38 : Cond.fieldLinkNest RX11 95 "WordSeats$Tape" "length" "I" "WordSeats" ∈ NB := nb_m 38 (by decide +kernel) rfl
theorem n_419 : Cond.fieldLinkNest RX11 437 "WordSeats$Row" "numbers" "[J" "WordSeats" ∈ NB := nb_m 419 (by decide +kernel) rfl
theorem n_421 : Cond.fieldLinkNest RX11 431 "WordSeats$Row" "width" "I" "WordSeats" ∈ NB := nb_m 421 (by decide +kernel) rfl
theorem n_424 : Cond.fieldLinkNest RX11 426 "WordSeats$Row" "length" "I" "WordSeats" ∈ NB := nb_m 424 (by decide +kernel) rfl
theorem n_59 : Cond.fieldLinkNest RX0 70 "WordSeats$Rounds" "known" "I" "WordSeats" ∈ NB := nb_m 59 (by decide +kernel) rfl
theorem n_60 : Cond.fieldLinkNest RX10 72 "WordSeats$Rounds" "known" "I" "WordSeats" ∈ NB := nb_m 60 (by decide +kernel) rfl
theorem n_62 : Cond.fieldLinkNest RX11 405 "WordSeats$Rounds" "known" "I" "WordSeats" ∈ NB := nb_m 62 (by decide +kernel) rfl
theorem n_64 : Cond.fieldLinkNest RX10 77 "WordSeats$Rounds" "goal" "[I" "WordSeats" ∈ NB := nb_m 64 (by decide +kernel) rfl
theorem n_66 : Cond.fieldLinkNest RX10 84 "WordSeats$Rounds" "left" "[I" "WordSeats" ∈ NB := nb_m 66 (by decide +kernel) rfl
theorem n_68 : Cond.fieldLinkNest RX10 87 "WordSeats$Rounds" "right" "[I" "WordSeats" ∈ NB := nb_m 68 (by decide +kernel) rfl
theorem n_771 : Cond.methodLinkNest RX2 60 yX11_holds "WordSeats" ∈ NB := nb_m 771 (by decide +kernel) rfl
theorem n_86 : Cond.fieldLinkNest RX11 248 "WordSeats$Terms" "held" "I" "WordSeats" ∈ NB := nb_m 86 (by decide +kernel) rfl
theorem n_88 : Cond.fieldLinkNest RX3 32 "WordSeats$Terms" "sitting" "I" "WordSeats" ∈ NB := nb_m 88 (by decide +kernel) rfl
theorem n_89 : Cond.fieldLinkNest RX10 113 "WordSeats$Terms" "sitting" "I" "WordSeats" ∈ NB := nb_m 89 (by decide +kernel) rfl
theorem n_90 : Cond.fieldLinkNest RX11 245 "WordSeats$Terms" "sitting" "I" "WordSeats" ∈ NB := nb_m 90 (by decide +kernel) rfl
theorem n_92 : Cond.fieldLinkNest RX11 140 "WordSeats$Terms" "dead" "I" "WordSeats" ∈ NB := nb_m 92 (by decide +kernel) rfl
theorem n_93 : Cond.fieldLinkNest RX10 127 "WordSeats$Terms" "dead" "I" "WordSeats" ∈ NB := nb_m 93 (by decide +kernel) rfl
theorem n_938 : Cond.methodLinkNest RX9 46 yX11_holds "WordSeats" ∈ NB := nb_m 938 (by decide +kernel) rfl
theorem n_95 : Cond.fieldLinkNest RX2 169 "WordSeats$Terms" "dead" "I" "WordSeats" ∈ NB := nb_m 95 (by decide +kernel) rfl
theorem n_97 : Cond.fieldLinkNest RX11 135 "WordSeats$Terms" "idle" "[I" "WordSeats" ∈ NB := nb_m 97 (by decide +kernel) rfl
theorem n_978 : Cond.methodLinkNest RX10 35 yX11_holds "WordSeats" ∈ NB := nb_m 978 (by decide +kernel) rfl
theorem n_99 : Cond.fieldLinkNest RX11 265 "WordSeats$Terms" "sat" "[I" "WordSeats" ∈ NB := nb_m 99 (by decide +kernel) rfl
theorem hd_J7_fill_53178 : hdT yJ7_fill_53178 2 := by decide +kernel
theorem hd_J7_fill_d0a16 : hdT yJ7_fill_d0a16 2 := by decide +kernel
theorem hd_X0_canSit : hdT yX0_canSit 1 := by decide +kernel
theorem hd_X0_copyFrom : hdT yX0_copyFrom 1 := by decide +kernel
theorem hd_X0_hasDistrict : hdT yX0_hasDistrict 1 := by decide +kernel
theorem hd_X0_hasMeaning : hdT yX0_hasMeaning 1 := by decide +kernel
theorem hd_X0_isNone : hdT yX0_isNone 0 := by decide +kernel
theorem hd_X0_liking : hdT yX0_liking 2 := by decide +kernel
theorem hd_X0_open : hdT yX0_open 4 := by decide +kernel
theorem hd_X0_speakersIn : hdT yX0_speakersIn 1 := by decide +kernel
theorem hd_X0_standingIn : hdT yX0_standingIn 1 := by decide +kernel
theorem hd_X0_weightOf : hdT yX0_weightOf 1 := by decide +kernel
theorem hd_X10_cheapestHouse : hdT yX10_cheapestHouse 0 := by decide +kernel
theorem hd_X10_cheapestIn : hdT yX10_cheapestIn 1 := by decide +kernel
theorem hd_X10_detour : hdT yX10_detour 1 := by decide +kernel
theorem hd_X10_fewestFor : hdT yX10_fewestFor 1 := by decide +kernel
theorem hd_X10_goesRound : hdT yX10_goesRound 1 := by decide +kernel
theorem hd_X10_learn : hdT yX10_learn 1 := by decide +kernel
theorem hd_X10_learnWord : hdT yX10_learnWord 1 := by decide +kernel
theorem hd_X10_lengthBy : hdT yX10_lengthBy 1 := by decide +kernel
theorem hd_X10_price : hdT yX10_price 1 := by decide +kernel
theorem hd_X10_priceOfAll : hdT yX10_priceOfAll 1 := by decide +kernel
theorem hd_X10_says : hdT yX10_says 2 := by decide +kernel
theorem hd_X10_shorten : hdT yX10_shorten 0 := by decide +kernel
theorem hd_X10_told : hdT yX10_told 1 := by decide +kernel
theorem hd_X10_unsayable : hdT yX10_unsayable 0 := by decide +kernel
theorem hd_X11_filledSlots : hdT yX11_filledSlots 0 := by decide +kernel
theorem hd_X11_isLaw : hdT yX11_isLaw 1 := by decide +kernel
theorem hd_X11_isParty : hdT yX11_isParty 1 := by decide +kernel
theorem hd_X11_isSeed : hdT yX11_isSeed 1 := by decide +kernel
theorem hd_X11_isSet : hdT yX11_isSet 2 := by decide +kernel
theorem hd_X11_isSlot : hdT yX11_isSlot 1 := by decide +kernel
theorem hd_X1_canDraw : hdT yX1_canDraw 0 := by decide +kernel
theorem hd_X1_countTheirs : hdT yX1_countTheirs 1 := by decide +kernel
theorem hd_X1_draw : hdT yX1_draw 1 := by decide +kernel
theorem hd_X1_placeOf : hdT yX1_placeOf 1 := by decide +kernel
theorem hd_X1_tryPeople : hdT yX1_tryPeople 2 := by decide +kernel
theorem hd_X2_ahead : hdT yX2_ahead 2 := by decide +kernel
theorem hd_X2_beatsAll : hdT yX2_beatsAll 0 := by decide +kernel
theorem hd_X2_beatsEach : hdT yX2_beatsEach 1 := by decide +kernel
theorem hd_X2_comers : hdT yX2_comers 1 := by decide +kernel
theorem hd_X2_enrol : hdT yX2_enrol 1 := by decide +kernel
theorem hd_X2_fallenAt : hdT yX2_fallenAt 1 := by decide +kernel
theorem hd_X2_favourite : hdT yX2_favourite 2 := by decide +kernel
theorem hd_X2_fillZeal : hdT yX2_fillZeal 1 := by decide +kernel
theorem hd_X2_hold : hdT yX2_hold 1 := by decide +kernel
theorem hd_X2_inOrder : hdT yX2_inOrder 2 := by decide +kernel
theorem hd_X2_leader : hdT yX2_leader 1 := by decide +kernel
theorem hd_X2_leads : hdT yX2_leads 2 := by decide +kernel
theorem hd_X2_open : hdT yX2_open 1 := by decide +kernel
theorem hd_X2_runOff : hdT yX2_runOff 0 := by decide +kernel
theorem hd_X2_seekFeint : hdT yX2_seekFeint 1 := by decide +kernel
theorem hd_X2_spoiling : hdT yX2_spoiling 0 := by decide +kernel
theorem hd_X2_strikeOut : hdT yX2_strikeOut 0 := by decide +kernel
theorem hd_X2_taker : hdT yX2_taker 0 := by decide +kernel
theorem hd_X2_takerByFeint : hdT yX2_takerByFeint 2 := by decide +kernel
theorem hd_X2_takerDrawn : hdT yX2_takerDrawn 2 := by decide +kernel
theorem hd_X2_takerIn : hdT yX2_takerIn 2 := by decide +kernel
theorem hd_X2_takerWithout : hdT yX2_takerWithout 1 := by decide +kernel
theorem hd_X2_takers : hdT yX2_takers 0 := by decide +kernel
theorem hd_X2_tallyFirst : hdT yX2_tallyFirst 1 := by decide +kernel
theorem hd_X2_tallyLiked : hdT yX2_tallyLiked 0 := by decide +kernel
theorem hd_X2_trailer : hdT yX2_trailer 1 := by decide +kernel
theorem hd_X2_zealOf : hdT yX2_zealOf 2 := by decide +kernel
theorem hd_X3_allot : hdT yX3_allot 1 := by decide +kernel
theorem hd_X3_commonDivisor : hdT yX3_commonDivisor 1 := by decide +kernel
theorem hd_X3_gather : hdT yX3_gather 1 := by decide +kernel
theorem hd_X3_needed : hdT yX3_needed 1 := by decide +kernel
theorem hd_X3_rule : hdT yX3_rule 1 := by decide +kernel
theorem hd_X3_seatsOf : hdT yX3_seatsOf 1 := by decide +kernel
theorem hd_X3_smallestRule : hdT yX3_smallestRule 0 := by decide +kernel
theorem hd_X3_turns : hdT yX3_turns 1 := by decide +kernel
theorem hd_X5_copyFrom : hdT yX5_copyFrom 1 := by decide +kernel
theorem hd_X6_cut : hdT yX6_cut 1 := by decide +kernel
theorem hd_X6_isNothing : hdT yX6_isNothing 0 := by decide +kernel
theorem hd_X6_lay : hdT yX6_lay 2 := by decide +kernel
theorem hd_X6_reaches : hdT yX6_reaches 2 := by decide +kernel
theorem hd_X6_set : hdT yX6_set 2 := by decide +kernel
theorem hd_X8_add : hdT yX8_add 1 := by decide +kernel
theorem hd_X8_hasRoom : hdT yX8_hasRoom 0 := by decide +kernel
theorem hd_X9_clear : hdT yX9_clear 0 := by decide +kernel
theorem hd_X9_copyFrom : hdT yX9_copyFrom 1 := by decide +kernel
theorem hd_X9_firstDeath : hdT yX9_firstDeath 3 := by decide +kernel
theorem hd_X9_hold : hdT yX9_hold 3 := by decide +kernel
theorem hd_X9_takeBack : hdT yX9_takeBack 0 := by decide +kernel
