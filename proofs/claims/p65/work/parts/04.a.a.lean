theorem dJ6_bitCount_0f7a4_0 : decode cJ6_bitCount_0f7a4 0 = .ok (.iload_n 0, 1) := by decide +kernel
theorem dJ6_bitCount_0f7a4_1 : decode cJ6_bitCount_0f7a4 1 = .ok (.iload_n 0, 1) := by decide +kernel
theorem dJ6_bitCount_0f7a4_2 : decode cJ6_bitCount_0f7a4 2 = .ok (.iconst 1, 1) := by decide +kernel
theorem dJ6_bitCount_0f7a4_3 : decode cJ6_bitCount_0f7a4 3 = .ok (.iushr, 1) := by decide +kernel
theorem dJ6_bitCount_0f7a4_4 : decode cJ6_bitCount_0f7a4 4 = .ok (.ldc_w 265, 3) := by decide +kernel
theorem dJ6_bitCount_0f7a4_7 : decode cJ6_bitCount_0f7a4 7 = .ok (.iand, 1) := by decide +kernel
theorem dJ6_bitCount_0f7a4_8 : decode cJ6_bitCount_0f7a4 8 = .ok (.isub, 1) := by decide +kernel
theorem dJ6_bitCount_0f7a4_9 : decode cJ6_bitCount_0f7a4 9 = .ok (.istore_n 0, 1) := by decide +kernel
theorem dJ6_bitCount_0f7a4_10 : decode cJ6_bitCount_0f7a4 10 = .ok (.iload_n 0, 1) := by decide +kernel
theorem dJ6_bitCount_0f7a4_11 : decode cJ6_bitCount_0f7a4 11 = .ok (.ldc_w 266, 3) := by decide +kernel
theorem dJ6_bitCount_0f7a4_14 : decode cJ6_bitCount_0f7a4 14 = .ok (.iand, 1) := by decide +kernel
theorem dJ6_bitCount_0f7a4_15 : decode cJ6_bitCount_0f7a4 15 = .ok (.iload_n 0, 1) := by decide +kernel
theorem dJ6_bitCount_0f7a4_16 : decode cJ6_bitCount_0f7a4 16 = .ok (.iconst 2, 1) := by decide +kernel
theorem dJ6_bitCount_0f7a4_17 : decode cJ6_bitCount_0f7a4 17 = .ok (.iushr, 1) := by decide +kernel
theorem dJ6_bitCount_0f7a4_18 : decode cJ6_bitCount_0f7a4 18 = .ok (.ldc_w 266, 3) := by decide +kernel
theorem dJ6_bitCount_0f7a4_21 : decode cJ6_bitCount_0f7a4 21 = .ok (.iand, 1) := by decide +kernel
theorem dJ6_bitCount_0f7a4_22 : decode cJ6_bitCount_0f7a4 22 = .ok (.iadd, 1) := by decide +kernel
theorem dJ6_bitCount_0f7a4_23 : decode cJ6_bitCount_0f7a4 23 = .ok (.istore_n 0, 1) := by decide +kernel
theorem dJ6_bitCount_0f7a4_24 : decode cJ6_bitCount_0f7a4 24 = .ok (.iload_n 0, 1) := by decide +kernel
theorem dJ6_bitCount_0f7a4_25 : decode cJ6_bitCount_0f7a4 25 = .ok (.iload_n 0, 1) := by decide +kernel
theorem dJ6_bitCount_0f7a4_26 : decode cJ6_bitCount_0f7a4 26 = .ok (.iconst 4, 1) := by decide +kernel
theorem dJ6_bitCount_0f7a4_27 : decode cJ6_bitCount_0f7a4 27 = .ok (.iushr, 1) := by decide +kernel
theorem dJ6_bitCount_0f7a4_28 : decode cJ6_bitCount_0f7a4 28 = .ok (.iadd, 1) := by decide +kernel
theorem dJ6_bitCount_0f7a4_29 : decode cJ6_bitCount_0f7a4 29 = .ok (.ldc_w 267, 3) := by decide +kernel
theorem dJ6_bitCount_0f7a4_32 : decode cJ6_bitCount_0f7a4 32 = .ok (.iand, 1) := by decide +kernel
theorem dJ6_bitCount_0f7a4_33 : decode cJ6_bitCount_0f7a4 33 = .ok (.istore_n 0, 1) := by decide +kernel
theorem dJ6_bitCount_0f7a4_34 : decode cJ6_bitCount_0f7a4 34 = .ok (.iload_n 0, 1) := by decide +kernel
theorem dJ6_bitCount_0f7a4_35 : decode cJ6_bitCount_0f7a4 35 = .ok (.iload_n 0, 1) := by decide +kernel
theorem dJ6_bitCount_0f7a4_36 : decode cJ6_bitCount_0f7a4 36 = .ok (.bipush 8, 2) := by decide +kernel
theorem dJ6_bitCount_0f7a4_38 : decode cJ6_bitCount_0f7a4 38 = .ok (.iushr, 1) := by decide +kernel
theorem dJ6_bitCount_0f7a4_39 : decode cJ6_bitCount_0f7a4 39 = .ok (.iadd, 1) := by decide +kernel
theorem dJ6_bitCount_0f7a4_40 : decode cJ6_bitCount_0f7a4 40 = .ok (.istore_n 0, 1) := by decide +kernel
theorem dJ6_bitCount_0f7a4_41 : decode cJ6_bitCount_0f7a4 41 = .ok (.iload_n 0, 1) := by decide +kernel
theorem dJ6_bitCount_0f7a4_42 : decode cJ6_bitCount_0f7a4 42 = .ok (.iload_n 0, 1) := by decide +kernel
theorem dJ6_bitCount_0f7a4_43 : decode cJ6_bitCount_0f7a4 43 = .ok (.bipush 16, 2) := by decide +kernel
theorem dJ6_bitCount_0f7a4_45 : decode cJ6_bitCount_0f7a4 45 = .ok (.iushr, 1) := by decide +kernel
theorem dJ6_bitCount_0f7a4_46 : decode cJ6_bitCount_0f7a4 46 = .ok (.iadd, 1) := by decide +kernel
theorem dJ6_bitCount_0f7a4_47 : decode cJ6_bitCount_0f7a4 47 = .ok (.istore_n 0, 1) := by decide +kernel
theorem dJ6_bitCount_0f7a4_48 : decode cJ6_bitCount_0f7a4 48 = .ok (.iload_n 0, 1) := by decide +kernel
theorem dJ6_bitCount_0f7a4_49 : decode cJ6_bitCount_0f7a4 49 = .ok (.bipush 63, 2) := by decide +kernel
theorem dJ6_bitCount_0f7a4_51 : decode cJ6_bitCount_0f7a4 51 = .ok (.iand, 1) := by decide +kernel
theorem dJ6_bitCount_0f7a4_52 : decode cJ6_bitCount_0f7a4 52 = .ok (.ireturn, 1) := by decide +kernel
theorem dX0_canSit_0 : decode cX0_canSit 0 = .ok (.iload_n 1, 1) := by decide +kernel
theorem dX0_canSit_1 : decode cX0_canSit 1 = .ok (.aload_n 0, 1) := by decide +kernel
theorem dX0_canSit_2 : decode cX0_canSit 2 = .ok (.getfield 49, 3) := by decide +kernel
theorem dX0_canSit_5 : decode cX0_canSit 5 = .ok (.getfield 105, 3) := by decide +kernel
theorem dX0_canSit_8 : decode cX0_canSit 8 = .ok (.iand, 1) := by decide +kernel
theorem dX0_canSit_9 : decode cX0_canSit 9 = .ok (.ifCond .eq 5, 3) := by decide +kernel
theorem dX0_canSit_12 : decode cX0_canSit 12 = .ok (.iconst 0, 1) := by decide +kernel
theorem dX0_canSit_13 : decode cX0_canSit 13 = .ok (.ireturn, 1) := by decide +kernel
theorem dX0_canSit_14 : decode cX0_canSit 14 = .ok (.iconst 0, 1) := by decide +kernel
theorem dX0_canSit_15 : decode cX0_canSit 15 = .ok (.istore_n 2, 1) := by decide +kernel
theorem dX0_canSit_16 : decode cX0_canSit 16 = .ok (.iconst 0, 1) := by decide +kernel
theorem dX0_canSit_17 : decode cX0_canSit 17 = .ok (.istore_n 3, 1) := by decide +kernel
theorem dX0_canSit_18 : decode cX0_canSit 18 = .ok (.iload_n 3, 1) := by decide +kernel
theorem dX0_canSit_19 : decode cX0_canSit 19 = .ok (.aload_n 0, 1) := by decide +kernel
theorem dX0_canSit_20 : decode cX0_canSit 20 = .ok (.getfield 64, 3) := by decide +kernel
theorem dX0_canSit_23 : decode cX0_canSit 23 = .ok (.if_icmp .ge 43, 3) := by decide +kernel
theorem dX0_canSit_26 : decode cX0_canSit 26 = .ok (.iload_n 1, 1) := by decide +kernel
theorem dX0_canSit_27 : decode cX0_canSit 27 = .ok (.iload_n 3, 1) := by decide +kernel
theorem dX0_canSit_28 : decode cX0_canSit 28 = .ok (.invokestatic 108, 3) := by decide +kernel
theorem dX0_canSit_31 : decode cX0_canSit 31 = .ok (.ifCond .eq 29, 3) := by decide +kernel
theorem dX0_canSit_34 : decode cX0_canSit 34 = .ok (.iload_n 2, 1) := by decide +kernel
theorem dX0_canSit_35 : decode cX0_canSit 35 = .ok (.aload_n 0, 1) := by decide +kernel
theorem dX0_canSit_36 : decode cX0_canSit 36 = .ok (.getfield 18, 3) := by decide +kernel
theorem dX0_canSit_39 : decode cX0_canSit 39 = .ok (.iload_n 3, 1) := by decide +kernel
theorem dX0_canSit_40 : decode cX0_canSit 40 = .ok (.iaload, 1) := by decide +kernel
theorem dX0_canSit_41 : decode cX0_canSit 41 = .ok (.invokestatic 108, 3) := by decide +kernel
theorem dX0_canSit_44 : decode cX0_canSit 44 = .ok (.ifCond .eq 5, 3) := by decide +kernel
theorem dX0_canSit_47 : decode cX0_canSit 47 = .ok (.iconst 0, 1) := by decide +kernel
theorem dX0_canSit_48 : decode cX0_canSit 48 = .ok (.ireturn, 1) := by decide +kernel
theorem dX0_canSit_49 : decode cX0_canSit 49 = .ok (.iload_n 2, 1) := by decide +kernel
theorem dX0_canSit_50 : decode cX0_canSit 50 = .ok (.iconst 1, 1) := by decide +kernel
theorem dX0_canSit_51 : decode cX0_canSit 51 = .ok (.aload_n 0, 1) := by decide +kernel
theorem dX0_canSit_52 : decode cX0_canSit 52 = .ok (.getfield 18, 3) := by decide +kernel
theorem dX0_canSit_55 : decode cX0_canSit 55 = .ok (.iload_n 3, 1) := by decide +kernel
theorem dX0_canSit_56 : decode cX0_canSit 56 = .ok (.iaload, 1) := by decide +kernel
theorem dX0_canSit_57 : decode cX0_canSit 57 = .ok (.ishl, 1) := by decide +kernel
theorem dX0_canSit_58 : decode cX0_canSit 58 = .ok (.ior, 1) := by decide +kernel
theorem dX0_canSit_59 : decode cX0_canSit 59 = .ok (.istore_n 2, 1) := by decide +kernel
theorem dX0_canSit_60 : decode cX0_canSit 60 = .ok (.iinc 3 1, 3) := by decide +kernel
theorem dX0_canSit_63 : decode cX0_canSit 63 = .ok (.goto (-45), 3) := by decide +kernel
theorem dX0_canSit_66 : decode cX0_canSit 66 = .ok (.iconst 1, 1) := by decide +kernel
theorem dX0_canSit_67 : decode cX0_canSit 67 = .ok (.ireturn, 1) := by decide +kernel
theorem dX0_hasDistrict_0 : decode cX0_hasDistrict 0 = .ok (.iload_n 1, 1) := by decide +kernel
theorem dX0_hasDistrict_1 : decode cX0_hasDistrict 1 = .ok (.ifCond .lt 15, 3) := by decide +kernel
theorem dX0_hasDistrict_4 : decode cX0_hasDistrict 4 = .ok (.iload_n 1, 1) := by decide +kernel
theorem dX0_hasDistrict_5 : decode cX0_hasDistrict 5 = .ok (.aload_n 0, 1) := by decide +kernel
theorem dX0_hasDistrict_6 : decode cX0_hasDistrict 6 = .ok (.getfield 61, 3) := by decide +kernel
theorem dX0_hasDistrict_9 : decode cX0_hasDistrict 9 = .ok (.if_icmp .ge 7, 3) := by decide +kernel
theorem dX0_hasDistrict_12 : decode cX0_hasDistrict 12 = .ok (.iconst 1, 1) := by decide +kernel
theorem dX0_hasDistrict_13 : decode cX0_hasDistrict 13 = .ok (.goto 4, 3) := by decide +kernel
theorem dX0_hasDistrict_16 : decode cX0_hasDistrict 16 = .ok (.iconst 0, 1) := by decide +kernel
theorem dX0_hasDistrict_17 : decode cX0_hasDistrict 17 = .ok (.ireturn, 1) := by decide +kernel
theorem dX0_hasMeaning_0 : decode cX0_hasMeaning 0 = .ok (.iload_n 1, 1) := by decide +kernel
theorem dX0_hasMeaning_1 : decode cX0_hasMeaning 1 = .ok (.ifCond .lt 15, 3) := by decide +kernel
theorem dX0_hasMeaning_4 : decode cX0_hasMeaning 4 = .ok (.iload_n 1, 1) := by decide +kernel
theorem dX0_hasMeaning_5 : decode cX0_hasMeaning 5 = .ok (.aload_n 0, 1) := by decide +kernel
theorem dX0_hasMeaning_6 : decode cX0_hasMeaning 6 = .ok (.getfield 76, 3) := by decide +kernel
theorem dX0_hasMeaning_9 : decode cX0_hasMeaning 9 = .ok (.if_icmp .ge 7, 3) := by decide +kernel
theorem dX0_hasMeaning_12 : decode cX0_hasMeaning 12 = .ok (.iconst 1, 1) := by decide +kernel
theorem dX0_hasMeaning_13 : decode cX0_hasMeaning 13 = .ok (.goto 4, 3) := by decide +kernel
theorem dX0_hasMeaning_16 : decode cX0_hasMeaning 16 = .ok (.iconst 0, 1) := by decide +kernel
theorem dX0_hasMeaning_17 : decode cX0_hasMeaning 17 = .ok (.ireturn, 1) := by decide +kernel
theorem dX0_hasSpeaker_0 : decode cX0_hasSpeaker 0 = .ok (.iload_n 1, 1) := by decide +kernel
theorem dX0_hasSpeaker_1 : decode cX0_hasSpeaker 1 = .ok (.ifCond .lt 15, 3) := by decide +kernel
theorem dX0_hasSpeaker_4 : decode cX0_hasSpeaker 4 = .ok (.iload_n 1, 1) := by decide +kernel
theorem dX0_hasSpeaker_5 : decode cX0_hasSpeaker 5 = .ok (.aload_n 0, 1) := by decide +kernel
theorem dX0_hasSpeaker_6 : decode cX0_hasSpeaker 6 = .ok (.getfield 67, 3) := by decide +kernel
theorem dX0_hasSpeaker_9 : decode cX0_hasSpeaker 9 = .ok (.if_icmp .ge 7, 3) := by decide +kernel
theorem dX0_hasSpeaker_12 : decode cX0_hasSpeaker 12 = .ok (.iconst 1, 1) := by decide +kernel
theorem dX0_hasSpeaker_13 : decode cX0_hasSpeaker 13 = .ok (.goto 4, 3) := by decide +kernel
theorem dX0_hasSpeaker_16 : decode cX0_hasSpeaker 16 = .ok (.iconst 0, 1) := by decide +kernel
theorem dX0_hasSpeaker_17 : decode cX0_hasSpeaker 17 = .ok (.ireturn, 1) := by decide +kernel
theorem dX0_hasWord_0 : decode cX0_hasWord 0 = .ok (.iload_n 1, 1) := by decide +kernel
theorem dX0_hasWord_1 : decode cX0_hasWord 1 = .ok (.ifCond .lt 15, 3) := by decide +kernel
theorem dX0_hasWord_4 : decode cX0_hasWord 4 = .ok (.iload_n 1, 1) := by decide +kernel
theorem dX0_hasWord_5 : decode cX0_hasWord 5 = .ok (.aload_n 0, 1) := by decide +kernel
theorem dX0_hasWord_6 : decode cX0_hasWord 6 = .ok (.getfield 64, 3) := by decide +kernel
theorem dX0_hasWord_9 : decode cX0_hasWord 9 = .ok (.if_icmp .ge 7, 3) := by decide +kernel
theorem dX0_hasWord_12 : decode cX0_hasWord 12 = .ok (.iconst 1, 1) := by decide +kernel
theorem dX0_hasWord_13 : decode cX0_hasWord 13 = .ok (.goto 4, 3) := by decide +kernel
theorem dX0_hasWord_16 : decode cX0_hasWord 16 = .ok (.iconst 0, 1) := by decide +kernel
theorem dX0_hasWord_17 : decode cX0_hasWord 17 = .ok (.ireturn, 1) := by decide +kernel
theorem dX0_isNone_0 : decode cX0_isNone 0 = .ok (.aload_n 0, 1) := by decide +kernel
theorem dX0_isNone_1 : decode cX0_isNone 1 = .ok (.getfield 53, 3) := by decide +kernel
theorem dX0_isNone_4 : decode cX0_isNone 4 = .ok (.ifCond .ne 7, 3) := by decide +kernel
theorem dX0_isNone_7 : decode cX0_isNone 7 = .ok (.iconst 1, 1) := by decide +kernel
theorem dX0_isNone_8 : decode cX0_isNone 8 = .ok (.goto 4, 3) := by decide +kernel
theorem dX0_isNone_11 : decode cX0_isNone 11 = .ok (.iconst 0, 1) := by decide +kernel
theorem dX0_isNone_12 : decode cX0_isNone 12 = .ok (.ireturn, 1) := by decide +kernel
theorem dX0_liking_0 : decode cX0_liking 0 = .ok (.aload_n 0, 1) := by decide +kernel
theorem dX0_liking_1 : decode cX0_liking 1 = .ok (.iload_n 1, 1) := by decide +kernel
theorem dX0_liking_2 : decode cX0_liking 2 = .ok (.invokevirtual 112, 3) := by decide +kernel
theorem dX0_liking_5 : decode cX0_liking 5 = .ok (.ifCond .eq 11, 3) := by decide +kernel
theorem dX0_liking_8 : decode cX0_liking 8 = .ok (.aload_n 0, 1) := by decide +kernel
theorem dX0_liking_9 : decode cX0_liking 9 = .ok (.iload_n 2, 1) := by decide +kernel
theorem dX0_liking_10 : decode cX0_liking 10 = .ok (.invokevirtual 116, 3) := by decide +kernel
theorem dX0_liking_13 : decode cX0_liking 13 = .ok (.ifCond .ne 5, 3) := by decide +kernel
theorem dX0_liking_16 : decode cX0_liking 16 = .ok (.iconst 0, 1) := by decide +kernel
theorem dX0_liking_17 : decode cX0_liking 17 = .ok (.ireturn, 1) := by decide +kernel
theorem dX0_liking_18 : decode cX0_liking 18 = .ok (.aload_n 0, 1) := by decide +kernel
theorem dX0_liking_19 : decode cX0_liking 19 = .ok (.getfield 36, 3) := by decide +kernel
theorem dX0_liking_22 : decode cX0_liking 22 = .ok (.iload_n 1, 1) := by decide +kernel
theorem dX0_liking_23 : decode cX0_liking 23 = .ok (.iaload, 1) := by decide +kernel
theorem dX0_liking_24 : decode cX0_liking 24 = .ok (.aload_n 0, 1) := by decide +kernel
theorem dX0_liking_25 : decode cX0_liking 25 = .ok (.getfield 24, 3) := by decide +kernel
theorem dX0_liking_28 : decode cX0_liking 28 = .ok (.iload_n 2, 1) := by decide +kernel
theorem dX0_liking_29 : decode cX0_liking 29 = .ok (.iaload, 1) := by decide +kernel
theorem dX0_liking_30 : decode cX0_liking 30 = .ok (.iand, 1) := by decide +kernel
theorem dX0_liking_31 : decode cX0_liking 31 = .ok (.invokestatic 119, 3) := by decide +kernel
theorem dX0_liking_34 : decode cX0_liking 34 = .ok (.ireturn, 1) := by decide +kernel
theorem dX0_speakersIn_0 : decode cX0_speakersIn 0 = .ok (.iconst 0, 1) := by decide +kernel
theorem dX0_speakersIn_1 : decode cX0_speakersIn 1 = .ok (.istore_n 2, 1) := by decide +kernel
theorem dX0_speakersIn_2 : decode cX0_speakersIn 2 = .ok (.iconst 0, 1) := by decide +kernel
theorem dX0_speakersIn_3 : decode cX0_speakersIn 3 = .ok (.istore_n 3, 1) := by decide +kernel
theorem dX0_speakersIn_4 : decode cX0_speakersIn 4 = .ok (.iload_n 3, 1) := by decide +kernel
theorem dX0_speakersIn_5 : decode cX0_speakersIn 5 = .ok (.aload_n 0, 1) := by decide +kernel
theorem dX0_speakersIn_6 : decode cX0_speakersIn 6 = .ok (.getfield 67, 3) := by decide +kernel
theorem dX0_speakersIn_9 : decode cX0_speakersIn 9 = .ok (.if_icmp .ge 25, 3) := by decide +kernel
theorem dX0_speakersIn_12 : decode cX0_speakersIn 12 = .ok (.aload_n 0, 1) := by decide +kernel
theorem dX0_speakersIn_13 : decode cX0_speakersIn 13 = .ok (.getfield 27, 3) := by decide +kernel
theorem dX0_speakersIn_16 : decode cX0_speakersIn 16 = .ok (.iload_n 3, 1) := by decide +kernel
theorem dX0_speakersIn_17 : decode cX0_speakersIn 17 = .ok (.iaload, 1) := by decide +kernel
theorem dX0_speakersIn_18 : decode cX0_speakersIn 18 = .ok (.iload_n 1, 1) := by decide +kernel
theorem dX0_speakersIn_19 : decode cX0_speakersIn 19 = .ok (.if_icmp .ne 9, 3) := by decide +kernel
theorem dX0_speakersIn_22 : decode cX0_speakersIn 22 = .ok (.iload_n 2, 1) := by decide +kernel
theorem dX0_speakersIn_23 : decode cX0_speakersIn 23 = .ok (.iconst 1, 1) := by decide +kernel
theorem dX0_speakersIn_24 : decode cX0_speakersIn 24 = .ok (.iload_n 3, 1) := by decide +kernel
theorem dX0_speakersIn_25 : decode cX0_speakersIn 25 = .ok (.ishl, 1) := by decide +kernel
theorem dX0_speakersIn_26 : decode cX0_speakersIn 26 = .ok (.ior, 1) := by decide +kernel
theorem dX0_speakersIn_27 : decode cX0_speakersIn 27 = .ok (.istore_n 2, 1) := by decide +kernel
theorem dX0_speakersIn_28 : decode cX0_speakersIn 28 = .ok (.iinc 3 1, 3) := by decide +kernel
theorem dX0_speakersIn_31 : decode cX0_speakersIn 31 = .ok (.goto (-27), 3) := by decide +kernel
theorem dX0_speakersIn_34 : decode cX0_speakersIn 34 = .ok (.iload_n 2, 1) := by decide +kernel
theorem dX0_speakersIn_35 : decode cX0_speakersIn 35 = .ok (.ireturn, 1) := by decide +kernel
theorem dX0_standingIn_0 : decode cX0_standingIn 0 = .ok (.aload_n 0, 1) := by decide +kernel
theorem dX0_standingIn_1 : decode cX0_standingIn 1 = .ok (.iload_n 1, 1) := by decide +kernel
theorem dX0_standingIn_2 : decode cX0_standingIn 2 = .ok (.invokevirtual 101, 3) := by decide +kernel
theorem dX0_standingIn_5 : decode cX0_standingIn 5 = .ok (.aload_n 0, 1) := by decide +kernel
theorem dX0_standingIn_6 : decode cX0_standingIn 6 = .ok (.getfield 49, 3) := by decide +kernel
theorem dX0_standingIn_9 : decode cX0_standingIn 9 = .ok (.getfield 105, 3) := by decide +kernel
theorem dX0_standingIn_12 : decode cX0_standingIn 12 = .ok (.iconst (-1), 1) := by decide +kernel
theorem dX0_standingIn_13 : decode cX0_standingIn 13 = .ok (.ixor, 1) := by decide +kernel
theorem dX0_standingIn_14 : decode cX0_standingIn 14 = .ok (.iand, 1) := by decide +kernel
theorem dX0_standingIn_15 : decode cX0_standingIn 15 = .ok (.ireturn, 1) := by decide +kernel
theorem dX0_weightOf_0 : decode cX0_weightOf 0 = .ok (.iconst 0, 1) := by decide +kernel
theorem dX0_weightOf_1 : decode cX0_weightOf 1 = .ok (.istore_n 2, 1) := by decide +kernel
theorem dX0_weightOf_2 : decode cX0_weightOf 2 = .ok (.iconst 0, 1) := by decide +kernel
theorem dX0_weightOf_3 : decode cX0_weightOf 3 = .ok (.istore_n 3, 1) := by decide +kernel
theorem dX0_weightOf_4 : decode cX0_weightOf 4 = .ok (.iload_n 3, 1) := by decide +kernel
theorem dX0_weightOf_5 : decode cX0_weightOf 5 = .ok (.aload_n 0, 1) := by decide +kernel
theorem dX0_weightOf_6 : decode cX0_weightOf 6 = .ok (.getfield 67, 3) := by decide +kernel
theorem dX0_weightOf_9 : decode cX0_weightOf 9 = .ok (.if_icmp .ge 26, 3) := by decide +kernel
theorem dX0_weightOf_12 : decode cX0_weightOf 12 = .ok (.iload_n 1, 1) := by decide +kernel
theorem dX0_weightOf_13 : decode cX0_weightOf 13 = .ok (.iload_n 3, 1) := by decide +kernel
theorem dX0_weightOf_14 : decode cX0_weightOf 14 = .ok (.invokestatic 108, 3) := by decide +kernel
theorem dX0_weightOf_17 : decode cX0_weightOf 17 = .ok (.ifCond .eq 12, 3) := by decide +kernel
theorem dX0_weightOf_20 : decode cX0_weightOf 20 = .ok (.iload_n 2, 1) := by decide +kernel
theorem dX0_weightOf_21 : decode cX0_weightOf 21 = .ok (.aload_n 0, 1) := by decide +kernel
theorem dX0_weightOf_22 : decode cX0_weightOf 22 = .ok (.getfield 30, 3) := by decide +kernel
theorem dX0_weightOf_25 : decode cX0_weightOf 25 = .ok (.iload_n 3, 1) := by decide +kernel
theorem dX0_weightOf_26 : decode cX0_weightOf 26 = .ok (.iaload, 1) := by decide +kernel
theorem dX0_weightOf_27 : decode cX0_weightOf 27 = .ok (.iadd, 1) := by decide +kernel
theorem dX0_weightOf_28 : decode cX0_weightOf 28 = .ok (.istore_n 2, 1) := by decide +kernel
theorem dX0_weightOf_29 : decode cX0_weightOf 29 = .ok (.iinc 3 1, 3) := by decide +kernel
theorem dX0_weightOf_32 : decode cX0_weightOf 32 = .ok (.goto (-28), 3) := by decide +kernel
theorem dX0_weightOf_35 : decode cX0_weightOf 35 = .ok (.iload_n 2, 1) := by decide +kernel
theorem dX0_weightOf_36 : decode cX0_weightOf 36 = .ok (.ireturn, 1) := by decide +kernel
theorem dX0_wordsIn_0 : decode cX0_wordsIn 0 = .ok (.iconst 0, 1) := by decide +kernel
theorem dX0_wordsIn_1 : decode cX0_wordsIn 1 = .ok (.istore_n 2, 1) := by decide +kernel
theorem dX0_wordsIn_2 : decode cX0_wordsIn 2 = .ok (.iconst 0, 1) := by decide +kernel
theorem dX0_wordsIn_3 : decode cX0_wordsIn 3 = .ok (.istore_n 3, 1) := by decide +kernel
theorem dX0_wordsIn_4 : decode cX0_wordsIn 4 = .ok (.iload_n 3, 1) := by decide +kernel
theorem dX0_wordsIn_5 : decode cX0_wordsIn 5 = .ok (.aload_n 0, 1) := by decide +kernel
theorem dX0_wordsIn_6 : decode cX0_wordsIn 6 = .ok (.getfield 64, 3) := by decide +kernel
theorem dX0_wordsIn_9 : decode cX0_wordsIn 9 = .ok (.if_icmp .ge 25, 3) := by decide +kernel
theorem dX0_wordsIn_12 : decode cX0_wordsIn 12 = .ok (.aload_n 0, 1) := by decide +kernel
theorem dX0_wordsIn_13 : decode cX0_wordsIn 13 = .ok (.getfield 18, 3) := by decide +kernel
theorem dX0_wordsIn_16 : decode cX0_wordsIn 16 = .ok (.iload_n 3, 1) := by decide +kernel
theorem dX0_wordsIn_17 : decode cX0_wordsIn 17 = .ok (.iaload, 1) := by decide +kernel
theorem dX0_wordsIn_18 : decode cX0_wordsIn 18 = .ok (.iload_n 1, 1) := by decide +kernel
theorem dX0_wordsIn_19 : decode cX0_wordsIn 19 = .ok (.if_icmp .ne 9, 3) := by decide +kernel
theorem dX0_wordsIn_22 : decode cX0_wordsIn 22 = .ok (.iload_n 2, 1) := by decide +kernel
theorem dX0_wordsIn_23 : decode cX0_wordsIn 23 = .ok (.iconst 1, 1) := by decide +kernel
theorem dX0_wordsIn_24 : decode cX0_wordsIn 24 = .ok (.iload_n 3, 1) := by decide +kernel
theorem dX0_wordsIn_25 : decode cX0_wordsIn 25 = .ok (.ishl, 1) := by decide +kernel
theorem dX0_wordsIn_26 : decode cX0_wordsIn 26 = .ok (.ior, 1) := by decide +kernel
theorem dX0_wordsIn_27 : decode cX0_wordsIn 27 = .ok (.istore_n 2, 1) := by decide +kernel
theorem dX0_wordsIn_28 : decode cX0_wordsIn 28 = .ok (.iinc 3 1, 3) := by decide +kernel
theorem dX0_wordsIn_31 : decode cX0_wordsIn 31 = .ok (.goto (-27), 3) := by decide +kernel
theorem dX0_wordsIn_34 : decode cX0_wordsIn 34 = .ok (.iload_n 2, 1) := by decide +kernel
theorem dX0_wordsIn_35 : decode cX0_wordsIn 35 = .ok (.ireturn, 1) := by decide +kernel
theorem dX11_holds_0 : decode cX11_holds 0 = .ok (.iload_n 0, 1) := by decide +kernel
theorem dX11_holds_1 : decode cX11_holds 1 = .ok (.iload_n 1, 1) := by decide +kernel
theorem dX11_holds_2 : decode cX11_holds 2 = .ok (.ishr, 1) := by decide +kernel
theorem dX11_holds_3 : decode cX11_holds 3 = .ok (.iconst 1, 1) := by decide +kernel
theorem dX11_holds_4 : decode cX11_holds 4 = .ok (.iand, 1) := by decide +kernel
theorem dX11_holds_5 : decode cX11_holds 5 = .ok (.iconst 1, 1) := by decide +kernel
theorem dX11_holds_6 : decode cX11_holds 6 = .ok (.if_icmp .ne 7, 3) := by decide +kernel
theorem dX11_holds_9 : decode cX11_holds 9 = .ok (.iconst 1, 1) := by decide +kernel
theorem dX11_holds_10 : decode cX11_holds 10 = .ok (.goto 4, 3) := by decide +kernel
theorem dX11_holds_13 : decode cX11_holds 13 = .ok (.iconst 0, 1) := by decide +kernel
theorem dX11_holds_14 : decode cX11_holds 14 = .ok (.ireturn, 1) := by decide +kernel
theorem dX12_abstains_0 : decode cX12_abstains 0 = .ok (.aload_n 0, 1) := by decide +kernel
theorem dX12_abstains_1 : decode cX12_abstains 1 = .ok (.iload_n 1, 1) := by decide +kernel
theorem dX12_abstains_2 : decode cX12_abstains 2 = .ok (.invokevirtual 332, 3) := by decide +kernel
theorem dX12_abstains_5 : decode cX12_abstains 5 = .ok (.ifCond .ne 6, 3) := by decide +kernel
theorem dX12_abstains_8 : decode cX12_abstains 8 = .ok (.bipush (-2), 2) := by decide +kernel
theorem dX12_abstains_10 : decode cX12_abstains 10 = .ok (.ireturn, 1) := by decide +kernel
theorem dX12_abstains_11 : decode cX12_abstains 11 = .ok (.aload_n 0, 1) := by decide +kernel
theorem dX12_abstains_12 : decode cX12_abstains 12 = .ok (.invokevirtual 335, 3) := by decide +kernel
theorem dX12_abstains_15 : decode cX12_abstains 15 = .ok (.aload_n 0, 1) := by decide +kernel
theorem dX12_abstains_16 : decode cX12_abstains 16 = .ok (.iload_n 1, 1) := by decide +kernel
theorem dX12_abstains_17 : decode cX12_abstains 17 = .ok (.aload_n 0, 1) := by decide +kernel
theorem dX12_abstains_18 : decode cX12_abstains 18 = .ok (.iload_n 1, 1) := by decide +kernel
theorem dX12_abstains_19 : decode cX12_abstains 19 = .ok (.invokevirtual 304, 3) := by decide +kernel
theorem dX12_abstains_22 : decode cX12_abstains 22 = .ok (.iconst 0, 1) := by decide +kernel
theorem dX12_abstains_23 : decode cX12_abstains 23 = .ok (.invokevirtual 297, 3) := by decide +kernel
theorem dX12_abstains_26 : decode cX12_abstains 26 = .ok (.aload_n 0, 1) := by decide +kernel
theorem dX12_abstains_27 : decode cX12_abstains 27 = .ok (.iload_n 1, 1) := by decide +kernel
theorem dX12_abstains_28 : decode cX12_abstains 28 = .ok (.invokevirtual 316, 3) := by decide +kernel
theorem dX12_abstains_31 : decode cX12_abstains 31 = .ok (.aload_n 0, 1) := by decide +kernel
theorem dX12_abstains_32 : decode cX12_abstains 32 = .ok (.getfield 285, 3) := by decide +kernel
theorem dX12_abstains_35 : decode cX12_abstains 35 = .ok (.isub, 1) := by decide +kernel
theorem dX12_abstains_36 : decode cX12_abstains 36 = .ok (.ireturn, 1) := by decide +kernel
theorem dX12_advance_0 : decode cX12_advance 0 = .ok (.aload_n 0, 1) := by decide +kernel
theorem dX12_advance_1 : decode cX12_advance 1 = .ok (.aload_n 0, 1) := by decide +kernel
theorem dX12_advance_2 : decode cX12_advance 2 = .ok (.getfield 102, 3) := by decide +kernel
theorem dX12_advance_5 : decode cX12_advance 5 = .ok (.invokevirtual 105, 3) := by decide +kernel
theorem dX12_advance_8 : decode cX12_advance 8 = .ok (.bipush 32, 2) := by decide +kernel
theorem dX12_advance_10 : decode cX12_advance 10 = .ok (.if_icmp .eq 16, 3) := by decide +kernel
theorem dX12_advance_13 : decode cX12_advance 13 = .ok (.aload_n 0, 1) := by decide +kernel
theorem dX12_advance_14 : decode cX12_advance 14 = .ok (.aload_n 0, 1) := by decide +kernel
theorem dX12_advance_15 : decode cX12_advance 15 = .ok (.getfield 102, 3) := by decide +kernel
theorem dX12_advance_18 : decode cX12_advance 18 = .ok (.invokevirtual 105, 3) := by decide +kernel
theorem dX12_advance_21 : decode cX12_advance 21 = .ok (.bipush 10, 2) := by decide +kernel
theorem dX12_advance_23 : decode cX12_advance 23 = .ok (.if_icmp .ne 16, 3) := by decide +kernel
theorem dX12_advance_26 : decode cX12_advance 26 = .ok (.aload_n 0, 1) := by decide +kernel
theorem dX12_advance_27 : decode cX12_advance 27 = .ok (.dup, 1) := by decide +kernel
theorem dX12_advance_28 : decode cX12_advance 28 = .ok (.getfield 102, 3) := by decide +kernel
theorem dX12_advance_31 : decode cX12_advance 31 = .ok (.iconst 1, 1) := by decide +kernel
theorem dX12_advance_32 : decode cX12_advance 32 = .ok (.iadd, 1) := by decide +kernel
theorem dX12_advance_33 : decode cX12_advance 33 = .ok (.putfield 102, 3) := by decide +kernel
theorem dX12_advance_36 : decode cX12_advance 36 = .ok (.goto (-36), 3) := by decide +kernel
theorem dX12_advance_39 : decode cX12_advance 39 = .ok (.aload_n 0, 1) := by decide +kernel
theorem dX12_advance_40 : decode cX12_advance 40 = .ok (.aload_n 0, 1) := by decide +kernel
theorem dX12_advance_41 : decode cX12_advance 41 = .ok (.getfield 102, 3) := by decide +kernel
theorem dX12_advance_44 : decode cX12_advance 44 = .ok (.putfield 109, 3) := by decide +kernel
theorem dX12_advance_47 : decode cX12_advance 47 = .ok (.aload_n 0, 1) := by decide +kernel
theorem dX12_advance_48 : decode cX12_advance 48 = .ok (.aload_n 0, 1) := by decide +kernel
theorem dX12_advance_49 : decode cX12_advance 49 = .ok (.getfield 102, 3) := by decide +kernel
theorem dX12_advance_52 : decode cX12_advance 52 = .ok (.invokevirtual 105, 3) := by decide +kernel
theorem dX12_advance_55 : decode cX12_advance 55 = .ok (.istore_n 1, 1) := by decide +kernel
theorem dX12_advance_56 : decode cX12_advance 56 = .ok (.iload_n 1, 1) := by decide +kernel
theorem dX12_advance_57 : decode cX12_advance 57 = .ok (.iconst (-1), 1) := by decide +kernel
theorem dX12_advance_58 : decode cX12_advance 58 = .ok (.if_icmp .ne 11, 3) := by decide +kernel
theorem dX12_advance_61 : decode cX12_advance 61 = .ok (.aload_n 0, 1) := by decide +kernel
theorem dX12_advance_62 : decode cX12_advance 62 = .ok (.iconst 0, 1) := by decide +kernel
theorem dX12_advance_63 : decode cX12_advance 63 = .ok (.putfield 112, 3) := by decide +kernel
theorem dX12_advance_66 : decode cX12_advance 66 = .ok (.goto 173, 3) := by decide +kernel
theorem dX12_advance_69 : decode cX12_advance 69 = .ok (.iload_n 1, 1) := by decide +kernel
theorem dX12_advance_70 : decode cX12_advance 70 = .ok (.i2l, 1) := by decide +kernel
theorem dX12_advance_71 : decode cX12_advance 71 = .ok (.ldc2_w 115, 3) := by decide +kernel
theorem dX12_advance_74 : decode cX12_advance 74 = .ok (.ldc2_w 117, 3) := by decide +kernel
theorem dX12_advance_77 : decode cX12_advance 77 = .ok (.invokestatic 82, 3) := by decide +kernel
theorem dX12_advance_80 : decode cX12_advance 80 = .ok (.ifCond .eq 45, 3) := by decide +kernel
theorem dX12_advance_83 : decode cX12_advance 83 = .ok (.aload_n 0, 1) := by decide +kernel
theorem dX12_advance_84 : decode cX12_advance 84 = .ok (.aload_n 0, 1) := by decide +kernel
theorem dX12_advance_85 : decode cX12_advance 85 = .ok (.getfield 102, 3) := by decide +kernel
theorem dX12_advance_88 : decode cX12_advance 88 = .ok (.invokevirtual 105, 3) := by decide +kernel
theorem dX12_advance_91 : decode cX12_advance 91 = .ok (.i2l, 1) := by decide +kernel
theorem dX12_advance_92 : decode cX12_advance 92 = .ok (.ldc2_w 115, 3) := by decide +kernel
theorem dX12_advance_95 : decode cX12_advance 95 = .ok (.ldc2_w 117, 3) := by decide +kernel
theorem dX12_advance_98 : decode cX12_advance 98 = .ok (.invokestatic 82, 3) := by decide +kernel
theorem dX12_advance_101 : decode cX12_advance 101 = .ok (.ifCond .eq 16, 3) := by decide +kernel
theorem dX12_advance_104 : decode cX12_advance 104 = .ok (.aload_n 0, 1) := by decide +kernel
theorem dX12_advance_105 : decode cX12_advance 105 = .ok (.dup, 1) := by decide +kernel
theorem dX12_advance_106 : decode cX12_advance 106 = .ok (.getfield 102, 3) := by decide +kernel
theorem dX12_advance_109 : decode cX12_advance 109 = .ok (.iconst 1, 1) := by decide +kernel
theorem dX12_advance_110 : decode cX12_advance 110 = .ok (.iadd, 1) := by decide +kernel
theorem dX12_advance_111 : decode cX12_advance 111 = .ok (.putfield 102, 3) := by decide +kernel
theorem dX12_advance_114 : decode cX12_advance 114 = .ok (.goto (-31), 3) := by decide +kernel
theorem dX12_advance_117 : decode cX12_advance 117 = .ok (.aload_n 0, 1) := by decide +kernel
theorem dX12_advance_118 : decode cX12_advance 118 = .ok (.iconst 1, 1) := by decide +kernel
theorem dX12_advance_119 : decode cX12_advance 119 = .ok (.putfield 112, 3) := by decide +kernel
theorem dX12_advance_122 : decode cX12_advance 122 = .ok (.goto 117, 3) := by decide +kernel
theorem dX12_advance_125 : decode cX12_advance 125 = .ok (.iload_n 1, 1) := by decide +kernel
theorem dX12_advance_126 : decode cX12_advance 126 = .ok (.i2l, 1) := by decide +kernel
theorem dX12_advance_127 : decode cX12_advance 127 = .ok (.ldc2_w 119, 3) := by decide +kernel
theorem dX12_advance_130 : decode cX12_advance 130 = .ok (.ldc2_w 121, 3) := by decide +kernel
theorem dX12_advance_133 : decode cX12_advance 133 = .ok (.invokestatic 82, 3) := by decide +kernel
theorem dX12_advance_136 : decode cX12_advance 136 = .ok (.ifCond .eq 78, 3) := by decide +kernel
theorem dX12_advance_139 : decode cX12_advance 139 = .ok (.aload_n 0, 1) := by decide +kernel
theorem dX12_advance_140 : decode cX12_advance 140 = .ok (.iconst 0, 1) := by decide +kernel
theorem dX12_advance_141 : decode cX12_advance 141 = .ok (.putfield 123, 3) := by decide +kernel
theorem dX12_advance_144 : decode cX12_advance 144 = .ok (.aload_n 0, 1) := by decide +kernel
theorem dX12_advance_145 : decode cX12_advance 145 = .ok (.aload_n 0, 1) := by decide +kernel
theorem dX12_advance_146 : decode cX12_advance 146 = .ok (.getfield 102, 3) := by decide +kernel
theorem dX12_advance_149 : decode cX12_advance 149 = .ok (.invokevirtual 105, 3) := by decide +kernel
theorem dX12_advance_152 : decode cX12_advance 152 = .ok (.i2l, 1) := by decide +kernel
theorem dX12_advance_153 : decode cX12_advance 153 = .ok (.ldc2_w 119, 3) := by decide +kernel
theorem dX12_advance_156 : decode cX12_advance 156 = .ok (.ldc2_w 121, 3) := by decide +kernel
theorem dX12_advance_159 : decode cX12_advance 159 = .ok (.invokestatic 82, 3) := by decide +kernel
theorem dX12_advance_162 : decode cX12_advance 162 = .ok (.ifCond .eq 44, 3) := by decide +kernel
theorem dX12_advance_165 : decode cX12_advance 165 = .ok (.aload_n 0, 1) := by decide +kernel
theorem dX12_advance_166 : decode cX12_advance 166 = .ok (.ldc 126, 2) := by decide +kernel
theorem dX12_advance_168 : decode cX12_advance 168 = .ok (.bipush 10, 2) := by decide +kernel
theorem dX12_advance_170 : decode cX12_advance 170 = .ok (.aload_n 0, 1) := by decide +kernel
theorem dX12_advance_171 : decode cX12_advance 171 = .ok (.getfield 123, 3) := by decide +kernel
theorem dX12_advance_174 : decode cX12_advance 174 = .ok (.imul, 1) := by decide +kernel
theorem dX12_advance_175 : decode cX12_advance 175 = .ok (.aload_n 0, 1) := by decide +kernel
theorem dX12_advance_176 : decode cX12_advance 176 = .ok (.aload_n 0, 1) := by decide +kernel
theorem dX12_advance_177 : decode cX12_advance 177 = .ok (.getfield 102, 3) := by decide +kernel
theorem dX12_advance_180 : decode cX12_advance 180 = .ok (.invokevirtual 105, 3) := by decide +kernel
theorem dX12_advance_183 : decode cX12_advance 183 = .ok (.iadd, 1) := by decide +kernel
theorem dX12_advance_184 : decode cX12_advance 184 = .ok (.bipush 48, 2) := by decide +kernel
theorem dX12_advance_186 : decode cX12_advance 186 = .ok (.isub, 1) := by decide +kernel
theorem dX12_advance_187 : decode cX12_advance 187 = .ok (.invokestatic 127, 3) := by decide +kernel
theorem dX12_advance_190 : decode cX12_advance 190 = .ok (.putfield 123, 3) := by decide +kernel
theorem dX12_advance_193 : decode cX12_advance 193 = .ok (.aload_n 0, 1) := by decide +kernel
theorem dX12_advance_194 : decode cX12_advance 194 = .ok (.dup, 1) := by decide +kernel
theorem dX12_advance_195 : decode cX12_advance 195 = .ok (.getfield 102, 3) := by decide +kernel
theorem dX12_advance_198 : decode cX12_advance 198 = .ok (.iconst 1, 1) := by decide +kernel
theorem dX12_advance_199 : decode cX12_advance 199 = .ok (.iadd, 1) := by decide +kernel
theorem dX12_advance_200 : decode cX12_advance 200 = .ok (.putfield 102, 3) := by decide +kernel
theorem dX12_advance_203 : decode cX12_advance 203 = .ok (.goto (-59), 3) := by decide +kernel
theorem dX12_advance_206 : decode cX12_advance 206 = .ok (.aload_n 0, 1) := by decide +kernel
theorem dX12_advance_207 : decode cX12_advance 207 = .ok (.iconst 2, 1) := by decide +kernel
theorem dX12_advance_208 : decode cX12_advance 208 = .ok (.putfield 112, 3) := by decide +kernel
theorem dX12_advance_211 : decode cX12_advance 211 = .ok (.goto 28, 3) := by decide +kernel
theorem dX12_advance_214 : decode cX12_advance 214 = .ok (.aload_n 0, 1) := by decide +kernel
theorem dX12_advance_215 : decode cX12_advance 215 = .ok (.iload_n 1, 1) := by decide +kernel
theorem dX12_advance_216 : decode cX12_advance 216 = .ok (.bipush 59, 2) := by decide +kernel
theorem dX12_advance_218 : decode cX12_advance 218 = .ok (.if_icmp .ne 7, 3) := by decide +kernel
theorem dX12_advance_221 : decode cX12_advance 221 = .ok (.iconst 3, 1) := by decide +kernel
theorem dX12_advance_222 : decode cX12_advance 222 = .ok (.goto 4, 3) := by decide +kernel
theorem dX12_advance_225 : decode cX12_advance 225 = .ok (.iconst 4, 1) := by decide +kernel
theorem dX12_advance_226 : decode cX12_advance 226 = .ok (.putfield 112, 3) := by decide +kernel
theorem dX12_advance_229 : decode cX12_advance 229 = .ok (.aload_n 0, 1) := by decide +kernel
theorem dX12_advance_230 : decode cX12_advance 230 = .ok (.dup, 1) := by decide +kernel
theorem dX12_advance_231 : decode cX12_advance 231 = .ok (.getfield 102, 3) := by decide +kernel
theorem dX12_advance_234 : decode cX12_advance 234 = .ok (.iconst 1, 1) := by decide +kernel
theorem dX12_advance_235 : decode cX12_advance 235 = .ok (.iadd, 1) := by decide +kernel
theorem dX12_advance_236 : decode cX12_advance 236 = .ok (.putfield 102, 3) := by decide +kernel
theorem dX12_advance_239 : decode cX12_advance 239 = .ok (.return_, 1) := by decide +kernel
theorem dX12_allWords_0 : decode cX12_allWords 0 = .ok (.iconst 1, 1) := by decide +kernel
theorem dX12_allWords_1 : decode cX12_allWords 1 = .ok (.aload_n 0, 1) := by decide +kernel
theorem dX12_allWords_2 : decode cX12_allWords 2 = .ok (.getfield 9, 3) := by decide +kernel
theorem dX12_allWords_5 : decode cX12_allWords 5 = .ok (.iconst 5, 1) := by decide +kernel
theorem dX12_allWords_6 : decode cX12_allWords 6 = .ok (.iaload, 1) := by decide +kernel
theorem dX12_allWords_7 : decode cX12_allWords 7 = .ok (.ishl, 1) := by decide +kernel
theorem dX12_allWords_8 : decode cX12_allWords 8 = .ok (.iconst 1, 1) := by decide +kernel
theorem dX12_allWords_9 : decode cX12_allWords 9 = .ok (.isub, 1) := by decide +kernel
theorem dX12_allWords_10 : decode cX12_allWords 10 = .ok (.ireturn, 1) := by decide +kernel
theorem dX12_areMeanings_0 : decode cX12_areMeanings 0 = .ok (.aload_n 0, 1) := by decide +kernel
theorem dX12_areMeanings_1 : decode cX12_areMeanings 1 = .ok (.invokevirtual 347, 3) := by decide +kernel
theorem dX12_areMeanings_4 : decode cX12_areMeanings 4 = .ok (.ifCond .eq 27, 3) := by decide +kernel
theorem dX12_areMeanings_7 : decode cX12_areMeanings 7 = .ok (.iload_n 1, 1) := by decide +kernel
theorem dX12_areMeanings_8 : decode cX12_areMeanings 8 = .ok (.i2l, 1) := by decide +kernel
theorem dX12_areMeanings_9 : decode cX12_areMeanings 9 = .ok (.lconst 0, 1) := by decide +kernel
theorem dX12_areMeanings_10 : decode cX12_areMeanings 10 = .ok (.iconst 1, 1) := by decide +kernel
theorem dX12_areMeanings_11 : decode cX12_areMeanings 11 = .ok (.aload_n 0, 1) := by decide +kernel
theorem dX12_areMeanings_12 : decode cX12_areMeanings 12 = .ok (.getfield 9, 3) := by decide +kernel
theorem dX12_areMeanings_15 : decode cX12_areMeanings 15 = .ok (.iconst 0, 1) := by decide +kernel
theorem dX12_areMeanings_16 : decode cX12_areMeanings 16 = .ok (.iaload, 1) := by decide +kernel
theorem dX12_areMeanings_17 : decode cX12_areMeanings 17 = .ok (.ishl, 1) := by decide +kernel
theorem dX12_areMeanings_18 : decode cX12_areMeanings 18 = .ok (.iconst 1, 1) := by decide +kernel
theorem dX12_areMeanings_19 : decode cX12_areMeanings 19 = .ok (.isub, 1) := by decide +kernel
theorem dX12_areMeanings_20 : decode cX12_areMeanings 20 = .ok (.i2l, 1) := by decide +kernel
theorem dX12_areMeanings_21 : decode cX12_areMeanings 21 = .ok (.invokestatic 82, 3) := by decide +kernel
theorem dX12_areMeanings_24 : decode cX12_areMeanings 24 = .ok (.ifCond .eq 7, 3) := by decide +kernel
theorem dX12_areMeanings_27 : decode cX12_areMeanings 27 = .ok (.iconst 1, 1) := by decide +kernel
theorem dX12_areMeanings_28 : decode cX12_areMeanings 28 = .ok (.goto 4, 3) := by decide +kernel
theorem dX12_areMeanings_31 : decode cX12_areMeanings 31 = .ok (.iconst 0, 1) := by decide +kernel
theorem dX12_areMeanings_32 : decode cX12_areMeanings 32 = .ok (.ireturn, 1) := by decide +kernel
theorem dX12_areParties_0 : decode cX12_areParties 0 = .ok (.aload_n 0, 1) := by decide +kernel
theorem dX12_areParties_1 : decode cX12_areParties 1 = .ok (.invokevirtual 347, 3) := by decide +kernel
theorem dX12_areParties_4 : decode cX12_areParties 4 = .ok (.ifCond .eq 19, 3) := by decide +kernel
theorem dX12_areParties_7 : decode cX12_areParties 7 = .ok (.iload_n 1, 1) := by decide +kernel
theorem dX12_areParties_8 : decode cX12_areParties 8 = .ok (.i2l, 1) := by decide +kernel
theorem dX12_areParties_9 : decode cX12_areParties 9 = .ok (.lconst 0, 1) := by decide +kernel
theorem dX12_areParties_10 : decode cX12_areParties 10 = .ok (.ldc2_w 411, 3) := by decide +kernel
theorem dX12_areParties_13 : decode cX12_areParties 13 = .ok (.invokestatic 82, 3) := by decide +kernel
theorem dX12_areParties_16 : decode cX12_areParties 16 = .ok (.ifCond .eq 7, 3) := by decide +kernel
theorem dX12_areParties_19 : decode cX12_areParties 19 = .ok (.iconst 1, 1) := by decide +kernel
theorem dX12_areParties_20 : decode cX12_areParties 20 = .ok (.goto 4, 3) := by decide +kernel
theorem dX12_areParties_23 : decode cX12_areParties 23 = .ok (.iconst 0, 1) := by decide +kernel
theorem dX12_areParties_24 : decode cX12_areParties 24 = .ok (.ireturn, 1) := by decide +kernel
theorem dX12_asItIs_0 : decode cX12_asItIs 0 = .ok (.aload_n 0, 1) := by decide +kernel
theorem dX12_asItIs_1 : decode cX12_asItIs 1 = .ok (.aload_n 0, 1) := by decide +kernel
theorem dX12_asItIs_2 : decode cX12_asItIs 2 = .ok (.invokevirtual 250, 3) := by decide +kernel
theorem dX12_asItIs_5 : decode cX12_asItIs 5 = .ok (.putfield 253, 3) := by decide +kernel
theorem dX12_asItIs_8 : decode cX12_asItIs 8 = .ok (.aload_n 0, 1) := by decide +kernel
theorem dX12_asItIs_9 : decode cX12_asItIs 9 = .ok (.sipush 511, 3) := by decide +kernel
theorem dX12_asItIs_12 : decode cX12_asItIs 12 = .ok (.putfield 256, 3) := by decide +kernel
theorem dX12_asItIs_15 : decode cX12_asItIs 15 = .ok (.aload_n 0, 1) := by decide +kernel
theorem dX12_asItIs_16 : decode cX12_asItIs 16 = .ok (.iconst (-1), 1) := by decide +kernel
theorem dX12_asItIs_17 : decode cX12_asItIs 17 = .ok (.putfield 37, 3) := by decide +kernel
theorem dX12_asItIs_20 : decode cX12_asItIs 20 = .ok (.iconst 0, 1) := by decide +kernel
theorem dX12_asItIs_21 : decode cX12_asItIs 21 = .ok (.istore_n 1, 1) := by decide +kernel
theorem dX12_asItIs_22 : decode cX12_asItIs 22 = .ok (.iload_n 1, 1) := by decide +kernel
theorem dX12_asItIs_23 : decode cX12_asItIs 23 = .ok (.bipush 9, 2) := by decide +kernel
theorem dX12_asItIs_25 : decode cX12_asItIs 25 = .ok (.if_icmp .ge 21, 3) := by decide +kernel
theorem dX12_asItIs_28 : decode cX12_asItIs 28 = .ok (.aload_n 0, 1) := by decide +kernel
theorem dX12_asItIs_29 : decode cX12_asItIs 29 = .ok (.getfield 34, 3) := by decide +kernel
theorem dX12_asItIs_32 : decode cX12_asItIs 32 = .ok (.iload_n 1, 1) := by decide +kernel
theorem dX12_asItIs_33 : decode cX12_asItIs 33 = .ok (.aload_n 0, 1) := by decide +kernel
theorem dX12_asItIs_34 : decode cX12_asItIs 34 = .ok (.iload_n 1, 1) := by decide +kernel
theorem dX12_asItIs_35 : decode cX12_asItIs 35 = .ok (.iconst 0, 1) := by decide +kernel
theorem dX12_asItIs_36 : decode cX12_asItIs 36 = .ok (.invokevirtual 259, 3) := by decide +kernel
theorem dX12_asItIs_39 : decode cX12_asItIs 39 = .ok (.iastore, 1) := by decide +kernel
theorem dX12_asItIs_40 : decode cX12_asItIs 40 = .ok (.iinc 1 1, 3) := by decide +kernel
theorem dX12_asItIs_43 : decode cX12_asItIs 43 = .ok (.goto (-21), 3) := by decide +kernel
theorem dX12_asItIs_46 : decode cX12_asItIs 46 = .ok (.return_, 1) := by decide +kernel
theorem dX12_asksSpeech_0 : decode cX12_asksSpeech 0 = .ok (.iload_n 1, 1) := by decide +kernel
theorem dX12_asksSpeech_1 : decode cX12_asksSpeech 1 = .ok (.invokestatic 439, 3) := by decide +kernel
theorem dX12_asksSpeech_4 : decode cX12_asksSpeech 4 = .ok (.ifCond .eq 14, 3) := by decide +kernel
theorem dX12_asksSpeech_7 : decode cX12_asksSpeech 7 = .ok (.aload_n 0, 1) := by decide +kernel
theorem dX12_asksSpeech_8 : decode cX12_asksSpeech 8 = .ok (.invokevirtual 347, 3) := by decide +kernel
theorem dX12_asksSpeech_11 : decode cX12_asksSpeech 11 = .ok (.ifCond .eq 7, 3) := by decide +kernel
theorem dX12_asksSpeech_14 : decode cX12_asksSpeech 14 = .ok (.iload_n 2, 1) := by decide +kernel
theorem dX12_asksSpeech_15 : decode cX12_asksSpeech 15 = .ok (.ifCond .ne 6, 3) := by decide +kernel
theorem dX12_asksSpeech_18 : decode cX12_asksSpeech 18 = .ok (.bipush (-2), 2) := by decide +kernel
theorem dX12_asksSpeech_20 : decode cX12_asksSpeech 20 = .ok (.ireturn, 1) := by decide +kernel
theorem dX12_asksSpeech_21 : decode cX12_asksSpeech 21 = .ok (.aload_n 0, 1) := by decide +kernel
theorem dX12_asksSpeech_22 : decode cX12_asksSpeech 22 = .ok (.getfield 64, 3) := by decide +kernel
theorem dX12_asksSpeech_25 : decode cX12_asksSpeech 25 = .ok (.iload_n 1, 1) := by decide +kernel
theorem dX12_asksSpeech_26 : decode cX12_asksSpeech 26 = .ok (.iaload, 1) := by decide +kernel
theorem dX12_asksSpeech_27 : decode cX12_asksSpeech 27 = .ok (.iconst (-1), 1) := by decide +kernel
theorem dX12_asksSpeech_28 : decode cX12_asksSpeech 28 = .ok (.if_icmp .ne 6, 3) := by decide +kernel
theorem dX12_asksSpeech_31 : decode cX12_asksSpeech 31 = .ok (.bipush (-6), 2) := by decide +kernel
theorem dX12_asksSpeech_33 : decode cX12_asksSpeech 33 = .ok (.ireturn, 1) := by decide +kernel
theorem dX12_asksSpeech_34 : decode cX12_asksSpeech 34 = .ok (.aload_n 0, 1) := by decide +kernel
theorem dX12_asksSpeech_35 : decode cX12_asksSpeech 35 = .ok (.getfield 64, 3) := by decide +kernel
theorem dX12_asksSpeech_38 : decode cX12_asksSpeech 38 = .ok (.iload_n 1, 1) := by decide +kernel
theorem dX12_asksSpeech_39 : decode cX12_asksSpeech 39 = .ok (.iaload, 1) := by decide +kernel
theorem dX12_asksSpeech_40 : decode cX12_asksSpeech 40 = .ok (.iconst 2, 1) := by decide +kernel
theorem dX12_asksSpeech_41 : decode cX12_asksSpeech 41 = .ok (.irem, 1) := by decide +kernel
theorem dX12_asksSpeech_42 : decode cX12_asksSpeech 42 = .ok (.ifCond .eq 6, 3) := by decide +kernel
theorem dX12_asksSpeech_45 : decode cX12_asksSpeech 45 = .ok (.bipush (-2), 2) := by decide +kernel
theorem dX12_asksSpeech_47 : decode cX12_asksSpeech 47 = .ok (.ireturn, 1) := by decide +kernel
theorem dX12_asksSpeech_48 : decode cX12_asksSpeech 48 = .ok (.iconst 0, 1) := by decide +kernel
theorem dX12_asksSpeech_49 : decode cX12_asksSpeech 49 = .ok (.istore_n 3, 1) := by decide +kernel
theorem dX12_asksSpeech_50 : decode cX12_asksSpeech 50 = .ok (.iload_n 3, 1) := by decide +kernel
theorem dX12_asksSpeech_51 : decode cX12_asksSpeech 51 = .ok (.aload_n 0, 1) := by decide +kernel
theorem dX12_asksSpeech_52 : decode cX12_asksSpeech 52 = .ok (.getfield 64, 3) := by decide +kernel
theorem dX12_asksSpeech_55 : decode cX12_asksSpeech 55 = .ok (.iload_n 1, 1) := by decide +kernel
theorem dX12_asksSpeech_56 : decode cX12_asksSpeech 56 = .ok (.iaload, 1) := by decide +kernel
theorem dX12_asksSpeech_57 : decode cX12_asksSpeech 57 = .ok (.if_icmp .ge 55, 3) := by decide +kernel
theorem dX12_asksSpeech_60 : decode cX12_asksSpeech 60 = .ok (.aload_n 0, 1) := by decide +kernel
theorem dX12_asksSpeech_61 : decode cX12_asksSpeech 61 = .ok (.aload_n 0, 1) := by decide +kernel
theorem dX12_asksSpeech_62 : decode cX12_asksSpeech 62 = .ok (.iload_n 1, 1) := by decide +kernel
theorem dX12_asksSpeech_63 : decode cX12_asksSpeech 63 = .ok (.iload_n 3, 1) := by decide +kernel
theorem dX12_asksSpeech_64 : decode cX12_asksSpeech 64 = .ok (.invokevirtual 442, 3) := by decide +kernel
theorem dX12_asksSpeech_67 : decode cX12_asksSpeech 67 = .ok (.invokevirtual 363, 3) := by decide +kernel
theorem dX12_asksSpeech_70 : decode cX12_asksSpeech 70 = .ok (.ifCond .eq 33, 3) := by decide +kernel
theorem dX12_asksSpeech_73 : decode cX12_asksSpeech 73 = .ok (.aload_n 0, 1) := by decide +kernel
theorem dX12_asksSpeech_74 : decode cX12_asksSpeech 74 = .ok (.aload_n 0, 1) := by decide +kernel
theorem dX12_asksSpeech_75 : decode cX12_asksSpeech 75 = .ok (.iload_n 1, 1) := by decide +kernel
theorem dX12_asksSpeech_76 : decode cX12_asksSpeech 76 = .ok (.iload_n 3, 1) := by decide +kernel
theorem dX12_asksSpeech_77 : decode cX12_asksSpeech 77 = .ok (.iconst 1, 1) := by decide +kernel
theorem dX12_asksSpeech_78 : decode cX12_asksSpeech 78 = .ok (.iadd, 1) := by decide +kernel
theorem dX12_asksSpeech_79 : decode cX12_asksSpeech 79 = .ok (.invokevirtual 442, 3) := by decide +kernel
theorem dX12_asksSpeech_82 : decode cX12_asksSpeech 82 = .ok (.invokevirtual 322, 3) := by decide +kernel
theorem dX12_asksSpeech_85 : decode cX12_asksSpeech 85 = .ok (.ifCond .ne 21, 3) := by decide +kernel
theorem dX12_asksSpeech_88 : decode cX12_asksSpeech 88 = .ok (.aload_n 0, 1) := by decide +kernel
theorem dX12_asksSpeech_89 : decode cX12_asksSpeech 89 = .ok (.iload_n 1, 1) := by decide +kernel
theorem dX12_asksSpeech_90 : decode cX12_asksSpeech 90 = .ok (.iload_n 3, 1) := by decide +kernel
theorem dX12_asksSpeech_91 : decode cX12_asksSpeech 91 = .ok (.iconst 1, 1) := by decide +kernel
theorem dX12_asksSpeech_92 : decode cX12_asksSpeech 92 = .ok (.iadd, 1) := by decide +kernel
theorem dX12_asksSpeech_93 : decode cX12_asksSpeech 93 = .ok (.invokevirtual 442, 3) := by decide +kernel
theorem dX12_asksSpeech_96 : decode cX12_asksSpeech 96 = .ok (.ldc2_w 446, 3) := by decide +kernel
theorem dX12_asksSpeech_99 : decode cX12_asksSpeech 99 = .ok (.lcmp, 1) := by decide +kernel
theorem dX12_asksSpeech_100 : decode cX12_asksSpeech 100 = .ok (.ifCond .eq 6, 3) := by decide +kernel
theorem dX12_asksSpeech_103 : decode cX12_asksSpeech 103 = .ok (.bipush (-2), 2) := by decide +kernel
theorem dX12_asksSpeech_105 : decode cX12_asksSpeech 105 = .ok (.ireturn, 1) := by decide +kernel
theorem dX12_asksSpeech_106 : decode cX12_asksSpeech 106 = .ok (.iinc 3 2, 3) := by decide +kernel
theorem dX12_asksSpeech_109 : decode cX12_asksSpeech 109 = .ok (.goto (-59), 3) := by decide +kernel
theorem dX12_asksSpeech_112 : decode cX12_asksSpeech 112 = .ok (.iconst 0, 1) := by decide +kernel
theorem dX12_asksSpeech_113 : decode cX12_asksSpeech 113 = .ok (.ireturn, 1) := by decide +kernel
theorem dX12_back_0 : decode cX12_back 0 = .ok (.iload_n 1, 1) := by decide +kernel
theorem dX12_back_1 : decode cX12_back 1 = .ok (.i2l, 1) := by decide +kernel
theorem dX12_back_2 : decode cX12_back 2 = .ok (.lconst 0, 1) := by decide +kernel
theorem dX12_back_3 : decode cX12_back 3 = .ok (.ldc2_w 80, 3) := by decide +kernel
theorem dX12_back_6 : decode cX12_back 6 = .ok (.invokestatic 82, 3) := by decide +kernel
theorem dX12_back_9 : decode cX12_back 9 = .ok (.ifCond .ne 6, 3) := by decide +kernel
theorem dX12_back_12 : decode cX12_back 12 = .ok (.bipush (-2), 2) := by decide +kernel
theorem dX12_back_14 : decode cX12_back 14 = .ok (.ireturn, 1) := by decide +kernel
theorem dX12_back_15 : decode cX12_back 15 = .ok (.aload_n 0, 1) := by decide +kernel
theorem dX12_back_16 : decode cX12_back 16 = .ok (.getfield 16, 3) := by decide +kernel
theorem dX12_back_19 : decode cX12_back 19 = .ok (.iload_n 1, 1) := by decide +kernel
theorem dX12_back_20 : decode cX12_back 20 = .ok (.baload, 1) := by decide +kernel
theorem dX12_back_21 : decode cX12_back 21 = .ok (.ifCond .ne 6, 3) := by decide +kernel
theorem dX12_back_24 : decode cX12_back 24 = .ok (.bipush (-6), 2) := by decide +kernel
theorem dX12_back_26 : decode cX12_back 26 = .ok (.ireturn, 1) := by decide +kernel
theorem dX12_back_27 : decode cX12_back 27 = .ok (.iconst 0, 1) := by decide +kernel
theorem dX12_back_28 : decode cX12_back 28 = .ok (.istore_n 2, 1) := by decide +kernel
theorem dX12_back_29 : decode cX12_back 29 = .ok (.iload_n 2, 1) := by decide +kernel
theorem dX12_back_30 : decode cX12_back 30 = .ok (.sipush 841, 3) := by decide +kernel
theorem dX12_back_33 : decode cX12_back 33 = .ok (.if_icmp .ge 27, 3) := by decide +kernel
theorem dX12_back_36 : decode cX12_back 36 = .ok (.aload_n 0, 1) := by decide +kernel
theorem dX12_back_37 : decode cX12_back 37 = .ok (.getfield 9, 3) := by decide +kernel
theorem dX12_back_40 : decode cX12_back 40 = .ok (.iload_n 2, 1) := by decide +kernel
theorem dX12_back_41 : decode cX12_back 41 = .ok (.aload_n 0, 1) := by decide +kernel
theorem dX12_back_42 : decode cX12_back 42 = .ok (.getfield 13, 3) := by decide +kernel
theorem dX12_back_45 : decode cX12_back 45 = .ok (.sipush 841, 3) := by decide +kernel
theorem dX12_back_48 : decode cX12_back 48 = .ok (.iload_n 1, 1) := by decide +kernel
theorem dX12_back_49 : decode cX12_back 49 = .ok (.imul, 1) := by decide +kernel
theorem dX12_back_50 : decode cX12_back 50 = .ok (.iload_n 2, 1) := by decide +kernel
theorem dX12_back_51 : decode cX12_back 51 = .ok (.iadd, 1) := by decide +kernel
theorem dX12_back_52 : decode cX12_back 52 = .ok (.iaload, 1) := by decide +kernel
theorem dX12_back_53 : decode cX12_back 53 = .ok (.iastore, 1) := by decide +kernel
theorem dX12_back_54 : decode cX12_back 54 = .ok (.iinc 2 1, 3) := by decide +kernel
theorem dX12_back_57 : decode cX12_back 57 = .ok (.goto (-28), 3) := by decide +kernel
theorem dX12_back_60 : decode cX12_back 60 = .ok (.iconst 0, 1) := by decide +kernel
theorem dX12_back_61 : decode cX12_back 61 = .ok (.ireturn, 1) := by decide +kernel
theorem dX12_beats_0 : decode cX12_beats 0 = .ok (.aload_n 0, 1) := by decide +kernel
theorem dX12_beats_1 : decode cX12_beats 1 = .ok (.iload_n 1, 1) := by decide +kernel
theorem dX12_beats_2 : decode cX12_beats 2 = .ok (.i2l, 1) := by decide +kernel
theorem dX12_beats_3 : decode cX12_beats 3 = .ok (.invokevirtual 322, 3) := by decide +kernel
theorem dX12_beats_6 : decode cX12_beats 6 = .ok (.ifCond .eq 48, 3) := by decide +kernel
theorem dX12_beats_9 : decode cX12_beats 9 = .ok (.aload_n 0, 1) := by decide +kernel
theorem dX12_beats_10 : decode cX12_beats 10 = .ok (.iload_n 2, 1) := by decide +kernel
theorem dX12_beats_11 : decode cX12_beats 11 = .ok (.i2l, 1) := by decide +kernel
theorem dX12_beats_12 : decode cX12_beats 12 = .ok (.invokevirtual 322, 3) := by decide +kernel
theorem dX12_beats_15 : decode cX12_beats 15 = .ok (.ifCond .eq 39, 3) := by decide +kernel
theorem dX12_beats_18 : decode cX12_beats 18 = .ok (.iload_n 1, 1) := by decide +kernel
theorem dX12_beats_19 : decode cX12_beats 19 = .ok (.iload_n 2, 1) := by decide +kernel
theorem dX12_beats_20 : decode cX12_beats 20 = .ok (.if_icmp .eq 34, 3) := by decide +kernel
theorem dX12_beats_23 : decode cX12_beats 23 = .ok (.aload_n 0, 1) := by decide +kernel
theorem dX12_beats_24 : decode cX12_beats 24 = .ok (.iload_n 1, 1) := by decide +kernel
theorem dX12_beats_25 : decode cX12_beats 25 = .ok (.iconst 1, 1) := by decide +kernel
theorem dX12_beats_26 : decode cX12_beats 26 = .ok (.invokevirtual 262, 3) := by decide +kernel
theorem dX12_beats_29 : decode cX12_beats 29 = .ok (.aload_n 0, 1) := by decide +kernel
theorem dX12_beats_30 : decode cX12_beats 30 = .ok (.iload_n 2, 1) := by decide +kernel
theorem dX12_beats_31 : decode cX12_beats 31 = .ok (.iconst 1, 1) := by decide +kernel
theorem dX12_beats_32 : decode cX12_beats 32 = .ok (.invokevirtual 262, 3) := by decide +kernel
theorem dX12_beats_35 : decode cX12_beats 35 = .ok (.if_icmp .ne 19, 3) := by decide +kernel
theorem dX12_beats_38 : decode cX12_beats 38 = .ok (.aload_n 0, 1) := by decide +kernel
theorem dX12_beats_39 : decode cX12_beats 39 = .ok (.iload_n 1, 1) := by decide +kernel
theorem dX12_beats_40 : decode cX12_beats 40 = .ok (.invokevirtual 341, 3) := by decide +kernel
theorem dX12_beats_43 : decode cX12_beats 43 = .ok (.ifCond .ne 11, 3) := by decide +kernel
theorem dX12_beats_46 : decode cX12_beats 46 = .ok (.aload_n 0, 1) := by decide +kernel
theorem dX12_beats_47 : decode cX12_beats 47 = .ok (.iload_n 2, 1) := by decide +kernel
theorem dX12_beats_48 : decode cX12_beats 48 = .ok (.invokevirtual 341, 3) := by decide +kernel
theorem dX12_beats_51 : decode cX12_beats 51 = .ok (.ifCond .eq 6, 3) := by decide +kernel
theorem dX12_beats_54 : decode cX12_beats 54 = .ok (.bipush (-2), 2) := by decide +kernel
theorem dX12_beats_56 : decode cX12_beats 56 = .ok (.ireturn, 1) := by decide +kernel
theorem dX12_beats_57 : decode cX12_beats 57 = .ok (.aload_n 0, 1) := by decide +kernel
theorem dX12_beats_58 : decode cX12_beats 58 = .ok (.invokevirtual 335, 3) := by decide +kernel
theorem dX12_beats_61 : decode cX12_beats 61 = .ok (.aload_n 0, 1) := by decide +kernel
theorem dX12_beats_62 : decode cX12_beats 62 = .ok (.iload_n 1, 1) := by decide +kernel
theorem dX12_beats_63 : decode cX12_beats 63 = .ok (.iload_n 2, 1) := by decide +kernel
theorem dX12_beats_64 : decode cX12_beats 64 = .ok (.invokevirtual 344, 3) := by decide +kernel
theorem dX12_beats_67 : decode cX12_beats 67 = .ok (.ireturn, 1) := by decide +kernel
theorem dX12_beatsOf_0 : decode cX12_beatsOf 0 = .ok (.iconst 0, 1) := by decide +kernel
theorem dX12_beatsOf_1 : decode cX12_beatsOf 1 = .ok (.istore_n 3, 1) := by decide +kernel
theorem dX12_beatsOf_2 : decode cX12_beatsOf 2 = .ok (.iconst 0, 1) := by decide +kernel
theorem dX12_beatsOf_3 : decode cX12_beatsOf 3 = .ok (.istore 4, 2) := by decide +kernel
theorem dX12_beatsOf_5 : decode cX12_beatsOf 5 = .ok (.iload 4, 2) := by decide +kernel
theorem dX12_beatsOf_7 : decode cX12_beatsOf 7 = .ok (.aload_n 0, 1) := by decide +kernel
theorem dX12_beatsOf_8 : decode cX12_beatsOf 8 = .ok (.getfield 9, 3) := by decide +kernel
theorem dX12_beatsOf_11 : decode cX12_beatsOf 11 = .ok (.bipush 6, 2) := by decide +kernel
theorem dX12_beatsOf_13 : decode cX12_beatsOf 13 = .ok (.iaload, 1) := by decide +kernel
theorem dX12_beatsOf_14 : decode cX12_beatsOf 14 = .ok (.if_icmp .ge 70, 3) := by decide +kernel
theorem dX12_beatsOf_17 : decode cX12_beatsOf 17 = .ok (.iload_n 3, 1) := by decide +kernel
theorem dX12_beatsOf_18 : decode cX12_beatsOf 18 = .ok (.aload_n 0, 1) := by decide +kernel
theorem dX12_beatsOf_19 : decode cX12_beatsOf 19 = .ok (.getfield 34, 3) := by decide +kernel
theorem dX12_beatsOf_22 : decode cX12_beatsOf 22 = .ok (.iload 4, 2) := by decide +kernel
theorem dX12_beatsOf_24 : decode cX12_beatsOf 24 = .ok (.iaload, 1) := by decide +kernel
theorem dX12_beatsOf_25 : decode cX12_beatsOf 25 = .ok (.aload_n 0, 1) := by decide +kernel
theorem dX12_beatsOf_26 : decode cX12_beatsOf 26 = .ok (.iload_n 1, 1) := by decide +kernel
theorem dX12_beatsOf_27 : decode cX12_beatsOf 27 = .ok (.iconst 1, 1) := by decide +kernel
theorem dX12_beatsOf_28 : decode cX12_beatsOf 28 = .ok (.invokevirtual 262, 3) := by decide +kernel
theorem dX12_beatsOf_31 : decode cX12_beatsOf 31 = .ok (.if_icmp .ne 44, 3) := by decide +kernel
theorem dX12_beatsOf_34 : decode cX12_beatsOf 34 = .ok (.aload_n 0, 1) := by decide +kernel
theorem dX12_beatsOf_35 : decode cX12_beatsOf 35 = .ok (.iload 4, 2) := by decide +kernel
theorem dX12_beatsOf_37 : decode cX12_beatsOf 37 = .ok (.iload_n 1, 1) := by decide +kernel
theorem dX12_beatsOf_38 : decode cX12_beatsOf 38 = .ok (.invokevirtual 278, 3) := by decide +kernel
theorem dX12_beatsOf_41 : decode cX12_beatsOf 41 = .ok (.ifCond .eq 34, 3) := by decide +kernel
theorem dX12_beatsOf_44 : decode cX12_beatsOf 44 = .ok (.aload_n 0, 1) := by decide +kernel
theorem dX12_beatsOf_45 : decode cX12_beatsOf 45 = .ok (.iload 4, 2) := by decide +kernel
theorem dX12_beatsOf_47 : decode cX12_beatsOf 47 = .ok (.iload_n 2, 1) := by decide +kernel
theorem dX12_beatsOf_48 : decode cX12_beatsOf 48 = .ok (.invokevirtual 278, 3) := by decide +kernel
theorem dX12_beatsOf_51 : decode cX12_beatsOf 51 = .ok (.ifCond .eq 14, 3) := by decide +kernel
theorem dX12_beatsOf_54 : decode cX12_beatsOf 54 = .ok (.aload_n 0, 1) := by decide +kernel
theorem dX12_beatsOf_55 : decode cX12_beatsOf 55 = .ok (.iload 4, 2) := by decide +kernel
theorem dX12_beatsOf_57 : decode cX12_beatsOf 57 = .ok (.iload_n 1, 1) := by decide +kernel
theorem dX12_beatsOf_58 : decode cX12_beatsOf 58 = .ok (.iload_n 2, 1) := by decide +kernel
theorem dX12_beatsOf_59 : decode cX12_beatsOf 59 = .ok (.invokevirtual 281, 3) := by decide +kernel
theorem dX12_beatsOf_62 : decode cX12_beatsOf 62 = .ok (.ifCond .eq 13, 3) := by decide +kernel
theorem dX12_beatsOf_65 : decode cX12_beatsOf 65 = .ok (.aload_n 0, 1) := by decide +kernel
theorem dX12_beatsOf_66 : decode cX12_beatsOf 66 = .ok (.iload 4, 2) := by decide +kernel
theorem dX12_beatsOf_68 : decode cX12_beatsOf 68 = .ok (.iconst 1, 1) := by decide +kernel
theorem dX12_beatsOf_69 : decode cX12_beatsOf 69 = .ok (.invokevirtual 259, 3) := by decide +kernel
theorem dX12_beatsOf_72 : decode cX12_beatsOf 72 = .ok (.goto 4, 3) := by decide +kernel
theorem dX12_beatsOf_75 : decode cX12_beatsOf 75 = .ok (.iconst 0, 1) := by decide +kernel
theorem dX12_beatsOf_76 : decode cX12_beatsOf 76 = .ok (.iadd, 1) := by decide +kernel
theorem dX12_beatsOf_77 : decode cX12_beatsOf 77 = .ok (.istore_n 3, 1) := by decide +kernel
theorem dX12_beatsOf_78 : decode cX12_beatsOf 78 = .ok (.iinc 4 1, 3) := by decide +kernel
theorem dX12_beatsOf_81 : decode cX12_beatsOf 81 = .ok (.goto (-76), 3) := by decide +kernel
theorem dX12_beatsOf_84 : decode cX12_beatsOf 84 = .ok (.iload_n 3, 1) := by decide +kernel
theorem dX12_beatsOf_85 : decode cX12_beatsOf 85 = .ok (.ireturn, 1) := by decide +kernel
theorem dX12_best_0 : decode cX12_best 0 = .ok (.aload_n 0, 1) := by decide +kernel
theorem dX12_best_1 : decode cX12_best 1 = .ok (.iload_n 1, 1) := by decide +kernel
theorem dX12_best_2 : decode cX12_best 2 = .ok (.invokevirtual 332, 3) := by decide +kernel
theorem dX12_best_5 : decode cX12_best 5 = .ok (.ifCond .ne 6, 3) := by decide +kernel
theorem dX12_best_8 : decode cX12_best 8 = .ok (.bipush (-2), 2) := by decide +kernel
theorem dX12_best_10 : decode cX12_best 10 = .ok (.ireturn, 1) := by decide +kernel
theorem dX12_best_11 : decode cX12_best 11 = .ok (.aload_n 0, 1) := by decide +kernel
theorem dX12_best_12 : decode cX12_best 12 = .ok (.invokevirtual 335, 3) := by decide +kernel
theorem dX12_best_15 : decode cX12_best 15 = .ok (.aload_n 0, 1) := by decide +kernel
theorem dX12_best_16 : decode cX12_best 16 = .ok (.iload_n 1, 1) := by decide +kernel
theorem dX12_best_17 : decode cX12_best 17 = .ok (.invokevirtual 304, 3) := by decide +kernel
theorem dX12_best_20 : decode cX12_best 20 = .ok (.istore_n 2, 1) := by decide +kernel
theorem dX12_best_21 : decode cX12_best 21 = .ok (.iconst 0, 1) := by decide +kernel
theorem dX12_best_22 : decode cX12_best 22 = .ok (.istore_n 3, 1) := by decide +kernel
theorem dX12_best_23 : decode cX12_best 23 = .ok (.iload_n 3, 1) := by decide +kernel
theorem dX12_best_24 : decode cX12_best 24 = .ok (.aload_n 0, 1) := by decide +kernel
theorem dX12_best_25 : decode cX12_best 25 = .ok (.getfield 9, 3) := by decide +kernel
theorem dX12_best_28 : decode cX12_best 28 = .ok (.iconst 5, 1) := by decide +kernel
theorem dX12_best_29 : decode cX12_best 29 = .ok (.iaload, 1) := by decide +kernel
theorem dX12_best_30 : decode cX12_best 30 = .ok (.if_icmp .ge 96, 3) := by decide +kernel
theorem dX12_best_33 : decode cX12_best 33 = .ok (.iload_n 2, 1) := by decide +kernel
theorem dX12_best_34 : decode cX12_best 34 = .ok (.iload_n 3, 1) := by decide +kernel
theorem dX12_best_35 : decode cX12_best 35 = .ok (.invokestatic 88, 3) := by decide +kernel
theorem dX12_best_38 : decode cX12_best 38 = .ok (.iconst 1, 1) := by decide +kernel
theorem dX12_best_39 : decode cX12_best 39 = .ok (.if_icmp .ne 7, 3) := by decide +kernel
theorem dX12_best_42 : decode cX12_best 42 = .ok (.iconst 1, 1) := by decide +kernel
theorem dX12_best_43 : decode cX12_best 43 = .ok (.goto 4, 3) := by decide +kernel
theorem dX12_best_46 : decode cX12_best 46 = .ok (.iconst 0, 1) := by decide +kernel
theorem dX12_best_47 : decode cX12_best 47 = .ok (.istore 4, 2) := by decide +kernel
theorem dX12_best_49 : decode cX12_best 49 = .ok (.iconst 0, 1) := by decide +kernel
theorem dX12_best_50 : decode cX12_best 50 = .ok (.istore 5, 2) := by decide +kernel
theorem dX12_best_52 : decode cX12_best 52 = .ok (.iload 5, 2) := by decide +kernel
theorem dX12_best_54 : decode cX12_best 54 = .ok (.aload_n 0, 1) := by decide +kernel
theorem dX12_best_55 : decode cX12_best 55 = .ok (.getfield 9, 3) := by decide +kernel
theorem dX12_best_58 : decode cX12_best 58 = .ok (.iconst 5, 1) := by decide +kernel
theorem dX12_best_59 : decode cX12_best 59 = .ok (.iaload, 1) := by decide +kernel
theorem dX12_best_60 : decode cX12_best 60 = .ok (.if_icmp .ge 53, 3) := by decide +kernel
theorem dX12_best_63 : decode cX12_best 63 = .ok (.iload 4, 2) := by decide +kernel
theorem dX12_best_65 : decode cX12_best 65 = .ok (.ifCond .eq 48, 3) := by decide +kernel
theorem dX12_best_68 : decode cX12_best 68 = .ok (.iload 5, 2) := by decide +kernel
theorem dX12_best_70 : decode cX12_best 70 = .ok (.iload_n 3, 1) := by decide +kernel
theorem dX12_best_71 : decode cX12_best 71 = .ok (.if_icmp .eq 29, 3) := by decide +kernel
theorem dX12_best_74 : decode cX12_best 74 = .ok (.iload_n 2, 1) := by decide +kernel
theorem dX12_best_75 : decode cX12_best 75 = .ok (.iload 5, 2) := by decide +kernel
theorem dX12_best_77 : decode cX12_best 77 = .ok (.invokestatic 88, 3) := by decide +kernel
theorem dX12_best_80 : decode cX12_best 80 = .ok (.ifCond .eq 20, 3) := by decide +kernel
theorem dX12_best_83 : decode cX12_best 83 = .ok (.aload_n 0, 1) := by decide +kernel
theorem dX12_best_84 : decode cX12_best 84 = .ok (.iload_n 3, 1) := by decide +kernel
theorem dX12_best_85 : decode cX12_best 85 = .ok (.iload 5, 2) := by decide +kernel
theorem dX12_best_87 : decode cX12_best 87 = .ok (.invokevirtual 344, 3) := by decide +kernel
theorem dX12_best_90 : decode cX12_best 90 = .ok (.aload_n 0, 1) := by decide +kernel
theorem dX12_best_91 : decode cX12_best 91 = .ok (.iload 5, 2) := by decide +kernel
theorem dX12_best_93 : decode cX12_best 93 = .ok (.iload_n 3, 1) := by decide +kernel
theorem dX12_best_94 : decode cX12_best 94 = .ok (.invokevirtual 344, 3) := by decide +kernel
theorem dX12_best_97 : decode cX12_best 97 = .ok (.if_icmp .le 7, 3) := by decide +kernel
theorem dX12_best_100 : decode cX12_best 100 = .ok (.iconst 1, 1) := by decide +kernel
theorem dX12_best_101 : decode cX12_best 101 = .ok (.goto 4, 3) := by decide +kernel
theorem dX12_best_104 : decode cX12_best 104 = .ok (.iconst 0, 1) := by decide +kernel
theorem dX12_best_105 : decode cX12_best 105 = .ok (.istore 4, 2) := by decide +kernel
theorem dX12_best_107 : decode cX12_best 107 = .ok (.iinc 5 1, 3) := by decide +kernel
theorem dX12_best_110 : decode cX12_best 110 = .ok (.goto (-58), 3) := by decide +kernel
theorem dX12_best_113 : decode cX12_best 113 = .ok (.iload 4, 2) := by decide +kernel
theorem dX12_best_115 : decode cX12_best 115 = .ok (.ifCond .eq 5, 3) := by decide +kernel
theorem dX12_best_118 : decode cX12_best 118 = .ok (.iload_n 3, 1) := by decide +kernel
theorem dX12_best_119 : decode cX12_best 119 = .ok (.ireturn, 1) := by decide +kernel
theorem dX12_best_120 : decode cX12_best 120 = .ok (.iinc 3 1, 3) := by decide +kernel
theorem dX12_best_123 : decode cX12_best 123 = .ok (.goto (-100), 3) := by decide +kernel
theorem dX12_best_126 : decode cX12_best 126 = .ok (.iconst (-1), 1) := by decide +kernel
theorem dX12_best_127 : decode cX12_best 127 = .ok (.ireturn, 1) := by decide +kernel
theorem dX12_bill_0 : decode cX12_bill 0 = .ok (.aload_n 0, 1) := by decide +kernel
theorem dX12_bill_1 : decode cX12_bill 1 = .ok (.invokevirtual 347, 3) := by decide +kernel
theorem dX12_bill_4 : decode cX12_bill 4 = .ok (.ifCond .eq 57, 3) := by decide +kernel
theorem dX12_bill_7 : decode cX12_bill 7 = .ok (.iload_n 1, 1) := by decide +kernel
theorem dX12_bill_8 : decode cX12_bill 8 = .ok (.i2l, 1) := by decide +kernel
theorem dX12_bill_9 : decode cX12_bill 9 = .ok (.lconst 0, 1) := by decide +kernel
theorem dX12_bill_10 : decode cX12_bill 10 = .ok (.ldc2_w 80, 3) := by decide +kernel
theorem dX12_bill_13 : decode cX12_bill 13 = .ok (.invokestatic 82, 3) := by decide +kernel
theorem dX12_bill_16 : decode cX12_bill 16 = .ok (.ifCond .eq 45, 3) := by decide +kernel
theorem dX12_bill_19 : decode cX12_bill 19 = .ok (.iload_n 2, 1) := by decide +kernel
theorem dX12_bill_20 : decode cX12_bill 20 = .ok (.i2l, 1) := by decide +kernel
theorem dX12_bill_21 : decode cX12_bill 21 = .ok (.iload_n 1, 1) := by decide +kernel
theorem dX12_bill_22 : decode cX12_bill 22 = .ok (.iconst 2, 1) := by decide +kernel
theorem dX12_bill_23 : decode cX12_bill 23 = .ok (.if_icmp .ne 7, 3) := by decide +kernel
theorem dX12_bill_26 : decode cX12_bill 26 = .ok (.lconst 1, 1) := by decide +kernel
theorem dX12_bill_27 : decode cX12_bill 27 = .ok (.goto 4, 3) := by decide +kernel
theorem dX12_bill_30 : decode cX12_bill 30 = .ok (.lconst 0, 1) := by decide +kernel
theorem dX12_bill_31 : decode cX12_bill 31 = .ok (.iload_n 1, 1) := by decide +kernel
theorem dX12_bill_32 : decode cX12_bill 32 = .ok (.ifCond .ne 9, 3) := by decide +kernel
theorem dX12_bill_35 : decode cX12_bill 35 = .ok (.ldc2_w 86, 3) := by decide +kernel
theorem dX12_bill_38 : decode cX12_bill 38 = .ok (.goto 17, 3) := by decide +kernel
theorem dX12_bill_41 : decode cX12_bill 41 = .ok (.iload_n 1, 1) := by decide +kernel
theorem dX12_bill_42 : decode cX12_bill 42 = .ok (.iconst 1, 1) := by decide +kernel
theorem dX12_bill_43 : decode cX12_bill 43 = .ok (.if_icmp .ne 9, 3) := by decide +kernel
theorem dX12_bill_46 : decode cX12_bill 46 = .ok (.ldc2_w 464, 3) := by decide +kernel
theorem dX12_bill_49 : decode cX12_bill 49 = .ok (.goto 6, 3) := by decide +kernel
theorem dX12_bill_52 : decode cX12_bill 52 = .ok (.ldc2_w 446, 3) := by decide +kernel
theorem dX12_bill_55 : decode cX12_bill 55 = .ok (.invokestatic 82, 3) := by decide +kernel
theorem dX12_bill_58 : decode cX12_bill 58 = .ok (.ifCond .ne 6, 3) := by decide +kernel
theorem dX12_bill_61 : decode cX12_bill 61 = .ok (.bipush (-2), 2) := by decide +kernel
theorem dX12_bill_63 : decode cX12_bill 63 = .ok (.ireturn, 1) := by decide +kernel
theorem dX12_bill_64 : decode cX12_bill 64 = .ok (.aload_n 0, 1) := by decide +kernel
theorem dX12_bill_65 : decode cX12_bill 65 = .ok (.getfield 9, 3) := by decide +kernel
theorem dX12_bill_68 : decode cX12_bill 68 = .ok (.iconst 1, 1) := by decide +kernel
theorem dX12_bill_69 : decode cX12_bill 69 = .ok (.iload_n 1, 1) := by decide +kernel
theorem dX12_bill_70 : decode cX12_bill 70 = .ok (.iadd, 1) := by decide +kernel
theorem dX12_bill_71 : decode cX12_bill 71 = .ok (.iaload, 1) := by decide +kernel
theorem dX12_bill_72 : decode cX12_bill 72 = .ok (.istore_n 3, 1) := by decide +kernel
theorem dX12_bill_73 : decode cX12_bill 73 = .ok (.aload_n 0, 1) := by decide +kernel
theorem dX12_bill_74 : decode cX12_bill 74 = .ok (.getfield 9, 3) := by decide +kernel
theorem dX12_bill_77 : decode cX12_bill 77 = .ok (.iconst 1, 1) := by decide +kernel
theorem dX12_bill_78 : decode cX12_bill 78 = .ok (.iload_n 1, 1) := by decide +kernel
theorem dX12_bill_79 : decode cX12_bill 79 = .ok (.iadd, 1) := by decide +kernel
theorem dX12_bill_80 : decode cX12_bill 80 = .ok (.iload_n 2, 1) := by decide +kernel
theorem dX12_bill_81 : decode cX12_bill 81 = .ok (.iastore, 1) := by decide +kernel
theorem dX12_bill_82 : decode cX12_bill 82 = .ok (.iload_n 3, 1) := by decide +kernel
theorem dX12_bill_83 : decode cX12_bill 83 = .ok (.ireturn, 1) := by decide +kernel
theorem dX12_bit_0 : decode cX12_bit 0 = .ok (.iload_n 0, 1) := by decide +kernel
theorem dX12_bit_1 : decode cX12_bit 1 = .ok (.iload_n 1, 1) := by decide +kernel
theorem dX12_bit_2 : decode cX12_bit 2 = .ok (.ishr, 1) := by decide +kernel
theorem dX12_bit_3 : decode cX12_bit 3 = .ok (.iconst 1, 1) := by decide +kernel
theorem dX12_bit_4 : decode cX12_bit 4 = .ok (.iand, 1) := by decide +kernel
theorem dX12_bit_5 : decode cX12_bit 5 = .ok (.ireturn, 1) := by decide +kernel
theorem dX12_bits_0 : decode cX12_bits 0 = .ok (.iconst 0, 1) := by decide +kernel
theorem dX12_bits_1 : decode cX12_bits 1 = .ok (.istore_n 1, 1) := by decide +kernel
theorem dX12_bits_2 : decode cX12_bits 2 = .ok (.iconst 0, 1) := by decide +kernel
theorem dX12_bits_3 : decode cX12_bits 3 = .ok (.istore_n 2, 1) := by decide +kernel
theorem dX12_bits_4 : decode cX12_bits 4 = .ok (.iload_n 2, 1) := by decide +kernel
theorem dX12_bits_5 : decode cX12_bits 5 = .ok (.bipush 9, 2) := by decide +kernel
theorem dX12_bits_7 : decode cX12_bits 7 = .ok (.if_icmp .ge 17, 3) := by decide +kernel
theorem dX12_bits_10 : decode cX12_bits 10 = .ok (.iload_n 1, 1) := by decide +kernel
theorem dX12_bits_11 : decode cX12_bits 11 = .ok (.iload_n 0, 1) := by decide +kernel
theorem dX12_bits_12 : decode cX12_bits 12 = .ok (.iload_n 2, 1) := by decide +kernel
theorem dX12_bits_13 : decode cX12_bits 13 = .ok (.ishr, 1) := by decide +kernel
theorem dX12_bits_14 : decode cX12_bits 14 = .ok (.iconst 1, 1) := by decide +kernel
theorem dX12_bits_15 : decode cX12_bits 15 = .ok (.iand, 1) := by decide +kernel
theorem dX12_bits_16 : decode cX12_bits 16 = .ok (.iadd, 1) := by decide +kernel
theorem dX12_bits_17 : decode cX12_bits 17 = .ok (.istore_n 1, 1) := by decide +kernel
theorem dX12_bits_18 : decode cX12_bits 18 = .ok (.iinc 2 1, 3) := by decide +kernel
theorem dX12_bits_21 : decode cX12_bits 21 = .ok (.goto (-17), 3) := by decide +kernel
theorem dX12_bits_24 : decode cX12_bits 24 = .ok (.iload_n 1, 1) := by decide +kernel
theorem dX12_bits_25 : decode cX12_bits 25 = .ok (.ireturn, 1) := by decide +kernel
theorem dX12_breaks_0 : decode cX12_breaks 0 = .ok (.aload_n 0, 1) := by decide +kernel
theorem dX12_breaks_1 : decode cX12_breaks 1 = .ok (.iload_n 1, 1) := by decide +kernel
theorem dX12_breaks_2 : decode cX12_breaks 2 = .ok (.invokevirtual 416, 3) := by decide +kernel
theorem dX12_breaks_5 : decode cX12_breaks 5 = .ok (.ifCond .ne 6, 3) := by decide +kernel
theorem dX12_breaks_8 : decode cX12_breaks 8 = .ok (.bipush (-2), 2) := by decide +kernel
theorem dX12_breaks_10 : decode cX12_breaks 10 = .ok (.ireturn, 1) := by decide +kernel
theorem dX12_breaks_11 : decode cX12_breaks 11 = .ok (.aload_n 0, 1) := by decide +kernel
theorem dX12_breaks_12 : decode cX12_breaks 12 = .ok (.iload_n 1, 1) := by decide +kernel
theorem dX12_breaks_13 : decode cX12_breaks 13 = .ok (.invokevirtual 419, 3) := by decide +kernel
theorem dX12_breaks_16 : decode cX12_breaks 16 = .ok (.ifCond .ne 5, 3) := by decide +kernel
theorem dX12_breaks_19 : decode cX12_breaks 19 = .ok (.iconst 0, 1) := by decide +kernel
theorem dX12_breaks_20 : decode cX12_breaks 20 = .ok (.ireturn, 1) := by decide +kernel
theorem dX12_breaks_21 : decode cX12_breaks 21 = .ok (.iconst 0, 1) := by decide +kernel
theorem dX12_breaks_22 : decode cX12_breaks 22 = .ok (.istore_n 2, 1) := by decide +kernel
theorem dX12_breaks_23 : decode cX12_breaks 23 = .ok (.iconst 0, 1) := by decide +kernel
theorem dX12_breaks_24 : decode cX12_breaks 24 = .ok (.istore_n 3, 1) := by decide +kernel
theorem dX12_breaks_25 : decode cX12_breaks 25 = .ok (.iload_n 3, 1) := by decide +kernel
theorem dX12_breaks_26 : decode cX12_breaks 26 = .ok (.iconst 4, 1) := by decide +kernel
theorem dX12_breaks_27 : decode cX12_breaks 27 = .ok (.if_icmp .ge 42, 3) := by decide +kernel
theorem dX12_breaks_30 : decode cX12_breaks 30 = .ok (.iload_n 2, 1) := by decide +kernel
theorem dX12_breaks_31 : decode cX12_breaks 31 = .ok (.iload_n 1, 1) := by decide +kernel
theorem dX12_breaks_32 : decode cX12_breaks 32 = .ok (.iload_n 3, 1) := by decide +kernel
theorem dX12_breaks_33 : decode cX12_breaks 33 = .ok (.invokestatic 88, 3) := by decide +kernel
theorem dX12_breaks_36 : decode cX12_breaks 36 = .ok (.iconst 1, 1) := by decide +kernel
theorem dX12_breaks_37 : decode cX12_breaks 37 = .ok (.if_icmp .ne 23, 3) := by decide +kernel
theorem dX12_breaks_40 : decode cX12_breaks 40 = .ok (.aload_n 0, 1) := by decide +kernel
theorem dX12_breaks_41 : decode cX12_breaks 41 = .ok (.iload_n 1, 1) := by decide +kernel
theorem dX12_breaks_42 : decode cX12_breaks 42 = .ok (.iconst 1, 1) := by decide +kernel
theorem dX12_breaks_43 : decode cX12_breaks 43 = .ok (.iload_n 3, 1) := by decide +kernel
theorem dX12_breaks_44 : decode cX12_breaks 44 = .ok (.ishl, 1) := by decide +kernel
theorem dX12_breaks_45 : decode cX12_breaks 45 = .ok (.iconst (-1), 1) := by decide +kernel
theorem dX12_breaks_46 : decode cX12_breaks 46 = .ok (.ixor, 1) := by decide +kernel
theorem dX12_breaks_47 : decode cX12_breaks 47 = .ok (.iand, 1) := by decide +kernel
theorem dX12_breaks_48 : decode cX12_breaks 48 = .ok (.invokevirtual 419, 3) := by decide +kernel
theorem dX12_breaks_51 : decode cX12_breaks 51 = .ok (.ifCond .ne 9, 3) := by decide +kernel
theorem dX12_breaks_54 : decode cX12_breaks 54 = .ok (.iconst 1, 1) := by decide +kernel
theorem dX12_breaks_55 : decode cX12_breaks 55 = .ok (.iload_n 3, 1) := by decide +kernel
theorem dX12_breaks_56 : decode cX12_breaks 56 = .ok (.ishl, 1) := by decide +kernel
theorem dX12_breaks_57 : decode cX12_breaks 57 = .ok (.goto 4, 3) := by decide +kernel
theorem dX12_breaks_60 : decode cX12_breaks 60 = .ok (.iconst 0, 1) := by decide +kernel
theorem dX12_breaks_61 : decode cX12_breaks 61 = .ok (.ior, 1) := by decide +kernel
theorem dX12_breaks_62 : decode cX12_breaks 62 = .ok (.istore_n 2, 1) := by decide +kernel
theorem dX12_breaks_63 : decode cX12_breaks 63 = .ok (.iinc 3 1, 3) := by decide +kernel
theorem dX12_breaks_66 : decode cX12_breaks 66 = .ok (.goto (-41), 3) := by decide +kernel
theorem dX12_breaks_69 : decode cX12_breaks 69 = .ok (.iload_n 2, 1) := by decide +kernel
theorem dX12_breaks_70 : decode cX12_breaks 70 = .ok (.ireturn, 1) := by decide +kernel
theorem dX12_by_0 : decode cX12_by 0 = .ok (.aload_n 0, 1) := by decide +kernel
theorem dX12_by_1 : decode cX12_by 1 = .ok (.invokevirtual 347, 3) := by decide +kernel
theorem dX12_by_4 : decode cX12_by 4 = .ok (.ifCond .eq 25, 3) := by decide +kernel
theorem dX12_by_7 : decode cX12_by 7 = .ok (.iload_n 1, 1) := by decide +kernel
theorem dX12_by_8 : decode cX12_by 8 = .ok (.i2l, 1) := by decide +kernel
theorem dX12_by_9 : decode cX12_by 9 = .ok (.lconst 0, 1) := by decide +kernel
theorem dX12_by_10 : decode cX12_by 10 = .ok (.aload_n 0, 1) := by decide +kernel
theorem dX12_by_11 : decode cX12_by 11 = .ok (.invokevirtual 92, 3) := by decide +kernel
theorem dX12_by_14 : decode cX12_by 14 = .ok (.i2l, 1) := by decide +kernel
theorem dX12_by_15 : decode cX12_by 15 = .ok (.invokestatic 82, 3) := by decide +kernel
theorem dX12_by_18 : decode cX12_by 18 = .ok (.ifCond .eq 11, 3) := by decide +kernel
theorem dX12_by_21 : decode cX12_by 21 = .ok (.aload_n 0, 1) := by decide +kernel
theorem dX12_by_22 : decode cX12_by 22 = .ok (.iload_n 1, 1) := by decide +kernel
theorem dX12_by_23 : decode cX12_by 23 = .ok (.invokevirtual 378, 3) := by decide +kernel
theorem dX12_by_26 : decode cX12_by 26 = .ok (.goto 5, 3) := by decide +kernel
theorem dX12_by_29 : decode cX12_by 29 = .ok (.bipush (-2), 2) := by decide +kernel
theorem dX12_by_31 : decode cX12_by 31 = .ok (.ireturn, 1) := by decide +kernel
theorem dX12_byRound_0 : decode cX12_byRound 0 = .ok (.aload_n 0, 1) := by decide +kernel
theorem dX12_byRound_1 : decode cX12_byRound 1 = .ok (.getfield 52, 3) := by decide +kernel
theorem dX12_byRound_4 : decode cX12_byRound 4 = .ok (.aload_n 0, 1) := by decide +kernel
theorem dX12_byRound_5 : decode cX12_byRound 5 = .ok (.getfield 9, 3) := by decide +kernel
theorem dX12_byRound_8 : decode cX12_byRound 8 = .ok (.bipush 88, 2) := by decide +kernel
theorem dX12_byRound_10 : decode cX12_byRound 10 = .ok (.iconst 3, 1) := by decide +kernel
theorem dX12_byRound_11 : decode cX12_byRound 11 = .ok (.iload_n 1, 1) := by decide +kernel
theorem dX12_byRound_12 : decode cX12_byRound 12 = .ok (.imul, 1) := by decide +kernel
theorem dX12_byRound_13 : decode cX12_byRound 13 = .ok (.iadd, 1) := by decide +kernel
theorem dX12_byRound_14 : decode cX12_byRound 14 = .ok (.iconst 1, 1) := by decide +kernel
theorem dX12_byRound_15 : decode cX12_byRound 15 = .ok (.iadd, 1) := by decide +kernel
theorem dX12_byRound_16 : decode cX12_byRound 16 = .ok (.iaload, 1) := by decide +kernel
theorem dX12_byRound_17 : decode cX12_byRound 17 = .ok (.iaload, 1) := by decide +kernel
theorem dX12_byRound_18 : decode cX12_byRound 18 = .ok (.aload_n 0, 1) := by decide +kernel
theorem dX12_byRound_19 : decode cX12_byRound 19 = .ok (.getfield 52, 3) := by decide +kernel
theorem dX12_byRound_22 : decode cX12_byRound 22 = .ok (.aload_n 0, 1) := by decide +kernel
theorem dX12_byRound_23 : decode cX12_byRound 23 = .ok (.getfield 9, 3) := by decide +kernel
theorem dX12_byRound_26 : decode cX12_byRound 26 = .ok (.bipush 88, 2) := by decide +kernel
theorem dX12_byRound_28 : decode cX12_byRound 28 = .ok (.iconst 3, 1) := by decide +kernel
theorem dX12_byRound_29 : decode cX12_byRound 29 = .ok (.iload_n 1, 1) := by decide +kernel
theorem dX12_byRound_30 : decode cX12_byRound 30 = .ok (.imul, 1) := by decide +kernel
theorem dX12_byRound_31 : decode cX12_byRound 31 = .ok (.iadd, 1) := by decide +kernel
theorem dX12_byRound_32 : decode cX12_byRound 32 = .ok (.iconst 2, 1) := by decide +kernel
theorem dX12_byRound_33 : decode cX12_byRound 33 = .ok (.iadd, 1) := by decide +kernel
theorem dX12_byRound_34 : decode cX12_byRound 34 = .ok (.iaload, 1) := by decide +kernel
theorem dX12_byRound_35 : decode cX12_byRound 35 = .ok (.iaload, 1) := by decide +kernel
theorem dX12_byRound_36 : decode cX12_byRound 36 = .ok (.iadd, 1) := by decide +kernel
theorem dX12_byRound_37 : decode cX12_byRound 37 = .ok (.iconst 1, 1) := by decide +kernel
theorem dX12_byRound_38 : decode cX12_byRound 38 = .ok (.iadd, 1) := by decide +kernel
theorem dX12_byRound_39 : decode cX12_byRound 39 = .ok (.ireturn, 1) := by decide +kernel
theorem dX12_canRig_0 : decode cX12_canRig 0 = .ok (.aload_n 0, 1) := by decide +kernel
theorem dX12_canRig_1 : decode cX12_canRig 1 = .ok (.getfield 9, 3) := by decide +kernel
theorem dX12_canRig_4 : decode cX12_canRig 4 = .ok (.bipush 6, 2) := by decide +kernel
theorem dX12_canRig_6 : decode cX12_canRig 6 = .ok (.iaload, 1) := by decide +kernel
theorem dX12_canRig_7 : decode cX12_canRig 7 = .ok (.aload_n 0, 1) := by decide +kernel
theorem dX12_canRig_8 : decode cX12_canRig 8 = .ok (.getfield 9, 3) := by decide +kernel
theorem dX12_canRig_11 : decode cX12_canRig 11 = .ok (.iconst 4, 1) := by decide +kernel
theorem dX12_canRig_12 : decode cX12_canRig 12 = .ok (.iaload, 1) := by decide +kernel
theorem dX12_canRig_13 : decode cX12_canRig 13 = .ok (.if_icmp .lt 19, 3) := by decide +kernel
theorem dX12_canRig_16 : decode cX12_canRig 16 = .ok (.aload_n 0, 1) := by decide +kernel
theorem dX12_canRig_17 : decode cX12_canRig 17 = .ok (.getfield 9, 3) := by decide +kernel
theorem dX12_canRig_20 : decode cX12_canRig 20 = .ok (.bipush 6, 2) := by decide +kernel
theorem dX12_canRig_22 : decode cX12_canRig 22 = .ok (.iaload, 1) := by decide +kernel
theorem dX12_canRig_23 : decode cX12_canRig 23 = .ok (.bipush 6, 2) := by decide +kernel
theorem dX12_canRig_25 : decode cX12_canRig 25 = .ok (.if_icmp .gt 7, 3) := by decide +kernel
theorem dX12_canRig_28 : decode cX12_canRig 28 = .ok (.iconst 1, 1) := by decide +kernel
theorem dX12_canRig_29 : decode cX12_canRig 29 = .ok (.goto 4, 3) := by decide +kernel
theorem dX12_canRig_32 : decode cX12_canRig 32 = .ok (.iconst 0, 1) := by decide +kernel
theorem dX12_canRig_33 : decode cX12_canRig 33 = .ok (.ireturn, 1) := by decide +kernel
theorem dX12_chamber_0 : decode cX12_chamber 0 = .ok (.aload_n 0, 1) := by decide +kernel
theorem dX12_chamber_1 : decode cX12_chamber 1 = .ok (.aload_n 0, 1) := by decide +kernel
theorem dX12_chamber_2 : decode cX12_chamber 2 = .ok (.getfield 96, 3) := by decide +kernel
theorem dX12_chamber_5 : decode cX12_chamber 5 = .ok (.putfield 99, 3) := by decide +kernel
theorem dX12_chamber_8 : decode cX12_chamber 8 = .ok (.aload_n 0, 1) := by decide +kernel
theorem dX12_chamber_9 : decode cX12_chamber 9 = .ok (.iconst 0, 1) := by decide +kernel
theorem dX12_chamber_10 : decode cX12_chamber 10 = .ok (.putfield 96, 3) := by decide +kernel
theorem dX12_chamber_13 : decode cX12_chamber 13 = .ok (.aload_n 0, 1) := by decide +kernel
theorem dX12_chamber_14 : decode cX12_chamber 14 = .ok (.iconst 0, 1) := by decide +kernel
theorem dX12_chamber_15 : decode cX12_chamber 15 = .ok (.putfield 102, 3) := by decide +kernel
theorem dX12_chamber_18 : decode cX12_chamber 18 = .ok (.aload_n 0, 1) := by decide +kernel
theorem dX12_chamber_19 : decode cX12_chamber 19 = .ok (.iconst 0, 1) := by decide +kernel
theorem dX12_chamber_20 : decode cX12_chamber 20 = .ok (.putfield 132, 3) := by decide +kernel
theorem dX12_chamber_23 : decode cX12_chamber 23 = .ok (.aload_n 0, 1) := by decide +kernel
theorem dX12_chamber_24 : decode cX12_chamber 24 = .ok (.iconst (-1), 1) := by decide +kernel
theorem dX12_chamber_25 : decode cX12_chamber 25 = .ok (.putfield 27, 3) := by decide +kernel
theorem dX12_chamber_28 : decode cX12_chamber 28 = .ok (.iconst 0, 1) := by decide +kernel
theorem dX12_chamber_29 : decode cX12_chamber 29 = .ok (.istore_n 1, 1) := by decide +kernel
theorem dX12_chamber_30 : decode cX12_chamber 30 = .ok (.iload_n 1, 1) := by decide +kernel
theorem dX12_chamber_31 : decode cX12_chamber 31 = .ok (.sipush 841, 3) := by decide +kernel
theorem dX12_chamber_34 : decode cX12_chamber 34 = .ok (.if_icmp .ge 16, 3) := by decide +kernel
theorem dX12_chamber_37 : decode cX12_chamber 37 = .ok (.aload_n 0, 1) := by decide +kernel
theorem dX12_chamber_38 : decode cX12_chamber 38 = .ok (.getfield 31, 3) := by decide +kernel
theorem dX12_chamber_41 : decode cX12_chamber 41 = .ok (.iload_n 1, 1) := by decide +kernel
theorem dX12_chamber_42 : decode cX12_chamber 42 = .ok (.iconst 0, 1) := by decide +kernel
theorem dX12_chamber_43 : decode cX12_chamber 43 = .ok (.iastore, 1) := by decide +kernel
theorem dX12_chamber_44 : decode cX12_chamber 44 = .ok (.iinc 1 1, 3) := by decide +kernel
theorem dX12_chamber_47 : decode cX12_chamber 47 = .ok (.goto (-17), 3) := by decide +kernel
theorem dX12_chamber_50 : decode cX12_chamber 50 = .ok (.aload_n 0, 1) := by decide +kernel
theorem dX12_chamber_51 : decode cX12_chamber 51 = .ok (.invokevirtual 152, 3) := by decide +kernel
theorem dX12_chamber_54 : decode cX12_chamber 54 = .ok (.aload_n 0, 1) := by decide +kernel
theorem dX12_chamber_55 : decode cX12_chamber 55 = .ok (.invokevirtual 135, 3) := by decide +kernel
theorem dX12_chamber_58 : decode cX12_chamber 58 = .ok (.ifCond .eq 17, 3) := by decide +kernel
theorem dX12_chamber_61 : decode cX12_chamber 61 = .ok (.aload_n 0, 1) := by decide +kernel
theorem dX12_chamber_62 : decode cX12_chamber 62 = .ok (.getfield 112, 3) := by decide +kernel
theorem dX12_chamber_65 : decode cX12_chamber 65 = .ok (.ifCond .eq 10, 3) := by decide +kernel
theorem dX12_chamber_68 : decode cX12_chamber 68 = .ok (.aload_n 0, 1) := by decide +kernel
theorem dX12_chamber_69 : decode cX12_chamber 69 = .ok (.invokevirtual 247, 3) := by decide +kernel
theorem dX12_chamber_72 : decode cX12_chamber 72 = .ok (.goto (-18), 3) := by decide +kernel
theorem dX12_chamber_75 : decode cX12_chamber 75 = .ok (.aload_n 0, 1) := by decide +kernel
theorem dX12_chamber_76 : decode cX12_chamber 76 = .ok (.invokevirtual 135, 3) := by decide +kernel
theorem dX12_chamber_79 : decode cX12_chamber 79 = .ok (.ifCond .ne 6, 3) := by decide +kernel
theorem dX12_chamber_82 : decode cX12_chamber 82 = .ok (.bipush (-4), 2) := by decide +kernel
theorem dX12_chamber_84 : decode cX12_chamber 84 = .ok (.ireturn, 1) := by decide +kernel
theorem dX12_chamber_85 : decode cX12_chamber 85 = .ok (.iconst 0, 1) := by decide +kernel
theorem dX12_chamber_86 : decode cX12_chamber 86 = .ok (.istore_n 1, 1) := by decide +kernel
theorem dX12_chamber_87 : decode cX12_chamber 87 = .ok (.iload_n 1, 1) := by decide +kernel
theorem dX12_chamber_88 : decode cX12_chamber 88 = .ok (.sipush 841, 3) := by decide +kernel
theorem dX12_chamber_91 : decode cX12_chamber 91 = .ok (.if_icmp .ge 21, 3) := by decide +kernel
theorem dX12_chamber_94 : decode cX12_chamber 94 = .ok (.aload_n 0, 1) := by decide +kernel
theorem dX12_chamber_95 : decode cX12_chamber 95 = .ok (.getfield 9, 3) := by decide +kernel
theorem dX12_chamber_98 : decode cX12_chamber 98 = .ok (.iload_n 1, 1) := by decide +kernel
theorem dX12_chamber_99 : decode cX12_chamber 99 = .ok (.aload_n 0, 1) := by decide +kernel
theorem dX12_chamber_100 : decode cX12_chamber 100 = .ok (.getfield 31, 3) := by decide +kernel
theorem dX12_chamber_103 : decode cX12_chamber 103 = .ok (.iload_n 1, 1) := by decide +kernel
theorem dX12_chamber_104 : decode cX12_chamber 104 = .ok (.iaload, 1) := by decide +kernel
theorem dX12_chamber_105 : decode cX12_chamber 105 = .ok (.iastore, 1) := by decide +kernel
theorem dX12_chamber_106 : decode cX12_chamber 106 = .ok (.iinc 1 1, 3) := by decide +kernel
theorem dX12_chamber_109 : decode cX12_chamber 109 = .ok (.goto (-22), 3) := by decide +kernel
theorem dX12_chamber_112 : decode cX12_chamber 112 = .ok (.aload_n 0, 1) := by decide +kernel
theorem dX12_chamber_113 : decode cX12_chamber 113 = .ok (.getfield 9, 3) := by decide +kernel
theorem dX12_chamber_116 : decode cX12_chamber 116 = .ok (.bipush 9, 2) := by decide +kernel
theorem dX12_chamber_118 : decode cX12_chamber 118 = .ok (.iaload, 1) := by decide +kernel
theorem dX12_chamber_119 : decode cX12_chamber 119 = .ok (.ireturn, 1) := by decide +kernel
theorem dX12_cheapest_0 : decode cX12_cheapest 0 = .ok (.aload_n 0, 1) := by decide +kernel
theorem dX12_cheapest_1 : decode cX12_cheapest 1 = .ok (.iload_n 1, 1) := by decide +kernel
theorem dX12_cheapest_2 : decode cX12_cheapest 2 = .ok (.invokevirtual 332, 3) := by decide +kernel
theorem dX12_cheapest_5 : decode cX12_cheapest 5 = .ok (.ifCond .ne 6, 3) := by decide +kernel
theorem dX12_cheapest_8 : decode cX12_cheapest 8 = .ok (.bipush (-2), 2) := by decide +kernel
theorem dX12_cheapest_10 : decode cX12_cheapest 10 = .ok (.ireturn, 1) := by decide +kernel
theorem dX12_cheapest_11 : decode cX12_cheapest 11 = .ok (.aload_n 0, 1) := by decide +kernel
theorem dX12_cheapest_12 : decode cX12_cheapest 12 = .ok (.invokevirtual 335, 3) := by decide +kernel
theorem dX12_cheapest_15 : decode cX12_cheapest 15 = .ok (.aload_n 0, 1) := by decide +kernel
theorem dX12_cheapest_16 : decode cX12_cheapest 16 = .ok (.iload_n 1, 1) := by decide +kernel
theorem dX12_cheapest_17 : decode cX12_cheapest 17 = .ok (.invokevirtual 304, 3) := by decide +kernel
theorem dX12_cheapest_20 : decode cX12_cheapest 20 = .ok (.istore_n 2, 1) := by decide +kernel
theorem dX12_cheapest_21 : decode cX12_cheapest 21 = .ok (.aload_n 0, 1) := by decide +kernel
theorem dX12_cheapest_22 : decode cX12_cheapest 22 = .ok (.getfield 9, 3) := by decide +kernel
theorem dX12_cheapest_25 : decode cX12_cheapest 25 = .ok (.bipush 10, 2) := by decide +kernel
theorem dX12_cheapest_27 : decode cX12_cheapest 27 = .ok (.iaload, 1) := by decide +kernel
theorem dX12_cheapest_28 : decode cX12_cheapest 28 = .ok (.istore_n 3, 1) := by decide +kernel
theorem dX12_cheapest_29 : decode cX12_cheapest 29 = .ok (.iconst 0, 1) := by decide +kernel
theorem dX12_cheapest_30 : decode cX12_cheapest 30 = .ok (.istore 4, 2) := by decide +kernel
theorem dX12_cheapest_32 : decode cX12_cheapest 32 = .ok (.iload 4, 2) := by decide +kernel
theorem dX12_cheapest_34 : decode cX12_cheapest 34 = .ok (.aload_n 0, 1) := by decide +kernel
theorem dX12_cheapest_35 : decode cX12_cheapest 35 = .ok (.getfield 9, 3) := by decide +kernel
theorem dX12_cheapest_38 : decode cX12_cheapest 38 = .ok (.iconst 5, 1) := by decide +kernel
theorem dX12_cheapest_39 : decode cX12_cheapest 39 = .ok (.iaload, 1) := by decide +kernel
theorem dX12_cheapest_40 : decode cX12_cheapest 40 = .ok (.if_icmp .ge 29, 3) := by decide +kernel
theorem dX12_cheapest_43 : decode cX12_cheapest 43 = .ok (.aload_n 0, 1) := by decide +kernel
theorem dX12_cheapest_44 : decode cX12_cheapest 44 = .ok (.iload 4, 2) := by decide +kernel
theorem dX12_cheapest_46 : decode cX12_cheapest 46 = .ok (.iconst 1, 1) := by decide +kernel
theorem dX12_cheapest_47 : decode cX12_cheapest 47 = .ok (.invokevirtual 262, 3) := by decide +kernel
theorem dX12_cheapest_50 : decode cX12_cheapest 50 = .ok (.iload_n 1, 1) := by decide +kernel
theorem dX12_cheapest_51 : decode cX12_cheapest 51 = .ok (.if_icmp .ne 12, 3) := by decide +kernel
theorem dX12_cheapest_54 : decode cX12_cheapest 54 = .ok (.iload_n 3, 1) := by decide +kernel
theorem dX12_cheapest_55 : decode cX12_cheapest 55 = .ok (.iconst 1, 1) := by decide +kernel
theorem dX12_cheapest_56 : decode cX12_cheapest 56 = .ok (.iload 4, 2) := by decide +kernel
theorem dX12_cheapest_58 : decode cX12_cheapest 58 = .ok (.ishl, 1) := by decide +kernel
theorem dX12_cheapest_59 : decode cX12_cheapest 59 = .ok (.iconst (-1), 1) := by decide +kernel
theorem dX12_cheapest_60 : decode cX12_cheapest 60 = .ok (.ixor, 1) := by decide +kernel
theorem dX12_cheapest_61 : decode cX12_cheapest 61 = .ok (.iand, 1) := by decide +kernel
theorem dX12_cheapest_62 : decode cX12_cheapest 62 = .ok (.istore_n 3, 1) := by decide +kernel
theorem dX12_cheapest_63 : decode cX12_cheapest 63 = .ok (.iinc 4 1, 3) := by decide +kernel
theorem dX12_cheapest_66 : decode cX12_cheapest 66 = .ok (.goto (-34), 3) := by decide +kernel
theorem dX12_cheapest_69 : decode cX12_cheapest 69 = .ok (.iconst (-1), 1) := by decide +kernel
theorem dX12_cheapest_70 : decode cX12_cheapest 70 = .ok (.istore 4, 2) := by decide +kernel
theorem dX12_cheapest_72 : decode cX12_cheapest 72 = .ok (.iconst 0, 1) := by decide +kernel
theorem dX12_cheapest_73 : decode cX12_cheapest 73 = .ok (.istore 5, 2) := by decide +kernel
theorem dX12_cheapest_75 : decode cX12_cheapest 75 = .ok (.iconst 0, 1) := by decide +kernel
theorem dX12_cheapest_76 : decode cX12_cheapest 76 = .ok (.istore 6, 2) := by decide +kernel
theorem dX12_cheapest_78 : decode cX12_cheapest 78 = .ok (.iload 6, 2) := by decide +kernel
theorem dX12_cheapest_80 : decode cX12_cheapest 80 = .ok (.aload_n 0, 1) := by decide +kernel
theorem dX12_cheapest_81 : decode cX12_cheapest 81 = .ok (.getfield 9, 3) := by decide +kernel
theorem dX12_cheapest_84 : decode cX12_cheapest 84 = .ok (.iconst 5, 1) := by decide +kernel
theorem dX12_cheapest_85 : decode cX12_cheapest 85 = .ok (.iaload, 1) := by decide +kernel
theorem dX12_cheapest_86 : decode cX12_cheapest 86 = .ok (.if_icmp .ge 57, 3) := by decide +kernel
theorem dX12_cheapest_89 : decode cX12_cheapest 89 = .ok (.iload_n 2, 1) := by decide +kernel
theorem dX12_cheapest_90 : decode cX12_cheapest 90 = .ok (.iload 6, 2) := by decide +kernel
theorem dX12_cheapest_92 : decode cX12_cheapest 92 = .ok (.invokestatic 88, 3) := by decide +kernel
theorem dX12_cheapest_95 : decode cX12_cheapest 95 = .ok (.ifCond .ne 6, 3) := by decide +kernel
theorem dX12_cheapest_98 : decode cX12_cheapest 98 = .ok (.goto 39, 3) := by decide +kernel
theorem dX12_cheapest_101 : decode cX12_cheapest 101 = .ok (.aload_n 0, 1) := by decide +kernel
theorem dX12_cheapest_102 : decode cX12_cheapest 102 = .ok (.iload_n 3, 1) := by decide +kernel
theorem dX12_cheapest_103 : decode cX12_cheapest 103 = .ok (.iconst 1, 1) := by decide +kernel
theorem dX12_cheapest_104 : decode cX12_cheapest 104 = .ok (.iload 6, 2) := by decide +kernel
theorem dX12_cheapest_106 : decode cX12_cheapest 106 = .ok (.ishl, 1) := by decide +kernel
theorem dX12_cheapest_107 : decode cX12_cheapest 107 = .ok (.ior, 1) := by decide +kernel
theorem dX12_cheapest_108 : decode cX12_cheapest 108 = .ok (.invokevirtual 378, 3) := by decide +kernel
theorem dX12_cheapest_111 : decode cX12_cheapest 111 = .ok (.istore 7, 2) := by decide +kernel
theorem dX12_cheapest_113 : decode cX12_cheapest 113 = .ok (.iload 4, 2) := by decide +kernel
theorem dX12_cheapest_115 : decode cX12_cheapest 115 = .ok (.iconst (-1), 1) := by decide +kernel
theorem dX12_cheapest_116 : decode cX12_cheapest 116 = .ok (.if_icmp .eq 13, 3) := by decide +kernel
theorem dX12_cheapest_119 : decode cX12_cheapest 119 = .ok (.iload 7, 2) := by decide +kernel
theorem dX12_cheapest_121 : decode cX12_cheapest 121 = .ok (.iload 5, 2) := by decide +kernel
theorem dX12_cheapest_123 : decode cX12_cheapest 123 = .ok (.if_icmp .lt 6, 3) := by decide +kernel
theorem dX12_cheapest_126 : decode cX12_cheapest 126 = .ok (.goto 11, 3) := by decide +kernel
theorem dX12_cheapest_129 : decode cX12_cheapest 129 = .ok (.iload 6, 2) := by decide +kernel
theorem dX12_cheapest_131 : decode cX12_cheapest 131 = .ok (.istore 4, 2) := by decide +kernel
theorem dX12_cheapest_133 : decode cX12_cheapest 133 = .ok (.iload 7, 2) := by decide +kernel
theorem dX12_cheapest_135 : decode cX12_cheapest 135 = .ok (.istore 5, 2) := by decide +kernel
theorem dX12_cheapest_137 : decode cX12_cheapest 137 = .ok (.iinc 6 1, 3) := by decide +kernel
theorem dX12_cheapest_140 : decode cX12_cheapest 140 = .ok (.goto (-62), 3) := by decide +kernel
theorem dX12_cheapest_143 : decode cX12_cheapest 143 = .ok (.iload 4, 2) := by decide +kernel
theorem dX12_cheapest_145 : decode cX12_cheapest 145 = .ok (.ireturn, 1) := by decide +kernel
theorem dX12_coalition_0 : decode cX12_coalition 0 = .ok (.aload_n 0, 1) := by decide +kernel
theorem dX12_coalition_1 : decode cX12_coalition 1 = .ok (.invokevirtual 347, 3) := by decide +kernel
theorem dX12_coalition_4 : decode cX12_coalition 4 = .ok (.ifCond .ne 6, 3) := by decide +kernel
theorem dX12_coalition_7 : decode cX12_coalition 7 = .ok (.bipush (-2), 2) := by decide +kernel
theorem dX12_coalition_9 : decode cX12_coalition 9 = .ok (.ireturn, 1) := by decide +kernel
theorem dX12_coalition_10 : decode cX12_coalition 10 = .ok (.iconst (-1), 1) := by decide +kernel
theorem dX12_coalition_11 : decode cX12_coalition 11 = .ok (.istore_n 1, 1) := by decide +kernel
theorem dX12_coalition_12 : decode cX12_coalition 12 = .ok (.iconst 0, 1) := by decide +kernel
theorem dX12_coalition_13 : decode cX12_coalition 13 = .ok (.istore_n 2, 1) := by decide +kernel
theorem dX12_coalition_14 : decode cX12_coalition 14 = .ok (.iload_n 2, 1) := by decide +kernel
theorem dX12_coalition_15 : decode cX12_coalition 15 = .ok (.bipush 16, 2) := by decide +kernel
theorem dX12_coalition_17 : decode cX12_coalition 17 = .ok (.if_icmp .ge 35, 3) := by decide +kernel
theorem dX12_coalition_20 : decode cX12_coalition 20 = .ok (.aload_n 0, 1) := by decide +kernel
theorem dX12_coalition_21 : decode cX12_coalition 21 = .ok (.iload_n 2, 1) := by decide +kernel
theorem dX12_coalition_22 : decode cX12_coalition 22 = .ok (.invokevirtual 419, 3) := by decide +kernel
theorem dX12_coalition_25 : decode cX12_coalition 25 = .ok (.ifCond .eq 21, 3) := by decide +kernel
theorem dX12_coalition_28 : decode cX12_coalition 28 = .ok (.iload_n 1, 1) := by decide +kernel
theorem dX12_coalition_29 : decode cX12_coalition 29 = .ok (.iconst (-1), 1) := by decide +kernel
theorem dX12_coalition_30 : decode cX12_coalition 30 = .ok (.if_icmp .eq 14, 3) := by decide +kernel
theorem dX12_coalition_33 : decode cX12_coalition 33 = .ok (.iload_n 2, 1) := by decide +kernel
theorem dX12_coalition_34 : decode cX12_coalition 34 = .ok (.invokestatic 265, 3) := by decide +kernel
theorem dX12_coalition_37 : decode cX12_coalition 37 = .ok (.iload_n 1, 1) := by decide +kernel
theorem dX12_coalition_38 : decode cX12_coalition 38 = .ok (.invokestatic 265, 3) := by decide +kernel
theorem dX12_coalition_41 : decode cX12_coalition 41 = .ok (.if_icmp .ge 5, 3) := by decide +kernel
theorem dX12_coalition_44 : decode cX12_coalition 44 = .ok (.iload_n 2, 1) := by decide +kernel
theorem dX12_coalition_45 : decode cX12_coalition 45 = .ok (.istore_n 1, 1) := by decide +kernel
theorem dX12_coalition_46 : decode cX12_coalition 46 = .ok (.iinc 2 1, 3) := by decide +kernel
theorem dX12_coalition_49 : decode cX12_coalition 49 = .ok (.goto (-35), 3) := by decide +kernel
theorem dX12_coalition_52 : decode cX12_coalition 52 = .ok (.iload_n 1, 1) := by decide +kernel
theorem dX12_coalition_53 : decode cX12_coalition 53 = .ok (.ireturn, 1) := by decide +kernel
theorem dX12_cost_0 : decode cX12_cost 0 = .ok (.aload_n 0, 1) := by decide +kernel
theorem dX12_cost_1 : decode cX12_cost 1 = .ok (.iload_n 1, 1) := by decide +kernel
theorem dX12_cost_2 : decode cX12_cost 2 = .ok (.invokevirtual 328, 3) := by decide +kernel
theorem dX12_cost_5 : decode cX12_cost 5 = .ok (.ifCond .ne 6, 3) := by decide +kernel
theorem dX12_cost_8 : decode cX12_cost 8 = .ok (.bipush (-2), 2) := by decide +kernel
theorem dX12_cost_10 : decode cX12_cost 10 = .ok (.ireturn, 1) := by decide +kernel
theorem dX12_cost_11 : decode cX12_cost 11 = .ok (.aload_n 0, 1) := by decide +kernel
theorem dX12_cost_12 : decode cX12_cost 12 = .ok (.aload_n 0, 1) := by decide +kernel
theorem dX12_cost_13 : decode cX12_cost 13 = .ok (.getfield 9, 3) := by decide +kernel
theorem dX12_cost_16 : decode cX12_cost 16 = .ok (.bipush 10, 2) := by decide +kernel
theorem dX12_cost_18 : decode cX12_cost 18 = .ok (.iaload, 1) := by decide +kernel
theorem dX12_cost_19 : decode cX12_cost 19 = .ok (.invokevirtual 366, 3) := by decide +kernel
theorem dX12_cost_22 : decode cX12_cost 22 = .ok (.aload_n 0, 1) := by decide +kernel
theorem dX12_cost_23 : decode cX12_cost 23 = .ok (.iload_n 1, 1) := by decide +kernel
theorem dX12_cost_24 : decode cX12_cost 24 = .ok (.invokevirtual 375, 3) := by decide +kernel
theorem dX12_cost_27 : decode cX12_cost 27 = .ok (.ireturn, 1) := by decide +kernel
theorem dX12_costBy_0 : decode cX12_costBy 0 = .ok (.aload_n 0, 1) := by decide +kernel
theorem dX12_costBy_1 : decode cX12_costBy 1 = .ok (.iload_n 1, 1) := by decide +kernel
theorem dX12_costBy_2 : decode cX12_costBy 2 = .ok (.invokevirtual 366, 3) := by decide +kernel
theorem dX12_costBy_5 : decode cX12_costBy 5 = .ok (.iconst 0, 1) := by decide +kernel
theorem dX12_costBy_6 : decode cX12_costBy 6 = .ok (.istore_n 2, 1) := by decide +kernel
theorem dX12_costBy_7 : decode cX12_costBy 7 = .ok (.iconst 0, 1) := by decide +kernel
theorem dX12_costBy_8 : decode cX12_costBy 8 = .ok (.istore_n 3, 1) := by decide +kernel
theorem dX12_costBy_9 : decode cX12_costBy 9 = .ok (.iload_n 3, 1) := by decide +kernel
theorem dX12_costBy_10 : decode cX12_costBy 10 = .ok (.aload_n 0, 1) := by decide +kernel
theorem dX12_costBy_11 : decode cX12_costBy 11 = .ok (.getfield 9, 3) := by decide +kernel
theorem dX12_costBy_14 : decode cX12_costBy 14 = .ok (.bipush 6, 2) := by decide +kernel
theorem dX12_costBy_16 : decode cX12_costBy 16 = .ok (.iaload, 1) := by decide +kernel
theorem dX12_costBy_17 : decode cX12_costBy 17 = .ok (.if_icmp .ge 17, 3) := by decide +kernel
theorem dX12_costBy_20 : decode cX12_costBy 20 = .ok (.iload_n 2, 1) := by decide +kernel
theorem dX12_costBy_21 : decode cX12_costBy 21 = .ok (.aload_n 0, 1) := by decide +kernel
theorem dX12_costBy_22 : decode cX12_costBy 22 = .ok (.iload_n 3, 1) := by decide +kernel
theorem dX12_costBy_23 : decode cX12_costBy 23 = .ok (.invokevirtual 375, 3) := by decide +kernel
theorem dX12_costBy_26 : decode cX12_costBy 26 = .ok (.iadd, 1) := by decide +kernel
theorem dX12_costBy_27 : decode cX12_costBy 27 = .ok (.istore_n 2, 1) := by decide +kernel
theorem dX12_costBy_28 : decode cX12_costBy 28 = .ok (.iinc 3 1, 3) := by decide +kernel
theorem dX12_costBy_31 : decode cX12_costBy 31 = .ok (.goto (-22), 3) := by decide +kernel
theorem dX12_costBy_34 : decode cX12_costBy 34 = .ok (.iload_n 2, 1) := by decide +kernel
theorem dX12_costBy_35 : decode cX12_costBy 35 = .ok (.ireturn, 1) := by decide +kernel
theorem dX12_costOf_0 : decode cX12_costOf 0 = .ok (.iconst 0, 1) := by decide +kernel
theorem dX12_costOf_1 : decode cX12_costOf 1 = .ok (.istore_n 2, 1) := by decide +kernel
theorem dX12_costOf_2 : decode cX12_costOf 2 = .ok (.iconst 0, 1) := by decide +kernel
theorem dX12_costOf_3 : decode cX12_costOf 3 = .ok (.istore_n 3, 1) := by decide +kernel
theorem dX12_costOf_4 : decode cX12_costOf 4 = .ok (.iload_n 3, 1) := by decide +kernel
theorem dX12_costOf_5 : decode cX12_costOf 5 = .ok (.aload_n 0, 1) := by decide +kernel
theorem dX12_costOf_6 : decode cX12_costOf 6 = .ok (.getfield 9, 3) := by decide +kernel
theorem dX12_costOf_9 : decode cX12_costOf 9 = .ok (.iconst 0, 1) := by decide +kernel
theorem dX12_costOf_10 : decode cX12_costOf 10 = .ok (.iaload, 1) := by decide +kernel
theorem dX12_costOf_11 : decode cX12_costOf 11 = .ok (.if_icmp .ge 52, 3) := by decide +kernel
theorem dX12_costOf_14 : decode cX12_costOf 14 = .ok (.iload_n 2, 1) := by decide +kernel
theorem dX12_costOf_15 : decode cX12_costOf 15 = .ok (.aload_n 0, 1) := by decide +kernel
theorem dX12_costOf_16 : decode cX12_costOf 16 = .ok (.iload_n 1, 1) := by decide +kernel
theorem dX12_costOf_17 : decode cX12_costOf 17 = .ok (.iconst 3, 1) := by decide +kernel
theorem dX12_costOf_18 : decode cX12_costOf 18 = .ok (.invokevirtual 259, 3) := by decide +kernel
theorem dX12_costOf_21 : decode cX12_costOf 21 = .ok (.iload_n 3, 1) := by decide +kernel
theorem dX12_costOf_22 : decode cX12_costOf 22 = .ok (.invokestatic 88, 3) := by decide +kernel
theorem dX12_costOf_25 : decode cX12_costOf 25 = .ok (.ifCond .ne 7, 3) := by decide +kernel
theorem dX12_costOf_28 : decode cX12_costOf 28 = .ok (.iconst 0, 1) := by decide +kernel
theorem dX12_costOf_29 : decode cX12_costOf 29 = .ok (.goto 26, 3) := by decide +kernel
theorem dX12_costOf_32 : decode cX12_costOf 32 = .ok (.aload_n 0, 1) := by decide +kernel
theorem dX12_costOf_33 : decode cX12_costOf 33 = .ok (.getfield 52, 3) := by decide +kernel
theorem dX12_costOf_36 : decode cX12_costOf 36 = .ok (.iload_n 3, 1) := by decide +kernel
theorem dX12_costOf_37 : decode cX12_costOf 37 = .ok (.iaload, 1) := by decide +kernel
theorem dX12_costOf_38 : decode cX12_costOf 38 = .ok (.ldc_w 359, 3) := by decide +kernel
theorem dX12_costOf_41 : decode cX12_costOf 41 = .ok (.if_icmp .lt 8, 3) := by decide +kernel
theorem dX12_costOf_44 : decode cX12_costOf 44 = .ok (.bipush 40, 2) := by decide +kernel
theorem dX12_costOf_46 : decode cX12_costOf 46 = .ok (.goto 9, 3) := by decide +kernel
theorem dX12_costOf_49 : decode cX12_costOf 49 = .ok (.aload_n 0, 1) := by decide +kernel
theorem dX12_costOf_50 : decode cX12_costOf 50 = .ok (.getfield 52, 3) := by decide +kernel
theorem dX12_costOf_53 : decode cX12_costOf 53 = .ok (.iload_n 3, 1) := by decide +kernel
theorem dX12_costOf_54 : decode cX12_costOf 54 = .ok (.iaload, 1) := by decide +kernel
theorem dX12_costOf_55 : decode cX12_costOf 55 = .ok (.iadd, 1) := by decide +kernel
theorem dX12_costOf_56 : decode cX12_costOf 56 = .ok (.istore_n 2, 1) := by decide +kernel
theorem dX12_costOf_57 : decode cX12_costOf 57 = .ok (.iinc 3 1, 3) := by decide +kernel
theorem dX12_costOf_60 : decode cX12_costOf 60 = .ok (.goto (-56), 3) := by decide +kernel
theorem dX12_costOf_63 : decode cX12_costOf 63 = .ok (.aload_n 0, 1) := by decide +kernel
theorem dX12_costOf_64 : decode cX12_costOf 64 = .ok (.iload_n 1, 1) := by decide +kernel
theorem dX12_costOf_65 : decode cX12_costOf 65 = .ok (.iconst 1, 1) := by decide +kernel
theorem dX12_costOf_66 : decode cX12_costOf 66 = .ok (.invokevirtual 259, 3) := by decide +kernel
theorem dX12_costOf_69 : decode cX12_costOf 69 = .ok (.iload_n 2, 1) := by decide +kernel
theorem dX12_costOf_70 : decode cX12_costOf 70 = .ok (.imul, 1) := by decide +kernel
theorem dX12_costOf_71 : decode cX12_costOf 71 = .ok (.ireturn, 1) := by decide +kernel
theorem dX12_costs_0 : decode cX12_costs 0 = .ok (.aload_n 0, 1) := by decide +kernel
theorem dX12_costs_1 : decode cX12_costs 1 = .ok (.invokevirtual 347, 3) := by decide +kernel
theorem dX12_costs_4 : decode cX12_costs 4 = .ok (.ifCond .eq 17, 3) := by decide +kernel
theorem dX12_costs_7 : decode cX12_costs 7 = .ok (.aload_n 0, 1) := by decide +kernel
theorem dX12_costs_8 : decode cX12_costs 8 = .ok (.aload_n 0, 1) := by decide +kernel
theorem dX12_costs_9 : decode cX12_costs 9 = .ok (.getfield 9, 3) := by decide +kernel
theorem dX12_costs_12 : decode cX12_costs 12 = .ok (.bipush 10, 2) := by decide +kernel
theorem dX12_costs_14 : decode cX12_costs 14 = .ok (.iaload, 1) := by decide +kernel
theorem dX12_costs_15 : decode cX12_costs 15 = .ok (.invokevirtual 378, 3) := by decide +kernel
theorem dX12_costs_18 : decode cX12_costs 18 = .ok (.goto 5, 3) := by decide +kernel
theorem dX12_costs_21 : decode cX12_costs 21 = .ok (.bipush (-2), 2) := by decide +kernel
theorem dX12_costs_23 : decode cX12_costs 23 = .ok (.ireturn, 1) := by decide +kernel
theorem dX12_count_0 : decode cX12_count 0 = .ok (.iconst 0, 1) := by decide +kernel
theorem dX12_count_1 : decode cX12_count 1 = .ok (.istore 4, 2) := by decide +kernel
theorem dX12_count_3 : decode cX12_count 3 = .ok (.iload 4, 2) := by decide +kernel
theorem dX12_count_5 : decode cX12_count 5 = .ok (.bipush 9, 2) := by decide +kernel
theorem dX12_count_7 : decode cX12_count 7 = .ok (.if_icmp .ge 17, 3) := by decide +kernel
theorem dX12_count_10 : decode cX12_count 10 = .ok (.aload_n 0, 1) := by decide +kernel
theorem dX12_count_11 : decode cX12_count 11 = .ok (.getfield 40, 3) := by decide +kernel
theorem dX12_count_14 : decode cX12_count 14 = .ok (.iload 4, 2) := by decide +kernel
theorem dX12_count_16 : decode cX12_count 16 = .ok (.iconst 0, 1) := by decide +kernel
theorem dX12_count_17 : decode cX12_count 17 = .ok (.iastore, 1) := by decide +kernel
theorem dX12_count_18 : decode cX12_count 18 = .ok (.iinc 4 1, 3) := by decide +kernel
theorem dX12_count_21 : decode cX12_count 21 = .ok (.goto (-18), 3) := by decide +kernel
theorem dX12_count_24 : decode cX12_count 24 = .ok (.aload_n 0, 1) := by decide +kernel
theorem dX12_count_25 : decode cX12_count 25 = .ok (.iconst 0, 1) := by decide +kernel
theorem dX12_count_26 : decode cX12_count 26 = .ok (.putfield 285, 3) := by decide +kernel
theorem dX12_count_29 : decode cX12_count 29 = .ok (.iconst 0, 1) := by decide +kernel
theorem dX12_count_30 : decode cX12_count 30 = .ok (.istore 4, 2) := by decide +kernel
theorem dX12_count_32 : decode cX12_count 32 = .ok (.iload 4, 2) := by decide +kernel
theorem dX12_count_34 : decode cX12_count 34 = .ok (.aload_n 0, 1) := by decide +kernel
theorem dX12_count_35 : decode cX12_count 35 = .ok (.getfield 9, 3) := by decide +kernel
theorem dX12_count_38 : decode cX12_count 38 = .ok (.bipush 6, 2) := by decide +kernel
theorem dX12_count_40 : decode cX12_count 40 = .ok (.iaload, 1) := by decide +kernel
theorem dX12_count_41 : decode cX12_count 41 = .ok (.if_icmp .ge 129, 3) := by decide +kernel
theorem dX12_count_44 : decode cX12_count 44 = .ok (.aload_n 0, 1) := by decide +kernel
theorem dX12_count_45 : decode cX12_count 45 = .ok (.iload 4, 2) := by decide +kernel
theorem dX12_count_47 : decode cX12_count 47 = .ok (.iload_n 1, 1) := by decide +kernel
theorem dX12_count_48 : decode cX12_count 48 = .ok (.invokevirtual 288, 3) := by decide +kernel
theorem dX12_count_51 : decode cX12_count 51 = .ok (.ifCond .ne 6, 3) := by decide +kernel
theorem dX12_count_54 : decode cX12_count 54 = .ok (.goto 110, 3) := by decide +kernel
theorem dX12_count_57 : decode cX12_count 57 = .ok (.aload_n 0, 1) := by decide +kernel
theorem dX12_count_58 : decode cX12_count 58 = .ok (.iload 4, 2) := by decide +kernel
theorem dX12_count_60 : decode cX12_count 60 = .ok (.iload_n 2, 1) := by decide +kernel
theorem dX12_count_61 : decode cX12_count 61 = .ok (.invokevirtual 291, 3) := by decide +kernel
theorem dX12_count_64 : decode cX12_count 64 = .ok (.istore 5, 2) := by decide +kernel
theorem dX12_count_66 : decode cX12_count 66 = .ok (.aload_n 0, 1) := by decide +kernel
theorem dX12_count_67 : decode cX12_count 67 = .ok (.dup, 1) := by decide +kernel
theorem dX12_count_68 : decode cX12_count 68 = .ok (.getfield 285, 3) := by decide +kernel
theorem dX12_count_71 : decode cX12_count 71 = .ok (.iload 5, 2) := by decide +kernel
theorem dX12_count_73 : decode cX12_count 73 = .ok (.iconst (-1), 1) := by decide +kernel
theorem dX12_count_74 : decode cX12_count 74 = .ok (.if_icmp .ne 7, 3) := by decide +kernel
theorem dX12_count_77 : decode cX12_count 77 = .ok (.iconst 0, 1) := by decide +kernel
theorem dX12_count_78 : decode cX12_count 78 = .ok (.goto 10, 3) := by decide +kernel
theorem dX12_count_81 : decode cX12_count 81 = .ok (.aload_n 0, 1) := by decide +kernel
theorem dX12_count_82 : decode cX12_count 82 = .ok (.iload 4, 2) := by decide +kernel
theorem dX12_count_84 : decode cX12_count 84 = .ok (.iconst 1, 1) := by decide +kernel
theorem dX12_count_85 : decode cX12_count 85 = .ok (.invokevirtual 259, 3) := by decide +kernel
theorem dX12_count_88 : decode cX12_count 88 = .ok (.iadd, 1) := by decide +kernel
theorem dX12_count_89 : decode cX12_count 89 = .ok (.putfield 285, 3) := by decide +kernel
theorem dX12_count_92 : decode cX12_count 92 = .ok (.iconst 0, 1) := by decide +kernel
theorem dX12_count_93 : decode cX12_count 93 = .ok (.istore 6, 2) := by decide +kernel
theorem dX12_count_95 : decode cX12_count 95 = .ok (.iload 6, 2) := by decide +kernel
theorem dX12_count_97 : decode cX12_count 97 = .ok (.aload_n 0, 1) := by decide +kernel
theorem dX12_count_98 : decode cX12_count 98 = .ok (.getfield 9, 3) := by decide +kernel
theorem dX12_count_101 : decode cX12_count 101 = .ok (.iconst 5, 1) := by decide +kernel
theorem dX12_count_102 : decode cX12_count 102 = .ok (.iaload, 1) := by decide +kernel
theorem dX12_count_103 : decode cX12_count 103 = .ok (.if_icmp .ge 61, 3) := by decide +kernel
theorem dX12_count_106 : decode cX12_count 106 = .ok (.iload_n 2, 1) := by decide +kernel
theorem dX12_count_107 : decode cX12_count 107 = .ok (.iload 6, 2) := by decide +kernel
theorem dX12_count_109 : decode cX12_count 109 = .ok (.invokestatic 88, 3) := by decide +kernel
theorem dX12_count_112 : decode cX12_count 112 = .ok (.iconst 1, 1) := by decide +kernel
theorem dX12_count_113 : decode cX12_count 113 = .ok (.if_icmp .ne 45, 3) := by decide +kernel
theorem dX12_count_116 : decode cX12_count 116 = .ok (.iload_n 3, 1) := by decide +kernel
theorem dX12_count_117 : decode cX12_count 117 = .ok (.ifCond .eq 17, 3) := by decide +kernel
theorem dX12_count_120 : decode cX12_count 120 = .ok (.aload_n 0, 1) := by decide +kernel
theorem dX12_count_121 : decode cX12_count 121 = .ok (.iload 4, 2) := by decide +kernel
theorem dX12_count_123 : decode cX12_count 123 = .ok (.iload 6, 2) := by decide +kernel
theorem dX12_count_125 : decode cX12_count 125 = .ok (.invokevirtual 278, 3) := by decide +kernel
theorem dX12_count_128 : decode cX12_count 128 = .ok (.ifCond .eq 30, 3) := by decide +kernel
theorem dX12_count_131 : decode cX12_count 131 = .ok (.goto 10, 3) := by decide +kernel
theorem dX12_count_134 : decode cX12_count 134 = .ok (.iload 6, 2) := by decide +kernel
theorem dX12_count_136 : decode cX12_count 136 = .ok (.iload 5, 2) := by decide +kernel
theorem dX12_count_138 : decode cX12_count 138 = .ok (.if_icmp .ne 20, 3) := by decide +kernel
theorem dX12_count_141 : decode cX12_count 141 = .ok (.aload_n 0, 1) := by decide +kernel
theorem dX12_count_142 : decode cX12_count 142 = .ok (.getfield 40, 3) := by decide +kernel
theorem dX12_count_145 : decode cX12_count 145 = .ok (.iload 6, 2) := by decide +kernel
theorem dX12_count_147 : decode cX12_count 147 = .ok (.dup2, 1) := by decide +kernel
theorem dX12_count_148 : decode cX12_count 148 = .ok (.iaload, 1) := by decide +kernel
theorem dX12_count_149 : decode cX12_count 149 = .ok (.aload_n 0, 1) := by decide +kernel
theorem dX12_count_150 : decode cX12_count 150 = .ok (.iload 4, 2) := by decide +kernel
theorem dX12_count_152 : decode cX12_count 152 = .ok (.iconst 1, 1) := by decide +kernel
theorem dX12_count_153 : decode cX12_count 153 = .ok (.invokevirtual 259, 3) := by decide +kernel
theorem dX12_count_156 : decode cX12_count 156 = .ok (.iadd, 1) := by decide +kernel
theorem dX12_count_157 : decode cX12_count 157 = .ok (.iastore, 1) := by decide +kernel
theorem dX12_count_158 : decode cX12_count 158 = .ok (.iinc 6 1, 3) := by decide +kernel
theorem dX12_count_161 : decode cX12_count 161 = .ok (.goto (-66), 3) := by decide +kernel
theorem dX12_count_164 : decode cX12_count 164 = .ok (.iinc 4 1, 3) := by decide +kernel
theorem dX12_count_167 : decode cX12_count 167 = .ok (.goto (-135), 3) := by decide +kernel
theorem dX12_count_170 : decode cX12_count 170 = .ok (.return_, 1) := by decide +kernel
theorem dX12_count__0 : decode cX12_count_ 0 = .ok (.iconst 0, 1) := by decide +kernel
theorem dX12_count__1 : decode cX12_count_ 1 = .ok (.istore_n 2, 1) := by decide +kernel
theorem dX12_count__2 : decode cX12_count_ 2 = .ok (.iload_n 1, 1) := by decide +kernel
theorem dX12_count__3 : decode cX12_count_ 3 = .ok (.lookupswitch 63 #[(10, 25), (11, 30)], 25) := by decide +kernel
theorem dX12_count__28 : decode cX12_count_ 28 = .ok (.aload_n 0, 1) := by decide +kernel
theorem dX12_count__29 : decode cX12_count_ 29 = .ok (.getfield 96, 3) := by decide +kernel
theorem dX12_count__32 : decode cX12_count_ 32 = .ok (.ireturn, 1) := by decide +kernel
theorem dX12_count__33 : decode cX12_count_ 33 = .ok (.iconst 0, 1) := by decide +kernel
theorem dX12_count__34 : decode cX12_count_ 34 = .ok (.istore_n 3, 1) := by decide +kernel
theorem dX12_count__35 : decode cX12_count_ 35 = .ok (.iload_n 3, 1) := by decide +kernel
theorem dX12_count__36 : decode cX12_count_ 36 = .ok (.iconst 4, 1) := by decide +kernel
theorem dX12_count__37 : decode cX12_count_ 37 = .ok (.if_icmp .ge 27, 3) := by decide +kernel
theorem dX12_count__40 : decode cX12_count_ 40 = .ok (.iload_n 2, 1) := by decide +kernel
theorem dX12_count__41 : decode cX12_count_ 41 = .ok (.aload_n 0, 1) := by decide +kernel
theorem dX12_count__42 : decode cX12_count_ 42 = .ok (.getfield 64, 3) := by decide +kernel
theorem dX12_count__45 : decode cX12_count_ 45 = .ok (.iload_n 3, 1) := by decide +kernel
theorem dX12_count__46 : decode cX12_count_ 46 = .ok (.iaload, 1) := by decide +kernel
theorem dX12_count__47 : decode cX12_count_ 47 = .ok (.iconst (-1), 1) := by decide +kernel
theorem dX12_count__48 : decode cX12_count_ 48 = .ok (.if_icmp .ne 7, 3) := by decide +kernel
theorem dX12_count__51 : decode cX12_count_ 51 = .ok (.iconst 0, 1) := by decide +kernel
theorem dX12_count__52 : decode cX12_count_ 52 = .ok (.goto 4, 3) := by decide +kernel
theorem dX12_count__55 : decode cX12_count_ 55 = .ok (.iconst 1, 1) := by decide +kernel
theorem dX12_count__56 : decode cX12_count_ 56 = .ok (.iadd, 1) := by decide +kernel
theorem dX12_count__57 : decode cX12_count_ 57 = .ok (.istore_n 2, 1) := by decide +kernel
theorem dX12_count__58 : decode cX12_count_ 58 = .ok (.iinc 3 1, 3) := by decide +kernel
theorem dX12_count__61 : decode cX12_count_ 61 = .ok (.goto (-26), 3) := by decide +kernel
theorem dX12_count__64 : decode cX12_count_ 64 = .ok (.iload_n 2, 1) := by decide +kernel
theorem dX12_count__65 : decode cX12_count_ 65 = .ok (.ireturn, 1) := by decide +kernel
theorem dX12_count__66 : decode cX12_count_ 66 = .ok (.iload_n 1, 1) := by decide +kernel
theorem dX12_count__67 : decode cX12_count_ 67 = .ok (.i2l, 1) := by decide +kernel
theorem dX12_count__68 : decode cX12_count_ 68 = .ok (.lconst 0, 1) := by decide +kernel
theorem dX12_count__69 : decode cX12_count_ 69 = .ok (.ldc2_w 446, 3) := by decide +kernel
theorem dX12_count__72 : decode cX12_count_ 72 = .ok (.invokestatic 82, 3) := by decide +kernel
theorem dX12_count__75 : decode cX12_count_ 75 = .ok (.ifCond .eq 12, 3) := by decide +kernel
theorem dX12_count__78 : decode cX12_count_ 78 = .ok (.aload_n 0, 1) := by decide +kernel
theorem dX12_count__79 : decode cX12_count_ 79 = .ok (.getfield 9, 3) := by decide +kernel
theorem dX12_count__82 : decode cX12_count_ 82 = .ok (.iload_n 1, 1) := by decide +kernel
theorem dX12_count__83 : decode cX12_count_ 83 = .ok (.iaload, 1) := by decide +kernel
theorem dX12_count__84 : decode cX12_count_ 84 = .ok (.goto 4, 3) := by decide +kernel
theorem dX12_count__87 : decode cX12_count_ 87 = .ok (.iconst (-1), 1) := by decide +kernel
theorem dX12_count__88 : decode cX12_count_ 88 = .ok (.ireturn, 1) := by decide +kernel
theorem dX12_cover_0 : decode cX12_cover 0 = .ok (.aload_n 0, 1) := by decide +kernel
theorem dX12_cover_1 : decode cX12_cover 1 = .ok (.iload_n 1, 1) := by decide +kernel
theorem dX12_cover_2 : decode cX12_cover 2 = .ok (.invokevirtual 381, 3) := by decide +kernel
theorem dX12_cover_5 : decode cX12_cover 5 = .ok (.ifCond .ne 6, 3) := by decide +kernel
theorem dX12_cover_8 : decode cX12_cover 8 = .ok (.bipush (-2), 2) := by decide +kernel
theorem dX12_cover_10 : decode cX12_cover 10 = .ok (.ireturn, 1) := by decide +kernel
theorem dX12_cover_11 : decode cX12_cover 11 = .ok (.aload_n 0, 1) := by decide +kernel
theorem dX12_cover_12 : decode cX12_cover 12 = .ok (.iload_n 1, 1) := by decide +kernel
theorem dX12_cover_13 : decode cX12_cover 13 = .ok (.invokevirtual 384, 3) := by decide +kernel
theorem dX12_cover_16 : decode cX12_cover 16 = .ok (.istore_n 2, 1) := by decide +kernel
theorem dX12_cover_17 : decode cX12_cover 17 = .ok (.iload_n 2, 1) := by decide +kernel
theorem dX12_cover_18 : decode cX12_cover 18 = .ok (.iconst (-1), 1) := by decide +kernel
theorem dX12_cover_19 : decode cX12_cover 19 = .ok (.if_icmp .ne 7, 3) := by decide +kernel
theorem dX12_cover_22 : decode cX12_cover 22 = .ok (.iconst (-1), 1) := by decide +kernel
theorem dX12_cover_23 : decode cX12_cover 23 = .ok (.goto 7, 3) := by decide +kernel
theorem dX12_cover_26 : decode cX12_cover 26 = .ok (.iload_n 2, 1) := by decide +kernel
theorem dX12_cover_27 : decode cX12_cover 27 = .ok (.invokestatic 265, 3) := by decide +kernel
theorem dX12_cover_30 : decode cX12_cover 30 = .ok (.ireturn, 1) := by decide +kernel
theorem dX12_coverOf_0 : decode cX12_coverOf 0 = .ok (.iconst (-1), 1) := by decide +kernel
theorem dX12_coverOf_1 : decode cX12_coverOf 1 = .ok (.istore_n 2, 1) := by decide +kernel
theorem dX12_coverOf_2 : decode cX12_coverOf 2 = .ok (.iconst 0, 1) := by decide +kernel
theorem dX12_coverOf_3 : decode cX12_coverOf 3 = .ok (.istore_n 3, 1) := by decide +kernel
theorem dX12_coverOf_4 : decode cX12_coverOf 4 = .ok (.iload_n 3, 1) := by decide +kernel
theorem dX12_coverOf_5 : decode cX12_coverOf 5 = .ok (.aload_n 0, 1) := by decide +kernel
theorem dX12_coverOf_6 : decode cX12_coverOf 6 = .ok (.invokevirtual 92, 3) := by decide +kernel
theorem dX12_coverOf_9 : decode cX12_coverOf 9 = .ok (.if_icmp .gt 61, 3) := by decide +kernel
theorem dX12_coverOf_12 : decode cX12_coverOf 12 = .ok (.iload_n 3, 1) := by decide +kernel
theorem dX12_coverOf_13 : decode cX12_coverOf 13 = .ok (.aload_n 0, 1) := by decide +kernel
theorem dX12_coverOf_14 : decode cX12_coverOf 14 = .ok (.invokevirtual 250, 3) := by decide +kernel
theorem dX12_coverOf_17 : decode cX12_coverOf 17 = .ok (.iconst (-1), 1) := by decide +kernel
theorem dX12_coverOf_18 : decode cX12_coverOf 18 = .ok (.ixor, 1) := by decide +kernel
theorem dX12_coverOf_19 : decode cX12_coverOf 19 = .ok (.iand, 1) := by decide +kernel
theorem dX12_coverOf_20 : decode cX12_coverOf 20 = .ok (.ifCond .ne 44, 3) := by decide +kernel
theorem dX12_coverOf_23 : decode cX12_coverOf 23 = .ok (.iload_n 2, 1) := by decide +kernel
theorem dX12_coverOf_24 : decode cX12_coverOf 24 = .ok (.iconst (-1), 1) := by decide +kernel
theorem dX12_coverOf_25 : decode cX12_coverOf 25 = .ok (.if_icmp .eq 17, 3) := by decide +kernel
theorem dX12_coverOf_28 : decode cX12_coverOf 28 = .ok (.iload_n 3, 1) := by decide +kernel
theorem dX12_coverOf_29 : decode cX12_coverOf 29 = .ok (.invokestatic 265, 3) := by decide +kernel
theorem dX12_coverOf_32 : decode cX12_coverOf 32 = .ok (.iload_n 2, 1) := by decide +kernel
theorem dX12_coverOf_33 : decode cX12_coverOf 33 = .ok (.invokestatic 265, 3) := by decide +kernel
theorem dX12_coverOf_36 : decode cX12_coverOf 36 = .ok (.if_icmp .lt 6, 3) := by decide +kernel
theorem dX12_coverOf_39 : decode cX12_coverOf 39 = .ok (.goto 25, 3) := by decide +kernel
theorem dX12_coverOf_42 : decode cX12_coverOf 42 = .ok (.aload_n 0, 1) := by decide +kernel
theorem dX12_coverOf_43 : decode cX12_coverOf 43 = .ok (.iload_n 3, 1) := by decide +kernel
theorem dX12_coverOf_44 : decode cX12_coverOf 44 = .ok (.invokevirtual 366, 3) := by decide +kernel
theorem dX12_coverOf_47 : decode cX12_coverOf 47 = .ok (.iload_n 1, 1) := by decide +kernel
theorem dX12_coverOf_48 : decode cX12_coverOf 48 = .ok (.aload_n 0, 1) := by decide +kernel
theorem dX12_coverOf_49 : decode cX12_coverOf 49 = .ok (.invokevirtual 372, 3) := by decide +kernel
theorem dX12_coverOf_52 : decode cX12_coverOf 52 = .ok (.iconst (-1), 1) := by decide +kernel
theorem dX12_coverOf_53 : decode cX12_coverOf 53 = .ok (.ixor, 1) := by decide +kernel
theorem dX12_coverOf_54 : decode cX12_coverOf 54 = .ok (.iand, 1) := by decide +kernel
theorem dX12_coverOf_55 : decode cX12_coverOf 55 = .ok (.ifCond .ne 7, 3) := by decide +kernel
theorem dX12_coverOf_58 : decode cX12_coverOf 58 = .ok (.iload_n 3, 1) := by decide +kernel
theorem dX12_coverOf_59 : decode cX12_coverOf 59 = .ok (.goto 4, 3) := by decide +kernel
theorem dX12_coverOf_62 : decode cX12_coverOf 62 = .ok (.iload_n 2, 1) := by decide +kernel
theorem dX12_coverOf_63 : decode cX12_coverOf 63 = .ok (.istore_n 2, 1) := by decide +kernel
theorem dX12_coverOf_64 : decode cX12_coverOf 64 = .ok (.iinc 3 1, 3) := by decide +kernel
theorem dX12_coverOf_67 : decode cX12_coverOf 67 = .ok (.goto (-63), 3) := by decide +kernel
theorem dX12_coverOf_70 : decode cX12_coverOf 70 = .ok (.iload_n 2, 1) := by decide +kernel
theorem dX12_coverOf_71 : decode cX12_coverOf 71 = .ok (.ireturn, 1) := by decide +kernel
theorem dX12_covers_0 : decode cX12_covers 0 = .ok (.aload_n 0, 1) := by decide +kernel
theorem dX12_covers_1 : decode cX12_covers 1 = .ok (.iload_n 1, 1) := by decide +kernel
theorem dX12_covers_2 : decode cX12_covers 2 = .ok (.invokevirtual 381, 3) := by decide +kernel
theorem dX12_covers_5 : decode cX12_covers 5 = .ok (.ifCond .eq 11, 3) := by decide +kernel
theorem dX12_covers_8 : decode cX12_covers 8 = .ok (.aload_n 0, 1) := by decide +kernel
theorem dX12_covers_9 : decode cX12_covers 9 = .ok (.iload_n 1, 1) := by decide +kernel
theorem dX12_covers_10 : decode cX12_covers 10 = .ok (.invokevirtual 384, 3) := by decide +kernel
theorem dX12_covers_13 : decode cX12_covers 13 = .ok (.goto 5, 3) := by decide +kernel
theorem dX12_covers_16 : decode cX12_covers 16 = .ok (.bipush (-2), 2) := by decide +kernel
theorem dX12_covers_18 : decode cX12_covers 18 = .ok (.ireturn, 1) := by decide +kernel
theorem dX12_cut_0 : decode cX12_cut 0 = .ok (.bipush 64, 2) := by decide +kernel
theorem dX12_cut_2 : decode cX12_cut 2 = .ok (.bipush 8, 2) := by decide +kernel
theorem dX12_cut_4 : decode cX12_cut 4 = .ok (.iload_n 2, 1) := by decide +kernel
theorem dX12_cut_5 : decode cX12_cut 5 = .ok (.ishl, 1) := by decide +kernel
theorem dX12_cut_6 : decode cX12_cut 6 = .ok (.isub, 1) := by decide +kernel
theorem dX12_cut_7 : decode cX12_cut 7 = .ok (.istore_n 3, 1) := by decide +kernel
theorem dX12_cut_8 : decode cX12_cut 8 = .ok (.lload_n 0, 1) := by decide +kernel
theorem dX12_cut_9 : decode cX12_cut 9 = .ok (.iload_n 3, 1) := by decide +kernel
theorem dX12_cut_10 : decode cX12_cut 10 = .ok (.lshl, 1) := by decide +kernel
theorem dX12_cut_11 : decode cX12_cut 11 = .ok (.iload_n 3, 1) := by decide +kernel
theorem dX12_cut_12 : decode cX12_cut 12 = .ok (.lshr, 1) := by decide +kernel
theorem dX12_cut_13 : decode cX12_cut 13 = .ok (.lreturn, 1) := by decide +kernel
theorem dX12_dies_0 : decode cX12_dies 0 = .ok (.aload_n 0, 1) := by decide +kernel
theorem dX12_dies_1 : decode cX12_dies 1 = .ok (.invokevirtual 347, 3) := by decide +kernel
theorem dX12_dies_4 : decode cX12_dies 4 = .ok (.ifCond .ne 6, 3) := by decide +kernel
theorem dX12_dies_7 : decode cX12_dies 7 = .ok (.bipush (-2), 2) := by decide +kernel
theorem dX12_dies_9 : decode cX12_dies 9 = .ok (.ireturn, 1) := by decide +kernel
theorem dX12_dies_10 : decode cX12_dies 10 = .ok (.aload_n 0, 1) := by decide +kernel
theorem dX12_dies_11 : decode cX12_dies 11 = .ok (.getfield 9, 3) := by decide +kernel
theorem dX12_dies_14 : decode cX12_dies 14 = .ok (.bipush 11, 2) := by decide +kernel
theorem dX12_dies_16 : decode cX12_dies 16 = .ok (.iaload, 1) := by decide +kernel
theorem dX12_dies_17 : decode cX12_dies 17 = .ok (.istore_n 1, 1) := by decide +kernel
theorem dX12_dies_18 : decode cX12_dies 18 = .ok (.aload_n 0, 1) := by decide +kernel
theorem dX12_dies_19 : decode cX12_dies 19 = .ok (.getfield 9, 3) := by decide +kernel
theorem dX12_dies_22 : decode cX12_dies 22 = .ok (.bipush 10, 2) := by decide +kernel
theorem dX12_dies_24 : decode cX12_dies 24 = .ok (.iaload, 1) := by decide +kernel
theorem dX12_dies_25 : decode cX12_dies 25 = .ok (.istore_n 2, 1) := by decide +kernel
theorem dX12_dies_26 : decode cX12_dies 26 = .ok (.iconst 0, 1) := by decide +kernel
theorem dX12_dies_27 : decode cX12_dies 27 = .ok (.istore_n 3, 1) := by decide +kernel
theorem dX12_dies_28 : decode cX12_dies 28 = .ok (.iload_n 3, 1) := by decide +kernel
theorem dX12_dies_29 : decode cX12_dies 29 = .ok (.bipush 9, 2) := by decide +kernel
theorem dX12_dies_31 : decode cX12_dies 31 = .ok (.if_icmp .ge 24, 3) := by decide +kernel
theorem dX12_dies_34 : decode cX12_dies 34 = .ok (.aload_n 0, 1) := by decide +kernel
theorem dX12_dies_35 : decode cX12_dies 35 = .ok (.getfield 46, 3) := by decide +kernel
theorem dX12_dies_38 : decode cX12_dies 38 = .ok (.iload_n 3, 1) := by decide +kernel
theorem dX12_dies_39 : decode cX12_dies 39 = .ok (.aload_n 0, 1) := by decide +kernel
theorem dX12_dies_40 : decode cX12_dies 40 = .ok (.getfield 9, 3) := by decide +kernel
theorem dX12_dies_43 : decode cX12_dies 43 = .ok (.bipush 112, 2) := by decide +kernel
theorem dX12_dies_45 : decode cX12_dies 45 = .ok (.iload_n 3, 1) := by decide +kernel
theorem dX12_dies_46 : decode cX12_dies 46 = .ok (.iadd, 1) := by decide +kernel
theorem dX12_dies_47 : decode cX12_dies 47 = .ok (.iaload, 1) := by decide +kernel
theorem dX12_dies_48 : decode cX12_dies 48 = .ok (.iastore, 1) := by decide +kernel
theorem dX12_dies_49 : decode cX12_dies 49 = .ok (.iinc 3 1, 3) := by decide +kernel
theorem dX12_dies_52 : decode cX12_dies 52 = .ok (.goto (-24), 3) := by decide +kernel
theorem dX12_dies_55 : decode cX12_dies 55 = .ok (.iconst (-1), 1) := by decide +kernel
theorem dX12_dies_56 : decode cX12_dies 56 = .ok (.istore_n 3, 1) := by decide +kernel
theorem dX12_dies_57 : decode cX12_dies 57 = .ok (.iconst 1, 1) := by decide +kernel
theorem dX12_dies_58 : decode cX12_dies 58 = .ok (.istore 4, 2) := by decide +kernel
theorem dX12_dies_60 : decode cX12_dies 60 = .ok (.iload 4, 2) := by decide +kernel
theorem dX12_dies_62 : decode cX12_dies 62 = .ok (.bipush 60, 2) := by decide +kernel
theorem dX12_dies_64 : decode cX12_dies 64 = .ok (.if_icmp .gt 36, 3) := by decide +kernel
theorem dX12_dies_67 : decode cX12_dies 67 = .ok (.iload_n 3, 1) := by decide +kernel
theorem dX12_dies_68 : decode cX12_dies 68 = .ok (.iconst (-1), 1) := by decide +kernel
theorem dX12_dies_69 : decode cX12_dies 69 = .ok (.if_icmp .ne 31, 3) := by decide +kernel
theorem dX12_dies_72 : decode cX12_dies 72 = .ok (.aload_n 0, 1) := by decide +kernel
theorem dX12_dies_73 : decode cX12_dies 73 = .ok (.invokevirtual 356, 3) := by decide +kernel
theorem dX12_dies_76 : decode cX12_dies 76 = .ok (.aload_n 0, 1) := by decide +kernel
theorem dX12_dies_77 : decode cX12_dies 77 = .ok (.getfield 9, 3) := by decide +kernel
theorem dX12_dies_80 : decode cX12_dies 80 = .ok (.bipush 11, 2) := by decide +kernel
theorem dX12_dies_82 : decode cX12_dies 82 = .ok (.iaload, 1) := by decide +kernel
theorem dX12_dies_83 : decode cX12_dies 83 = .ok (.iload_n 1, 1) := by decide +kernel
theorem dX12_dies_84 : decode cX12_dies 84 = .ok (.if_icmp .eq 8, 3) := by decide +kernel
theorem dX12_dies_87 : decode cX12_dies 87 = .ok (.iload 4, 2) := by decide +kernel
theorem dX12_dies_89 : decode cX12_dies 89 = .ok (.goto 4, 3) := by decide +kernel
theorem dX12_dies_92 : decode cX12_dies 92 = .ok (.iconst (-1), 1) := by decide +kernel
theorem dX12_dies_93 : decode cX12_dies 93 = .ok (.istore_n 3, 1) := by decide +kernel
theorem dX12_dies_94 : decode cX12_dies 94 = .ok (.iinc 4 1, 3) := by decide +kernel
theorem dX12_dies_97 : decode cX12_dies 97 = .ok (.goto (-37), 3) := by decide +kernel
theorem dX12_dies_100 : decode cX12_dies 100 = .ok (.aload_n 0, 1) := by decide +kernel
theorem dX12_dies_101 : decode cX12_dies 101 = .ok (.getfield 9, 3) := by decide +kernel
theorem dX12_dies_104 : decode cX12_dies 104 = .ok (.bipush 11, 2) := by decide +kernel
theorem dX12_dies_106 : decode cX12_dies 106 = .ok (.iload_n 1, 1) := by decide +kernel
theorem dX12_dies_107 : decode cX12_dies 107 = .ok (.iastore, 1) := by decide +kernel
theorem dX12_dies_108 : decode cX12_dies 108 = .ok (.aload_n 0, 1) := by decide +kernel
theorem dX12_dies_109 : decode cX12_dies 109 = .ok (.getfield 9, 3) := by decide +kernel
theorem dX12_dies_112 : decode cX12_dies 112 = .ok (.bipush 10, 2) := by decide +kernel
theorem dX12_dies_114 : decode cX12_dies 114 = .ok (.iload_n 2, 1) := by decide +kernel
theorem dX12_dies_115 : decode cX12_dies 115 = .ok (.iastore, 1) := by decide +kernel
theorem dX12_dies_116 : decode cX12_dies 116 = .ok (.iconst 0, 1) := by decide +kernel
theorem dX12_dies_117 : decode cX12_dies 117 = .ok (.istore 4, 2) := by decide +kernel
theorem dX12_dies_119 : decode cX12_dies 119 = .ok (.iload 4, 2) := by decide +kernel
theorem dX12_dies_121 : decode cX12_dies 121 = .ok (.bipush 9, 2) := by decide +kernel
theorem dX12_dies_123 : decode cX12_dies 123 = .ok (.if_icmp .ge 26, 3) := by decide +kernel
theorem dX12_dies_126 : decode cX12_dies 126 = .ok (.aload_n 0, 1) := by decide +kernel
theorem dX12_dies_127 : decode cX12_dies 127 = .ok (.getfield 9, 3) := by decide +kernel
theorem dX12_dies_130 : decode cX12_dies 130 = .ok (.bipush 112, 2) := by decide +kernel
theorem dX12_dies_132 : decode cX12_dies 132 = .ok (.iload 4, 2) := by decide +kernel
theorem dX12_dies_134 : decode cX12_dies 134 = .ok (.iadd, 1) := by decide +kernel
theorem dX12_dies_135 : decode cX12_dies 135 = .ok (.aload_n 0, 1) := by decide +kernel
theorem dX12_dies_136 : decode cX12_dies 136 = .ok (.getfield 46, 3) := by decide +kernel
theorem dX12_dies_139 : decode cX12_dies 139 = .ok (.iload 4, 2) := by decide +kernel
theorem dX12_dies_141 : decode cX12_dies 141 = .ok (.iaload, 1) := by decide +kernel
theorem dX12_dies_142 : decode cX12_dies 142 = .ok (.iastore, 1) := by decide +kernel
theorem dX12_dies_143 : decode cX12_dies 143 = .ok (.iinc 4 1, 3) := by decide +kernel
theorem dX12_dies_146 : decode cX12_dies 146 = .ok (.goto (-27), 3) := by decide +kernel
theorem dX12_dies_149 : decode cX12_dies 149 = .ok (.iload_n 3, 1) := by decide +kernel
theorem dX12_dies_150 : decode cX12_dies 150 = .ok (.ireturn, 1) := by decide +kernel
theorem dX12_district_0 : decode cX12_district 0 = .ok (.aload_n 0, 1) := by decide +kernel
theorem dX12_district_1 : decode cX12_district 1 = .ok (.iload_n 1, 1) := by decide +kernel
theorem dX12_district_2 : decode cX12_district 2 = .ok (.invokevirtual 332, 3) := by decide +kernel
theorem dX12_district_5 : decode cX12_district 5 = .ok (.ifCond .eq 15, 3) := by decide +kernel
theorem dX12_district_8 : decode cX12_district 8 = .ok (.iload_n 2, 1) := by decide +kernel
theorem dX12_district_9 : decode cX12_district 9 = .ok (.i2l, 1) := by decide +kernel
theorem dX12_district_10 : decode cX12_district 10 = .ok (.lconst 0, 1) := by decide +kernel
theorem dX12_district_11 : decode cX12_district 11 = .ok (.ldc2_w 80, 3) := by decide +kernel
theorem dX12_district_14 : decode cX12_district 14 = .ok (.invokestatic 82, 3) := by decide +kernel
theorem dX12_district_17 : decode cX12_district 17 = .ok (.ifCond .ne 6, 3) := by decide +kernel
theorem dX12_district_20 : decode cX12_district 20 = .ok (.bipush (-2), 2) := by decide +kernel
theorem dX12_district_22 : decode cX12_district 22 = .ok (.ireturn, 1) := by decide +kernel
theorem dX12_district_23 : decode cX12_district 23 = .ok (.aload_n 0, 1) := by decide +kernel
theorem dX12_district_24 : decode cX12_district 24 = .ok (.invokevirtual 335, 3) := by decide +kernel
theorem dX12_district_27 : decode cX12_district 27 = .ok (.iload_n 2, 1) := by decide +kernel
theorem dX12_district_28 : decode cX12_district 28 = .ok (.ifCond .ne 15, 3) := by decide +kernel
theorem dX12_district_31 : decode cX12_district 31 = .ok (.aload_n 0, 1) := by decide +kernel
theorem dX12_district_32 : decode cX12_district 32 = .ok (.getfield 9, 3) := by decide +kernel
theorem dX12_district_35 : decode cX12_district 35 = .ok (.bipush 12, 2) := by decide +kernel
theorem dX12_district_37 : decode cX12_district 37 = .ok (.iload_n 1, 1) := by decide +kernel
theorem dX12_district_38 : decode cX12_district 38 = .ok (.iadd, 1) := by decide +kernel
theorem dX12_district_39 : decode cX12_district 39 = .ok (.iaload, 1) := by decide +kernel
theorem dX12_district_40 : decode cX12_district 40 = .ok (.goto 21, 3) := by decide +kernel
theorem dX12_district_43 : decode cX12_district 43 = .ok (.iload_n 2, 1) := by decide +kernel
theorem dX12_district_44 : decode cX12_district 44 = .ok (.iconst 1, 1) := by decide +kernel
theorem dX12_district_45 : decode cX12_district 45 = .ok (.if_icmp .ne 11, 3) := by decide +kernel
theorem dX12_district_48 : decode cX12_district 48 = .ok (.aload_n 0, 1) := by decide +kernel
theorem dX12_district_49 : decode cX12_district 49 = .ok (.iload_n 1, 1) := by decide +kernel
theorem dX12_district_50 : decode cX12_district 50 = .ok (.invokevirtual 304, 3) := by decide +kernel
theorem dX12_district_53 : decode cX12_district 53 = .ok (.goto 8, 3) := by decide +kernel
theorem dX12_district_56 : decode cX12_district 56 = .ok (.aload_n 0, 1) := by decide +kernel
theorem dX12_district_57 : decode cX12_district 57 = .ok (.iload_n 1, 1) := by decide +kernel
theorem dX12_district_58 : decode cX12_district 58 = .ok (.invokevirtual 316, 3) := by decide +kernel
theorem dX12_district_61 : decode cX12_district 61 = .ok (.ireturn, 1) := by decide +kernel
theorem dX12_divisor_0 : decode cX12_divisor 0 = .ok (.iload_n 0, 1) := by decide +kernel
theorem dX12_divisor_1 : decode cX12_divisor 1 = .ok (.istore_n 2, 1) := by decide +kernel
theorem dX12_divisor_2 : decode cX12_divisor 2 = .ok (.iload_n 1, 1) := by decide +kernel
theorem dX12_divisor_3 : decode cX12_divisor 3 = .ok (.istore_n 3, 1) := by decide +kernel
theorem dX12_divisor_4 : decode cX12_divisor 4 = .ok (.iload_n 3, 1) := by decide +kernel
theorem dX12_divisor_5 : decode cX12_divisor 5 = .ok (.ifCond .eq 16, 3) := by decide +kernel
theorem dX12_divisor_8 : decode cX12_divisor 8 = .ok (.iload_n 2, 1) := by decide +kernel
theorem dX12_divisor_9 : decode cX12_divisor 9 = .ok (.iload_n 3, 1) := by decide +kernel
theorem dX12_divisor_10 : decode cX12_divisor 10 = .ok (.irem, 1) := by decide +kernel
theorem dX12_divisor_11 : decode cX12_divisor 11 = .ok (.istore 4, 2) := by decide +kernel
theorem dX12_divisor_13 : decode cX12_divisor 13 = .ok (.iload_n 3, 1) := by decide +kernel
theorem dX12_divisor_14 : decode cX12_divisor 14 = .ok (.istore_n 2, 1) := by decide +kernel
theorem dX12_divisor_15 : decode cX12_divisor 15 = .ok (.iload 4, 2) := by decide +kernel
theorem dX12_divisor_17 : decode cX12_divisor 17 = .ok (.istore_n 3, 1) := by decide +kernel
theorem dX12_divisor_18 : decode cX12_divisor 18 = .ok (.goto (-14), 3) := by decide +kernel
theorem dX12_divisor_21 : decode cX12_divisor 21 = .ok (.iload_n 2, 1) := by decide +kernel
theorem dX12_divisor_22 : decode cX12_divisor 22 = .ok (.ireturn, 1) := by decide +kernel
theorem dX12_drawn_0 : decode cX12_drawn 0 = .ok (.iload_n 1, 1) := by decide +kernel
theorem dX12_drawn_1 : decode cX12_drawn 1 = .ok (.invokestatic 476, 3) := by decide +kernel
theorem dX12_drawn_4 : decode cX12_drawn 4 = .ok (.ifCond .eq 21, 3) := by decide +kernel
theorem dX12_drawn_7 : decode cX12_drawn 7 = .ok (.aload_n 0, 1) := by decide +kernel
theorem dX12_drawn_8 : decode cX12_drawn 8 = .ok (.iload_n 2, 1) := by decide +kernel
theorem dX12_drawn_9 : decode cX12_drawn 9 = .ok (.invokevirtual 332, 3) := by decide +kernel
theorem dX12_drawn_12 : decode cX12_drawn 12 = .ok (.ifCond .eq 13, 3) := by decide +kernel
theorem dX12_drawn_15 : decode cX12_drawn 15 = .ok (.aload_n 0, 1) := by decide +kernel
theorem dX12_drawn_16 : decode cX12_drawn 16 = .ok (.iload_n 1, 1) := by decide +kernel
theorem dX12_drawn_17 : decode cX12_drawn 17 = .ok (.i2l, 1) := by decide +kernel
theorem dX12_drawn_18 : decode cX12_drawn 18 = .ok (.iload_n 2, 1) := by decide +kernel
theorem dX12_drawn_19 : decode cX12_drawn 19 = .ok (.invokevirtual 479, 3) := by decide +kernel
theorem dX12_drawn_22 : decode cX12_drawn 22 = .ok (.goto 5, 3) := by decide +kernel
theorem dX12_drawn_25 : decode cX12_drawn 25 = .ok (.bipush (-2), 2) := by decide +kernel
theorem dX12_drawn_27 : decode cX12_drawn 27 = .ok (.ireturn, 1) := by decide +kernel
theorem dX12_drawnSitter_0 : decode cX12_drawnSitter 0 = .ok (.aload_n 0, 1) := by decide +kernel
theorem dX12_drawnSitter_1 : decode cX12_drawnSitter 1 = .ok (.invokevirtual 335, 3) := by decide +kernel
theorem dX12_drawnSitter_4 : decode cX12_drawnSitter 4 = .ok (.lload_n 1, 1) := by decide +kernel
theorem dX12_drawnSitter_5 : decode cX12_drawnSitter 5 = .ok (.lstore 4, 2) := by decide +kernel
theorem dX12_drawnSitter_7 : decode cX12_drawnSitter 7 = .ok (.aload_n 0, 1) := by decide +kernel
theorem dX12_drawnSitter_8 : decode cX12_drawnSitter 8 = .ok (.iconst 0, 1) := by decide +kernel
theorem dX12_drawnSitter_9 : decode cX12_drawnSitter 9 = .ok (.putfield 256, 3) := by decide +kernel
theorem dX12_drawnSitter_12 : decode cX12_drawnSitter 12 = .ok (.iconst 0, 1) := by decide +kernel
theorem dX12_drawnSitter_13 : decode cX12_drawnSitter 13 = .ok (.istore 6, 2) := by decide +kernel
theorem dX12_drawnSitter_15 : decode cX12_drawnSitter 15 = .ok (.iload 6, 2) := by decide +kernel
theorem dX12_drawnSitter_17 : decode cX12_drawnSitter 17 = .ok (.aload_n 0, 1) := by decide +kernel
theorem dX12_drawnSitter_18 : decode cX12_drawnSitter 18 = .ok (.getfield 9, 3) := by decide +kernel
theorem dX12_drawnSitter_21 : decode cX12_drawnSitter 21 = .ok (.bipush 6, 2) := by decide +kernel
theorem dX12_drawnSitter_23 : decode cX12_drawnSitter 23 = .ok (.iaload, 1) := by decide +kernel
theorem dX12_drawnSitter_24 : decode cX12_drawnSitter 24 = .ok (.if_icmp .ge 64, 3) := by decide +kernel
theorem dX12_drawnSitter_27 : decode cX12_drawnSitter 27 = .ok (.ldc2_w 466, 3) := by decide +kernel
theorem dX12_drawnSitter_30 : decode cX12_drawnSitter 30 = .ok (.lload 4, 2) := by decide +kernel
theorem dX12_drawnSitter_32 : decode cX12_drawnSitter 32 = .ok (.lmul, 1) := by decide +kernel
theorem dX12_drawnSitter_33 : decode cX12_drawnSitter 33 = .ok (.ldc2_w 468, 3) := by decide +kernel
theorem dX12_drawnSitter_36 : decode cX12_drawnSitter 36 = .ok (.ladd, 1) := by decide +kernel
theorem dX12_drawnSitter_37 : decode cX12_drawnSitter 37 = .ok (.ldc2_w 470, 3) := by decide +kernel
theorem dX12_drawnSitter_40 : decode cX12_drawnSitter 40 = .ok (.lrem, 1) := by decide +kernel
theorem dX12_drawnSitter_41 : decode cX12_drawnSitter 41 = .ok (.lstore 4, 2) := by decide +kernel
theorem dX12_drawnSitter_43 : decode cX12_drawnSitter 43 = .ok (.aload_n 0, 1) := by decide +kernel
theorem dX12_drawnSitter_44 : decode cX12_drawnSitter 44 = .ok (.dup, 1) := by decide +kernel
theorem dX12_drawnSitter_45 : decode cX12_drawnSitter 45 = .ok (.getfield 256, 3) := by decide +kernel
theorem dX12_drawnSitter_48 : decode cX12_drawnSitter 48 = .ok (.lload 4, 2) := by decide +kernel
theorem dX12_drawnSitter_50 : decode cX12_drawnSitter 50 = .ok (.ldc2_w 472, 3) := by decide +kernel
theorem dX12_drawnSitter_53 : decode cX12_drawnSitter 53 = .ok (.ldiv, 1) := by decide +kernel
theorem dX12_drawnSitter_54 : decode cX12_drawnSitter 54 = .ok (.ldc2_w 464, 3) := by decide +kernel
theorem dX12_drawnSitter_57 : decode cX12_drawnSitter 57 = .ok (.lrem, 1) := by decide +kernel
theorem dX12_drawnSitter_58 : decode cX12_drawnSitter 58 = .ok (.aload_n 0, 1) := by decide +kernel
theorem dX12_drawnSitter_59 : decode cX12_drawnSitter 59 = .ok (.iload 6, 2) := by decide +kernel
theorem dX12_drawnSitter_61 : decode cX12_drawnSitter 61 = .ok (.iconst 2, 1) := by decide +kernel
theorem dX12_drawnSitter_62 : decode cX12_drawnSitter 62 = .ok (.invokevirtual 259, 3) := by decide +kernel
theorem dX12_drawnSitter_65 : decode cX12_drawnSitter 65 = .ok (.i2l, 1) := by decide +kernel
theorem dX12_drawnSitter_66 : decode cX12_drawnSitter 66 = .ok (.lcmp, 1) := by decide +kernel
theorem dX12_drawnSitter_67 : decode cX12_drawnSitter 67 = .ok (.ifCond .ge 10, 3) := by decide +kernel
theorem dX12_drawnSitter_70 : decode cX12_drawnSitter 70 = .ok (.iconst 1, 1) := by decide +kernel
theorem dX12_drawnSitter_71 : decode cX12_drawnSitter 71 = .ok (.iload 6, 2) := by decide +kernel
theorem dX12_drawnSitter_73 : decode cX12_drawnSitter 73 = .ok (.ishl, 1) := by decide +kernel
theorem dX12_drawnSitter_74 : decode cX12_drawnSitter 74 = .ok (.goto 4, 3) := by decide +kernel
theorem dX12_drawnSitter_77 : decode cX12_drawnSitter 77 = .ok (.iconst 0, 1) := by decide +kernel
theorem dX12_drawnSitter_78 : decode cX12_drawnSitter 78 = .ok (.ior, 1) := by decide +kernel
theorem dX12_drawnSitter_79 : decode cX12_drawnSitter 79 = .ok (.putfield 256, 3) := by decide +kernel
theorem dX12_drawnSitter_82 : decode cX12_drawnSitter 82 = .ok (.iinc 6 1, 3) := by decide +kernel
theorem dX12_drawnSitter_85 : decode cX12_drawnSitter 85 = .ok (.goto (-70), 3) := by decide +kernel
theorem dX12_drawnSitter_88 : decode cX12_drawnSitter 88 = .ok (.aload_n 0, 1) := by decide +kernel
theorem dX12_drawnSitter_89 : decode cX12_drawnSitter 89 = .ok (.iload_n 3, 1) := by decide +kernel
theorem dX12_drawnSitter_90 : decode cX12_drawnSitter 90 = .ok (.aload_n 0, 1) := by decide +kernel
theorem dX12_drawnSitter_91 : decode cX12_drawnSitter 91 = .ok (.getfield 9, 3) := by decide +kernel
theorem dX12_drawnSitter_94 : decode cX12_drawnSitter 94 = .ok (.iconst 1, 1) := by decide +kernel
theorem dX12_drawnSitter_95 : decode cX12_drawnSitter 95 = .ok (.iaload, 1) := by decide +kernel
theorem dX12_drawnSitter_96 : decode cX12_drawnSitter 96 = .ok (.invokevirtual 319, 3) := by decide +kernel
theorem dX12_drawnSitter_99 : decode cX12_drawnSitter 99 = .ok (.ireturn, 1) := by decide +kernel
theorem dX12_dumb_0 : decode cX12_dumb 0 = .ok (.aload_n 0, 1) := by decide +kernel
theorem dX12_dumb_1 : decode cX12_dumb 1 = .ok (.invokevirtual 347, 3) := by decide +kernel
theorem dX12_dumb_4 : decode cX12_dumb 4 = .ok (.ifCond .ne 6, 3) := by decide +kernel
theorem dX12_dumb_7 : decode cX12_dumb 7 = .ok (.bipush (-2), 2) := by decide +kernel
theorem dX12_dumb_9 : decode cX12_dumb 9 = .ok (.ireturn, 1) := by decide +kernel
theorem dX12_dumb_10 : decode cX12_dumb 10 = .ok (.aload_n 0, 1) := by decide +kernel
theorem dX12_dumb_11 : decode cX12_dumb 11 = .ok (.aload_n 0, 1) := by decide +kernel
theorem dX12_dumb_12 : decode cX12_dumb 12 = .ok (.getfield 9, 3) := by decide +kernel
theorem dX12_dumb_15 : decode cX12_dumb 15 = .ok (.bipush 10, 2) := by decide +kernel
theorem dX12_dumb_17 : decode cX12_dumb 17 = .ok (.iaload, 1) := by decide +kernel
theorem dX12_dumb_18 : decode cX12_dumb 18 = .ok (.invokevirtual 366, 3) := by decide +kernel
theorem dX12_dumb_21 : decode cX12_dumb 21 = .ok (.iconst 1, 1) := by decide +kernel
theorem dX12_dumb_22 : decode cX12_dumb 22 = .ok (.aload_n 0, 1) := by decide +kernel
theorem dX12_dumb_23 : decode cX12_dumb 23 = .ok (.getfield 9, 3) := by decide +kernel
theorem dX12_dumb_26 : decode cX12_dumb 26 = .ok (.iconst 0, 1) := by decide +kernel
theorem dX12_dumb_27 : decode cX12_dumb 27 = .ok (.iaload, 1) := by decide +kernel
theorem dX12_dumb_28 : decode cX12_dumb 28 = .ok (.ishl, 1) := by decide +kernel
theorem dX12_dumb_29 : decode cX12_dumb 29 = .ok (.iconst 1, 1) := by decide +kernel
theorem dX12_dumb_30 : decode cX12_dumb 30 = .ok (.isub, 1) := by decide +kernel
theorem dX12_dumb_31 : decode cX12_dumb 31 = .ok (.aload_n 0, 1) := by decide +kernel
theorem dX12_dumb_32 : decode cX12_dumb 32 = .ok (.invokevirtual 372, 3) := by decide +kernel
theorem dX12_dumb_35 : decode cX12_dumb 35 = .ok (.iconst (-1), 1) := by decide +kernel
theorem dX12_dumb_36 : decode cX12_dumb 36 = .ok (.ixor, 1) := by decide +kernel
theorem dX12_dumb_37 : decode cX12_dumb 37 = .ok (.iand, 1) := by decide +kernel
theorem dX12_dumb_38 : decode cX12_dumb 38 = .ok (.ireturn, 1) := by decide +kernel
theorem dX12_elected_0 : decode cX12_elected 0 = .ok (.aload_n 0, 1) := by decide +kernel
theorem dX12_elected_1 : decode cX12_elected 1 = .ok (.invokevirtual 347, 3) := by decide +kernel
theorem dX12_elected_4 : decode cX12_elected 4 = .ok (.ifCond .ne 6, 3) := by decide +kernel
theorem dX12_elected_7 : decode cX12_elected 7 = .ok (.bipush (-2), 2) := by decide +kernel
theorem dX12_elected_9 : decode cX12_elected 9 = .ok (.ireturn, 1) := by decide +kernel
theorem dX12_elected_10 : decode cX12_elected 10 = .ok (.aload_n 0, 1) := by decide +kernel
theorem dX12_elected_11 : decode cX12_elected 11 = .ok (.invokevirtual 335, 3) := by decide +kernel
theorem dX12_elected_14 : decode cX12_elected 14 = .ok (.aload_n 0, 1) := by decide +kernel
theorem dX12_elected_15 : decode cX12_elected 15 = .ok (.invokevirtual 353, 3) := by decide +kernel
theorem dX12_elected_18 : decode cX12_elected 18 = .ok (.ireturn, 1) := by decide +kernel
theorem dX12_electedNow_0 : decode cX12_electedNow 0 = .ok (.iconst 0, 1) := by decide +kernel
theorem dX12_electedNow_1 : decode cX12_electedNow 1 = .ok (.istore_n 1, 1) := by decide +kernel
theorem dX12_electedNow_2 : decode cX12_electedNow 2 = .ok (.iconst 0, 1) := by decide +kernel
theorem dX12_electedNow_3 : decode cX12_electedNow 3 = .ok (.istore_n 2, 1) := by decide +kernel
theorem dX12_electedNow_4 : decode cX12_electedNow 4 = .ok (.iload_n 2, 1) := by decide +kernel
theorem dX12_electedNow_5 : decode cX12_electedNow 5 = .ok (.aload_n 0, 1) := by decide +kernel
theorem dX12_electedNow_6 : decode cX12_electedNow 6 = .ok (.getfield 9, 3) := by decide +kernel
theorem dX12_electedNow_9 : decode cX12_electedNow 9 = .ok (.iconst 4, 1) := by decide +kernel
theorem dX12_electedNow_10 : decode cX12_electedNow 10 = .ok (.iaload, 1) := by decide +kernel
theorem dX12_electedNow_11 : decode cX12_electedNow 11 = .ok (.if_icmp .ge 36, 3) := by decide +kernel
theorem dX12_electedNow_14 : decode cX12_electedNow 14 = .ok (.aload_n 0, 1) := by decide +kernel
theorem dX12_electedNow_15 : decode cX12_electedNow 15 = .ok (.iload_n 2, 1) := by decide +kernel
theorem dX12_electedNow_16 : decode cX12_electedNow 16 = .ok (.aload_n 0, 1) := by decide +kernel
theorem dX12_electedNow_17 : decode cX12_electedNow 17 = .ok (.getfield 9, 3) := by decide +kernel
theorem dX12_electedNow_20 : decode cX12_electedNow 20 = .ok (.iconst 1, 1) := by decide +kernel
theorem dX12_electedNow_21 : decode cX12_electedNow 21 = .ok (.iaload, 1) := by decide +kernel
theorem dX12_electedNow_22 : decode cX12_electedNow 22 = .ok (.invokevirtual 319, 3) := by decide +kernel
theorem dX12_electedNow_25 : decode cX12_electedNow 25 = .ok (.istore_n 3, 1) := by decide +kernel
theorem dX12_electedNow_26 : decode cX12_electedNow 26 = .ok (.iload_n 1, 1) := by decide +kernel
theorem dX12_electedNow_27 : decode cX12_electedNow 27 = .ok (.iload_n 3, 1) := by decide +kernel
theorem dX12_electedNow_28 : decode cX12_electedNow 28 = .ok (.iconst (-1), 1) := by decide +kernel
theorem dX12_electedNow_29 : decode cX12_electedNow 29 = .ok (.if_icmp .ne 7, 3) := by decide +kernel
theorem dX12_electedNow_32 : decode cX12_electedNow 32 = .ok (.iconst 0, 1) := by decide +kernel
theorem dX12_electedNow_33 : decode cX12_electedNow 33 = .ok (.goto 6, 3) := by decide +kernel
theorem dX12_electedNow_36 : decode cX12_electedNow 36 = .ok (.iconst 1, 1) := by decide +kernel
theorem dX12_electedNow_37 : decode cX12_electedNow 37 = .ok (.iload_n 3, 1) := by decide +kernel
theorem dX12_electedNow_38 : decode cX12_electedNow 38 = .ok (.ishl, 1) := by decide +kernel
theorem dX12_electedNow_39 : decode cX12_electedNow 39 = .ok (.ior, 1) := by decide +kernel
theorem dX12_electedNow_40 : decode cX12_electedNow 40 = .ok (.istore_n 1, 1) := by decide +kernel
theorem dX12_electedNow_41 : decode cX12_electedNow 41 = .ok (.iinc 2 1, 3) := by decide +kernel
theorem dX12_electedNow_44 : decode cX12_electedNow 44 = .ok (.goto (-40), 3) := by decide +kernel
theorem dX12_electedNow_47 : decode cX12_electedNow 47 = .ok (.iload_n 1, 1) := by decide +kernel
theorem dX12_electedNow_48 : decode cX12_electedNow 48 = .ok (.ireturn, 1) := by decide +kernel
theorem dX12_end_0 : decode cX12_end 0 = .ok (.iload_n 1, 1) := by decide +kernel
theorem dX12_end_1 : decode cX12_end 1 = .ok (.i2l, 1) := by decide +kernel
theorem dX12_end_2 : decode cX12_end 2 = .ok (.lconst 0, 1) := by decide +kernel
theorem dX12_end_3 : decode cX12_end 3 = .ok (.aload_n 0, 1) := by decide +kernel
theorem dX12_end_4 : decode cX12_end 4 = .ok (.getfield 96, 3) := by decide +kernel
theorem dX12_end_7 : decode cX12_end 7 = .ok (.i2l, 1) := by decide +kernel
theorem dX12_end_8 : decode cX12_end 8 = .ok (.invokestatic 82, 3) := by decide +kernel
theorem dX12_end_11 : decode cX12_end 11 = .ok (.ifCond .ne 5, 3) := by decide +kernel
theorem dX12_end_14 : decode cX12_end 14 = .ok (.iconst (-1), 1) := by decide +kernel
theorem dX12_end_15 : decode cX12_end 15 = .ok (.ireturn, 1) := by decide +kernel
theorem dX12_end_16 : decode cX12_end 16 = .ok (.aload_n 0, 1) := by decide +kernel
theorem dX12_end_17 : decode cX12_end 17 = .ok (.iload_n 1, 1) := by decide +kernel
theorem dX12_end_18 : decode cX12_end 18 = .ok (.putfield 96, 3) := by decide +kernel
theorem dX12_end_21 : decode cX12_end 21 = .ok (.iload_n 1, 1) := by decide +kernel
theorem dX12_end_22 : decode cX12_end 22 = .ok (.ireturn, 1) := by decide +kernel
theorem dX12_errs_0 : decode cX12_errs 0 = .ok (.aload_n 0, 1) := by decide +kernel
theorem dX12_errs_1 : decode cX12_errs 1 = .ok (.invokevirtual 135, 3) := by decide +kernel
theorem dX12_errs_4 : decode cX12_errs 4 = .ok (.ifCond .ne 4, 3) := by decide +kernel
theorem dX12_errs_7 : decode cX12_errs 7 = .ok (.return_, 1) := by decide +kernel
theorem dX12_errs_8 : decode cX12_errs 8 = .ok (.aload_n 0, 1) := by decide +kernel
theorem dX12_errs_9 : decode cX12_errs 9 = .ok (.iload_n 1, 1) := by decide +kernel
theorem dX12_errs_10 : decode cX12_errs 10 = .ok (.putfield 132, 3) := by decide +kernel
theorem dX12_errs_13 : decode cX12_errs 13 = .ok (.aload_n 0, 1) := by decide +kernel
theorem dX12_errs_14 : decode cX12_errs 14 = .ok (.aload_n 0, 1) := by decide +kernel
theorem dX12_errs_15 : decode cX12_errs 15 = .ok (.getfield 109, 3) := by decide +kernel
theorem dX12_errs_18 : decode cX12_errs 18 = .ok (.putfield 27, 3) := by decide +kernel
theorem dX12_errs_21 : decode cX12_errs 21 = .ok (.return_, 1) := by decide +kernel
theorem dX12_fault_0 : decode cX12_fault 0 = .ok (.iload_n 1, 1) := by decide +kernel
theorem dX12_fault_1 : decode cX12_fault 1 = .ok (.ifCond .ne 10, 3) := by decide +kernel
theorem dX12_fault_4 : decode cX12_fault 4 = .ok (.aload_n 0, 1) := by decide +kernel
theorem dX12_fault_5 : decode cX12_fault 5 = .ok (.getfield 132, 3) := by decide +kernel
theorem dX12_fault_8 : decode cX12_fault 8 = .ok (.goto 16, 3) := by decide +kernel
theorem dX12_fault_11 : decode cX12_fault 11 = .ok (.iload_n 1, 1) := by decide +kernel
theorem dX12_fault_12 : decode cX12_fault 12 = .ok (.iconst 1, 1) := by decide +kernel
theorem dX12_fault_13 : decode cX12_fault 13 = .ok (.if_icmp .ne 10, 3) := by decide +kernel
theorem dX12_fault_16 : decode cX12_fault 16 = .ok (.aload_n 0, 1) := by decide +kernel
theorem dX12_fault_17 : decode cX12_fault 17 = .ok (.getfield 27, 3) := by decide +kernel
theorem dX12_fault_20 : decode cX12_fault 20 = .ok (.goto 4, 3) := by decide +kernel
theorem dX12_fault_23 : decode cX12_fault 23 = .ok (.iconst (-1), 1) := by decide +kernel
theorem dX12_fault_24 : decode cX12_fault 24 = .ok (.ireturn, 1) := by decide +kernel
theorem dX12_feed_0 : decode cX12_feed 0 = .ok (.aload_n 0, 1) := by decide +kernel
theorem dX12_feed_1 : decode cX12_feed 1 = .ok (.getfield 96, 3) := by decide +kernel
theorem dX12_feed_4 : decode cX12_feed 4 = .ok (.bipush 20, 2) := by decide +kernel
theorem dX12_feed_6 : decode cX12_feed 6 = .ok (.iadd, 1) := by decide +kernel
theorem dX12_feed_7 : decode cX12_feed 7 = .ok (.sipush 1600, 3) := by decide +kernel
theorem dX12_feed_10 : decode cX12_feed 10 = .ok (.if_icmp .le 5, 3) := by decide +kernel
theorem dX12_feed_13 : decode cX12_feed 13 = .ok (.iconst (-1), 1) := by decide +kernel
theorem dX12_feed_14 : decode cX12_feed 14 = .ok (.ireturn, 1) := by decide +kernel
theorem dX12_feed_15 : decode cX12_feed 15 = .ok (.aload_n 0, 1) := by decide +kernel
theorem dX12_feed_16 : decode cX12_feed 16 = .ok (.getfield 24, 3) := by decide +kernel
theorem dX12_feed_19 : decode cX12_feed 19 = .ok (.iconst 0, 1) := by decide +kernel
theorem dX12_feed_20 : decode cX12_feed 20 = .ok (.iload_n 1, 1) := by decide +kernel
theorem dX12_feed_21 : decode cX12_feed 21 = .ok (.iastore, 1) := by decide +kernel
theorem dX12_feed_22 : decode cX12_feed 22 = .ok (.aload_n 0, 1) := by decide +kernel
theorem dX12_feed_23 : decode cX12_feed 23 = .ok (.getfield 24, 3) := by decide +kernel
theorem dX12_feed_26 : decode cX12_feed 26 = .ok (.iconst 1, 1) := by decide +kernel
theorem dX12_feed_27 : decode cX12_feed 27 = .ok (.iload_n 2, 1) := by decide +kernel
theorem dX12_feed_28 : decode cX12_feed 28 = .ok (.iastore, 1) := by decide +kernel
theorem dX12_feed_29 : decode cX12_feed 29 = .ok (.aload_n 0, 1) := by decide +kernel
theorem dX12_feed_30 : decode cX12_feed 30 = .ok (.getfield 24, 3) := by decide +kernel
theorem dX12_feed_33 : decode cX12_feed 33 = .ok (.iconst 2, 1) := by decide +kernel
theorem dX12_feed_34 : decode cX12_feed 34 = .ok (.iload_n 3, 1) := by decide +kernel
theorem dX12_feed_35 : decode cX12_feed 35 = .ok (.iastore, 1) := by decide +kernel
theorem dX12_feed_36 : decode cX12_feed 36 = .ok (.aload_n 0, 1) := by decide +kernel
theorem dX12_feed_37 : decode cX12_feed 37 = .ok (.getfield 24, 3) := by decide +kernel
theorem dX12_feed_40 : decode cX12_feed 40 = .ok (.iconst 3, 1) := by decide +kernel
theorem dX12_feed_41 : decode cX12_feed 41 = .ok (.iload 4, 2) := by decide +kernel
theorem dX12_feed_43 : decode cX12_feed 43 = .ok (.iastore, 1) := by decide +kernel
theorem dX12_feed_44 : decode cX12_feed 44 = .ok (.aload_n 0, 1) := by decide +kernel
theorem dX12_feed_45 : decode cX12_feed 45 = .ok (.getfield 24, 3) := by decide +kernel
theorem dX12_feed_48 : decode cX12_feed 48 = .ok (.iconst 4, 1) := by decide +kernel
theorem dX12_feed_49 : decode cX12_feed 49 = .ok (.iload 5, 2) := by decide +kernel
theorem dX12_feed_51 : decode cX12_feed 51 = .ok (.iastore, 1) := by decide +kernel
theorem dX12_feed_52 : decode cX12_feed 52 = .ok (.iconst 0, 1) := by decide +kernel
theorem dX12_feed_53 : decode cX12_feed 53 = .ok (.istore 6, 2) := by decide +kernel
theorem dX12_feed_55 : decode cX12_feed 55 = .ok (.iload 6, 2) := by decide +kernel
theorem dX12_feed_57 : decode cX12_feed 57 = .ok (.bipush 20, 2) := by decide +kernel
theorem dX12_feed_59 : decode cX12_feed 59 = .ok (.if_icmp .ge 42, 3) := by decide +kernel
theorem dX12_feed_62 : decode cX12_feed 62 = .ok (.aload_n 0, 1) := by decide +kernel
theorem dX12_feed_63 : decode cX12_feed 63 = .ok (.getfield 20, 3) := by decide +kernel
theorem dX12_feed_66 : decode cX12_feed 66 = .ok (.aload_n 0, 1) := by decide +kernel
theorem dX12_feed_67 : decode cX12_feed 67 = .ok (.getfield 96, 3) := by decide +kernel
theorem dX12_feed_70 : decode cX12_feed 70 = .ok (.iload 6, 2) := by decide +kernel
theorem dX12_feed_72 : decode cX12_feed 72 = .ok (.iadd, 1) := by decide +kernel
theorem dX12_feed_73 : decode cX12_feed 73 = .ok (.aload_n 0, 1) := by decide +kernel
theorem dX12_feed_74 : decode cX12_feed 74 = .ok (.getfield 24, 3) := by decide +kernel
theorem dX12_feed_77 : decode cX12_feed 77 = .ok (.iload 6, 2) := by decide +kernel
theorem dX12_feed_79 : decode cX12_feed 79 = .ok (.iconst 4, 1) := by decide +kernel
theorem dX12_feed_80 : decode cX12_feed 80 = .ok (.idiv, 1) := by decide +kernel
theorem dX12_feed_81 : decode cX12_feed 81 = .ok (.iaload, 1) := by decide +kernel
theorem dX12_feed_82 : decode cX12_feed 82 = .ok (.bipush 24, 2) := by decide +kernel
theorem dX12_feed_84 : decode cX12_feed 84 = .ok (.bipush 8, 2) := by decide +kernel
theorem dX12_feed_86 : decode cX12_feed 86 = .ok (.iload 6, 2) := by decide +kernel
theorem dX12_feed_88 : decode cX12_feed 88 = .ok (.iconst 4, 1) := by decide +kernel
theorem dX12_feed_89 : decode cX12_feed 89 = .ok (.irem, 1) := by decide +kernel
theorem dX12_feed_90 : decode cX12_feed 90 = .ok (.imul, 1) := by decide +kernel
theorem dX12_feed_91 : decode cX12_feed 91 = .ok (.isub, 1) := by decide +kernel
theorem dX12_feed_92 : decode cX12_feed 92 = .ok (.ishr, 1) := by decide +kernel
theorem dX12_feed_93 : decode cX12_feed 93 = .ok (.i2b, 1) := by decide +kernel
theorem dX12_feed_94 : decode cX12_feed 94 = .ok (.bastore, 1) := by decide +kernel
theorem dX12_feed_95 : decode cX12_feed 95 = .ok (.iinc 6 1, 3) := by decide +kernel
theorem dX12_feed_98 : decode cX12_feed 98 = .ok (.goto (-43), 3) := by decide +kernel
theorem dX12_feed_101 : decode cX12_feed 101 = .ok (.aload_n 0, 1) := by decide +kernel
theorem dX12_feed_102 : decode cX12_feed 102 = .ok (.dup, 1) := by decide +kernel
theorem dX12_feed_103 : decode cX12_feed 103 = .ok (.getfield 96, 3) := by decide +kernel
theorem dX12_feed_106 : decode cX12_feed 106 = .ok (.bipush 20, 2) := by decide +kernel
theorem dX12_feed_108 : decode cX12_feed 108 = .ok (.iadd, 1) := by decide +kernel
theorem dX12_feed_109 : decode cX12_feed 109 = .ok (.putfield 96, 3) := by decide +kernel
theorem dX12_feed_112 : decode cX12_feed 112 = .ok (.aload_n 0, 1) := by decide +kernel
theorem dX12_feed_113 : decode cX12_feed 113 = .ok (.getfield 96, 3) := by decide +kernel
theorem dX12_feed_116 : decode cX12_feed 116 = .ok (.ireturn, 1) := by decide +kernel
theorem dX12_feint_0 : decode cX12_feint 0 = .ok (.aload_n 0, 1) := by decide +kernel
theorem dX12_feint_1 : decode cX12_feint 1 = .ok (.iload_n 1, 1) := by decide +kernel
theorem dX12_feint_2 : decode cX12_feint 2 = .ok (.invokevirtual 328, 3) := by decide +kernel
theorem dX12_feint_5 : decode cX12_feint 5 = .ok (.ifCond .ne 6, 3) := by decide +kernel
theorem dX12_feint_8 : decode cX12_feint 8 = .ok (.bipush (-2), 2) := by decide +kernel
theorem dX12_feint_10 : decode cX12_feint 10 = .ok (.ireturn, 1) := by decide +kernel
theorem dX12_feint_11 : decode cX12_feint 11 = .ok (.aload_n 0, 1) := by decide +kernel
theorem dX12_feint_12 : decode cX12_feint 12 = .ok (.iload_n 1, 1) := by decide +kernel
theorem dX12_feint_13 : decode cX12_feint 13 = .ok (.invokevirtual 405, 3) := by decide +kernel
theorem dX12_feint_16 : decode cX12_feint 16 = .ok (.aload_n 0, 1) := by decide +kernel
theorem dX12_feint_17 : decode cX12_feint 17 = .ok (.getfield 399, 3) := by decide +kernel
theorem dX12_feint_20 : decode cX12_feint 20 = .ok (.ireturn, 1) := by decide +kernel
theorem dX12_findFeint_0 : decode cX12_findFeint 0 = .ok (.aload_n 0, 1) := by decide +kernel
theorem dX12_findFeint_1 : decode cX12_findFeint 1 = .ok (.invokevirtual 335, 3) := by decide +kernel
theorem dX12_findFeint_4 : decode cX12_findFeint 4 = .ok (.aload_n 0, 1) := by decide +kernel
theorem dX12_findFeint_5 : decode cX12_findFeint 5 = .ok (.getfield 34, 3) := by decide +kernel
theorem dX12_findFeint_8 : decode cX12_findFeint 8 = .ok (.iload_n 1, 1) := by decide +kernel
theorem dX12_findFeint_9 : decode cX12_findFeint 9 = .ok (.iaload, 1) := by decide +kernel
theorem dX12_findFeint_10 : decode cX12_findFeint 10 = .ok (.istore_n 2, 1) := by decide +kernel
theorem dX12_findFeint_11 : decode cX12_findFeint 11 = .ok (.aload_n 0, 1) := by decide +kernel
theorem dX12_findFeint_12 : decode cX12_findFeint 12 = .ok (.iload_n 1, 1) := by decide +kernel
theorem dX12_findFeint_13 : decode cX12_findFeint 13 = .ok (.aload_n 0, 1) := by decide +kernel
theorem dX12_findFeint_14 : decode cX12_findFeint 14 = .ok (.iload_n 2, 1) := by decide +kernel
theorem dX12_findFeint_15 : decode cX12_findFeint 15 = .ok (.aload_n 0, 1) := by decide +kernel
theorem dX12_findFeint_16 : decode cX12_findFeint 16 = .ok (.getfield 9, 3) := by decide +kernel
theorem dX12_findFeint_19 : decode cX12_findFeint 19 = .ok (.iconst 1, 1) := by decide +kernel
theorem dX12_findFeint_20 : decode cX12_findFeint 20 = .ok (.iaload, 1) := by decide +kernel
theorem dX12_findFeint_21 : decode cX12_findFeint 21 = .ok (.invokevirtual 319, 3) := by decide +kernel
theorem dX12_findFeint_24 : decode cX12_findFeint 24 = .ok (.invokevirtual 396, 3) := by decide +kernel
theorem dX12_findFeint_27 : decode cX12_findFeint 27 = .ok (.istore_n 3, 1) := by decide +kernel
theorem dX12_findFeint_28 : decode cX12_findFeint 28 = .ok (.aload_n 0, 1) := by decide +kernel
theorem dX12_findFeint_29 : decode cX12_findFeint 29 = .ok (.iconst (-1), 1) := by decide +kernel
theorem dX12_findFeint_30 : decode cX12_findFeint 30 = .ok (.putfield 399, 3) := by decide +kernel
theorem dX12_findFeint_33 : decode cX12_findFeint 33 = .ok (.aload_n 0, 1) := by decide +kernel
theorem dX12_findFeint_34 : decode cX12_findFeint 34 = .ok (.iconst 0, 1) := by decide +kernel
theorem dX12_findFeint_35 : decode cX12_findFeint 35 = .ok (.putfield 402, 3) := by decide +kernel
theorem dX12_findFeint_38 : decode cX12_findFeint 38 = .ok (.aload_n 0, 1) := by decide +kernel
theorem dX12_findFeint_39 : decode cX12_findFeint 39 = .ok (.iload_n 2, 1) := by decide +kernel
theorem dX12_findFeint_40 : decode cX12_findFeint 40 = .ok (.invokevirtual 304, 3) := by decide +kernel
theorem dX12_findFeint_43 : decode cX12_findFeint 43 = .ok (.istore 4, 2) := by decide +kernel
theorem dX12_findFeint_45 : decode cX12_findFeint 45 = .ok (.iconst 0, 1) := by decide +kernel
theorem dX12_findFeint_46 : decode cX12_findFeint 46 = .ok (.istore 5, 2) := by decide +kernel
theorem dX12_findFeint_48 : decode cX12_findFeint 48 = .ok (.iload 5, 2) := by decide +kernel
theorem dX12_findFeint_50 : decode cX12_findFeint 50 = .ok (.aload_n 0, 1) := by decide +kernel
theorem dX12_findFeint_51 : decode cX12_findFeint 51 = .ok (.getfield 9, 3) := by decide +kernel
theorem dX12_findFeint_54 : decode cX12_findFeint 54 = .ok (.iconst 5, 1) := by decide +kernel
theorem dX12_findFeint_55 : decode cX12_findFeint 55 = .ok (.iaload, 1) := by decide +kernel
theorem dX12_findFeint_56 : decode cX12_findFeint 56 = .ok (.if_icmp .ge 82, 3) := by decide +kernel
theorem dX12_findFeint_59 : decode cX12_findFeint 59 = .ok (.iload 4, 2) := by decide +kernel
theorem dX12_findFeint_61 : decode cX12_findFeint 61 = .ok (.iload 5, 2) := by decide +kernel
theorem dX12_findFeint_63 : decode cX12_findFeint 63 = .ok (.invokestatic 88, 3) := by decide +kernel
theorem dX12_findFeint_66 : decode cX12_findFeint 66 = .ok (.ifCond .ne 6, 3) := by decide +kernel
theorem dX12_findFeint_69 : decode cX12_findFeint 69 = .ok (.goto 63, 3) := by decide +kernel
theorem dX12_findFeint_72 : decode cX12_findFeint 72 = .ok (.aload_n 0, 1) := by decide +kernel
theorem dX12_findFeint_73 : decode cX12_findFeint 73 = .ok (.iload_n 1, 1) := by decide +kernel
theorem dX12_findFeint_74 : decode cX12_findFeint 74 = .ok (.putfield 37, 3) := by decide +kernel
theorem dX12_findFeint_77 : decode cX12_findFeint 77 = .ok (.aload_n 0, 1) := by decide +kernel
theorem dX12_findFeint_78 : decode cX12_findFeint 78 = .ok (.iload 5, 2) := by decide +kernel
theorem dX12_findFeint_80 : decode cX12_findFeint 80 = .ok (.putfield 271, 3) := by decide +kernel
theorem dX12_findFeint_83 : decode cX12_findFeint 83 = .ok (.aload_n 0, 1) := by decide +kernel
theorem dX12_findFeint_84 : decode cX12_findFeint 84 = .ok (.iload_n 1, 1) := by decide +kernel
theorem dX12_findFeint_85 : decode cX12_findFeint 85 = .ok (.aload_n 0, 1) := by decide +kernel
theorem dX12_findFeint_86 : decode cX12_findFeint 86 = .ok (.iload_n 2, 1) := by decide +kernel
theorem dX12_findFeint_87 : decode cX12_findFeint 87 = .ok (.aload_n 0, 1) := by decide +kernel
theorem dX12_findFeint_88 : decode cX12_findFeint 88 = .ok (.getfield 9, 3) := by decide +kernel
theorem dX12_findFeint_91 : decode cX12_findFeint 91 = .ok (.iconst 1, 1) := by decide +kernel
theorem dX12_findFeint_92 : decode cX12_findFeint 92 = .ok (.iaload, 1) := by decide +kernel
theorem dX12_findFeint_93 : decode cX12_findFeint 93 = .ok (.invokevirtual 319, 3) := by decide +kernel
theorem dX12_findFeint_96 : decode cX12_findFeint 96 = .ok (.invokevirtual 396, 3) := by decide +kernel
theorem dX12_findFeint_99 : decode cX12_findFeint 99 = .ok (.iload_n 3, 1) := by decide +kernel
theorem dX12_findFeint_100 : decode cX12_findFeint 100 = .ok (.isub, 1) := by decide +kernel
theorem dX12_findFeint_101 : decode cX12_findFeint 101 = .ok (.istore 6, 2) := by decide +kernel
theorem dX12_findFeint_103 : decode cX12_findFeint 103 = .ok (.aload_n 0, 1) := by decide +kernel
theorem dX12_findFeint_104 : decode cX12_findFeint 104 = .ok (.iconst (-1), 1) := by decide +kernel
theorem dX12_findFeint_105 : decode cX12_findFeint 105 = .ok (.putfield 37, 3) := by decide +kernel
theorem dX12_findFeint_108 : decode cX12_findFeint 108 = .ok (.iload 6, 2) := by decide +kernel
theorem dX12_findFeint_110 : decode cX12_findFeint 110 = .ok (.aload_n 0, 1) := by decide +kernel
theorem dX12_findFeint_111 : decode cX12_findFeint 111 = .ok (.getfield 402, 3) := by decide +kernel
theorem dX12_findFeint_114 : decode cX12_findFeint 114 = .ok (.if_icmp .gt 6, 3) := by decide +kernel
theorem dX12_findFeint_117 : decode cX12_findFeint 117 = .ok (.goto 15, 3) := by decide +kernel
theorem dX12_findFeint_120 : decode cX12_findFeint 120 = .ok (.aload_n 0, 1) := by decide +kernel
theorem dX12_findFeint_121 : decode cX12_findFeint 121 = .ok (.iload 6, 2) := by decide +kernel
theorem dX12_findFeint_123 : decode cX12_findFeint 123 = .ok (.putfield 402, 3) := by decide +kernel
theorem dX12_findFeint_126 : decode cX12_findFeint 126 = .ok (.aload_n 0, 1) := by decide +kernel
theorem dX12_findFeint_127 : decode cX12_findFeint 127 = .ok (.iload 5, 2) := by decide +kernel
theorem dX12_findFeint_129 : decode cX12_findFeint 129 = .ok (.putfield 399, 3) := by decide +kernel
theorem dX12_findFeint_132 : decode cX12_findFeint 132 = .ok (.iinc 5 1, 3) := by decide +kernel
theorem dX12_findFeint_135 : decode cX12_findFeint 135 = .ok (.goto (-87), 3) := by decide +kernel
theorem dX12_findFeint_138 : decode cX12_findFeint 138 = .ok (.return_, 1) := by decide +kernel
theorem dX12_firstOf_0 : decode cX12_firstOf 0 = .ok (.iconst (-1), 1) := by decide +kernel
theorem dX12_firstOf_1 : decode cX12_firstOf 1 = .ok (.istore_n 3, 1) := by decide +kernel
theorem dX12_firstOf_2 : decode cX12_firstOf 2 = .ok (.iconst 0, 1) := by decide +kernel
theorem dX12_firstOf_3 : decode cX12_firstOf 3 = .ok (.istore 4, 2) := by decide +kernel
theorem dX12_firstOf_5 : decode cX12_firstOf 5 = .ok (.iload 4, 2) := by decide +kernel
theorem dX12_firstOf_7 : decode cX12_firstOf 7 = .ok (.aload_n 0, 1) := by decide +kernel
theorem dX12_firstOf_8 : decode cX12_firstOf 8 = .ok (.getfield 9, 3) := by decide +kernel
theorem dX12_firstOf_11 : decode cX12_firstOf 11 = .ok (.iconst 5, 1) := by decide +kernel
theorem dX12_firstOf_12 : decode cX12_firstOf 12 = .ok (.iaload, 1) := by decide +kernel
theorem dX12_firstOf_13 : decode cX12_firstOf 13 = .ok (.if_icmp .ge 48, 3) := by decide +kernel
theorem dX12_firstOf_16 : decode cX12_firstOf 16 = .ok (.iload_n 2, 1) := by decide +kernel
theorem dX12_firstOf_17 : decode cX12_firstOf 17 = .ok (.iload 4, 2) := by decide +kernel
theorem dX12_firstOf_19 : decode cX12_firstOf 19 = .ok (.invokestatic 88, 3) := by decide +kernel
theorem dX12_firstOf_22 : decode cX12_firstOf 22 = .ok (.iconst 1, 1) := by decide +kernel
theorem dX12_firstOf_23 : decode cX12_firstOf 23 = .ok (.if_icmp .ne 32, 3) := by decide +kernel
theorem dX12_firstOf_26 : decode cX12_firstOf 26 = .ok (.aload_n 0, 1) := by decide +kernel
theorem dX12_firstOf_27 : decode cX12_firstOf 27 = .ok (.iload_n 1, 1) := by decide +kernel
theorem dX12_firstOf_28 : decode cX12_firstOf 28 = .ok (.iload 4, 2) := by decide +kernel
theorem dX12_firstOf_30 : decode cX12_firstOf 30 = .ok (.invokevirtual 278, 3) := by decide +kernel
theorem dX12_firstOf_33 : decode cX12_firstOf 33 = .ok (.ifCond .eq 22, 3) := by decide +kernel
theorem dX12_firstOf_36 : decode cX12_firstOf 36 = .ok (.iload_n 3, 1) := by decide +kernel
theorem dX12_firstOf_37 : decode cX12_firstOf 37 = .ok (.iconst (-1), 1) := by decide +kernel
theorem dX12_firstOf_38 : decode cX12_firstOf 38 = .ok (.if_icmp .eq 14, 3) := by decide +kernel
theorem dX12_firstOf_41 : decode cX12_firstOf 41 = .ok (.aload_n 0, 1) := by decide +kernel
theorem dX12_firstOf_42 : decode cX12_firstOf 42 = .ok (.iload_n 1, 1) := by decide +kernel
theorem dX12_firstOf_43 : decode cX12_firstOf 43 = .ok (.iload 4, 2) := by decide +kernel
theorem dX12_firstOf_45 : decode cX12_firstOf 45 = .ok (.iload_n 3, 1) := by decide +kernel
theorem dX12_firstOf_46 : decode cX12_firstOf 46 = .ok (.invokevirtual 281, 3) := by decide +kernel
theorem dX12_firstOf_49 : decode cX12_firstOf 49 = .ok (.ifCond .eq 6, 3) := by decide +kernel
theorem dX12_firstOf_52 : decode cX12_firstOf 52 = .ok (.iload 4, 2) := by decide +kernel
theorem dX12_firstOf_54 : decode cX12_firstOf 54 = .ok (.istore_n 3, 1) := by decide +kernel
theorem dX12_firstOf_55 : decode cX12_firstOf 55 = .ok (.iinc 4 1, 3) := by decide +kernel
theorem dX12_firstOf_58 : decode cX12_firstOf 58 = .ok (.goto (-53), 3) := by decide +kernel
theorem dX12_firstOf_61 : decode cX12_firstOf 61 = .ok (.iload_n 3, 1) := by decide +kernel
theorem dX12_firstOf_62 : decode cX12_firstOf 62 = .ok (.ireturn, 1) := by decide +kernel
theorem dX12_firstWrong_0 : decode cX12_firstWrong 0 = .ok (.aload_n 0, 1) := by decide +kernel
theorem dX12_firstWrong_1 : decode cX12_firstWrong 1 = .ok (.iload_n 2, 1) := by decide +kernel
theorem dX12_firstWrong_2 : decode cX12_firstWrong 2 = .ok (.invokevirtual 366, 3) := by decide +kernel
theorem dX12_firstWrong_5 : decode cX12_firstWrong 5 = .ok (.iconst 0, 1) := by decide +kernel
theorem dX12_firstWrong_6 : decode cX12_firstWrong 6 = .ok (.istore_n 3, 1) := by decide +kernel
theorem dX12_firstWrong_7 : decode cX12_firstWrong 7 = .ok (.iconst 2, 1) := by decide +kernel
theorem dX12_firstWrong_8 : decode cX12_firstWrong 8 = .ok (.iload_n 3, 1) := by decide +kernel
theorem dX12_firstWrong_9 : decode cX12_firstWrong 9 = .ok (.imul, 1) := by decide +kernel
theorem dX12_firstWrong_10 : decode cX12_firstWrong 10 = .ok (.aload_n 0, 1) := by decide +kernel
theorem dX12_firstWrong_11 : decode cX12_firstWrong 11 = .ok (.getfield 64, 3) := by decide +kernel
theorem dX12_firstWrong_14 : decode cX12_firstWrong 14 = .ok (.iload_n 1, 1) := by decide +kernel
theorem dX12_firstWrong_15 : decode cX12_firstWrong 15 = .ok (.iaload, 1) := by decide +kernel
theorem dX12_firstWrong_16 : decode cX12_firstWrong 16 = .ok (.if_icmp .ge 118, 3) := by decide +kernel
theorem dX12_firstWrong_19 : decode cX12_firstWrong 19 = .ok (.aload_n 0, 1) := by decide +kernel
theorem dX12_firstWrong_20 : decode cX12_firstWrong 20 = .ok (.iload_n 1, 1) := by decide +kernel
theorem dX12_firstWrong_21 : decode cX12_firstWrong 21 = .ok (.iconst 2, 1) := by decide +kernel
theorem dX12_firstWrong_22 : decode cX12_firstWrong 22 = .ok (.iload_n 3, 1) := by decide +kernel
theorem dX12_firstWrong_23 : decode cX12_firstWrong 23 = .ok (.imul, 1) := by decide +kernel
theorem dX12_firstWrong_24 : decode cX12_firstWrong 24 = .ok (.invokevirtual 442, 3) := by decide +kernel
theorem dX12_firstWrong_27 : decode cX12_firstWrong 27 = .ok (.l2i, 1) := by decide +kernel
theorem dX12_firstWrong_28 : decode cX12_firstWrong 28 = .ok (.istore 4, 2) := by decide +kernel
theorem dX12_firstWrong_30 : decode cX12_firstWrong 30 = .ok (.aload_n 0, 1) := by decide +kernel
theorem dX12_firstWrong_31 : decode cX12_firstWrong 31 = .ok (.iload_n 1, 1) := by decide +kernel
theorem dX12_firstWrong_32 : decode cX12_firstWrong 32 = .ok (.iconst 2, 1) := by decide +kernel
theorem dX12_firstWrong_33 : decode cX12_firstWrong 33 = .ok (.iload_n 3, 1) := by decide +kernel
theorem dX12_firstWrong_34 : decode cX12_firstWrong 34 = .ok (.imul, 1) := by decide +kernel
theorem dX12_firstWrong_35 : decode cX12_firstWrong 35 = .ok (.iconst 1, 1) := by decide +kernel
theorem dX12_firstWrong_36 : decode cX12_firstWrong 36 = .ok (.iadd, 1) := by decide +kernel
theorem dX12_firstWrong_37 : decode cX12_firstWrong 37 = .ok (.invokevirtual 442, 3) := by decide +kernel
theorem dX12_firstWrong_40 : decode cX12_firstWrong 40 = .ok (.l2i, 1) := by decide +kernel
theorem dX12_firstWrong_41 : decode cX12_firstWrong 41 = .ok (.istore 5, 2) := by decide +kernel
theorem dX12_firstWrong_43 : decode cX12_firstWrong 43 = .ok (.iload 5, 2) := by decide +kernel
theorem dX12_firstWrong_45 : decode cX12_firstWrong 45 = .ok (.bipush 9, 2) := by decide +kernel
theorem dX12_firstWrong_47 : decode cX12_firstWrong 47 = .ok (.if_icmp .ne 41, 3) := by decide +kernel
theorem dX12_firstWrong_50 : decode cX12_firstWrong 50 = .ok (.aload_n 0, 1) := by decide +kernel
theorem dX12_firstWrong_51 : decode cX12_firstWrong 51 = .ok (.getfield 52, 3) := by decide +kernel
theorem dX12_firstWrong_54 : decode cX12_firstWrong 54 = .ok (.iload 4, 2) := by decide +kernel
theorem dX12_firstWrong_56 : decode cX12_firstWrong 56 = .ok (.iaload, 1) := by decide +kernel
theorem dX12_firstWrong_57 : decode cX12_firstWrong 57 = .ok (.ldc_w 359, 3) := by decide +kernel
theorem dX12_firstWrong_60 : decode cX12_firstWrong 60 = .ok (.if_icmp .ge 24, 3) := by decide +kernel
theorem dX12_firstWrong_63 : decode cX12_firstWrong 63 = .ok (.aload_n 0, 1) := by decide +kernel
theorem dX12_firstWrong_64 : decode cX12_firstWrong 64 = .ok (.getfield 52, 3) := by decide +kernel
theorem dX12_firstWrong_67 : decode cX12_firstWrong 67 = .ok (.iload 4, 2) := by decide +kernel
theorem dX12_firstWrong_69 : decode cX12_firstWrong 69 = .ok (.iaload, 1) := by decide +kernel
theorem dX12_firstWrong_70 : decode cX12_firstWrong 70 = .ok (.aload_n 0, 1) := by decide +kernel
theorem dX12_firstWrong_71 : decode cX12_firstWrong 71 = .ok (.getfield 49, 3) := by decide +kernel
theorem dX12_firstWrong_74 : decode cX12_firstWrong 74 = .ok (.iload 4, 2) := by decide +kernel
theorem dX12_firstWrong_76 : decode cX12_firstWrong 76 = .ok (.iaload, 1) := by decide +kernel
theorem dX12_firstWrong_77 : decode cX12_firstWrong 77 = .ok (.if_icmp .ge 7, 3) := by decide +kernel
theorem dX12_firstWrong_80 : decode cX12_firstWrong 80 = .ok (.iconst 1, 1) := by decide +kernel
theorem dX12_firstWrong_81 : decode cX12_firstWrong 81 = .ok (.goto 38, 3) := by decide +kernel
theorem dX12_firstWrong_84 : decode cX12_firstWrong 84 = .ok (.iconst 0, 1) := by decide +kernel
theorem dX12_firstWrong_85 : decode cX12_firstWrong 85 = .ok (.goto 34, 3) := by decide +kernel
theorem dX12_firstWrong_88 : decode cX12_firstWrong 88 = .ok (.iload_n 2, 1) := by decide +kernel
theorem dX12_firstWrong_89 : decode cX12_firstWrong 89 = .ok (.iload 5, 2) := by decide +kernel
theorem dX12_firstWrong_91 : decode cX12_firstWrong 91 = .ok (.invokestatic 88, 3) := by decide +kernel
theorem dX12_firstWrong_94 : decode cX12_firstWrong 94 = .ok (.iconst 1, 1) := by decide +kernel
theorem dX12_firstWrong_95 : decode cX12_firstWrong 95 = .ok (.if_icmp .ne 23, 3) := by decide +kernel
theorem dX12_firstWrong_98 : decode cX12_firstWrong 98 = .ok (.aload_n 0, 1) := by decide +kernel
theorem dX12_firstWrong_99 : decode cX12_firstWrong 99 = .ok (.iload 5, 2) := by decide +kernel
theorem dX12_firstWrong_101 : decode cX12_firstWrong 101 = .ok (.iconst 3, 1) := by decide +kernel
theorem dX12_firstWrong_102 : decode cX12_firstWrong 102 = .ok (.invokevirtual 262, 3) := by decide +kernel
theorem dX12_firstWrong_105 : decode cX12_firstWrong 105 = .ok (.iload 4, 2) := by decide +kernel
theorem dX12_firstWrong_107 : decode cX12_firstWrong 107 = .ok (.invokestatic 88, 3) := by decide +kernel
theorem dX12_firstWrong_110 : decode cX12_firstWrong 110 = .ok (.iconst 1, 1) := by decide +kernel
theorem dX12_firstWrong_111 : decode cX12_firstWrong 111 = .ok (.if_icmp .ne 7, 3) := by decide +kernel
theorem dX12_firstWrong_114 : decode cX12_firstWrong 114 = .ok (.iconst 1, 1) := by decide +kernel
theorem dX12_firstWrong_115 : decode cX12_firstWrong 115 = .ok (.goto 4, 3) := by decide +kernel
theorem dX12_firstWrong_118 : decode cX12_firstWrong 118 = .ok (.iconst 0, 1) := by decide +kernel
theorem dX12_firstWrong_119 : decode cX12_firstWrong 119 = .ok (.istore 6, 2) := by decide +kernel
theorem dX12_firstWrong_121 : decode cX12_firstWrong 121 = .ok (.iload 6, 2) := by decide +kernel
theorem dX12_firstWrong_123 : decode cX12_firstWrong 123 = .ok (.ifCond .ne 5, 3) := by decide +kernel
theorem dX12_firstWrong_126 : decode cX12_firstWrong 126 = .ok (.iload_n 3, 1) := by decide +kernel
theorem dX12_firstWrong_127 : decode cX12_firstWrong 127 = .ok (.ireturn, 1) := by decide +kernel
theorem dX12_firstWrong_128 : decode cX12_firstWrong 128 = .ok (.iinc 3 1, 3) := by decide +kernel
theorem dX12_firstWrong_131 : decode cX12_firstWrong 131 = .ok (.goto (-124), 3) := by decide +kernel
theorem dX12_firstWrong_134 : decode cX12_firstWrong 134 = .ok (.iconst (-1), 1) := by decide +kernel
theorem dX12_firstWrong_135 : decode cX12_firstWrong 135 = .ok (.ireturn, 1) := by decide +kernel
theorem dX12_fits_0 : decode cX12_fits 0 = .ok (.aload_n 0, 1) := by decide +kernel
theorem dX12_fits_1 : decode cX12_fits 1 = .ok (.iload_n 1, 1) := by decide +kernel
theorem dX12_fits_2 : decode cX12_fits 2 = .ok (.iconst 1, 1) := by decide +kernel
theorem dX12_fits_3 : decode cX12_fits 3 = .ok (.invokevirtual 448, 3) := by decide +kernel
theorem dX12_fits_6 : decode cX12_fits 6 = .ok (.istore_n 2, 1) := by decide +kernel
theorem dX12_fits_7 : decode cX12_fits 7 = .ok (.iload_n 2, 1) := by decide +kernel
theorem dX12_fits_8 : decode cX12_fits 8 = .ok (.ifCond .ge 7, 3) := by decide +kernel
theorem dX12_fits_11 : decode cX12_fits 11 = .ok (.iload_n 2, 1) := by decide +kernel
theorem dX12_fits_12 : decode cX12_fits 12 = .ok (.goto 8, 3) := by decide +kernel
theorem dX12_fits_15 : decode cX12_fits 15 = .ok (.aload_n 0, 1) := by decide +kernel
theorem dX12_fits_16 : decode cX12_fits 16 = .ok (.iload_n 1, 1) := by decide +kernel
theorem dX12_fits_17 : decode cX12_fits 17 = .ok (.invokevirtual 461, 3) := by decide +kernel
theorem dX12_fits_20 : decode cX12_fits 20 = .ok (.ireturn, 1) := by decide +kernel
theorem dX12_fitsOf_0 : decode cX12_fitsOf 0 = .ok (.iconst 0, 1) := by decide +kernel
theorem dX12_fitsOf_1 : decode cX12_fitsOf 1 = .ok (.istore_n 2, 1) := by decide +kernel
theorem dX12_fitsOf_2 : decode cX12_fitsOf 2 = .ok (.aload_n 0, 1) := by decide +kernel
theorem dX12_fitsOf_3 : decode cX12_fitsOf 3 = .ok (.aload_n 0, 1) := by decide +kernel
theorem dX12_fitsOf_4 : decode cX12_fitsOf 4 = .ok (.invokevirtual 92, 3) := by decide +kernel
theorem dX12_fitsOf_7 : decode cX12_fitsOf 7 = .ok (.putfield 455, 3) := by decide +kernel
theorem dX12_fitsOf_10 : decode cX12_fitsOf 10 = .ok (.aload_n 0, 1) := by decide +kernel
theorem dX12_fitsOf_11 : decode cX12_fitsOf 11 = .ok (.iconst 0, 1) := by decide +kernel
theorem dX12_fitsOf_12 : decode cX12_fitsOf 12 = .ok (.putfield 458, 3) := by decide +kernel
theorem dX12_fitsOf_15 : decode cX12_fitsOf 15 = .ok (.iconst 0, 1) := by decide +kernel
theorem dX12_fitsOf_16 : decode cX12_fitsOf 16 = .ok (.istore_n 3, 1) := by decide +kernel
theorem dX12_fitsOf_17 : decode cX12_fitsOf 17 = .ok (.iload_n 3, 1) := by decide +kernel
theorem dX12_fitsOf_18 : decode cX12_fitsOf 18 = .ok (.aload_n 0, 1) := by decide +kernel
theorem dX12_fitsOf_19 : decode cX12_fitsOf 19 = .ok (.invokevirtual 92, 3) := by decide +kernel
theorem dX12_fitsOf_22 : decode cX12_fitsOf 22 = .ok (.if_icmp .gt 53, 3) := by decide +kernel
theorem dX12_fitsOf_25 : decode cX12_fitsOf 25 = .ok (.aload_n 0, 1) := by decide +kernel
theorem dX12_fitsOf_26 : decode cX12_fitsOf 26 = .ok (.iload_n 3, 1) := by decide +kernel
theorem dX12_fitsOf_27 : decode cX12_fitsOf 27 = .ok (.invokevirtual 390, 3) := by decide +kernel
theorem dX12_fitsOf_30 : decode cX12_fitsOf 30 = .ok (.ifCond .eq 39, 3) := by decide +kernel
theorem dX12_fitsOf_33 : decode cX12_fitsOf 33 = .ok (.aload_n 0, 1) := by decide +kernel
theorem dX12_fitsOf_34 : decode cX12_fitsOf 34 = .ok (.iload_n 1, 1) := by decide +kernel
theorem dX12_fitsOf_35 : decode cX12_fitsOf 35 = .ok (.iload_n 3, 1) := by decide +kernel
theorem dX12_fitsOf_36 : decode cX12_fitsOf 36 = .ok (.invokevirtual 452, 3) := by decide +kernel
theorem dX12_fitsOf_39 : decode cX12_fitsOf 39 = .ok (.iconst (-1), 1) := by decide +kernel
theorem dX12_fitsOf_40 : decode cX12_fitsOf 40 = .ok (.if_icmp .eq 6, 3) := by decide +kernel
theorem dX12_fitsOf_43 : decode cX12_fitsOf 43 = .ok (.goto 26, 3) := by decide +kernel
theorem dX12_fitsOf_46 : decode cX12_fitsOf 46 = .ok (.iinc 2 1, 3) := by decide +kernel
theorem dX12_fitsOf_49 : decode cX12_fitsOf 49 = .ok (.aload_n 0, 1) := by decide +kernel
theorem dX12_fitsOf_50 : decode cX12_fitsOf 50 = .ok (.dup, 1) := by decide +kernel
theorem dX12_fitsOf_51 : decode cX12_fitsOf 51 = .ok (.getfield 455, 3) := by decide +kernel
theorem dX12_fitsOf_54 : decode cX12_fitsOf 54 = .ok (.iload_n 3, 1) := by decide +kernel
theorem dX12_fitsOf_55 : decode cX12_fitsOf 55 = .ok (.iand, 1) := by decide +kernel
theorem dX12_fitsOf_56 : decode cX12_fitsOf 56 = .ok (.putfield 455, 3) := by decide +kernel
theorem dX12_fitsOf_59 : decode cX12_fitsOf 59 = .ok (.aload_n 0, 1) := by decide +kernel
theorem dX12_fitsOf_60 : decode cX12_fitsOf 60 = .ok (.dup, 1) := by decide +kernel
theorem dX12_fitsOf_61 : decode cX12_fitsOf 61 = .ok (.getfield 458, 3) := by decide +kernel
theorem dX12_fitsOf_64 : decode cX12_fitsOf 64 = .ok (.iload_n 3, 1) := by decide +kernel
theorem dX12_fitsOf_65 : decode cX12_fitsOf 65 = .ok (.ior, 1) := by decide +kernel
theorem dX12_fitsOf_66 : decode cX12_fitsOf 66 = .ok (.putfield 458, 3) := by decide +kernel
theorem dX12_fitsOf_69 : decode cX12_fitsOf 69 = .ok (.iinc 3 1, 3) := by decide +kernel
theorem dX12_fitsOf_72 : decode cX12_fitsOf 72 = .ok (.goto (-55), 3) := by decide +kernel
theorem dX12_fitsOf_75 : decode cX12_fitsOf 75 = .ok (.iload_n 2, 1) := by decide +kernel
theorem dX12_fitsOf_76 : decode cX12_fitsOf 76 = .ok (.ireturn, 1) := by decide +kernel
theorem dX12_freshDistrict_0 : decode cX12_freshDistrict 0 = .ok (.aload_n 0, 1) := by decide +kernel
theorem dX12_freshDistrict_1 : decode cX12_freshDistrict 1 = .ok (.iconst 0, 1) := by decide +kernel
theorem dX12_freshDistrict_2 : decode cX12_freshDistrict 2 = .ok (.aload_n 0, 1) := by decide +kernel
theorem dX12_freshDistrict_3 : decode cX12_freshDistrict 3 = .ok (.getfield 31, 3) := by decide +kernel
theorem dX12_freshDistrict_6 : decode cX12_freshDistrict 6 = .ok (.iconst 4, 1) := by decide +kernel
theorem dX12_freshDistrict_7 : decode cX12_freshDistrict 7 = .ok (.iaload, 1) := by decide +kernel
theorem dX12_freshDistrict_8 : decode cX12_freshDistrict 8 = .ok (.iconst 1, 1) := by decide +kernel
theorem dX12_freshDistrict_9 : decode cX12_freshDistrict 9 = .ok (.isub, 1) := by decide +kernel
theorem dX12_freshDistrict_10 : decode cX12_freshDistrict 10 = .ok (.invokevirtual 166, 3) := by decide +kernel
theorem dX12_freshDistrict_13 : decode cX12_freshDistrict 13 = .ok (.ireturn, 1) := by decide +kernel
theorem dX12_freshLaw_0 : decode cX12_freshLaw 0 = .ok (.aload_n 0, 1) := by decide +kernel
theorem dX12_freshLaw_1 : decode cX12_freshLaw 1 = .ok (.ldc 172, 2) := by decide +kernel
theorem dX12_freshLaw_3 : decode cX12_freshLaw 3 = .ok (.invokevirtual 155, 3) := by decide +kernel
theorem dX12_freshLaw_6 : decode cX12_freshLaw 6 = .ok (.ifCond .eq 5, 3) := by decide +kernel
theorem dX12_freshLaw_9 : decode cX12_freshLaw 9 = .ok (.iconst 0, 1) := by decide +kernel
theorem dX12_freshLaw_10 : decode cX12_freshLaw 10 = .ok (.ireturn, 1) := by decide +kernel
theorem dX12_freshLaw_11 : decode cX12_freshLaw 11 = .ok (.aload_n 0, 1) := by decide +kernel
theorem dX12_freshLaw_12 : decode cX12_freshLaw 12 = .ok (.ldc 174, 2) := by decide +kernel
theorem dX12_freshLaw_14 : decode cX12_freshLaw 14 = .ok (.invokevirtual 155, 3) := by decide +kernel
theorem dX12_freshLaw_17 : decode cX12_freshLaw 17 = .ok (.ifCond .eq 5, 3) := by decide +kernel
theorem dX12_freshLaw_20 : decode cX12_freshLaw 20 = .ok (.iconst 1, 1) := by decide +kernel
theorem dX12_freshLaw_21 : decode cX12_freshLaw 21 = .ok (.ireturn, 1) := by decide +kernel
theorem dX12_freshLaw_22 : decode cX12_freshLaw 22 = .ok (.aload_n 0, 1) := by decide +kernel
theorem dX12_freshLaw_23 : decode cX12_freshLaw 23 = .ok (.ldc 176, 2) := by decide +kernel
theorem dX12_freshLaw_25 : decode cX12_freshLaw 25 = .ok (.invokevirtual 155, 3) := by decide +kernel
theorem dX12_freshLaw_28 : decode cX12_freshLaw 28 = .ok (.ifCond .eq 5, 3) := by decide +kernel
theorem dX12_freshLaw_31 : decode cX12_freshLaw 31 = .ok (.iconst 2, 1) := by decide +kernel
theorem dX12_freshLaw_32 : decode cX12_freshLaw 32 = .ok (.ireturn, 1) := by decide +kernel
theorem dX12_freshLaw_33 : decode cX12_freshLaw 33 = .ok (.aload_n 0, 1) := by decide +kernel
theorem dX12_freshLaw_34 : decode cX12_freshLaw 34 = .ok (.ldc 178, 2) := by decide +kernel
theorem dX12_freshLaw_36 : decode cX12_freshLaw 36 = .ok (.invokevirtual 162, 3) := by decide +kernel
theorem dX12_freshLaw_39 : decode cX12_freshLaw 39 = .ok (.iconst 3, 1) := by decide +kernel
theorem dX12_freshLaw_40 : decode cX12_freshLaw 40 = .ok (.ireturn, 1) := by decide +kernel
theorem dX12_freshMeaning_0 : decode cX12_freshMeaning 0 = .ok (.aload_n 0, 1) := by decide +kernel
theorem dX12_freshMeaning_1 : decode cX12_freshMeaning 1 = .ok (.iconst 0, 1) := by decide +kernel
theorem dX12_freshMeaning_2 : decode cX12_freshMeaning 2 = .ok (.aload_n 0, 1) := by decide +kernel
theorem dX12_freshMeaning_3 : decode cX12_freshMeaning 3 = .ok (.getfield 31, 3) := by decide +kernel
theorem dX12_freshMeaning_6 : decode cX12_freshMeaning 6 = .ok (.iconst 0, 1) := by decide +kernel
theorem dX12_freshMeaning_7 : decode cX12_freshMeaning 7 = .ok (.iaload, 1) := by decide +kernel
theorem dX12_freshMeaning_8 : decode cX12_freshMeaning 8 = .ok (.iconst 1, 1) := by decide +kernel
theorem dX12_freshMeaning_9 : decode cX12_freshMeaning 9 = .ok (.isub, 1) := by decide +kernel
theorem dX12_freshMeaning_10 : decode cX12_freshMeaning 10 = .ok (.invokevirtual 166, 3) := by decide +kernel
theorem dX12_freshMeaning_13 : decode cX12_freshMeaning 13 = .ok (.ireturn, 1) := by decide +kernel
theorem dX12_freshMeanings_0 : decode cX12_freshMeanings 0 = .ok (.iconst 0, 1) := by decide +kernel
theorem dX12_freshMeanings_1 : decode cX12_freshMeanings 1 = .ok (.istore_n 1, 1) := by decide +kernel
theorem dX12_freshMeanings_2 : decode cX12_freshMeanings 2 = .ok (.aload_n 0, 1) := by decide +kernel
theorem dX12_freshMeanings_3 : decode cX12_freshMeanings 3 = .ok (.invokevirtual 169, 3) := by decide +kernel
theorem dX12_freshMeanings_6 : decode cX12_freshMeanings 6 = .ok (.istore_n 2, 1) := by decide +kernel
theorem dX12_freshMeanings_7 : decode cX12_freshMeanings 7 = .ok (.aload_n 0, 1) := by decide +kernel
theorem dX12_freshMeanings_8 : decode cX12_freshMeanings 8 = .ok (.invokevirtual 135, 3) := by decide +kernel
theorem dX12_freshMeanings_11 : decode cX12_freshMeanings 11 = .ok (.ifCond .ne 5, 3) := by decide +kernel
theorem dX12_freshMeanings_14 : decode cX12_freshMeanings 14 = .ok (.iconst 0, 1) := by decide +kernel
theorem dX12_freshMeanings_15 : decode cX12_freshMeanings 15 = .ok (.ireturn, 1) := by decide +kernel
theorem dX12_freshMeanings_16 : decode cX12_freshMeanings 16 = .ok (.iload_n 1, 1) := by decide +kernel
theorem dX12_freshMeanings_17 : decode cX12_freshMeanings 17 = .ok (.iconst 1, 1) := by decide +kernel
theorem dX12_freshMeanings_18 : decode cX12_freshMeanings 18 = .ok (.iload_n 2, 1) := by decide +kernel
theorem dX12_freshMeanings_19 : decode cX12_freshMeanings 19 = .ok (.ishl, 1) := by decide +kernel
theorem dX12_freshMeanings_20 : decode cX12_freshMeanings 20 = .ok (.ior, 1) := by decide +kernel
theorem dX12_freshMeanings_21 : decode cX12_freshMeanings 21 = .ok (.istore_n 1, 1) := by decide +kernel
theorem dX12_freshMeanings_22 : decode cX12_freshMeanings 22 = .ok (.aload_n 0, 1) := by decide +kernel
theorem dX12_freshMeanings_23 : decode cX12_freshMeanings 23 = .ok (.getfield 112, 3) := by decide +kernel
theorem dX12_freshMeanings_26 : decode cX12_freshMeanings 26 = .ok (.iconst 3, 1) := by decide +kernel
theorem dX12_freshMeanings_27 : decode cX12_freshMeanings 27 = .ok (.if_icmp .ne (-25), 3) := by decide +kernel
theorem dX12_freshMeanings_30 : decode cX12_freshMeanings 30 = .ok (.iload_n 1, 1) := by decide +kernel
theorem dX12_freshMeanings_31 : decode cX12_freshMeanings 31 = .ok (.ireturn, 1) := by decide +kernel
theorem dX12_gains_0 : decode cX12_gains 0 = .ok (.aload_n 0, 1) := by decide +kernel
theorem dX12_gains_1 : decode cX12_gains 1 = .ok (.iload_n 1, 1) := by decide +kernel
theorem dX12_gains_2 : decode cX12_gains 2 = .ok (.invokevirtual 328, 3) := by decide +kernel
theorem dX12_gains_5 : decode cX12_gains 5 = .ok (.ifCond .ne 6, 3) := by decide +kernel
theorem dX12_gains_8 : decode cX12_gains 8 = .ok (.bipush (-2), 2) := by decide +kernel
theorem dX12_gains_10 : decode cX12_gains 10 = .ok (.ireturn, 1) := by decide +kernel
theorem dX12_gains_11 : decode cX12_gains 11 = .ok (.aload_n 0, 1) := by decide +kernel
theorem dX12_gains_12 : decode cX12_gains 12 = .ok (.iload_n 1, 1) := by decide +kernel
theorem dX12_gains_13 : decode cX12_gains 13 = .ok (.invokevirtual 405, 3) := by decide +kernel
theorem dX12_gains_16 : decode cX12_gains 16 = .ok (.aload_n 0, 1) := by decide +kernel
theorem dX12_gains_17 : decode cX12_gains 17 = .ok (.getfield 402, 3) := by decide +kernel
theorem dX12_gains_20 : decode cX12_gains 20 = .ok (.ireturn, 1) := by decide +kernel
theorem dX12_goesTerm_0 : decode cX12_goesTerm 0 = .ok (.aload_n 0, 1) := by decide +kernel
theorem dX12_goesTerm_1 : decode cX12_goesTerm 1 = .ok (.invokevirtual 335, 3) := by decide +kernel
theorem dX12_goesTerm_4 : decode cX12_goesTerm 4 = .ok (.aload_n 0, 1) := by decide +kernel
theorem dX12_goesTerm_5 : decode cX12_goesTerm 5 = .ok (.invokevirtual 353, 3) := by decide +kernel
theorem dX12_goesTerm_8 : decode cX12_goesTerm 8 = .ok (.istore_n 1, 1) := by decide +kernel
theorem dX12_goesTerm_9 : decode cX12_goesTerm 9 = .ok (.iconst 0, 1) := by decide +kernel
theorem dX12_goesTerm_10 : decode cX12_goesTerm 10 = .ok (.istore_n 2, 1) := by decide +kernel
theorem dX12_goesTerm_11 : decode cX12_goesTerm 11 = .ok (.iload_n 2, 1) := by decide +kernel
theorem dX12_goesTerm_12 : decode cX12_goesTerm 12 = .ok (.aload_n 0, 1) := by decide +kernel
theorem dX12_goesTerm_13 : decode cX12_goesTerm 13 = .ok (.getfield 9, 3) := by decide +kernel
theorem dX12_goesTerm_16 : decode cX12_goesTerm 16 = .ok (.iconst 5, 1) := by decide +kernel
theorem dX12_goesTerm_17 : decode cX12_goesTerm 17 = .ok (.iaload, 1) := by decide +kernel
theorem dX12_goesTerm_18 : decode cX12_goesTerm 18 = .ok (.if_icmp .ge 88, 3) := by decide +kernel
theorem dX12_goesTerm_21 : decode cX12_goesTerm 21 = .ok (.aload_n 0, 1) := by decide +kernel
theorem dX12_goesTerm_22 : decode cX12_goesTerm 22 = .ok (.iload_n 2, 1) := by decide +kernel
theorem dX12_goesTerm_23 : decode cX12_goesTerm 23 = .ok (.invokevirtual 341, 3) := by decide +kernel
theorem dX12_goesTerm_26 : decode cX12_goesTerm 26 = .ok (.ifCond .eq 6, 3) := by decide +kernel
theorem dX12_goesTerm_29 : decode cX12_goesTerm 29 = .ok (.goto 71, 3) := by decide +kernel
theorem dX12_goesTerm_32 : decode cX12_goesTerm 32 = .ok (.aload_n 0, 1) := by decide +kernel
theorem dX12_goesTerm_33 : decode cX12_goesTerm 33 = .ok (.getfield 9, 3) := by decide +kernel
theorem dX12_goesTerm_36 : decode cX12_goesTerm 36 = .ok (.bipush 112, 2) := by decide +kernel
theorem dX12_goesTerm_38 : decode cX12_goesTerm 38 = .ok (.iload_n 2, 1) := by decide +kernel
theorem dX12_goesTerm_39 : decode cX12_goesTerm 39 = .ok (.iadd, 1) := by decide +kernel
theorem dX12_goesTerm_40 : decode cX12_goesTerm 40 = .ok (.iload_n 1, 1) := by decide +kernel
theorem dX12_goesTerm_41 : decode cX12_goesTerm 41 = .ok (.iload_n 2, 1) := by decide +kernel
theorem dX12_goesTerm_42 : decode cX12_goesTerm 42 = .ok (.invokestatic 88, 3) := by decide +kernel
theorem dX12_goesTerm_45 : decode cX12_goesTerm 45 = .ok (.iconst 1, 1) := by decide +kernel
theorem dX12_goesTerm_46 : decode cX12_goesTerm 46 = .ok (.if_icmp .ne 7, 3) := by decide +kernel
theorem dX12_goesTerm_49 : decode cX12_goesTerm 49 = .ok (.iconst 0, 1) := by decide +kernel
theorem dX12_goesTerm_50 : decode cX12_goesTerm 50 = .ok (.goto 14, 3) := by decide +kernel
theorem dX12_goesTerm_53 : decode cX12_goesTerm 53 = .ok (.aload_n 0, 1) := by decide +kernel
theorem dX12_goesTerm_54 : decode cX12_goesTerm 54 = .ok (.getfield 9, 3) := by decide +kernel
theorem dX12_goesTerm_57 : decode cX12_goesTerm 57 = .ok (.bipush 112, 2) := by decide +kernel
theorem dX12_goesTerm_59 : decode cX12_goesTerm 59 = .ok (.iload_n 2, 1) := by decide +kernel
theorem dX12_goesTerm_60 : decode cX12_goesTerm 60 = .ok (.iadd, 1) := by decide +kernel
theorem dX12_goesTerm_61 : decode cX12_goesTerm 61 = .ok (.iaload, 1) := by decide +kernel
theorem dX12_goesTerm_62 : decode cX12_goesTerm 62 = .ok (.iconst 1, 1) := by decide +kernel
theorem dX12_goesTerm_63 : decode cX12_goesTerm 63 = .ok (.iadd, 1) := by decide +kernel
theorem dX12_goesTerm_64 : decode cX12_goesTerm 64 = .ok (.iastore, 1) := by decide +kernel
theorem dX12_goesTerm_65 : decode cX12_goesTerm 65 = .ok (.aload_n 0, 1) := by decide +kernel
theorem dX12_goesTerm_66 : decode cX12_goesTerm 66 = .ok (.getfield 9, 3) := by decide +kernel
theorem dX12_goesTerm_69 : decode cX12_goesTerm 69 = .ok (.bipush 11, 2) := by decide +kernel
theorem dX12_goesTerm_71 : decode cX12_goesTerm 71 = .ok (.dup2, 1) := by decide +kernel
theorem dX12_goesTerm_72 : decode cX12_goesTerm 72 = .ok (.iaload, 1) := by decide +kernel
theorem dX12_goesTerm_73 : decode cX12_goesTerm 73 = .ok (.aload_n 0, 1) := by decide +kernel
theorem dX12_goesTerm_74 : decode cX12_goesTerm 74 = .ok (.getfield 9, 3) := by decide +kernel
theorem dX12_goesTerm_77 : decode cX12_goesTerm 77 = .ok (.bipush 112, 2) := by decide +kernel
theorem dX12_goesTerm_79 : decode cX12_goesTerm 79 = .ok (.iload_n 2, 1) := by decide +kernel
theorem dX12_goesTerm_80 : decode cX12_goesTerm 80 = .ok (.iadd, 1) := by decide +kernel
theorem dX12_goesTerm_81 : decode cX12_goesTerm 81 = .ok (.iaload, 1) := by decide +kernel
theorem dX12_goesTerm_82 : decode cX12_goesTerm 82 = .ok (.aload_n 0, 1) := by decide +kernel
theorem dX12_goesTerm_83 : decode cX12_goesTerm 83 = .ok (.getfield 9, 3) := by decide +kernel
theorem dX12_goesTerm_86 : decode cX12_goesTerm 86 = .ok (.iconst 3, 1) := by decide +kernel
theorem dX12_goesTerm_87 : decode cX12_goesTerm 87 = .ok (.iaload, 1) := by decide +kernel
theorem dX12_goesTerm_88 : decode cX12_goesTerm 88 = .ok (.if_icmp .lt 9, 3) := by decide +kernel
theorem dX12_goesTerm_91 : decode cX12_goesTerm 91 = .ok (.iconst 1, 1) := by decide +kernel
theorem dX12_goesTerm_92 : decode cX12_goesTerm 92 = .ok (.iload_n 2, 1) := by decide +kernel
theorem dX12_goesTerm_93 : decode cX12_goesTerm 93 = .ok (.ishl, 1) := by decide +kernel
theorem dX12_goesTerm_94 : decode cX12_goesTerm 94 = .ok (.goto 4, 3) := by decide +kernel
theorem dX12_goesTerm_97 : decode cX12_goesTerm 97 = .ok (.iconst 0, 1) := by decide +kernel
theorem dX12_goesTerm_98 : decode cX12_goesTerm 98 = .ok (.ior, 1) := by decide +kernel
theorem dX12_goesTerm_99 : decode cX12_goesTerm 99 = .ok (.iastore, 1) := by decide +kernel
theorem dX12_goesTerm_100 : decode cX12_goesTerm 100 = .ok (.iinc 2 1, 3) := by decide +kernel
theorem dX12_goesTerm_103 : decode cX12_goesTerm 103 = .ok (.goto (-92), 3) := by decide +kernel
theorem dX12_goesTerm_106 : decode cX12_goesTerm 106 = .ok (.aload_n 0, 1) := by decide +kernel
theorem dX12_goesTerm_107 : decode cX12_goesTerm 107 = .ok (.getfield 9, 3) := by decide +kernel
theorem dX12_goesTerm_110 : decode cX12_goesTerm 110 = .ok (.bipush 10, 2) := by decide +kernel
theorem dX12_goesTerm_112 : decode cX12_goesTerm 112 = .ok (.iload_n 1, 1) := by decide +kernel
theorem dX12_goesTerm_113 : decode cX12_goesTerm 113 = .ok (.iastore, 1) := by decide +kernel
theorem dX12_goesTerm_114 : decode cX12_goesTerm 114 = .ok (.return_, 1) := by decide +kernel
theorem dX12_good_0 : decode cX12_good 0 = .ok (.aload_n 0, 1) := by decide +kernel
theorem dX12_good_1 : decode cX12_good 1 = .ok (.getfield 132, 3) := by decide +kernel
theorem dX12_good_4 : decode cX12_good 4 = .ok (.ifCond .ne 7, 3) := by decide +kernel
theorem dX12_good_7 : decode cX12_good 7 = .ok (.iconst 1, 1) := by decide +kernel
theorem dX12_good_8 : decode cX12_good 8 = .ok (.goto 4, 3) := by decide +kernel
theorem dX12_good_11 : decode cX12_good 11 = .ok (.iconst 0, 1) := by decide +kernel
theorem dX12_good_12 : decode cX12_good 12 = .ok (.ireturn, 1) := by decide +kernel
theorem dX12_house_0 : decode cX12_house 0 = .ok (.aload_n 0, 1) := by decide +kernel
theorem dX12_house_1 : decode cX12_house 1 = .ok (.invokevirtual 347, 3) := by decide +kernel
theorem dX12_house_4 : decode cX12_house 4 = .ok (.ifCond .eq 10, 3) := by decide +kernel
theorem dX12_house_7 : decode cX12_house 7 = .ok (.aload_n 0, 1) := by decide +kernel
theorem dX12_house_8 : decode cX12_house 8 = .ok (.invokevirtual 393, 3) := by decide +kernel
theorem dX12_house_11 : decode cX12_house 11 = .ok (.goto 5, 3) := by decide +kernel
theorem dX12_house_14 : decode cX12_house 14 = .ok (.bipush (-2), 2) := by decide +kernel
theorem dX12_house_16 : decode cX12_house 16 = .ok (.ireturn, 1) := by decide +kernel
theorem dX12_houseOf_0 : decode cX12_houseOf 0 = .ok (.aload_n 0, 1) := by decide +kernel
theorem dX12_houseOf_1 : decode cX12_houseOf 1 = .ok (.iconst 0, 1) := by decide +kernel
theorem dX12_houseOf_2 : decode cX12_houseOf 2 = .ok (.putfield 387, 3) := by decide +kernel
theorem dX12_houseOf_5 : decode cX12_houseOf 5 = .ok (.aload_n 0, 1) := by decide +kernel
theorem dX12_houseOf_6 : decode cX12_houseOf 6 = .ok (.iconst 0, 1) := by decide +kernel
theorem dX12_houseOf_7 : decode cX12_houseOf 7 = .ok (.invokevirtual 378, 3) := by decide +kernel
theorem dX12_houseOf_10 : decode cX12_houseOf 10 = .ok (.istore_n 1, 1) := by decide +kernel
theorem dX12_houseOf_11 : decode cX12_houseOf 11 = .ok (.iconst 1, 1) := by decide +kernel
theorem dX12_houseOf_12 : decode cX12_houseOf 12 = .ok (.istore_n 2, 1) := by decide +kernel
theorem dX12_houseOf_13 : decode cX12_houseOf 13 = .ok (.iload_n 2, 1) := by decide +kernel
theorem dX12_houseOf_14 : decode cX12_houseOf 14 = .ok (.aload_n 0, 1) := by decide +kernel
theorem dX12_houseOf_15 : decode cX12_houseOf 15 = .ok (.invokevirtual 92, 3) := by decide +kernel
theorem dX12_houseOf_18 : decode cX12_houseOf 18 = .ok (.if_icmp .gt 41, 3) := by decide +kernel
theorem dX12_houseOf_21 : decode cX12_houseOf 21 = .ok (.aload_n 0, 1) := by decide +kernel
theorem dX12_houseOf_22 : decode cX12_houseOf 22 = .ok (.iload_n 2, 1) := by decide +kernel
theorem dX12_houseOf_23 : decode cX12_houseOf 23 = .ok (.invokevirtual 390, 3) := by decide +kernel
theorem dX12_houseOf_26 : decode cX12_houseOf 26 = .ok (.ifCond .ne 6, 3) := by decide +kernel
theorem dX12_houseOf_29 : decode cX12_houseOf 29 = .ok (.goto 24, 3) := by decide +kernel
theorem dX12_houseOf_32 : decode cX12_houseOf 32 = .ok (.aload_n 0, 1) := by decide +kernel
theorem dX12_houseOf_33 : decode cX12_houseOf 33 = .ok (.iload_n 2, 1) := by decide +kernel
theorem dX12_houseOf_34 : decode cX12_houseOf 34 = .ok (.invokevirtual 378, 3) := by decide +kernel
theorem dX12_houseOf_37 : decode cX12_houseOf 37 = .ok (.istore_n 3, 1) := by decide +kernel
theorem dX12_houseOf_38 : decode cX12_houseOf 38 = .ok (.iload_n 3, 1) := by decide +kernel
theorem dX12_houseOf_39 : decode cX12_houseOf 39 = .ok (.iload_n 1, 1) := by decide +kernel
theorem dX12_houseOf_40 : decode cX12_houseOf 40 = .ok (.if_icmp .lt 6, 3) := by decide +kernel
theorem dX12_houseOf_43 : decode cX12_houseOf 43 = .ok (.goto 10, 3) := by decide +kernel
theorem dX12_houseOf_46 : decode cX12_houseOf 46 = .ok (.iload_n 3, 1) := by decide +kernel
theorem dX12_houseOf_47 : decode cX12_houseOf 47 = .ok (.istore_n 1, 1) := by decide +kernel
theorem dX12_houseOf_48 : decode cX12_houseOf 48 = .ok (.aload_n 0, 1) := by decide +kernel
theorem dX12_houseOf_49 : decode cX12_houseOf 49 = .ok (.iload_n 2, 1) := by decide +kernel
theorem dX12_houseOf_50 : decode cX12_houseOf 50 = .ok (.putfield 387, 3) := by decide +kernel
theorem dX12_houseOf_53 : decode cX12_houseOf 53 = .ok (.iinc 2 1, 3) := by decide +kernel
theorem dX12_houseOf_56 : decode cX12_houseOf 56 = .ok (.goto (-43), 3) := by decide +kernel
theorem dX12_houseOf_59 : decode cX12_houseOf 59 = .ok (.iload_n 1, 1) := by decide +kernel
theorem dX12_houseOf_60 : decode cX12_houseOf 60 = .ok (.ireturn, 1) := by decide +kernel
theorem dX12_housed_0 : decode cX12_housed 0 = .ok (.aload_n 0, 1) := by decide +kernel
theorem dX12_housed_1 : decode cX12_housed 1 = .ok (.invokevirtual 347, 3) := by decide +kernel
theorem dX12_housed_4 : decode cX12_housed 4 = .ok (.ifCond .ne 6, 3) := by decide +kernel
theorem dX12_housed_7 : decode cX12_housed 7 = .ok (.bipush (-2), 2) := by decide +kernel
theorem dX12_housed_9 : decode cX12_housed 9 = .ok (.ireturn, 1) := by decide +kernel
theorem dX12_housed_10 : decode cX12_housed 10 = .ok (.aload_n 0, 1) := by decide +kernel
theorem dX12_housed_11 : decode cX12_housed 11 = .ok (.invokevirtual 393, 3) := by decide +kernel
theorem dX12_housed_14 : decode cX12_housed 14 = .ok (.pop, 1) := by decide +kernel
theorem dX12_housed_15 : decode cX12_housed 15 = .ok (.aload_n 0, 1) := by decide +kernel
theorem dX12_housed_16 : decode cX12_housed 16 = .ok (.getfield 387, 3) := by decide +kernel
theorem dX12_housed_19 : decode cX12_housed 19 = .ok (.ireturn, 1) := by decide +kernel
theorem dX12_image_0 : decode cX12_image 0 = .ok (.iload_n 1, 1) := by decide +kernel
theorem dX12_image_1 : decode cX12_image 1 = .ok (.i2l, 1) := by decide +kernel
theorem dX12_image_2 : decode cX12_image 2 = .ok (.lconst 0, 1) := by decide +kernel
theorem dX12_image_3 : decode cX12_image 3 = .ok (.ldc2_w 80, 3) := by decide +kernel
theorem dX12_image_6 : decode cX12_image 6 = .ok (.invokestatic 82, 3) := by decide +kernel
theorem dX12_image_9 : decode cX12_image 9 = .ok (.ifCond .ne 6, 3) := by decide +kernel
theorem dX12_image_12 : decode cX12_image 12 = .ok (.bipush (-2), 2) := by decide +kernel
theorem dX12_image_14 : decode cX12_image 14 = .ok (.ireturn, 1) := by decide +kernel
theorem dX12_image_15 : decode cX12_image 15 = .ok (.iconst 0, 1) := by decide +kernel
theorem dX12_image_16 : decode cX12_image 16 = .ok (.istore_n 2, 1) := by decide +kernel
theorem dX12_image_17 : decode cX12_image 17 = .ok (.iload_n 2, 1) := by decide +kernel
theorem dX12_image_18 : decode cX12_image 18 = .ok (.sipush 841, 3) := by decide +kernel
theorem dX12_image_21 : decode cX12_image 21 = .ok (.if_icmp .ge 27, 3) := by decide +kernel
theorem dX12_image_24 : decode cX12_image 24 = .ok (.aload_n 0, 1) := by decide +kernel
theorem dX12_image_25 : decode cX12_image 25 = .ok (.getfield 13, 3) := by decide +kernel
theorem dX12_image_28 : decode cX12_image 28 = .ok (.sipush 841, 3) := by decide +kernel
theorem dX12_image_31 : decode cX12_image 31 = .ok (.iload_n 1, 1) := by decide +kernel
theorem dX12_image_32 : decode cX12_image 32 = .ok (.imul, 1) := by decide +kernel
theorem dX12_image_33 : decode cX12_image 33 = .ok (.iload_n 2, 1) := by decide +kernel
theorem dX12_image_34 : decode cX12_image 34 = .ok (.iadd, 1) := by decide +kernel
theorem dX12_image_35 : decode cX12_image 35 = .ok (.aload_n 0, 1) := by decide +kernel
theorem dX12_image_36 : decode cX12_image 36 = .ok (.getfield 9, 3) := by decide +kernel
theorem dX12_image_39 : decode cX12_image 39 = .ok (.iload_n 2, 1) := by decide +kernel
theorem dX12_image_40 : decode cX12_image 40 = .ok (.iaload, 1) := by decide +kernel
theorem dX12_image_41 : decode cX12_image 41 = .ok (.iastore, 1) := by decide +kernel
theorem dX12_image_42 : decode cX12_image 42 = .ok (.iinc 2 1, 3) := by decide +kernel
theorem dX12_image_45 : decode cX12_image 45 = .ok (.goto (-28), 3) := by decide +kernel
theorem dX12_image_48 : decode cX12_image 48 = .ok (.aload_n 0, 1) := by decide +kernel
theorem dX12_image_49 : decode cX12_image 49 = .ok (.getfield 16, 3) := by decide +kernel
theorem dX12_image_52 : decode cX12_image 52 = .ok (.iload_n 1, 1) := by decide +kernel
theorem dX12_image_53 : decode cX12_image 53 = .ok (.iconst 1, 1) := by decide +kernel
theorem dX12_image_54 : decode cX12_image 54 = .ok (.bastore, 1) := by decide +kernel
theorem dX12_image_55 : decode cX12_image 55 = .ok (.iconst 0, 1) := by decide +kernel
theorem dX12_image_56 : decode cX12_image 56 = .ok (.ireturn, 1) := by decide +kernel
theorem dX12_in_0 : decode cX12_in 0 = .ok (.lload_n 0, 1) := by decide +kernel
theorem dX12_in_1 : decode cX12_in 1 = .ok (.lload_n 2, 1) := by decide +kernel
theorem dX12_in_2 : decode cX12_in 2 = .ok (.lcmp, 1) := by decide +kernel
theorem dX12_in_3 : decode cX12_in 3 = .ok (.ifCond .lt 14, 3) := by decide +kernel
theorem dX12_in_6 : decode cX12_in 6 = .ok (.lload_n 0, 1) := by decide +kernel
theorem dX12_in_7 : decode cX12_in 7 = .ok (.lload 4, 2) := by decide +kernel
theorem dX12_in_9 : decode cX12_in 9 = .ok (.lcmp, 1) := by decide +kernel
theorem dX12_in_10 : decode cX12_in 10 = .ok (.ifCond .gt 7, 3) := by decide +kernel
theorem dX12_in_13 : decode cX12_in 13 = .ok (.iconst 1, 1) := by decide +kernel
theorem dX12_in_14 : decode cX12_in 14 = .ok (.goto 4, 3) := by decide +kernel
theorem dX12_in_17 : decode cX12_in 17 = .ok (.iconst 0, 1) := by decide +kernel
theorem dX12_in_18 : decode cX12_in 18 = .ok (.ireturn, 1) := by decide +kernel
theorem dX12_is_0 : decode cX12_is 0 = .ok (.aload_n 0, 1) := by decide +kernel
theorem dX12_is_1 : decode cX12_is 1 = .ok (.invokevirtual 135, 3) := by decide +kernel
theorem dX12_is_4 : decode cX12_is 4 = .ok (.ifCond .eq 31, 3) := by decide +kernel
theorem dX12_is_7 : decode cX12_is 7 = .ok (.aload_n 0, 1) := by decide +kernel
theorem dX12_is_8 : decode cX12_is 8 = .ok (.getfield 112, 3) := by decide +kernel
theorem dX12_is_11 : decode cX12_is 11 = .ok (.iconst 1, 1) := by decide +kernel
theorem dX12_is_12 : decode cX12_is 12 = .ok (.if_icmp .ne 23, 3) := by decide +kernel
theorem dX12_is_15 : decode cX12_is 15 = .ok (.aload_n 0, 1) := by decide +kernel
theorem dX12_is_16 : decode cX12_is 16 = .ok (.getfield 102, 3) := by decide +kernel
theorem dX12_is_19 : decode cX12_is 19 = .ok (.aload_n 0, 1) := by decide +kernel
theorem dX12_is_20 : decode cX12_is 20 = .ok (.getfield 109, 3) := by decide +kernel
theorem dX12_is_23 : decode cX12_is 23 = .ok (.isub, 1) := by decide +kernel
theorem dX12_is_24 : decode cX12_is 24 = .ok (.aload_n 1, 1) := by decide +kernel
theorem dX12_is_25 : decode cX12_is 25 = .ok (.invokevirtual 139, 3) := by decide +kernel
theorem dX12_is_28 : decode cX12_is 28 = .ok (.if_icmp .ne 7, 3) := by decide +kernel
theorem dX12_is_31 : decode cX12_is 31 = .ok (.iconst 1, 1) := by decide +kernel
theorem dX12_is_32 : decode cX12_is 32 = .ok (.goto 4, 3) := by decide +kernel
theorem dX12_is_35 : decode cX12_is 35 = .ok (.iconst 0, 1) := by decide +kernel
theorem dX12_is_36 : decode cX12_is 36 = .ok (.istore_n 2, 1) := by decide +kernel
theorem dX12_is_37 : decode cX12_is 37 = .ok (.iconst 0, 1) := by decide +kernel
theorem dX12_is_38 : decode cX12_is 38 = .ok (.istore_n 3, 1) := by decide +kernel
theorem dX12_is_39 : decode cX12_is 39 = .ok (.iload_n 3, 1) := by decide +kernel
theorem dX12_is_40 : decode cX12_is 40 = .ok (.aload_n 1, 1) := by decide +kernel
theorem dX12_is_41 : decode cX12_is 41 = .ok (.invokevirtual 139, 3) := by decide +kernel
theorem dX12_is_44 : decode cX12_is 44 = .ok (.if_icmp .ge 38, 3) := by decide +kernel
theorem dX12_is_47 : decode cX12_is 47 = .ok (.iload_n 2, 1) := by decide +kernel
theorem dX12_is_48 : decode cX12_is 48 = .ok (.ifCond .eq 34, 3) := by decide +kernel
theorem dX12_is_51 : decode cX12_is 51 = .ok (.aload_n 0, 1) := by decide +kernel
theorem dX12_is_52 : decode cX12_is 52 = .ok (.getfield 20, 3) := by decide +kernel
theorem dX12_is_55 : decode cX12_is 55 = .ok (.aload_n 0, 1) := by decide +kernel
theorem dX12_is_56 : decode cX12_is 56 = .ok (.getfield 109, 3) := by decide +kernel
theorem dX12_is_59 : decode cX12_is 59 = .ok (.iload_n 3, 1) := by decide +kernel
theorem dX12_is_60 : decode cX12_is 60 = .ok (.iadd, 1) := by decide +kernel
theorem dX12_is_61 : decode cX12_is 61 = .ok (.baload, 1) := by decide +kernel
theorem dX12_is_62 : decode cX12_is 62 = .ok (.aload_n 1, 1) := by decide +kernel
theorem dX12_is_63 : decode cX12_is 63 = .ok (.iload_n 3, 1) := by decide +kernel
theorem dX12_is_64 : decode cX12_is 64 = .ok (.invokevirtual 144, 3) := by decide +kernel
theorem dX12_is_67 : decode cX12_is 67 = .ok (.if_icmp .ne 7, 3) := by decide +kernel
theorem dX12_is_70 : decode cX12_is 70 = .ok (.iconst 1, 1) := by decide +kernel
theorem dX12_is_71 : decode cX12_is 71 = .ok (.goto 4, 3) := by decide +kernel
theorem dX12_is_74 : decode cX12_is 74 = .ok (.iconst 0, 1) := by decide +kernel
theorem dX12_is_75 : decode cX12_is 75 = .ok (.istore_n 2, 1) := by decide +kernel
theorem dX12_is_76 : decode cX12_is 76 = .ok (.iinc 3 1, 3) := by decide +kernel
theorem dX12_is_79 : decode cX12_is 79 = .ok (.goto (-40), 3) := by decide +kernel
theorem dX12_is_82 : decode cX12_is 82 = .ok (.iload_n 2, 1) := by decide +kernel
theorem dX12_is_83 : decode cX12_is 83 = .ok (.ireturn, 1) := by decide +kernel
theorem dX12_isAhead_0 : decode cX12_isAhead 0 = .ok (.iload_n 1, 1) := by decide +kernel
theorem dX12_isAhead_1 : decode cX12_isAhead 1 = .ok (.aload_n 0, 1) := by decide +kernel
theorem dX12_isAhead_2 : decode cX12_isAhead 2 = .ok (.getfield 37, 3) := by decide +kernel
theorem dX12_isAhead_5 : decode cX12_isAhead 5 = .ok (.if_icmp .ne 33, 3) := by decide +kernel
theorem dX12_isAhead_8 : decode cX12_isAhead 8 = .ok (.iload_n 2, 1) := by decide +kernel
theorem dX12_isAhead_9 : decode cX12_isAhead 9 = .ok (.aload_n 0, 1) := by decide +kernel
theorem dX12_isAhead_10 : decode cX12_isAhead 10 = .ok (.getfield 271, 3) := by decide +kernel
theorem dX12_isAhead_13 : decode cX12_isAhead 13 = .ok (.if_icmp .eq 11, 3) := by decide +kernel
theorem dX12_isAhead_16 : decode cX12_isAhead 16 = .ok (.iload_n 3, 1) := by decide +kernel
theorem dX12_isAhead_17 : decode cX12_isAhead 17 = .ok (.aload_n 0, 1) := by decide +kernel
theorem dX12_isAhead_18 : decode cX12_isAhead 18 = .ok (.getfield 271, 3) := by decide +kernel
theorem dX12_isAhead_21 : decode cX12_isAhead 21 = .ok (.if_icmp .ne 17, 3) := by decide +kernel
theorem dX12_isAhead_24 : decode cX12_isAhead 24 = .ok (.iload_n 2, 1) := by decide +kernel
theorem dX12_isAhead_25 : decode cX12_isAhead 25 = .ok (.aload_n 0, 1) := by decide +kernel
theorem dX12_isAhead_26 : decode cX12_isAhead 26 = .ok (.getfield 271, 3) := by decide +kernel
theorem dX12_isAhead_29 : decode cX12_isAhead 29 = .ok (.if_icmp .ne 7, 3) := by decide +kernel
theorem dX12_isAhead_32 : decode cX12_isAhead 32 = .ok (.iconst 1, 1) := by decide +kernel
theorem dX12_isAhead_33 : decode cX12_isAhead 33 = .ok (.goto 4, 3) := by decide +kernel
theorem dX12_isAhead_36 : decode cX12_isAhead 36 = .ok (.iconst 0, 1) := by decide +kernel
theorem dX12_isAhead_37 : decode cX12_isAhead 37 = .ok (.ireturn, 1) := by decide +kernel
theorem dX12_isAhead_38 : decode cX12_isAhead 38 = .ok (.aload_n 0, 1) := by decide +kernel
theorem dX12_isAhead_39 : decode cX12_isAhead 39 = .ok (.iload_n 1, 1) := by decide +kernel
theorem dX12_isAhead_40 : decode cX12_isAhead 40 = .ok (.iload_n 2, 1) := by decide +kernel
theorem dX12_isAhead_41 : decode cX12_isAhead 41 = .ok (.invokevirtual 268, 3) := by decide +kernel
theorem dX12_isAhead_44 : decode cX12_isAhead 44 = .ok (.aload_n 0, 1) := by decide +kernel
theorem dX12_isAhead_45 : decode cX12_isAhead 45 = .ok (.iload_n 1, 1) := by decide +kernel
theorem dX12_isAhead_46 : decode cX12_isAhead 46 = .ok (.iload_n 3, 1) := by decide +kernel
theorem dX12_isAhead_47 : decode cX12_isAhead 47 = .ok (.invokevirtual 268, 3) := by decide +kernel
theorem dX12_isAhead_50 : decode cX12_isAhead 50 = .ok (.if_icmp .eq 24, 3) := by decide +kernel
theorem dX12_isAhead_53 : decode cX12_isAhead 53 = .ok (.aload_n 0, 1) := by decide +kernel
theorem dX12_isAhead_54 : decode cX12_isAhead 54 = .ok (.iload_n 1, 1) := by decide +kernel
theorem dX12_isAhead_55 : decode cX12_isAhead 55 = .ok (.iload_n 2, 1) := by decide +kernel
theorem dX12_isAhead_56 : decode cX12_isAhead 56 = .ok (.invokevirtual 268, 3) := by decide +kernel
theorem dX12_isAhead_59 : decode cX12_isAhead 59 = .ok (.aload_n 0, 1) := by decide +kernel
theorem dX12_isAhead_60 : decode cX12_isAhead 60 = .ok (.iload_n 1, 1) := by decide +kernel
theorem dX12_isAhead_61 : decode cX12_isAhead 61 = .ok (.iload_n 3, 1) := by decide +kernel
theorem dX12_isAhead_62 : decode cX12_isAhead 62 = .ok (.invokevirtual 268, 3) := by decide +kernel
theorem dX12_isAhead_65 : decode cX12_isAhead 65 = .ok (.if_icmp .le 7, 3) := by decide +kernel
theorem dX12_isAhead_68 : decode cX12_isAhead 68 = .ok (.iconst 1, 1) := by decide +kernel
theorem dX12_isAhead_69 : decode cX12_isAhead 69 = .ok (.goto 4, 3) := by decide +kernel
theorem dX12_isAhead_72 : decode cX12_isAhead 72 = .ok (.iconst 0, 1) := by decide +kernel
theorem dX12_isAhead_73 : decode cX12_isAhead 73 = .ok (.ireturn, 1) := by decide +kernel
theorem dX12_isAhead_74 : decode cX12_isAhead 74 = .ok (.aload_n 0, 1) := by decide +kernel
theorem dX12_isAhead_75 : decode cX12_isAhead 75 = .ok (.iload_n 2, 1) := by decide +kernel
theorem dX12_isAhead_76 : decode cX12_isAhead 76 = .ok (.iload_n 3, 1) := by decide +kernel
theorem dX12_isAhead_77 : decode cX12_isAhead 77 = .ok (.invokevirtual 274, 3) := by decide +kernel
theorem dX12_isAhead_80 : decode cX12_isAhead 80 = .ok (.ireturn, 1) := by decide +kernel
theorem dX12_isChamber_0 : decode cX12_isChamber 0 = .ok (.aload_n 0, 1) := by decide +kernel
theorem dX12_isChamber_1 : decode cX12_isChamber 1 = .ok (.getfield 9, 3) := by decide +kernel
theorem dX12_isChamber_4 : decode cX12_isChamber 4 = .ok (.bipush 9, 2) := by decide +kernel
theorem dX12_isChamber_6 : decode cX12_isChamber 6 = .ok (.iaload, 1) := by decide +kernel
theorem dX12_isChamber_7 : decode cX12_isChamber 7 = .ok (.ifCond .le 7, 3) := by decide +kernel
theorem dX12_isChamber_10 : decode cX12_isChamber 10 = .ok (.iconst 1, 1) := by decide +kernel
theorem dX12_isChamber_11 : decode cX12_isChamber 11 = .ok (.goto 4, 3) := by decide +kernel
theorem dX12_isChamber_14 : decode cX12_isChamber 14 = .ok (.iconst 0, 1) := by decide +kernel
theorem dX12_isChamber_15 : decode cX12_isChamber 15 = .ok (.ireturn, 1) := by decide +kernel
theorem dX12_isDead_0 : decode cX12_isDead 0 = .ok (.aload_n 0, 1) := by decide +kernel
theorem dX12_isDead_1 : decode cX12_isDead 1 = .ok (.getfield 9, 3) := by decide +kernel
theorem dX12_isDead_4 : decode cX12_isDead 4 = .ok (.bipush 11, 2) := by decide +kernel
theorem dX12_isDead_6 : decode cX12_isDead 6 = .ok (.iaload, 1) := by decide +kernel
theorem dX12_isDead_7 : decode cX12_isDead 7 = .ok (.iload_n 1, 1) := by decide +kernel
theorem dX12_isDead_8 : decode cX12_isDead 8 = .ok (.invokestatic 88, 3) := by decide +kernel
theorem dX12_isDead_11 : decode cX12_isDead 11 = .ok (.iconst 1, 1) := by decide +kernel
theorem dX12_isDead_12 : decode cX12_isDead 12 = .ok (.if_icmp .ne 7, 3) := by decide +kernel
theorem dX12_isDead_15 : decode cX12_isDead 15 = .ok (.iconst 1, 1) := by decide +kernel
theorem dX12_isDead_16 : decode cX12_isDead 16 = .ok (.goto 4, 3) := by decide +kernel
theorem dX12_isDead_19 : decode cX12_isDead 19 = .ok (.iconst 0, 1) := by decide +kernel
theorem dX12_isDead_20 : decode cX12_isDead 20 = .ok (.ireturn, 1) := by decide +kernel
theorem dX12_isDistrict_0 : decode cX12_isDistrict 0 = .ok (.iload_n 1, 1) := by decide +kernel
theorem dX12_isDistrict_1 : decode cX12_isDistrict 1 = .ok (.i2l, 1) := by decide +kernel
theorem dX12_isDistrict_2 : decode cX12_isDistrict 2 = .ok (.lconst 0, 1) := by decide +kernel
theorem dX12_isDistrict_3 : decode cX12_isDistrict 3 = .ok (.aload_n 0, 1) := by decide +kernel
theorem dX12_isDistrict_4 : decode cX12_isDistrict 4 = .ok (.getfield 9, 3) := by decide +kernel
theorem dX12_isDistrict_7 : decode cX12_isDistrict 7 = .ok (.iconst 4, 1) := by decide +kernel
theorem dX12_isDistrict_8 : decode cX12_isDistrict 8 = .ok (.iaload, 1) := by decide +kernel
theorem dX12_isDistrict_9 : decode cX12_isDistrict 9 = .ok (.iconst 1, 1) := by decide +kernel
theorem dX12_isDistrict_10 : decode cX12_isDistrict 10 = .ok (.isub, 1) := by decide +kernel
theorem dX12_isDistrict_11 : decode cX12_isDistrict 11 = .ok (.i2l, 1) := by decide +kernel
theorem dX12_isDistrict_12 : decode cX12_isDistrict 12 = .ok (.invokestatic 82, 3) := by decide +kernel
theorem dX12_isDistrict_15 : decode cX12_isDistrict 15 = .ok (.ireturn, 1) := by decide +kernel
theorem dX12_isHouse_0 : decode cX12_isHouse 0 = .ok (.iload_n 1, 1) := by decide +kernel
theorem dX12_isHouse_1 : decode cX12_isHouse 1 = .ok (.aload_n 0, 1) := by decide +kernel
theorem dX12_isHouse_2 : decode cX12_isHouse 2 = .ok (.invokevirtual 250, 3) := by decide +kernel
theorem dX12_isHouse_5 : decode cX12_isHouse 5 = .ok (.iconst (-1), 1) := by decide +kernel
theorem dX12_isHouse_6 : decode cX12_isHouse 6 = .ok (.ixor, 1) := by decide +kernel
theorem dX12_isHouse_7 : decode cX12_isHouse 7 = .ok (.iand, 1) := by decide +kernel
theorem dX12_isHouse_8 : decode cX12_isHouse 8 = .ok (.ifCond .eq 5, 3) := by decide +kernel
theorem dX12_isHouse_11 : decode cX12_isHouse 11 = .ok (.iconst 0, 1) := by decide +kernel
theorem dX12_isHouse_12 : decode cX12_isHouse 12 = .ok (.ireturn, 1) := by decide +kernel
theorem dX12_isHouse_13 : decode cX12_isHouse 13 = .ok (.iconst 0, 1) := by decide +kernel
theorem dX12_isHouse_14 : decode cX12_isHouse 14 = .ok (.istore_n 2, 1) := by decide +kernel
theorem dX12_isHouse_15 : decode cX12_isHouse 15 = .ok (.iconst 0, 1) := by decide +kernel
theorem dX12_isHouse_16 : decode cX12_isHouse 16 = .ok (.istore_n 3, 1) := by decide +kernel
theorem dX12_isHouse_17 : decode cX12_isHouse 17 = .ok (.iload_n 3, 1) := by decide +kernel
theorem dX12_isHouse_18 : decode cX12_isHouse 18 = .ok (.aload_n 0, 1) := by decide +kernel
theorem dX12_isHouse_19 : decode cX12_isHouse 19 = .ok (.getfield 9, 3) := by decide +kernel
theorem dX12_isHouse_22 : decode cX12_isHouse 22 = .ok (.iconst 5, 1) := by decide +kernel
theorem dX12_isHouse_23 : decode cX12_isHouse 23 = .ok (.iaload, 1) := by decide +kernel
theorem dX12_isHouse_24 : decode cX12_isHouse 24 = .ok (.if_icmp .ge 47, 3) := by decide +kernel
theorem dX12_isHouse_27 : decode cX12_isHouse 27 = .ok (.iload_n 1, 1) := by decide +kernel
theorem dX12_isHouse_28 : decode cX12_isHouse 28 = .ok (.iload_n 3, 1) := by decide +kernel
theorem dX12_isHouse_29 : decode cX12_isHouse 29 = .ok (.invokestatic 88, 3) := by decide +kernel
theorem dX12_isHouse_32 : decode cX12_isHouse 32 = .ok (.ifCond .ne 6, 3) := by decide +kernel
theorem dX12_isHouse_35 : decode cX12_isHouse 35 = .ok (.goto 30, 3) := by decide +kernel
theorem dX12_isHouse_38 : decode cX12_isHouse 38 = .ok (.iload_n 2, 1) := by decide +kernel
theorem dX12_isHouse_39 : decode cX12_isHouse 39 = .ok (.aload_n 0, 1) := by decide +kernel
theorem dX12_isHouse_40 : decode cX12_isHouse 40 = .ok (.iload_n 3, 1) := by decide +kernel
theorem dX12_isHouse_41 : decode cX12_isHouse 41 = .ok (.iconst 1, 1) := by decide +kernel
theorem dX12_isHouse_42 : decode cX12_isHouse 42 = .ok (.invokevirtual 262, 3) := by decide +kernel
theorem dX12_isHouse_45 : decode cX12_isHouse 45 = .ok (.invokestatic 88, 3) := by decide +kernel
theorem dX12_isHouse_48 : decode cX12_isHouse 48 = .ok (.iconst 1, 1) := by decide +kernel
theorem dX12_isHouse_49 : decode cX12_isHouse 49 = .ok (.if_icmp .ne 5, 3) := by decide +kernel
theorem dX12_isHouse_52 : decode cX12_isHouse 52 = .ok (.iconst 0, 1) := by decide +kernel
theorem dX12_isHouse_53 : decode cX12_isHouse 53 = .ok (.ireturn, 1) := by decide +kernel
theorem dX12_isHouse_54 : decode cX12_isHouse 54 = .ok (.iload_n 2, 1) := by decide +kernel
theorem dX12_isHouse_55 : decode cX12_isHouse 55 = .ok (.iconst 1, 1) := by decide +kernel
theorem dX12_isHouse_56 : decode cX12_isHouse 56 = .ok (.aload_n 0, 1) := by decide +kernel
theorem dX12_isHouse_57 : decode cX12_isHouse 57 = .ok (.iload_n 3, 1) := by decide +kernel
theorem dX12_isHouse_58 : decode cX12_isHouse 58 = .ok (.iconst 1, 1) := by decide +kernel
theorem dX12_isHouse_59 : decode cX12_isHouse 59 = .ok (.invokevirtual 262, 3) := by decide +kernel
theorem dX12_isHouse_62 : decode cX12_isHouse 62 = .ok (.ishl, 1) := by decide +kernel
theorem dX12_isHouse_63 : decode cX12_isHouse 63 = .ok (.ior, 1) := by decide +kernel
theorem dX12_isHouse_64 : decode cX12_isHouse 64 = .ok (.istore_n 2, 1) := by decide +kernel
theorem dX12_isHouse_65 : decode cX12_isHouse 65 = .ok (.iinc 3 1, 3) := by decide +kernel
theorem dX12_isHouse_68 : decode cX12_isHouse 68 = .ok (.goto (-51), 3) := by decide +kernel
theorem dX12_isHouse_71 : decode cX12_isHouse 71 = .ok (.iconst 1, 1) := by decide +kernel
theorem dX12_isHouse_72 : decode cX12_isHouse 72 = .ok (.ireturn, 1) := by decide +kernel
theorem dX12_isLaw_0 : decode cX12_isLaw 0 = .ok (.iload_n 0, 1) := by decide +kernel
theorem dX12_isLaw_1 : decode cX12_isLaw 1 = .ok (.i2l, 1) := by decide +kernel
theorem dX12_isLaw_2 : decode cX12_isLaw 2 = .ok (.lconst 0, 1) := by decide +kernel
theorem dX12_isLaw_3 : decode cX12_isLaw 3 = .ok (.ldc2_w 86, 3) := by decide +kernel
theorem dX12_isLaw_6 : decode cX12_isLaw 6 = .ok (.invokestatic 82, 3) := by decide +kernel
theorem dX12_isLaw_9 : decode cX12_isLaw 9 = .ok (.ireturn, 1) := by decide +kernel
theorem dX12_isLiked_0 : decode cX12_isLiked 0 = .ok (.aload_n 0, 1) := by decide +kernel
theorem dX12_isLiked_1 : decode cX12_isLiked 1 = .ok (.iload_n 1, 1) := by decide +kernel
theorem dX12_isLiked_2 : decode cX12_isLiked 2 = .ok (.iload_n 2, 1) := by decide +kernel
theorem dX12_isLiked_3 : decode cX12_isLiked 3 = .ok (.invokevirtual 268, 3) := by decide +kernel
theorem dX12_isLiked_6 : decode cX12_isLiked 6 = .ok (.ifCond .gt 19, 3) := by decide +kernel
theorem dX12_isLiked_9 : decode cX12_isLiked 9 = .ok (.iload_n 1, 1) := by decide +kernel
theorem dX12_isLiked_10 : decode cX12_isLiked 10 = .ok (.aload_n 0, 1) := by decide +kernel
theorem dX12_isLiked_11 : decode cX12_isLiked 11 = .ok (.getfield 37, 3) := by decide +kernel
theorem dX12_isLiked_14 : decode cX12_isLiked 14 = .ok (.if_icmp .ne 15, 3) := by decide +kernel
theorem dX12_isLiked_17 : decode cX12_isLiked 17 = .ok (.iload_n 2, 1) := by decide +kernel
theorem dX12_isLiked_18 : decode cX12_isLiked 18 = .ok (.aload_n 0, 1) := by decide +kernel
theorem dX12_isLiked_19 : decode cX12_isLiked 19 = .ok (.getfield 271, 3) := by decide +kernel
theorem dX12_isLiked_22 : decode cX12_isLiked 22 = .ok (.if_icmp .ne 7, 3) := by decide +kernel
theorem dX12_isLiked_25 : decode cX12_isLiked 25 = .ok (.iconst 1, 1) := by decide +kernel
theorem dX12_isLiked_26 : decode cX12_isLiked 26 = .ok (.goto 4, 3) := by decide +kernel
theorem dX12_isLiked_29 : decode cX12_isLiked 29 = .ok (.iconst 0, 1) := by decide +kernel
theorem dX12_isLiked_30 : decode cX12_isLiked 30 = .ok (.ireturn, 1) := by decide +kernel
theorem dX12_isLonger_0 : decode cX12_isLonger 0 = .ok (.aload_n 0, 1) := by decide +kernel
theorem dX12_isLonger_1 : decode cX12_isLonger 1 = .ok (.iload_n 1, 1) := by decide +kernel
theorem dX12_isLonger_2 : decode cX12_isLonger 2 = .ok (.iconst 0, 1) := by decide +kernel
theorem dX12_isLonger_3 : decode cX12_isLonger 3 = .ok (.invokevirtual 262, 3) := by decide +kernel
theorem dX12_isLonger_6 : decode cX12_isLonger 6 = .ok (.aload_n 0, 1) := by decide +kernel
theorem dX12_isLonger_7 : decode cX12_isLonger 7 = .ok (.iload_n 2, 1) := by decide +kernel
theorem dX12_isLonger_8 : decode cX12_isLonger 8 = .ok (.iconst 0, 1) := by decide +kernel
theorem dX12_isLonger_9 : decode cX12_isLonger 9 = .ok (.invokevirtual 262, 3) := by decide +kernel
theorem dX12_isLonger_12 : decode cX12_isLonger 12 = .ok (.if_icmp .eq 26, 3) := by decide +kernel
theorem dX12_isLonger_15 : decode cX12_isLonger 15 = .ok (.aload_n 0, 1) := by decide +kernel
theorem dX12_isLonger_16 : decode cX12_isLonger 16 = .ok (.iload_n 1, 1) := by decide +kernel
theorem dX12_isLonger_17 : decode cX12_isLonger 17 = .ok (.iconst 0, 1) := by decide +kernel
theorem dX12_isLonger_18 : decode cX12_isLonger 18 = .ok (.invokevirtual 262, 3) := by decide +kernel
theorem dX12_isLonger_21 : decode cX12_isLonger 21 = .ok (.aload_n 0, 1) := by decide +kernel
theorem dX12_isLonger_22 : decode cX12_isLonger 22 = .ok (.iload_n 2, 1) := by decide +kernel
theorem dX12_isLonger_23 : decode cX12_isLonger 23 = .ok (.iconst 0, 1) := by decide +kernel
theorem dX12_isLonger_24 : decode cX12_isLonger 24 = .ok (.invokevirtual 262, 3) := by decide +kernel
theorem dX12_isLonger_27 : decode cX12_isLonger 27 = .ok (.if_icmp .le 7, 3) := by decide +kernel
theorem dX12_isLonger_30 : decode cX12_isLonger 30 = .ok (.iconst 1, 1) := by decide +kernel
theorem dX12_isLonger_31 : decode cX12_isLonger 31 = .ok (.goto 17, 3) := by decide +kernel
theorem dX12_isLonger_34 : decode cX12_isLonger 34 = .ok (.iconst 0, 1) := by decide +kernel
theorem dX12_isLonger_35 : decode cX12_isLonger 35 = .ok (.goto 13, 3) := by decide +kernel
theorem dX12_isLonger_38 : decode cX12_isLonger 38 = .ok (.iload_n 1, 1) := by decide +kernel
theorem dX12_isLonger_39 : decode cX12_isLonger 39 = .ok (.iload_n 2, 1) := by decide +kernel
theorem dX12_isLonger_40 : decode cX12_isLonger 40 = .ok (.if_icmp .ge 7, 3) := by decide +kernel
theorem dX12_isLonger_43 : decode cX12_isLonger 43 = .ok (.iconst 1, 1) := by decide +kernel
theorem dX12_isLonger_44 : decode cX12_isLonger 44 = .ok (.goto 4, 3) := by decide +kernel
theorem dX12_isLonger_47 : decode cX12_isLonger 47 = .ok (.iconst 0, 1) := by decide +kernel
theorem dX12_isLonger_48 : decode cX12_isLonger 48 = .ok (.ireturn, 1) := by decide +kernel
theorem dX12_isMajority_0 : decode cX12_isMajority 0 = .ok (.iconst 0, 1) := by decide +kernel
theorem dX12_isMajority_1 : decode cX12_isMajority 1 = .ok (.istore_n 2, 1) := by decide +kernel
theorem dX12_isMajority_2 : decode cX12_isMajority 2 = .ok (.iconst 0, 1) := by decide +kernel
theorem dX12_isMajority_3 : decode cX12_isMajority 3 = .ok (.istore_n 3, 1) := by decide +kernel
theorem dX12_isMajority_4 : decode cX12_isMajority 4 = .ok (.iload_n 3, 1) := by decide +kernel
theorem dX12_isMajority_5 : decode cX12_isMajority 5 = .ok (.aload_n 0, 1) := by decide +kernel
theorem dX12_isMajority_6 : decode cX12_isMajority 6 = .ok (.getfield 9, 3) := by decide +kernel
theorem dX12_isMajority_9 : decode cX12_isMajority 9 = .ok (.iconst 4, 1) := by decide +kernel
theorem dX12_isMajority_10 : decode cX12_isMajority 10 = .ok (.iaload, 1) := by decide +kernel
theorem dX12_isMajority_11 : decode cX12_isMajority 11 = .ok (.if_icmp .ge 21, 3) := by decide +kernel
theorem dX12_isMajority_14 : decode cX12_isMajority 14 = .ok (.iload_n 2, 1) := by decide +kernel
theorem dX12_isMajority_15 : decode cX12_isMajority 15 = .ok (.aload_n 0, 1) := by decide +kernel
theorem dX12_isMajority_16 : decode cX12_isMajority 16 = .ok (.getfield 9, 3) := by decide +kernel
theorem dX12_isMajority_19 : decode cX12_isMajority 19 = .ok (.bipush 12, 2) := by decide +kernel
theorem dX12_isMajority_21 : decode cX12_isMajority 21 = .ok (.iload_n 3, 1) := by decide +kernel
theorem dX12_isMajority_22 : decode cX12_isMajority 22 = .ok (.iadd, 1) := by decide +kernel
theorem dX12_isMajority_23 : decode cX12_isMajority 23 = .ok (.iaload, 1) := by decide +kernel
theorem dX12_isMajority_24 : decode cX12_isMajority 24 = .ok (.iadd, 1) := by decide +kernel
theorem dX12_isMajority_25 : decode cX12_isMajority 25 = .ok (.istore_n 2, 1) := by decide +kernel
theorem dX12_isMajority_26 : decode cX12_isMajority 26 = .ok (.iinc 3 1, 3) := by decide +kernel
theorem dX12_isMajority_29 : decode cX12_isMajority 29 = .ok (.goto (-25), 3) := by decide +kernel
theorem dX12_isMajority_32 : decode cX12_isMajority 32 = .ok (.iconst 2, 1) := by decide +kernel
theorem dX12_isMajority_33 : decode cX12_isMajority 33 = .ok (.aload_n 0, 1) := by decide +kernel
theorem dX12_isMajority_34 : decode cX12_isMajority 34 = .ok (.iload_n 1, 1) := by decide +kernel
theorem dX12_isMajority_35 : decode cX12_isMajority 35 = .ok (.invokevirtual 408, 3) := by decide +kernel
theorem dX12_isMajority_38 : decode cX12_isMajority 38 = .ok (.imul, 1) := by decide +kernel
theorem dX12_isMajority_39 : decode cX12_isMajority 39 = .ok (.iload_n 2, 1) := by decide +kernel
theorem dX12_isMajority_40 : decode cX12_isMajority 40 = .ok (.if_icmp .le 7, 3) := by decide +kernel
theorem dX12_isMajority_43 : decode cX12_isMajority 43 = .ok (.iconst 1, 1) := by decide +kernel
theorem dX12_isMajority_44 : decode cX12_isMajority 44 = .ok (.goto 4, 3) := by decide +kernel
theorem dX12_isMajority_47 : decode cX12_isMajority 47 = .ok (.iconst 0, 1) := by decide +kernel
theorem dX12_isMajority_48 : decode cX12_isMajority 48 = .ok (.ireturn, 1) := by decide +kernel
theorem dX12_isMeaning_0 : decode cX12_isMeaning 0 = .ok (.lload_n 1, 1) := by decide +kernel
theorem dX12_isMeaning_1 : decode cX12_isMeaning 1 = .ok (.lconst 0, 1) := by decide +kernel
theorem dX12_isMeaning_2 : decode cX12_isMeaning 2 = .ok (.aload_n 0, 1) := by decide +kernel
theorem dX12_isMeaning_3 : decode cX12_isMeaning 3 = .ok (.getfield 9, 3) := by decide +kernel
theorem dX12_isMeaning_6 : decode cX12_isMeaning 6 = .ok (.iconst 0, 1) := by decide +kernel
theorem dX12_isMeaning_7 : decode cX12_isMeaning 7 = .ok (.iaload, 1) := by decide +kernel
theorem dX12_isMeaning_8 : decode cX12_isMeaning 8 = .ok (.iconst 1, 1) := by decide +kernel
theorem dX12_isMeaning_9 : decode cX12_isMeaning 9 = .ok (.isub, 1) := by decide +kernel
theorem dX12_isMeaning_10 : decode cX12_isMeaning 10 = .ok (.i2l, 1) := by decide +kernel
theorem dX12_isMeaning_11 : decode cX12_isMeaning 11 = .ok (.invokestatic 82, 3) := by decide +kernel
theorem dX12_isMeaning_14 : decode cX12_isMeaning 14 = .ok (.ireturn, 1) := by decide +kernel
theorem dX12_isParty_0 : decode cX12_isParty 0 = .ok (.iload_n 0, 1) := by decide +kernel
theorem dX12_isParty_1 : decode cX12_isParty 1 = .ok (.i2l, 1) := by decide +kernel
theorem dX12_isParty_2 : decode cX12_isParty 2 = .ok (.lconst 0, 1) := by decide +kernel
theorem dX12_isParty_3 : decode cX12_isParty 3 = .ok (.ldc2_w 86, 3) := by decide +kernel
theorem dX12_isParty_6 : decode cX12_isParty 6 = .ok (.invokestatic 82, 3) := by decide +kernel
theorem dX12_isParty_9 : decode cX12_isParty 9 = .ok (.ireturn, 1) := by decide +kernel
theorem dX12_isSeed_0 : decode cX12_isSeed 0 = .ok (.iload_n 0, 1) := by decide +kernel
theorem dX12_isSeed_1 : decode cX12_isSeed 1 = .ok (.i2l, 1) := by decide +kernel
theorem dX12_isSeed_2 : decode cX12_isSeed 2 = .ok (.lconst 0, 1) := by decide +kernel
theorem dX12_isSeed_3 : decode cX12_isSeed 3 = .ok (.ldc2_w 474, 3) := by decide +kernel
theorem dX12_isSeed_6 : decode cX12_isSeed 6 = .ok (.invokestatic 82, 3) := by decide +kernel
theorem dX12_isSeed_9 : decode cX12_isSeed 9 = .ok (.ireturn, 1) := by decide +kernel
theorem dX12_isSlot_0 : decode cX12_isSlot 0 = .ok (.iload_n 0, 1) := by decide +kernel
theorem dX12_isSlot_1 : decode cX12_isSlot 1 = .ok (.i2l, 1) := by decide +kernel
theorem dX12_isSlot_2 : decode cX12_isSlot 2 = .ok (.lconst 0, 1) := by decide +kernel
theorem dX12_isSlot_3 : decode cX12_isSlot 3 = .ok (.ldc2_w 86, 3) := by decide +kernel
theorem dX12_isSlot_6 : decode cX12_isSlot 6 = .ok (.invokestatic 82, 3) := by decide +kernel
theorem dX12_isSlot_9 : decode cX12_isSlot 9 = .ok (.ireturn, 1) := by decide +kernel
theorem dX12_isSpeaker_0 : decode cX12_isSpeaker 0 = .ok (.iload_n 1, 1) := by decide +kernel
theorem dX12_isSpeaker_1 : decode cX12_isSpeaker 1 = .ok (.i2l, 1) := by decide +kernel
theorem dX12_isSpeaker_2 : decode cX12_isSpeaker 2 = .ok (.lconst 0, 1) := by decide +kernel
theorem dX12_isSpeaker_3 : decode cX12_isSpeaker 3 = .ok (.aload_n 0, 1) := by decide +kernel
theorem dX12_isSpeaker_4 : decode cX12_isSpeaker 4 = .ok (.getfield 9, 3) := by decide +kernel
theorem dX12_isSpeaker_7 : decode cX12_isSpeaker 7 = .ok (.bipush 6, 2) := by decide +kernel
theorem dX12_isSpeaker_9 : decode cX12_isSpeaker 9 = .ok (.iaload, 1) := by decide +kernel
theorem dX12_isSpeaker_10 : decode cX12_isSpeaker 10 = .ok (.iconst 1, 1) := by decide +kernel
theorem dX12_isSpeaker_11 : decode cX12_isSpeaker 11 = .ok (.isub, 1) := by decide +kernel
theorem dX12_isSpeaker_12 : decode cX12_isSpeaker 12 = .ok (.i2l, 1) := by decide +kernel
theorem dX12_isSpeaker_13 : decode cX12_isSpeaker 13 = .ok (.invokestatic 82, 3) := by decide +kernel
theorem dX12_isSpeaker_16 : decode cX12_isSpeaker 16 = .ok (.ireturn, 1) := by decide +kernel
theorem dX12_isWord_0 : decode cX12_isWord 0 = .ok (.lload_n 1, 1) := by decide +kernel
theorem dX12_isWord_1 : decode cX12_isWord 1 = .ok (.lconst 0, 1) := by decide +kernel
theorem dX12_isWord_2 : decode cX12_isWord 2 = .ok (.aload_n 0, 1) := by decide +kernel
theorem dX12_isWord_3 : decode cX12_isWord 3 = .ok (.getfield 9, 3) := by decide +kernel
theorem dX12_isWord_6 : decode cX12_isWord 6 = .ok (.iconst 5, 1) := by decide +kernel
theorem dX12_isWord_7 : decode cX12_isWord 7 = .ok (.iaload, 1) := by decide +kernel
theorem dX12_isWord_8 : decode cX12_isWord 8 = .ok (.iconst 1, 1) := by decide +kernel
theorem dX12_isWord_9 : decode cX12_isWord 9 = .ok (.isub, 1) := by decide +kernel
theorem dX12_isWord_10 : decode cX12_isWord 10 = .ok (.i2l, 1) := by decide +kernel
theorem dX12_isWord_11 : decode cX12_isWord 11 = .ok (.invokestatic 82, 3) := by decide +kernel
theorem dX12_isWord_14 : decode cX12_isWord 14 = .ok (.ireturn, 1) := by decide +kernel
theorem dX12_least_0 : decode cX12_least 0 = .ok (.aload_n 0, 1) := by decide +kernel
theorem dX12_least_1 : decode cX12_least 1 = .ok (.iload_n 1, 1) := by decide +kernel
theorem dX12_least_2 : decode cX12_least 2 = .ok (.i2l, 1) := by decide +kernel
theorem dX12_least_3 : decode cX12_least 3 = .ok (.invokevirtual 363, 3) := by decide +kernel
theorem dX12_least_6 : decode cX12_least 6 = .ok (.ifCond .ne 6, 3) := by decide +kernel
theorem dX12_least_9 : decode cX12_least 9 = .ok (.bipush (-2), 2) := by decide +kernel
theorem dX12_least_11 : decode cX12_least 11 = .ok (.ireturn, 1) := by decide +kernel
theorem dX12_least_12 : decode cX12_least 12 = .ok (.aload_n 0, 1) := by decide +kernel
theorem dX12_least_13 : decode cX12_least 13 = .ok (.aload_n 0, 1) := by decide +kernel
theorem dX12_least_14 : decode cX12_least 14 = .ok (.getfield 9, 3) := by decide +kernel
theorem dX12_least_17 : decode cX12_least 17 = .ok (.bipush 10, 2) := by decide +kernel
theorem dX12_least_19 : decode cX12_least 19 = .ok (.iaload, 1) := by decide +kernel
theorem dX12_least_20 : decode cX12_least 20 = .ok (.invokevirtual 366, 3) := by decide +kernel
theorem dX12_least_23 : decode cX12_least 23 = .ok (.aload_n 0, 1) := by decide +kernel
theorem dX12_least_24 : decode cX12_least 24 = .ok (.getfield 52, 3) := by decide +kernel
theorem dX12_least_27 : decode cX12_least 27 = .ok (.iload_n 1, 1) := by decide +kernel
theorem dX12_least_28 : decode cX12_least 28 = .ok (.iaload, 1) := by decide +kernel
theorem dX12_least_29 : decode cX12_least 29 = .ok (.invokestatic 369, 3) := by decide +kernel
theorem dX12_least_32 : decode cX12_least 32 = .ok (.ireturn, 1) := by decide +kernel
theorem dX12_led_0 : decode cX12_led 0 = .ok (.aload_n 0, 1) := by decide +kernel
theorem dX12_led_1 : decode cX12_led 1 = .ok (.invokevirtual 347, 3) := by decide +kernel
theorem dX12_led_4 : decode cX12_led 4 = .ok (.ifCond .ne 8, 3) := by decide +kernel
theorem dX12_led_7 : decode cX12_led 7 = .ok (.bipush (-2), 2) := by decide +kernel
theorem dX12_led_9 : decode cX12_led 9 = .ok (.goto 38, 3) := by decide +kernel
theorem dX12_led_12 : decode cX12_led 12 = .ok (.iload_n 1, 1) := by decide +kernel
theorem dX12_led_13 : decode cX12_led 13 = .ok (.i2l, 1) := by decide +kernel
theorem dX12_led_14 : decode cX12_led 14 = .ok (.lconst 0, 1) := by decide +kernel
theorem dX12_led_15 : decode cX12_led 15 = .ok (.aload_n 0, 1) := by decide +kernel
theorem dX12_led_16 : decode cX12_led 16 = .ok (.getfield 9, 3) := by decide +kernel
theorem dX12_led_19 : decode cX12_led 19 = .ok (.bipush 8, 2) := by decide +kernel
theorem dX12_led_21 : decode cX12_led 21 = .ok (.iaload, 1) := by decide +kernel
theorem dX12_led_22 : decode cX12_led 22 = .ok (.iconst 1, 1) := by decide +kernel
theorem dX12_led_23 : decode cX12_led 23 = .ok (.isub, 1) := by decide +kernel
theorem dX12_led_24 : decode cX12_led 24 = .ok (.i2l, 1) := by decide +kernel
theorem dX12_led_25 : decode cX12_led 25 = .ok (.invokestatic 82, 3) := by decide +kernel
theorem dX12_led_28 : decode cX12_led 28 = .ok (.ifCond .eq 18, 3) := by decide +kernel
theorem dX12_led_31 : decode cX12_led 31 = .ok (.aload_n 0, 1) := by decide +kernel
theorem dX12_led_32 : decode cX12_led 32 = .ok (.getfield 9, 3) := by decide +kernel
theorem dX12_led_35 : decode cX12_led 35 = .ok (.bipush 121, 2) := by decide +kernel
theorem dX12_led_37 : decode cX12_led 37 = .ok (.bipush 12, 2) := by decide +kernel
theorem dX12_led_39 : decode cX12_led 39 = .ok (.iload_n 1, 1) := by decide +kernel
theorem dX12_led_40 : decode cX12_led 40 = .ok (.imul, 1) := by decide +kernel
theorem dX12_led_41 : decode cX12_led 41 = .ok (.iadd, 1) := by decide +kernel
theorem dX12_led_42 : decode cX12_led 42 = .ok (.iaload, 1) := by decide +kernel
theorem dX12_led_43 : decode cX12_led 43 = .ok (.goto 4, 3) := by decide +kernel
theorem dX12_led_46 : decode cX12_led 46 = .ok (.iconst (-1), 1) := by decide +kernel
theorem dX12_led_47 : decode cX12_led 47 = .ok (.ireturn, 1) := by decide +kernel
theorem dX12_likes_0 : decode cX12_likes 0 = .ok (.aload_n 0, 1) := by decide +kernel
theorem dX12_likes_1 : decode cX12_likes 1 = .ok (.iload_n 1, 1) := by decide +kernel
theorem dX12_likes_2 : decode cX12_likes 2 = .ok (.invokevirtual 328, 3) := by decide +kernel
theorem dX12_likes_5 : decode cX12_likes 5 = .ok (.ifCond .eq 21, 3) := by decide +kernel
theorem dX12_likes_8 : decode cX12_likes 8 = .ok (.aload_n 0, 1) := by decide +kernel
theorem dX12_likes_9 : decode cX12_likes 9 = .ok (.iload_n 2, 1) := by decide +kernel
theorem dX12_likes_10 : decode cX12_likes 10 = .ok (.i2l, 1) := by decide +kernel
theorem dX12_likes_11 : decode cX12_likes 11 = .ok (.invokevirtual 322, 3) := by decide +kernel
theorem dX12_likes_14 : decode cX12_likes 14 = .ok (.ifCond .eq 12, 3) := by decide +kernel
theorem dX12_likes_17 : decode cX12_likes 17 = .ok (.aload_n 0, 1) := by decide +kernel
theorem dX12_likes_18 : decode cX12_likes 18 = .ok (.iload_n 1, 1) := by decide +kernel
theorem dX12_likes_19 : decode cX12_likes 19 = .ok (.iload_n 2, 1) := by decide +kernel
theorem dX12_likes_20 : decode cX12_likes 20 = .ok (.invokevirtual 268, 3) := by decide +kernel
theorem dX12_likes_23 : decode cX12_likes 23 = .ok (.goto 5, 3) := by decide +kernel
theorem dX12_likes_26 : decode cX12_likes 26 = .ok (.bipush (-2), 2) := by decide +kernel
theorem dX12_likes_28 : decode cX12_likes 28 = .ok (.ireturn, 1) := by decide +kernel
theorem dX12_likesOf_0 : decode cX12_likesOf 0 = .ok (.aload_n 0, 1) := by decide +kernel
theorem dX12_likesOf_1 : decode cX12_likesOf 1 = .ok (.iload_n 1, 1) := by decide +kernel
theorem dX12_likesOf_2 : decode cX12_likesOf 2 = .ok (.iconst 3, 1) := by decide +kernel
theorem dX12_likesOf_3 : decode cX12_likesOf 3 = .ok (.invokevirtual 259, 3) := by decide +kernel
theorem dX12_likesOf_6 : decode cX12_likesOf 6 = .ok (.aload_n 0, 1) := by decide +kernel
theorem dX12_likesOf_7 : decode cX12_likesOf 7 = .ok (.iload_n 2, 1) := by decide +kernel
theorem dX12_likesOf_8 : decode cX12_likesOf 8 = .ok (.iconst 3, 1) := by decide +kernel
theorem dX12_likesOf_9 : decode cX12_likesOf 9 = .ok (.invokevirtual 262, 3) := by decide +kernel
theorem dX12_likesOf_12 : decode cX12_likesOf 12 = .ok (.iand, 1) := by decide +kernel
theorem dX12_likesOf_13 : decode cX12_likesOf 13 = .ok (.invokestatic 265, 3) := by decide +kernel
theorem dX12_likesOf_16 : decode cX12_likesOf 16 = .ok (.ireturn, 1) := by decide +kernel
theorem dX12_likesSitter_0 : decode cX12_likesSitter 0 = .ok (.iload_n 2, 1) := by decide +kernel
theorem dX12_likesSitter_1 : decode cX12_likesSitter 1 = .ok (.iconst (-1), 1) := by decide +kernel
theorem dX12_likesSitter_2 : decode cX12_likesSitter 2 = .ok (.if_icmp .ne 7, 3) := by decide +kernel
theorem dX12_likesSitter_5 : decode cX12_likesSitter 5 = .ok (.iconst 0, 1) := by decide +kernel
theorem dX12_likesSitter_6 : decode cX12_likesSitter 6 = .ok (.goto 9, 3) := by decide +kernel
theorem dX12_likesSitter_9 : decode cX12_likesSitter 9 = .ok (.aload_n 0, 1) := by decide +kernel
theorem dX12_likesSitter_10 : decode cX12_likesSitter 10 = .ok (.iload_n 1, 1) := by decide +kernel
theorem dX12_likesSitter_11 : decode cX12_likesSitter 11 = .ok (.iload_n 2, 1) := by decide +kernel
theorem dX12_likesSitter_12 : decode cX12_likesSitter 12 = .ok (.invokevirtual 268, 3) := by decide +kernel
theorem dX12_likesSitter_15 : decode cX12_likesSitter 15 = .ok (.ireturn, 1) := by decide +kernel
theorem dX12_lists_0 : decode cX12_lists 0 = .ok (.aload_n 0, 1) := by decide +kernel
theorem dX12_lists_1 : decode cX12_lists 1 = .ok (.invokevirtual 347, 3) := by decide +kernel
theorem dX12_lists_4 : decode cX12_lists 4 = .ok (.ifCond .eq 22, 3) := by decide +kernel
theorem dX12_lists_7 : decode cX12_lists 7 = .ok (.iload_n 1, 1) := by decide +kernel
theorem dX12_lists_8 : decode cX12_lists 8 = .ok (.i2l, 1) := by decide +kernel
theorem dX12_lists_9 : decode cX12_lists 9 = .ok (.lconst 0, 1) := by decide +kernel
theorem dX12_lists_10 : decode cX12_lists 10 = .ok (.ldc2_w 428, 3) := by decide +kernel
theorem dX12_lists_13 : decode cX12_lists 13 = .ok (.invokestatic 82, 3) := by decide +kernel
theorem dX12_lists_16 : decode cX12_lists 16 = .ok (.ifCond .eq 10, 3) := by decide +kernel
theorem dX12_lists_19 : decode cX12_lists 19 = .ok (.iload_n 2, 1) := by decide +kernel
theorem dX12_lists_20 : decode cX12_lists 20 = .ok (.invokestatic 413, 3) := by decide +kernel
theorem dX12_lists_23 : decode cX12_lists 23 = .ok (.ifCond .ne 6, 3) := by decide +kernel
theorem dX12_lists_26 : decode cX12_lists 26 = .ok (.bipush (-2), 2) := by decide +kernel
theorem dX12_lists_28 : decode cX12_lists 28 = .ok (.ireturn, 1) := by decide +kernel
theorem dX12_lists_29 : decode cX12_lists 29 = .ok (.aload_n 0, 1) := by decide +kernel
theorem dX12_lists_30 : decode cX12_lists 30 = .ok (.invokevirtual 335, 3) := by decide +kernel
theorem dX12_lists_33 : decode cX12_lists 33 = .ok (.iconst 0, 1) := by decide +kernel
theorem dX12_lists_34 : decode cX12_lists 34 = .ok (.istore_n 3, 1) := by decide +kernel
theorem dX12_lists_35 : decode cX12_lists 35 = .ok (.iload_n 3, 1) := by decide +kernel
theorem dX12_lists_36 : decode cX12_lists 36 = .ok (.iconst 4, 1) := by decide +kernel
theorem dX12_lists_37 : decode cX12_lists 37 = .ok (.if_icmp .ge 23, 3) := by decide +kernel
theorem dX12_lists_40 : decode cX12_lists 40 = .ok (.aload_n 0, 1) := by decide +kernel
theorem dX12_lists_41 : decode cX12_lists 41 = .ok (.getfield 55, 3) := by decide +kernel
theorem dX12_lists_44 : decode cX12_lists 44 = .ok (.iload_n 3, 1) := by decide +kernel
theorem dX12_lists_45 : decode cX12_lists 45 = .ok (.iconst 0, 1) := by decide +kernel
theorem dX12_lists_46 : decode cX12_lists 46 = .ok (.iastore, 1) := by decide +kernel
theorem dX12_lists_47 : decode cX12_lists 47 = .ok (.aload_n 0, 1) := by decide +kernel
theorem dX12_lists_48 : decode cX12_lists 48 = .ok (.getfield 58, 3) := by decide +kernel
theorem dX12_lists_51 : decode cX12_lists 51 = .ok (.iload_n 3, 1) := by decide +kernel
theorem dX12_lists_52 : decode cX12_lists 52 = .ok (.iconst 0, 1) := by decide +kernel
theorem dX12_lists_53 : decode cX12_lists 53 = .ok (.iastore, 1) := by decide +kernel
theorem dX12_lists_54 : decode cX12_lists 54 = .ok (.iinc 3 1, 3) := by decide +kernel
theorem dX12_lists_57 : decode cX12_lists 57 = .ok (.goto (-22), 3) := by decide +kernel
theorem dX12_lists_60 : decode cX12_lists 60 = .ok (.iconst 0, 1) := by decide +kernel
theorem dX12_lists_61 : decode cX12_lists 61 = .ok (.istore_n 3, 1) := by decide +kernel
theorem dX12_lists_62 : decode cX12_lists 62 = .ok (.iconst 0, 1) := by decide +kernel
theorem dX12_lists_63 : decode cX12_lists 63 = .ok (.istore 4, 2) := by decide +kernel
theorem dX12_lists_65 : decode cX12_lists 65 = .ok (.iload 4, 2) := by decide +kernel
theorem dX12_lists_67 : decode cX12_lists 67 = .ok (.aload_n 0, 1) := by decide +kernel
theorem dX12_lists_68 : decode cX12_lists 68 = .ok (.getfield 9, 3) := by decide +kernel
theorem dX12_lists_71 : decode cX12_lists 71 = .ok (.iconst 4, 1) := by decide +kernel
theorem dX12_lists_72 : decode cX12_lists 72 = .ok (.iaload, 1) := by decide +kernel
theorem dX12_lists_73 : decode cX12_lists 73 = .ok (.if_icmp .ge 71, 3) := by decide +kernel
theorem dX12_lists_76 : decode cX12_lists 76 = .ok (.aload_n 0, 1) := by decide +kernel
theorem dX12_lists_77 : decode cX12_lists 77 = .ok (.iload 4, 2) := by decide +kernel
theorem dX12_lists_79 : decode cX12_lists 79 = .ok (.aload_n 0, 1) := by decide +kernel
theorem dX12_lists_80 : decode cX12_lists 80 = .ok (.iload 4, 2) := by decide +kernel
theorem dX12_lists_82 : decode cX12_lists 82 = .ok (.invokevirtual 304, 3) := by decide +kernel
theorem dX12_lists_85 : decode cX12_lists 85 = .ok (.iconst 0, 1) := by decide +kernel
theorem dX12_lists_86 : decode cX12_lists 86 = .ok (.invokevirtual 297, 3) := by decide +kernel
theorem dX12_lists_89 : decode cX12_lists 89 = .ok (.iconst 0, 1) := by decide +kernel
theorem dX12_lists_90 : decode cX12_lists 90 = .ok (.istore 5, 2) := by decide +kernel
theorem dX12_lists_92 : decode cX12_lists 92 = .ok (.iload 5, 2) := by decide +kernel
theorem dX12_lists_94 : decode cX12_lists 94 = .ok (.aload_n 0, 1) := by decide +kernel
theorem dX12_lists_95 : decode cX12_lists 95 = .ok (.getfield 9, 3) := by decide +kernel
theorem dX12_lists_98 : decode cX12_lists 98 = .ok (.iconst 5, 1) := by decide +kernel
theorem dX12_lists_99 : decode cX12_lists 99 = .ok (.iaload, 1) := by decide +kernel
theorem dX12_lists_100 : decode cX12_lists 100 = .ok (.if_icmp .ge 31, 3) := by decide +kernel
theorem dX12_lists_103 : decode cX12_lists 103 = .ok (.aload_n 0, 1) := by decide +kernel
theorem dX12_lists_104 : decode cX12_lists 104 = .ok (.getfield 55, 3) := by decide +kernel
theorem dX12_lists_107 : decode cX12_lists 107 = .ok (.aload_n 0, 1) := by decide +kernel
theorem dX12_lists_108 : decode cX12_lists 108 = .ok (.iload 5, 2) := by decide +kernel
theorem dX12_lists_110 : decode cX12_lists 110 = .ok (.iconst 2, 1) := by decide +kernel
theorem dX12_lists_111 : decode cX12_lists 111 = .ok (.invokevirtual 262, 3) := by decide +kernel
theorem dX12_lists_114 : decode cX12_lists 114 = .ok (.dup2, 1) := by decide +kernel
theorem dX12_lists_115 : decode cX12_lists 115 = .ok (.iaload, 1) := by decide +kernel
theorem dX12_lists_116 : decode cX12_lists 116 = .ok (.aload_n 0, 1) := by decide +kernel
theorem dX12_lists_117 : decode cX12_lists 117 = .ok (.getfield 40, 3) := by decide +kernel
theorem dX12_lists_120 : decode cX12_lists 120 = .ok (.iload 5, 2) := by decide +kernel
theorem dX12_lists_122 : decode cX12_lists 122 = .ok (.iaload, 1) := by decide +kernel
theorem dX12_lists_123 : decode cX12_lists 123 = .ok (.iadd, 1) := by decide +kernel
theorem dX12_lists_124 : decode cX12_lists 124 = .ok (.iastore, 1) := by decide +kernel
theorem dX12_lists_125 : decode cX12_lists 125 = .ok (.iinc 5 1, 3) := by decide +kernel
theorem dX12_lists_128 : decode cX12_lists 128 = .ok (.goto (-36), 3) := by decide +kernel
theorem dX12_lists_131 : decode cX12_lists 131 = .ok (.iload_n 3, 1) := by decide +kernel
theorem dX12_lists_132 : decode cX12_lists 132 = .ok (.aload_n 0, 1) := by decide +kernel
theorem dX12_lists_133 : decode cX12_lists 133 = .ok (.getfield 285, 3) := by decide +kernel
theorem dX12_lists_136 : decode cX12_lists 136 = .ok (.iadd, 1) := by decide +kernel
theorem dX12_lists_137 : decode cX12_lists 137 = .ok (.istore_n 3, 1) := by decide +kernel
theorem dX12_lists_138 : decode cX12_lists 138 = .ok (.iinc 4 1, 3) := by decide +kernel
theorem dX12_lists_141 : decode cX12_lists 141 = .ok (.goto (-76), 3) := by decide +kernel
theorem dX12_lists_144 : decode cX12_lists 144 = .ok (.iload_n 3, 1) := by decide +kernel
theorem dX12_lists_145 : decode cX12_lists 145 = .ok (.ifCond .ne 5, 3) := by decide +kernel
theorem dX12_lists_148 : decode cX12_lists 148 = .ok (.iconst 0, 1) := by decide +kernel
theorem dX12_lists_149 : decode cX12_lists 149 = .ok (.ireturn, 1) := by decide +kernel
theorem dX12_lists_150 : decode cX12_lists 150 = .ok (.iconst 0, 1) := by decide +kernel
theorem dX12_lists_151 : decode cX12_lists 151 = .ok (.istore 4, 2) := by decide +kernel
theorem dX12_lists_153 : decode cX12_lists 153 = .ok (.iload 4, 2) := by decide +kernel
theorem dX12_lists_155 : decode cX12_lists 155 = .ok (.iload_n 1, 1) := by decide +kernel
theorem dX12_lists_156 : decode cX12_lists 156 = .ok (.if_icmp .ge 84, 3) := by decide +kernel
theorem dX12_lists_159 : decode cX12_lists 159 = .ok (.iconst 0, 1) := by decide +kernel
theorem dX12_lists_160 : decode cX12_lists 160 = .ok (.istore 5, 2) := by decide +kernel
theorem dX12_lists_162 : decode cX12_lists 162 = .ok (.iconst 1, 1) := by decide +kernel
theorem dX12_lists_163 : decode cX12_lists 163 = .ok (.istore 6, 2) := by decide +kernel
theorem dX12_lists_165 : decode cX12_lists 165 = .ok (.iload 6, 2) := by decide +kernel
theorem dX12_lists_167 : decode cX12_lists 167 = .ok (.iconst 4, 1) := by decide +kernel
theorem dX12_lists_168 : decode cX12_lists 168 = .ok (.if_icmp .ge 55, 3) := by decide +kernel
theorem dX12_lists_171 : decode cX12_lists 171 = .ok (.aload_n 0, 1) := by decide +kernel
theorem dX12_lists_172 : decode cX12_lists 172 = .ok (.getfield 55, 3) := by decide +kernel
theorem dX12_lists_175 : decode cX12_lists 175 = .ok (.iload 6, 2) := by decide +kernel
theorem dX12_lists_177 : decode cX12_lists 177 = .ok (.iaload, 1) := by decide +kernel
theorem dX12_lists_178 : decode cX12_lists 178 = .ok (.aload_n 0, 1) := by decide +kernel
theorem dX12_lists_179 : decode cX12_lists 179 = .ok (.getfield 58, 3) := by decide +kernel
theorem dX12_lists_182 : decode cX12_lists 182 = .ok (.iload 5, 2) := by decide +kernel
theorem dX12_lists_184 : decode cX12_lists 184 = .ok (.iaload, 1) := by decide +kernel
theorem dX12_lists_185 : decode cX12_lists 185 = .ok (.iconst 1, 1) := by decide +kernel
theorem dX12_lists_186 : decode cX12_lists 186 = .ok (.iadd, 1) := by decide +kernel
theorem dX12_lists_187 : decode cX12_lists 187 = .ok (.imul, 1) := by decide +kernel
theorem dX12_lists_188 : decode cX12_lists 188 = .ok (.aload_n 0, 1) := by decide +kernel
theorem dX12_lists_189 : decode cX12_lists 189 = .ok (.getfield 55, 3) := by decide +kernel
theorem dX12_lists_192 : decode cX12_lists 192 = .ok (.iload 5, 2) := by decide +kernel
theorem dX12_lists_194 : decode cX12_lists 194 = .ok (.iaload, 1) := by decide +kernel
theorem dX12_lists_195 : decode cX12_lists 195 = .ok (.aload_n 0, 1) := by decide +kernel
theorem dX12_lists_196 : decode cX12_lists 196 = .ok (.getfield 58, 3) := by decide +kernel
theorem dX12_lists_199 : decode cX12_lists 199 = .ok (.iload 6, 2) := by decide +kernel
theorem dX12_lists_201 : decode cX12_lists 201 = .ok (.iaload, 1) := by decide +kernel
theorem dX12_lists_202 : decode cX12_lists 202 = .ok (.iconst 1, 1) := by decide +kernel
theorem dX12_lists_203 : decode cX12_lists 203 = .ok (.iadd, 1) := by decide +kernel
theorem dX12_lists_204 : decode cX12_lists 204 = .ok (.imul, 1) := by decide +kernel
theorem dX12_lists_205 : decode cX12_lists 205 = .ok (.if_icmp .le 8, 3) := by decide +kernel
theorem dX12_lists_208 : decode cX12_lists 208 = .ok (.iload 6, 2) := by decide +kernel
theorem dX12_lists_210 : decode cX12_lists 210 = .ok (.goto 5, 3) := by decide +kernel
theorem dX12_lists_213 : decode cX12_lists 213 = .ok (.iload 5, 2) := by decide +kernel
theorem dX12_lists_215 : decode cX12_lists 215 = .ok (.istore 5, 2) := by decide +kernel
theorem dX12_lists_217 : decode cX12_lists 217 = .ok (.iinc 6 1, 3) := by decide +kernel
theorem dX12_lists_220 : decode cX12_lists 220 = .ok (.goto (-55), 3) := by decide +kernel
theorem dX12_lists_223 : decode cX12_lists 223 = .ok (.aload_n 0, 1) := by decide +kernel
theorem dX12_lists_224 : decode cX12_lists 224 = .ok (.getfield 58, 3) := by decide +kernel
theorem dX12_lists_227 : decode cX12_lists 227 = .ok (.iload 5, 2) := by decide +kernel
theorem dX12_lists_229 : decode cX12_lists 229 = .ok (.dup2, 1) := by decide +kernel
theorem dX12_lists_230 : decode cX12_lists 230 = .ok (.iaload, 1) := by decide +kernel
theorem dX12_lists_231 : decode cX12_lists 231 = .ok (.iconst 1, 1) := by decide +kernel
theorem dX12_lists_232 : decode cX12_lists 232 = .ok (.iadd, 1) := by decide +kernel
theorem dX12_lists_233 : decode cX12_lists 233 = .ok (.iastore, 1) := by decide +kernel
theorem dX12_lists_234 : decode cX12_lists 234 = .ok (.iinc 4 1, 3) := by decide +kernel
theorem dX12_lists_237 : decode cX12_lists 237 = .ok (.goto (-84), 3) := by decide +kernel
theorem dX12_lists_240 : decode cX12_lists 240 = .ok (.aload_n 0, 1) := by decide +kernel
theorem dX12_lists_241 : decode cX12_lists 241 = .ok (.getfield 58, 3) := by decide +kernel
theorem dX12_lists_244 : decode cX12_lists 244 = .ok (.iload_n 2, 1) := by decide +kernel
theorem dX12_lists_245 : decode cX12_lists 245 = .ok (.iaload, 1) := by decide +kernel
theorem dX12_lists_246 : decode cX12_lists 246 = .ok (.ireturn, 1) := by decide +kernel
theorem dX12_living_0 : decode cX12_living 0 = .ok (.aload_n 0, 1) := by decide +kernel
theorem dX12_living_1 : decode cX12_living 1 = .ok (.invokevirtual 92, 3) := by decide +kernel
theorem dX12_living_4 : decode cX12_living 4 = .ok (.aload_n 0, 1) := by decide +kernel
theorem dX12_living_5 : decode cX12_living 5 = .ok (.getfield 9, 3) := by decide +kernel
theorem dX12_living_8 : decode cX12_living 8 = .ok (.bipush 11, 2) := by decide +kernel
theorem dX12_living_10 : decode cX12_living 10 = .ok (.iaload, 1) := by decide +kernel
theorem dX12_living_11 : decode cX12_living 11 = .ok (.iconst (-1), 1) := by decide +kernel
theorem dX12_living_12 : decode cX12_living 12 = .ok (.ixor, 1) := by decide +kernel
theorem dX12_living_13 : decode cX12_living 13 = .ok (.iand, 1) := by decide +kernel
theorem dX12_living_14 : decode cX12_living 14 = .ok (.ireturn, 1) := by decide +kernel
theorem dX12_majority_0 : decode cX12_majority 0 = .ok (.aload_n 0, 1) := by decide +kernel
theorem dX12_majority_1 : decode cX12_majority 1 = .ok (.iload_n 1, 1) := by decide +kernel
theorem dX12_majority_2 : decode cX12_majority 2 = .ok (.invokevirtual 416, 3) := by decide +kernel
theorem dX12_majority_5 : decode cX12_majority 5 = .ok (.ifCond .eq 19, 3) := by decide +kernel
theorem dX12_majority_8 : decode cX12_majority 8 = .ok (.aload_n 0, 1) := by decide +kernel
theorem dX12_majority_9 : decode cX12_majority 9 = .ok (.iload_n 1, 1) := by decide +kernel
theorem dX12_majority_10 : decode cX12_majority 10 = .ok (.invokevirtual 419, 3) := by decide +kernel
theorem dX12_majority_13 : decode cX12_majority 13 = .ok (.ifCond .eq 7, 3) := by decide +kernel
theorem dX12_majority_16 : decode cX12_majority 16 = .ok (.iconst 1, 1) := by decide +kernel
theorem dX12_majority_17 : decode cX12_majority 17 = .ok (.goto 9, 3) := by decide +kernel
theorem dX12_majority_20 : decode cX12_majority 20 = .ok (.iconst 0, 1) := by decide +kernel
theorem dX12_majority_21 : decode cX12_majority 21 = .ok (.goto 5, 3) := by decide +kernel
theorem dX12_majority_24 : decode cX12_majority 24 = .ok (.bipush (-2), 2) := by decide +kernel
theorem dX12_majority_26 : decode cX12_majority 26 = .ok (.ireturn, 1) := by decide +kernel
theorem dX12_mostOf_0 : decode cX12_mostOf 0 = .ok (.iconst (-1), 1) := by decide +kernel
theorem dX12_mostOf_1 : decode cX12_mostOf 1 = .ok (.istore_n 2, 1) := by decide +kernel
theorem dX12_mostOf_2 : decode cX12_mostOf 2 = .ok (.iconst 0, 1) := by decide +kernel
theorem dX12_mostOf_3 : decode cX12_mostOf 3 = .ok (.istore_n 3, 1) := by decide +kernel
theorem dX12_mostOf_4 : decode cX12_mostOf 4 = .ok (.iload_n 3, 1) := by decide +kernel
theorem dX12_mostOf_5 : decode cX12_mostOf 5 = .ok (.aload_n 0, 1) := by decide +kernel
theorem dX12_mostOf_6 : decode cX12_mostOf 6 = .ok (.getfield 9, 3) := by decide +kernel
theorem dX12_mostOf_9 : decode cX12_mostOf 9 = .ok (.iconst 5, 1) := by decide +kernel
theorem dX12_mostOf_10 : decode cX12_mostOf 10 = .ok (.iaload, 1) := by decide +kernel
theorem dX12_mostOf_11 : decode cX12_mostOf 11 = .ok (.if_icmp .ge 66, 3) := by decide +kernel
theorem dX12_mostOf_14 : decode cX12_mostOf 14 = .ok (.iload_n 1, 1) := by decide +kernel
theorem dX12_mostOf_15 : decode cX12_mostOf 15 = .ok (.iload_n 3, 1) := by decide +kernel
theorem dX12_mostOf_16 : decode cX12_mostOf 16 = .ok (.invokestatic 88, 3) := by decide +kernel
theorem dX12_mostOf_19 : decode cX12_mostOf 19 = .ok (.ifCond .ne 6, 3) := by decide +kernel
theorem dX12_mostOf_22 : decode cX12_mostOf 22 = .ok (.goto 49, 3) := by decide +kernel
theorem dX12_mostOf_25 : decode cX12_mostOf 25 = .ok (.iload_n 2, 1) := by decide +kernel
theorem dX12_mostOf_26 : decode cX12_mostOf 26 = .ok (.iconst (-1), 1) := by decide +kernel
theorem dX12_mostOf_27 : decode cX12_mostOf 27 = .ok (.if_icmp .eq 42, 3) := by decide +kernel
theorem dX12_mostOf_30 : decode cX12_mostOf 30 = .ok (.aload_n 0, 1) := by decide +kernel
theorem dX12_mostOf_31 : decode cX12_mostOf 31 = .ok (.getfield 40, 3) := by decide +kernel
theorem dX12_mostOf_34 : decode cX12_mostOf 34 = .ok (.iload_n 3, 1) := by decide +kernel
theorem dX12_mostOf_35 : decode cX12_mostOf 35 = .ok (.iaload, 1) := by decide +kernel
theorem dX12_mostOf_36 : decode cX12_mostOf 36 = .ok (.aload_n 0, 1) := by decide +kernel
theorem dX12_mostOf_37 : decode cX12_mostOf 37 = .ok (.getfield 40, 3) := by decide +kernel
theorem dX12_mostOf_40 : decode cX12_mostOf 40 = .ok (.iload_n 2, 1) := by decide +kernel
theorem dX12_mostOf_41 : decode cX12_mostOf 41 = .ok (.iaload, 1) := by decide +kernel
theorem dX12_mostOf_42 : decode cX12_mostOf 42 = .ok (.if_icmp .gt 27, 3) := by decide +kernel
theorem dX12_mostOf_45 : decode cX12_mostOf 45 = .ok (.aload_n 0, 1) := by decide +kernel
theorem dX12_mostOf_46 : decode cX12_mostOf 46 = .ok (.getfield 40, 3) := by decide +kernel
theorem dX12_mostOf_49 : decode cX12_mostOf 49 = .ok (.iload_n 3, 1) := by decide +kernel
theorem dX12_mostOf_50 : decode cX12_mostOf 50 = .ok (.iaload, 1) := by decide +kernel
theorem dX12_mostOf_51 : decode cX12_mostOf 51 = .ok (.aload_n 0, 1) := by decide +kernel
theorem dX12_mostOf_52 : decode cX12_mostOf 52 = .ok (.getfield 40, 3) := by decide +kernel
theorem dX12_mostOf_55 : decode cX12_mostOf 55 = .ok (.iload_n 2, 1) := by decide +kernel
theorem dX12_mostOf_56 : decode cX12_mostOf 56 = .ok (.iaload, 1) := by decide +kernel
theorem dX12_mostOf_57 : decode cX12_mostOf 57 = .ok (.if_icmp .ne 14, 3) := by decide +kernel
theorem dX12_mostOf_60 : decode cX12_mostOf 60 = .ok (.aload_n 0, 1) := by decide +kernel
theorem dX12_mostOf_61 : decode cX12_mostOf 61 = .ok (.iload_n 3, 1) := by decide +kernel
theorem dX12_mostOf_62 : decode cX12_mostOf 62 = .ok (.iload_n 2, 1) := by decide +kernel
theorem dX12_mostOf_63 : decode cX12_mostOf 63 = .ok (.invokevirtual 274, 3) := by decide +kernel
theorem dX12_mostOf_66 : decode cX12_mostOf 66 = .ok (.ifCond .eq 5, 3) := by decide +kernel
theorem dX12_mostOf_69 : decode cX12_mostOf 69 = .ok (.iload_n 3, 1) := by decide +kernel
theorem dX12_mostOf_70 : decode cX12_mostOf 70 = .ok (.istore_n 2, 1) := by decide +kernel
theorem dX12_mostOf_71 : decode cX12_mostOf 71 = .ok (.iinc 3 1, 3) := by decide +kernel
theorem dX12_mostOf_74 : decode cX12_mostOf 74 = .ok (.goto (-70), 3) := by decide +kernel
theorem dX12_mostOf_77 : decode cX12_mostOf 77 = .ok (.iload_n 2, 1) := by decide +kernel
theorem dX12_mostOf_78 : decode cX12_mostOf 78 = .ok (.ireturn, 1) := by decide +kernel
theorem dX12_need_0 : decode cX12_need 0 = .ok (.aload_n 0, 1) := by decide +kernel
theorem dX12_need_1 : decode cX12_need 1 = .ok (.iload_n 1, 1) := by decide +kernel
theorem dX12_need_2 : decode cX12_need 2 = .ok (.invokevirtual 328, 3) := by decide +kernel
theorem dX12_need_5 : decode cX12_need 5 = .ok (.ifCond .eq 15, 3) := by decide +kernel
theorem dX12_need_8 : decode cX12_need 8 = .ok (.iload_n 2, 1) := by decide +kernel
theorem dX12_need_9 : decode cX12_need 9 = .ok (.ifCond .eq 11, 3) := by decide +kernel
theorem dX12_need_12 : decode cX12_need 12 = .ok (.aload_n 0, 1) := by decide +kernel
theorem dX12_need_13 : decode cX12_need 13 = .ok (.iload_n 2, 1) := by decide +kernel
theorem dX12_need_14 : decode cX12_need 14 = .ok (.invokevirtual 381, 3) := by decide +kernel
theorem dX12_need_17 : decode cX12_need 17 = .ok (.ifCond .ne 6, 3) := by decide +kernel
theorem dX12_need_20 : decode cX12_need 20 = .ok (.bipush (-2), 2) := by decide +kernel
theorem dX12_need_22 : decode cX12_need 22 = .ok (.ireturn, 1) := by decide +kernel
theorem dX12_need_23 : decode cX12_need 23 = .ok (.aload_n 0, 1) := by decide +kernel
theorem dX12_need_24 : decode cX12_need 24 = .ok (.iload_n 1, 1) := by decide +kernel
theorem dX12_need_25 : decode cX12_need 25 = .ok (.iconst 3, 1) := by decide +kernel
theorem dX12_need_26 : decode cX12_need 26 = .ok (.invokevirtual 259, 3) := by decide +kernel
theorem dX12_need_29 : decode cX12_need 29 = .ok (.istore_n 3, 1) := by decide +kernel
theorem dX12_need_30 : decode cX12_need 30 = .ok (.aload_n 0, 1) := by decide +kernel
theorem dX12_need_31 : decode cX12_need 31 = .ok (.getfield 9, 3) := by decide +kernel
theorem dX12_need_34 : decode cX12_need 34 = .ok (.bipush 52, 2) := by decide +kernel
theorem dX12_need_36 : decode cX12_need 36 = .ok (.iconst 4, 1) := by decide +kernel
theorem dX12_need_37 : decode cX12_need 37 = .ok (.iload_n 1, 1) := by decide +kernel
theorem dX12_need_38 : decode cX12_need 38 = .ok (.imul, 1) := by decide +kernel
theorem dX12_need_39 : decode cX12_need 39 = .ok (.iadd, 1) := by decide +kernel
theorem dX12_need_40 : decode cX12_need 40 = .ok (.iconst 3, 1) := by decide +kernel
theorem dX12_need_41 : decode cX12_need 41 = .ok (.iadd, 1) := by decide +kernel
theorem dX12_need_42 : decode cX12_need 42 = .ok (.iload_n 2, 1) := by decide +kernel
theorem dX12_need_43 : decode cX12_need 43 = .ok (.iastore, 1) := by decide +kernel
theorem dX12_need_44 : decode cX12_need 44 = .ok (.iload_n 3, 1) := by decide +kernel
theorem dX12_need_45 : decode cX12_need 45 = .ok (.ireturn, 1) := by decide +kernel
theorem dX12_needs_0 : decode cX12_needs 0 = .ok (.aload_n 0, 1) := by decide +kernel
theorem dX12_needs_1 : decode cX12_needs 1 = .ok (.aload_n 1, 1) := by decide +kernel
theorem dX12_needs_2 : decode cX12_needs 2 = .ok (.invokevirtual 155, 3) := by decide +kernel
theorem dX12_needs_5 : decode cX12_needs 5 = .ok (.ifCond .ne 8, 3) := by decide +kernel
theorem dX12_needs_8 : decode cX12_needs 8 = .ok (.aload_n 0, 1) := by decide +kernel
theorem dX12_needs_9 : decode cX12_needs 9 = .ok (.iconst 1, 1) := by decide +kernel
theorem dX12_needs_10 : decode cX12_needs 10 = .ok (.invokevirtual 158, 3) := by decide +kernel
theorem dX12_needs_13 : decode cX12_needs 13 = .ok (.return_, 1) := by decide +kernel
theorem dX12_number_0 : decode cX12_number 0 = .ok (.aload_n 0, 1) := by decide +kernel
theorem dX12_number_1 : decode cX12_number 1 = .ok (.invokevirtual 135, 3) := by decide +kernel
theorem dX12_number_4 : decode cX12_number 4 = .ok (.ifCond .eq 16, 3) := by decide +kernel
theorem dX12_number_7 : decode cX12_number 7 = .ok (.aload_n 0, 1) := by decide +kernel
theorem dX12_number_8 : decode cX12_number 8 = .ok (.getfield 112, 3) := by decide +kernel
theorem dX12_number_11 : decode cX12_number 11 = .ok (.iconst 2, 1) := by decide +kernel
theorem dX12_number_12 : decode cX12_number 12 = .ok (.if_icmp .eq 8, 3) := by decide +kernel
theorem dX12_number_15 : decode cX12_number 15 = .ok (.aload_n 0, 1) := by decide +kernel
theorem dX12_number_16 : decode cX12_number 16 = .ok (.iconst 1, 1) := by decide +kernel
theorem dX12_number_17 : decode cX12_number 17 = .ok (.invokevirtual 158, 3) := by decide +kernel
theorem dX12_number_20 : decode cX12_number 20 = .ok (.aload_n 0, 1) := by decide +kernel
theorem dX12_number_21 : decode cX12_number 21 = .ok (.invokevirtual 135, 3) := by decide +kernel
theorem dX12_number_24 : decode cX12_number 24 = .ok (.ifCond .eq 23, 3) := by decide +kernel
theorem dX12_number_27 : decode cX12_number 27 = .ok (.aload_n 0, 1) := by decide +kernel
theorem dX12_number_28 : decode cX12_number 28 = .ok (.getfield 123, 3) := by decide +kernel
theorem dX12_number_31 : decode cX12_number 31 = .ok (.i2l, 1) := by decide +kernel
theorem dX12_number_32 : decode cX12_number 32 = .ok (.iload_n 1, 1) := by decide +kernel
theorem dX12_number_33 : decode cX12_number 33 = .ok (.i2l, 1) := by decide +kernel
theorem dX12_number_34 : decode cX12_number 34 = .ok (.iload_n 2, 1) := by decide +kernel
theorem dX12_number_35 : decode cX12_number 35 = .ok (.i2l, 1) := by decide +kernel
theorem dX12_number_36 : decode cX12_number 36 = .ok (.invokestatic 82, 3) := by decide +kernel
theorem dX12_number_39 : decode cX12_number 39 = .ok (.ifCond .ne 8, 3) := by decide +kernel
theorem dX12_number_42 : decode cX12_number 42 = .ok (.aload_n 0, 1) := by decide +kernel
theorem dX12_number_43 : decode cX12_number 43 = .ok (.iconst 2, 1) := by decide +kernel
theorem dX12_number_44 : decode cX12_number 44 = .ok (.invokevirtual 158, 3) := by decide +kernel
theorem dX12_number_47 : decode cX12_number 47 = .ok (.aload_n 0, 1) := by decide +kernel
theorem dX12_number_48 : decode cX12_number 48 = .ok (.invokevirtual 135, 3) := by decide +kernel
theorem dX12_number_51 : decode cX12_number 51 = .ok (.ifCond .ne 5, 3) := by decide +kernel
theorem dX12_number_54 : decode cX12_number 54 = .ok (.iconst 0, 1) := by decide +kernel
theorem dX12_number_55 : decode cX12_number 55 = .ok (.ireturn, 1) := by decide +kernel
theorem dX12_number_56 : decode cX12_number 56 = .ok (.aload_n 0, 1) := by decide +kernel
theorem dX12_number_57 : decode cX12_number 57 = .ok (.getfield 123, 3) := by decide +kernel
theorem dX12_number_60 : decode cX12_number 60 = .ok (.istore_n 3, 1) := by decide +kernel
theorem dX12_number_61 : decode cX12_number 61 = .ok (.aload_n 0, 1) := by decide +kernel
theorem dX12_number_62 : decode cX12_number 62 = .ok (.invokevirtual 152, 3) := by decide +kernel
theorem dX12_number_65 : decode cX12_number 65 = .ok (.iload_n 3, 1) := by decide +kernel
theorem dX12_number_66 : decode cX12_number 66 = .ok (.ireturn, 1) := by decide +kernel
theorem dX12_numberAt_0 : decode cX12_numberAt 0 = .ok (.aload_n 0, 1) := by decide +kernel
theorem dX12_numberAt_1 : decode cX12_numberAt 1 = .ok (.getfield 70, 3) := by decide +kernel
theorem dX12_numberAt_4 : decode cX12_numberAt 4 = .ok (.bipush 60, 2) := by decide +kernel
theorem dX12_numberAt_6 : decode cX12_numberAt 6 = .ok (.iload_n 1, 1) := by decide +kernel
theorem dX12_numberAt_7 : decode cX12_numberAt 7 = .ok (.imul, 1) := by decide +kernel
theorem dX12_numberAt_8 : decode cX12_numberAt 8 = .ok (.iload_n 2, 1) := by decide +kernel
theorem dX12_numberAt_9 : decode cX12_numberAt 9 = .ok (.iadd, 1) := by decide +kernel
theorem dX12_numberAt_10 : decode cX12_numberAt 10 = .ok (.laload, 1) := by decide +kernel
theorem dX12_numberAt_11 : decode cX12_numberAt 11 = .ok (.lreturn, 1) := by decide +kernel
theorem dX12_ofSpeaker_0 : decode cX12_ofSpeaker 0 = .ok (.aload_n 0, 1) := by decide +kernel
theorem dX12_ofSpeaker_1 : decode cX12_ofSpeaker 1 = .ok (.getfield 9, 3) := by decide +kernel
theorem dX12_ofSpeaker_4 : decode cX12_ofSpeaker 4 = .ok (.bipush 52, 2) := by decide +kernel
theorem dX12_ofSpeaker_6 : decode cX12_ofSpeaker 6 = .ok (.iconst 4, 1) := by decide +kernel
theorem dX12_ofSpeaker_7 : decode cX12_ofSpeaker 7 = .ok (.iload_n 1, 1) := by decide +kernel
theorem dX12_ofSpeaker_8 : decode cX12_ofSpeaker 8 = .ok (.imul, 1) := by decide +kernel
theorem dX12_ofSpeaker_9 : decode cX12_ofSpeaker 9 = .ok (.iadd, 1) := by decide +kernel
theorem dX12_ofSpeaker_10 : decode cX12_ofSpeaker 10 = .ok (.iload_n 2, 1) := by decide +kernel
theorem dX12_ofSpeaker_11 : decode cX12_ofSpeaker 11 = .ok (.iadd, 1) := by decide +kernel
theorem dX12_ofSpeaker_12 : decode cX12_ofSpeaker 12 = .ok (.iaload, 1) := by decide +kernel
theorem dX12_ofSpeaker_13 : decode cX12_ofSpeaker 13 = .ok (.ireturn, 1) := by decide +kernel
theorem dX12_ofWord_0 : decode cX12_ofWord 0 = .ok (.aload_n 0, 1) := by decide +kernel
theorem dX12_ofWord_1 : decode cX12_ofWord 1 = .ok (.getfield 9, 3) := by decide +kernel
theorem dX12_ofWord_4 : decode cX12_ofWord 4 = .ok (.bipush 16, 2) := by decide +kernel
theorem dX12_ofWord_6 : decode cX12_ofWord 6 = .ok (.iconst 4, 1) := by decide +kernel
theorem dX12_ofWord_7 : decode cX12_ofWord 7 = .ok (.iload_n 1, 1) := by decide +kernel
theorem dX12_ofWord_8 : decode cX12_ofWord 8 = .ok (.imul, 1) := by decide +kernel
theorem dX12_ofWord_9 : decode cX12_ofWord 9 = .ok (.iadd, 1) := by decide +kernel
theorem dX12_ofWord_10 : decode cX12_ofWord 10 = .ok (.iload_n 2, 1) := by decide +kernel
theorem dX12_ofWord_11 : decode cX12_ofWord 11 = .ok (.iadd, 1) := by decide +kernel
theorem dX12_ofWord_12 : decode cX12_ofWord 12 = .ok (.iaload, 1) := by decide +kernel
theorem dX12_ofWord_13 : decode cX12_ofWord 13 = .ok (.ireturn, 1) := by decide +kernel
theorem dX12_orNone_0 : decode cX12_orNone 0 = .ok (.iload_n 0, 1) := by decide +kernel
theorem dX12_orNone_1 : decode cX12_orNone 1 = .ok (.ldc_w 359, 3) := by decide +kernel
theorem dX12_orNone_4 : decode cX12_orNone 4 = .ok (.if_icmp .lt 7, 3) := by decide +kernel
theorem dX12_orNone_7 : decode cX12_orNone 7 = .ok (.iconst (-1), 1) := by decide +kernel
theorem dX12_orNone_8 : decode cX12_orNone 8 = .ok (.goto 4, 3) := by decide +kernel
theorem dX12_orNone_11 : decode cX12_orNone 11 = .ok (.iload_n 0, 1) := by decide +kernel
theorem dX12_orNone_12 : decode cX12_orNone 12 = .ok (.ireturn, 1) := by decide +kernel
theorem dX12_order_0 : decode cX12_order 0 = .ok (.aload_n 0, 1) := by decide +kernel
theorem dX12_order_1 : decode cX12_order 1 = .ok (.iload_n 1, 1) := by decide +kernel
theorem dX12_order_2 : decode cX12_order 2 = .ok (.invokevirtual 328, 3) := by decide +kernel
theorem dX12_order_5 : decode cX12_order 5 = .ok (.ifCond .ne 6, 3) := by decide +kernel
theorem dX12_order_8 : decode cX12_order 8 = .ok (.bipush (-2), 2) := by decide +kernel
theorem dX12_order_10 : decode cX12_order 10 = .ok (.ireturn, 1) := by decide +kernel
theorem dX12_order_11 : decode cX12_order 11 = .ok (.aload_n 0, 1) := by decide +kernel
theorem dX12_order_12 : decode cX12_order 12 = .ok (.invokevirtual 335, 3) := by decide +kernel
theorem dX12_order_15 : decode cX12_order 15 = .ok (.aload_n 0, 1) := by decide +kernel
theorem dX12_order_16 : decode cX12_order 16 = .ok (.aload_n 0, 1) := by decide +kernel
theorem dX12_order_17 : decode cX12_order 17 = .ok (.getfield 34, 3) := by decide +kernel
theorem dX12_order_20 : decode cX12_order 20 = .ok (.iload_n 1, 1) := by decide +kernel
theorem dX12_order_21 : decode cX12_order 21 = .ok (.iaload, 1) := by decide +kernel
theorem dX12_order_22 : decode cX12_order 22 = .ok (.invokevirtual 304, 3) := by decide +kernel
theorem dX12_order_25 : decode cX12_order 25 = .ok (.istore_n 3, 1) := by decide +kernel
theorem dX12_order_26 : decode cX12_order 26 = .ok (.iload_n 2, 1) := by decide +kernel
theorem dX12_order_27 : decode cX12_order 27 = .ok (.ifCond .ge 7, 3) := by decide +kernel
theorem dX12_order_30 : decode cX12_order 30 = .ok (.iconst (-1), 1) := by decide +kernel
theorem dX12_order_31 : decode cX12_order 31 = .ok (.goto 9, 3) := by decide +kernel
theorem dX12_order_34 : decode cX12_order 34 = .ok (.aload_n 0, 1) := by decide +kernel
theorem dX12_order_35 : decode cX12_order 35 = .ok (.iload_n 1, 1) := by decide +kernel
theorem dX12_order_36 : decode cX12_order 36 = .ok (.iload_n 3, 1) := by decide +kernel
theorem dX12_order_37 : decode cX12_order 37 = .ok (.invokevirtual 291, 3) := by decide +kernel
theorem dX12_order_40 : decode cX12_order 40 = .ok (.istore 4, 2) := by decide +kernel
theorem dX12_order_42 : decode cX12_order 42 = .ok (.iconst 0, 1) := by decide +kernel
theorem dX12_order_43 : decode cX12_order 43 = .ok (.istore 5, 2) := by decide +kernel
theorem dX12_order_45 : decode cX12_order 45 = .ok (.iload 5, 2) := by decide +kernel
theorem dX12_order_47 : decode cX12_order 47 = .ok (.iload_n 2, 1) := by decide +kernel
theorem dX12_order_48 : decode cX12_order 48 = .ok (.if_icmp .ge 32, 3) := by decide +kernel
theorem dX12_order_51 : decode cX12_order 51 = .ok (.iload 4, 2) := by decide +kernel
theorem dX12_order_53 : decode cX12_order 53 = .ok (.iconst (-1), 1) := by decide +kernel
theorem dX12_order_54 : decode cX12_order 54 = .ok (.if_icmp .eq 26, 3) := by decide +kernel
theorem dX12_order_57 : decode cX12_order 57 = .ok (.iload_n 3, 1) := by decide +kernel
theorem dX12_order_58 : decode cX12_order 58 = .ok (.iconst 1, 1) := by decide +kernel
theorem dX12_order_59 : decode cX12_order 59 = .ok (.iload 4, 2) := by decide +kernel
theorem dX12_order_61 : decode cX12_order 61 = .ok (.ishl, 1) := by decide +kernel
theorem dX12_order_62 : decode cX12_order 62 = .ok (.iconst (-1), 1) := by decide +kernel
theorem dX12_order_63 : decode cX12_order 63 = .ok (.ixor, 1) := by decide +kernel
theorem dX12_order_64 : decode cX12_order 64 = .ok (.iand, 1) := by decide +kernel
theorem dX12_order_65 : decode cX12_order 65 = .ok (.istore_n 3, 1) := by decide +kernel
theorem dX12_order_66 : decode cX12_order 66 = .ok (.aload_n 0, 1) := by decide +kernel
theorem dX12_order_67 : decode cX12_order 67 = .ok (.iload_n 1, 1) := by decide +kernel
theorem dX12_order_68 : decode cX12_order 68 = .ok (.iload_n 3, 1) := by decide +kernel
theorem dX12_order_69 : decode cX12_order 69 = .ok (.invokevirtual 291, 3) := by decide +kernel
theorem dX12_order_72 : decode cX12_order 72 = .ok (.istore 4, 2) := by decide +kernel
theorem dX12_order_74 : decode cX12_order 74 = .ok (.iinc 5 1, 3) := by decide +kernel
theorem dX12_order_77 : decode cX12_order 77 = .ok (.goto (-32), 3) := by decide +kernel
theorem dX12_order_80 : decode cX12_order 80 = .ok (.iload 4, 2) := by decide +kernel
theorem dX12_order_82 : decode cX12_order 82 = .ok (.ireturn, 1) := by decide +kernel
theorem dX12_orders_0 : decode cX12_orders 0 = .ok (.iconst 1, 1) := by decide +kernel
theorem dX12_orders_1 : decode cX12_orders 1 = .ok (.istore_n 1, 1) := by decide +kernel
theorem dX12_orders_2 : decode cX12_orders 2 = .ok (.iconst 2, 1) := by decide +kernel
theorem dX12_orders_3 : decode cX12_orders 3 = .ok (.istore_n 2, 1) := by decide +kernel
theorem dX12_orders_4 : decode cX12_orders 4 = .ok (.iload_n 2, 1) := by decide +kernel
theorem dX12_orders_5 : decode cX12_orders 5 = .ok (.iload_n 0, 1) := by decide +kernel
theorem dX12_orders_6 : decode cX12_orders 6 = .ok (.if_icmp .gt 13, 3) := by decide +kernel
theorem dX12_orders_9 : decode cX12_orders 9 = .ok (.iload_n 1, 1) := by decide +kernel
theorem dX12_orders_10 : decode cX12_orders 10 = .ok (.iload_n 2, 1) := by decide +kernel
theorem dX12_orders_11 : decode cX12_orders 11 = .ok (.imul, 1) := by decide +kernel
theorem dX12_orders_12 : decode cX12_orders 12 = .ok (.istore_n 1, 1) := by decide +kernel
theorem dX12_orders_13 : decode cX12_orders 13 = .ok (.iinc 2 1, 3) := by decide +kernel
theorem dX12_orders_16 : decode cX12_orders 16 = .ok (.goto (-12), 3) := by decide +kernel
theorem dX12_orders_19 : decode cX12_orders 19 = .ok (.iload_n 1, 1) := by decide +kernel
theorem dX12_orders_20 : decode cX12_orders 20 = .ok (.ireturn, 1) := by decide +kernel
theorem dX12_paste_0 : decode cX12_paste 0 = .ok (.iload_n 1, 1) := by decide +kernel
theorem dX12_paste_1 : decode cX12_paste 1 = .ok (.invokestatic 439, 3) := by decide +kernel
theorem dX12_paste_4 : decode cX12_paste 4 = .ok (.ifCond .eq 10, 3) := by decide +kernel
theorem dX12_paste_7 : decode cX12_paste 7 = .ok (.iload_n 3, 1) := by decide +kernel
theorem dX12_paste_8 : decode cX12_paste 8 = .ok (.invokestatic 439, 3) := by decide +kernel
theorem dX12_paste_11 : decode cX12_paste 11 = .ok (.ifCond .ne 6, 3) := by decide +kernel
theorem dX12_paste_14 : decode cX12_paste 14 = .ok (.bipush (-2), 2) := by decide +kernel
theorem dX12_paste_16 : decode cX12_paste 16 = .ok (.ireturn, 1) := by decide +kernel
theorem dX12_paste_17 : decode cX12_paste 17 = .ok (.aload_n 0, 1) := by decide +kernel
theorem dX12_paste_18 : decode cX12_paste 18 = .ok (.getfield 64, 3) := by decide +kernel
theorem dX12_paste_21 : decode cX12_paste 21 = .ok (.iload_n 1, 1) := by decide +kernel
theorem dX12_paste_22 : decode cX12_paste 22 = .ok (.iaload, 1) := by decide +kernel
theorem dX12_paste_23 : decode cX12_paste 23 = .ok (.iconst (-1), 1) := by decide +kernel
theorem dX12_paste_24 : decode cX12_paste 24 = .ok (.if_icmp .eq 13, 3) := by decide +kernel
theorem dX12_paste_27 : decode cX12_paste 27 = .ok (.aload_n 0, 1) := by decide +kernel
theorem dX12_paste_28 : decode cX12_paste 28 = .ok (.getfield 64, 3) := by decide +kernel
theorem dX12_paste_31 : decode cX12_paste 31 = .ok (.iload_n 3, 1) := by decide +kernel
theorem dX12_paste_32 : decode cX12_paste 32 = .ok (.iaload, 1) := by decide +kernel
theorem dX12_paste_33 : decode cX12_paste 33 = .ok (.iconst (-1), 1) := by decide +kernel
theorem dX12_paste_34 : decode cX12_paste 34 = .ok (.if_icmp .ne 6, 3) := by decide +kernel
theorem dX12_paste_37 : decode cX12_paste 37 = .ok (.bipush (-6), 2) := by decide +kernel
theorem dX12_paste_39 : decode cX12_paste 39 = .ok (.ireturn, 1) := by decide +kernel
theorem dX12_paste_40 : decode cX12_paste 40 = .ok (.aload_n 0, 1) := by decide +kernel
theorem dX12_paste_41 : decode cX12_paste 41 = .ok (.getfield 67, 3) := by decide +kernel
theorem dX12_paste_44 : decode cX12_paste 44 = .ok (.iload_n 1, 1) := by decide +kernel
theorem dX12_paste_45 : decode cX12_paste 45 = .ok (.iaload, 1) := by decide +kernel
theorem dX12_paste_46 : decode cX12_paste 46 = .ok (.aload_n 0, 1) := by decide +kernel
theorem dX12_paste_47 : decode cX12_paste 47 = .ok (.getfield 67, 3) := by decide +kernel
theorem dX12_paste_50 : decode cX12_paste 50 = .ok (.iload_n 3, 1) := by decide +kernel
theorem dX12_paste_51 : decode cX12_paste 51 = .ok (.iaload, 1) := by decide +kernel
theorem dX12_paste_52 : decode cX12_paste 52 = .ok (.if_icmp .eq 6, 3) := by decide +kernel
theorem dX12_paste_55 : decode cX12_paste 55 = .ok (.bipush (-8), 2) := by decide +kernel
theorem dX12_paste_57 : decode cX12_paste 57 = .ok (.ireturn, 1) := by decide +kernel
theorem dX12_paste_58 : decode cX12_paste 58 = .ok (.iload_n 2, 1) := by decide +kernel
theorem dX12_paste_59 : decode cX12_paste 59 = .ok (.ifCond .lt 48, 3) := by decide +kernel
theorem dX12_paste_62 : decode cX12_paste 62 = .ok (.iload 4, 2) := by decide +kernel
theorem dX12_paste_64 : decode cX12_paste 64 = .ok (.ifCond .lt 43, 3) := by decide +kernel
theorem dX12_paste_67 : decode cX12_paste 67 = .ok (.iload 5, 2) := by decide +kernel
theorem dX12_paste_69 : decode cX12_paste 69 = .ok (.ifCond .lt 38, 3) := by decide +kernel
theorem dX12_paste_72 : decode cX12_paste 72 = .ok (.iload_n 2, 1) := by decide +kernel
theorem dX12_paste_73 : decode cX12_paste 73 = .ok (.i2l, 1) := by decide +kernel
theorem dX12_paste_74 : decode cX12_paste 74 = .ok (.iload 5, 2) := by decide +kernel
theorem dX12_paste_76 : decode cX12_paste 76 = .ok (.i2l, 1) := by decide +kernel
theorem dX12_paste_77 : decode cX12_paste 77 = .ok (.ladd, 1) := by decide +kernel
theorem dX12_paste_78 : decode cX12_paste 78 = .ok (.aload_n 0, 1) := by decide +kernel
theorem dX12_paste_79 : decode cX12_paste 79 = .ok (.getfield 64, 3) := by decide +kernel
theorem dX12_paste_82 : decode cX12_paste 82 = .ok (.iload_n 1, 1) := by decide +kernel
theorem dX12_paste_83 : decode cX12_paste 83 = .ok (.iaload, 1) := by decide +kernel
theorem dX12_paste_84 : decode cX12_paste 84 = .ok (.i2l, 1) := by decide +kernel
theorem dX12_paste_85 : decode cX12_paste 85 = .ok (.lcmp, 1) := by decide +kernel
theorem dX12_paste_86 : decode cX12_paste 86 = .ok (.ifCond .gt 21, 3) := by decide +kernel
theorem dX12_paste_89 : decode cX12_paste 89 = .ok (.iload 4, 2) := by decide +kernel
theorem dX12_paste_91 : decode cX12_paste 91 = .ok (.i2l, 1) := by decide +kernel
theorem dX12_paste_92 : decode cX12_paste 92 = .ok (.iload 5, 2) := by decide +kernel
theorem dX12_paste_94 : decode cX12_paste 94 = .ok (.i2l, 1) := by decide +kernel
theorem dX12_paste_95 : decode cX12_paste 95 = .ok (.ladd, 1) := by decide +kernel
theorem dX12_paste_96 : decode cX12_paste 96 = .ok (.aload_n 0, 1) := by decide +kernel
theorem dX12_paste_97 : decode cX12_paste 97 = .ok (.getfield 64, 3) := by decide +kernel
theorem dX12_paste_100 : decode cX12_paste 100 = .ok (.iload_n 3, 1) := by decide +kernel
theorem dX12_paste_101 : decode cX12_paste 101 = .ok (.iaload, 1) := by decide +kernel
theorem dX12_paste_102 : decode cX12_paste 102 = .ok (.i2l, 1) := by decide +kernel
theorem dX12_paste_103 : decode cX12_paste 103 = .ok (.lcmp, 1) := by decide +kernel
theorem dX12_paste_104 : decode cX12_paste 104 = .ok (.ifCond .le 6, 3) := by decide +kernel
theorem dX12_paste_107 : decode cX12_paste 107 = .ok (.bipush (-7), 2) := by decide +kernel
theorem dX12_paste_109 : decode cX12_paste 109 = .ok (.ireturn, 1) := by decide +kernel
theorem dX12_paste_110 : decode cX12_paste 110 = .ok (.iconst 0, 1) := by decide +kernel
theorem dX12_paste_111 : decode cX12_paste 111 = .ok (.istore 6, 2) := by decide +kernel
theorem dX12_paste_113 : decode cX12_paste 113 = .ok (.iload 6, 2) := by decide +kernel
theorem dX12_paste_115 : decode cX12_paste 115 = .ok (.iload 5, 2) := by decide +kernel
theorem dX12_paste_117 : decode cX12_paste 117 = .ok (.if_icmp .ge 30, 3) := by decide +kernel
theorem dX12_paste_120 : decode cX12_paste 120 = .ok (.aload_n 0, 1) := by decide +kernel
theorem dX12_paste_121 : decode cX12_paste 121 = .ok (.getfield 74, 3) := by decide +kernel
theorem dX12_paste_124 : decode cX12_paste 124 = .ok (.iload 6, 2) := by decide +kernel
theorem dX12_paste_126 : decode cX12_paste 126 = .ok (.aload_n 0, 1) := by decide +kernel
theorem dX12_paste_127 : decode cX12_paste 127 = .ok (.getfield 70, 3) := by decide +kernel
theorem dX12_paste_130 : decode cX12_paste 130 = .ok (.bipush 60, 2) := by decide +kernel
theorem dX12_paste_132 : decode cX12_paste 132 = .ok (.iload_n 1, 1) := by decide +kernel
theorem dX12_paste_133 : decode cX12_paste 133 = .ok (.imul, 1) := by decide +kernel
theorem dX12_paste_134 : decode cX12_paste 134 = .ok (.iload_n 2, 1) := by decide +kernel
theorem dX12_paste_135 : decode cX12_paste 135 = .ok (.iadd, 1) := by decide +kernel
theorem dX12_paste_136 : decode cX12_paste 136 = .ok (.iload 6, 2) := by decide +kernel
theorem dX12_paste_138 : decode cX12_paste 138 = .ok (.iadd, 1) := by decide +kernel
theorem dX12_paste_139 : decode cX12_paste 139 = .ok (.laload, 1) := by decide +kernel
theorem dX12_paste_140 : decode cX12_paste 140 = .ok (.lastore, 1) := by decide +kernel
theorem dX12_paste_141 : decode cX12_paste 141 = .ok (.iinc 6 1, 3) := by decide +kernel
theorem dX12_paste_144 : decode cX12_paste 144 = .ok (.goto (-31), 3) := by decide +kernel
theorem dX12_paste_147 : decode cX12_paste 147 = .ok (.iconst 0, 1) := by decide +kernel
theorem dX12_paste_148 : decode cX12_paste 148 = .ok (.istore 6, 2) := by decide +kernel
theorem dX12_paste_150 : decode cX12_paste 150 = .ok (.iload 6, 2) := by decide +kernel
theorem dX12_paste_152 : decode cX12_paste 152 = .ok (.iload 5, 2) := by decide +kernel
theorem dX12_paste_154 : decode cX12_paste 154 = .ok (.if_icmp .ge 31, 3) := by decide +kernel
theorem dX12_paste_157 : decode cX12_paste 157 = .ok (.aload_n 0, 1) := by decide +kernel
theorem dX12_paste_158 : decode cX12_paste 158 = .ok (.getfield 70, 3) := by decide +kernel
theorem dX12_paste_161 : decode cX12_paste 161 = .ok (.bipush 60, 2) := by decide +kernel
theorem dX12_paste_163 : decode cX12_paste 163 = .ok (.iload_n 3, 1) := by decide +kernel
theorem dX12_paste_164 : decode cX12_paste 164 = .ok (.imul, 1) := by decide +kernel
theorem dX12_paste_165 : decode cX12_paste 165 = .ok (.iload 4, 2) := by decide +kernel
theorem dX12_paste_167 : decode cX12_paste 167 = .ok (.iadd, 1) := by decide +kernel
theorem dX12_paste_168 : decode cX12_paste 168 = .ok (.iload 6, 2) := by decide +kernel
theorem dX12_paste_170 : decode cX12_paste 170 = .ok (.iadd, 1) := by decide +kernel
theorem dX12_paste_171 : decode cX12_paste 171 = .ok (.aload_n 0, 1) := by decide +kernel
theorem dX12_paste_172 : decode cX12_paste 172 = .ok (.getfield 74, 3) := by decide +kernel
theorem dX12_paste_175 : decode cX12_paste 175 = .ok (.iload 6, 2) := by decide +kernel
theorem dX12_paste_177 : decode cX12_paste 177 = .ok (.laload, 1) := by decide +kernel
theorem dX12_paste_178 : decode cX12_paste 178 = .ok (.lastore, 1) := by decide +kernel
theorem dX12_paste_179 : decode cX12_paste 179 = .ok (.iinc 6 1, 3) := by decide +kernel
theorem dX12_paste_182 : decode cX12_paste 182 = .ok (.goto (-32), 3) := by decide +kernel
theorem dX12_paste_185 : decode cX12_paste 185 = .ok (.iconst 0, 1) := by decide +kernel
theorem dX12_paste_186 : decode cX12_paste 186 = .ok (.ireturn, 1) := by decide +kernel
theorem dX12_put_0 : decode cX12_put 0 = .ok (.iload_n 1, 1) := by decide +kernel
theorem dX12_put_1 : decode cX12_put 1 = .ok (.invokestatic 413, 3) := by decide +kernel
theorem dX12_put_4 : decode cX12_put 4 = .ok (.ifCond .eq 20, 3) := by decide +kernel
theorem dX12_put_7 : decode cX12_put 7 = .ok (.aload_n 0, 1) := by decide +kernel
theorem dX12_put_8 : decode cX12_put 8 = .ok (.getfield 9, 3) := by decide +kernel
theorem dX12_put_11 : decode cX12_put 11 = .ok (.iconst 4, 1) := by decide +kernel
theorem dX12_put_12 : decode cX12_put 12 = .ok (.iaload, 1) := by decide +kernel
theorem dX12_put_13 : decode cX12_put 13 = .ok (.ifCond .eq 11, 3) := by decide +kernel
theorem dX12_put_16 : decode cX12_put 16 = .ok (.aload_n 0, 1) := by decide +kernel
theorem dX12_put_17 : decode cX12_put 17 = .ok (.iload_n 2, 1) := by decide +kernel
theorem dX12_put_18 : decode cX12_put 18 = .ok (.invokevirtual 328, 3) := by decide +kernel
theorem dX12_put_21 : decode cX12_put 21 = .ok (.ifCond .ne 6, 3) := by decide +kernel
theorem dX12_put_24 : decode cX12_put 24 = .ok (.bipush (-2), 2) := by decide +kernel
theorem dX12_put_26 : decode cX12_put 26 = .ok (.ireturn, 1) := by decide +kernel
theorem dX12_put_27 : decode cX12_put 27 = .ok (.aload_n 0, 1) := by decide +kernel
theorem dX12_put_28 : decode cX12_put 28 = .ok (.invokevirtual 433, 3) := by decide +kernel
theorem dX12_put_31 : decode cX12_put 31 = .ok (.ifCond .ne 5, 3) := by decide +kernel
theorem dX12_put_34 : decode cX12_put 34 = .ok (.iconst (-1), 1) := by decide +kernel
theorem dX12_put_35 : decode cX12_put 35 = .ok (.ireturn, 1) := by decide +kernel
theorem dX12_put_36 : decode cX12_put 36 = .ok (.aload_n 0, 1) := by decide +kernel
theorem dX12_put_37 : decode cX12_put 37 = .ok (.iload_n 1, 1) := by decide +kernel
theorem dX12_put_38 : decode cX12_put 38 = .ok (.invokevirtual 436, 3) := by decide +kernel
theorem dX12_put_41 : decode cX12_put 41 = .ok (.aload_n 0, 1) := by decide +kernel
theorem dX12_put_42 : decode cX12_put 42 = .ok (.getfield 61, 3) := by decide +kernel
theorem dX12_put_45 : decode cX12_put 45 = .ok (.iload_n 2, 1) := by decide +kernel
theorem dX12_put_46 : decode cX12_put 46 = .ok (.iaload, 1) := by decide +kernel
theorem dX12_put_47 : decode cX12_put 47 = .ok (.ireturn, 1) := by decide +kernel
theorem dX12_readFirst_0 : decode cX12_readFirst 0 = .ok (.aload_n 0, 1) := by decide +kernel
theorem dX12_readFirst_1 : decode cX12_readFirst 1 = .ok (.ldc 180, 2) := by decide +kernel
theorem dX12_readFirst_3 : decode cX12_readFirst 3 = .ok (.invokevirtual 162, 3) := by decide +kernel
theorem dX12_readFirst_6 : decode cX12_readFirst 6 = .ok (.aload_n 0, 1) := by decide +kernel
theorem dX12_readFirst_7 : decode cX12_readFirst 7 = .ok (.getfield 31, 3) := by decide +kernel
theorem dX12_readFirst_10 : decode cX12_readFirst 10 = .ok (.iconst 0, 1) := by decide +kernel
theorem dX12_readFirst_11 : decode cX12_readFirst 11 = .ok (.aload_n 0, 1) := by decide +kernel
theorem dX12_readFirst_12 : decode cX12_readFirst 12 = .ok (.ldc 182, 2) := by decide +kernel
theorem dX12_readFirst_14 : decode cX12_readFirst 14 = .ok (.iconst 1, 1) := by decide +kernel
theorem dX12_readFirst_15 : decode cX12_readFirst 15 = .ok (.bipush 8, 2) := by decide +kernel
theorem dX12_readFirst_17 : decode cX12_readFirst 17 = .ok (.invokevirtual 184, 3) := by decide +kernel
theorem dX12_readFirst_20 : decode cX12_readFirst 20 = .ok (.iastore, 1) := by decide +kernel
theorem dX12_readFirst_21 : decode cX12_readFirst 21 = .ok (.aload_n 0, 1) := by decide +kernel
theorem dX12_readFirst_22 : decode cX12_readFirst 22 = .ok (.ldc 188, 2) := by decide +kernel
theorem dX12_readFirst_24 : decode cX12_readFirst 24 = .ok (.invokevirtual 162, 3) := by decide +kernel
theorem dX12_readFirst_27 : decode cX12_readFirst 27 = .ok (.aload_n 0, 1) := by decide +kernel
theorem dX12_readFirst_28 : decode cX12_readFirst 28 = .ok (.getfield 31, 3) := by decide +kernel
theorem dX12_readFirst_31 : decode cX12_readFirst 31 = .ok (.iconst 1, 1) := by decide +kernel
theorem dX12_readFirst_32 : decode cX12_readFirst 32 = .ok (.aload_n 0, 1) := by decide +kernel
theorem dX12_readFirst_33 : decode cX12_readFirst 33 = .ok (.invokevirtual 190, 3) := by decide +kernel
theorem dX12_readFirst_36 : decode cX12_readFirst 36 = .ok (.iastore, 1) := by decide +kernel
theorem dX12_readFirst_37 : decode cX12_readFirst 37 = .ok (.aload_n 0, 1) := by decide +kernel
theorem dX12_readFirst_38 : decode cX12_readFirst 38 = .ok (.getfield 31, 3) := by decide +kernel
theorem dX12_readFirst_41 : decode cX12_readFirst 41 = .ok (.iconst 2, 1) := by decide +kernel
theorem dX12_readFirst_42 : decode cX12_readFirst 42 = .ok (.aload_n 0, 1) := by decide +kernel
theorem dX12_readFirst_43 : decode cX12_readFirst 43 = .ok (.ldc 193, 2) := by decide +kernel
theorem dX12_readFirst_45 : decode cX12_readFirst 45 = .ok (.iconst 0, 1) := by decide +kernel
theorem dX12_readFirst_46 : decode cX12_readFirst 46 = .ok (.bipush 100, 2) := by decide +kernel
theorem dX12_readFirst_48 : decode cX12_readFirst 48 = .ok (.invokevirtual 184, 3) := by decide +kernel
theorem dX12_readFirst_51 : decode cX12_readFirst 51 = .ok (.iastore, 1) := by decide +kernel
theorem dX12_readFirst_52 : decode cX12_readFirst 52 = .ok (.aload_n 0, 1) := by decide +kernel
theorem dX12_readFirst_53 : decode cX12_readFirst 53 = .ok (.getfield 31, 3) := by decide +kernel
theorem dX12_readFirst_56 : decode cX12_readFirst 56 = .ok (.iconst 3, 1) := by decide +kernel
theorem dX12_readFirst_57 : decode cX12_readFirst 57 = .ok (.aload_n 0, 1) := by decide +kernel
theorem dX12_readFirst_58 : decode cX12_readFirst 58 = .ok (.ldc 195, 2) := by decide +kernel
theorem dX12_readFirst_60 : decode cX12_readFirst 60 = .ok (.iconst 1, 1) := by decide +kernel
theorem dX12_readFirst_61 : decode cX12_readFirst 61 = .ok (.bipush 9, 2) := by decide +kernel
theorem dX12_readFirst_63 : decode cX12_readFirst 63 = .ok (.invokevirtual 184, 3) := by decide +kernel
theorem dX12_readFirst_66 : decode cX12_readFirst 66 = .ok (.iastore, 1) := by decide +kernel
theorem dX12_readFirst_67 : decode cX12_readFirst 67 = .ok (.return_, 1) := by decide +kernel
theorem dX12_readLine_0 : decode cX12_readLine 0 = .ok (.aload_n 0, 1) := by decide +kernel
theorem dX12_readLine_1 : decode cX12_readLine 1 = .ok (.getfield 31, 3) := by decide +kernel
theorem dX12_readLine_4 : decode cX12_readLine 4 = .ok (.bipush 9, 2) := by decide +kernel
theorem dX12_readLine_6 : decode cX12_readLine 6 = .ok (.iaload, 1) := by decide +kernel
theorem dX12_readLine_7 : decode cX12_readLine 7 = .ok (.ifCond .ne 10, 3) := by decide +kernel
theorem dX12_readLine_10 : decode cX12_readLine 10 = .ok (.aload_n 0, 1) := by decide +kernel
theorem dX12_readLine_11 : decode cX12_readLine 11 = .ok (.invokevirtual 241, 3) := by decide +kernel
theorem dX12_readLine_14 : decode cX12_readLine 14 = .ok (.goto 7, 3) := by decide +kernel
theorem dX12_readLine_17 : decode cX12_readLine 17 = .ok (.aload_n 0, 1) := by decide +kernel
theorem dX12_readLine_18 : decode cX12_readLine 18 = .ok (.invokevirtual 244, 3) := by decide +kernel
theorem dX12_readLine_21 : decode cX12_readLine 21 = .ok (.aload_n 0, 1) := by decide +kernel
theorem dX12_readLine_22 : decode cX12_readLine 22 = .ok (.invokevirtual 135, 3) := by decide +kernel
theorem dX12_readLine_25 : decode cX12_readLine 25 = .ok (.ifCond .eq 16, 3) := by decide +kernel
theorem dX12_readLine_28 : decode cX12_readLine 28 = .ok (.aload_n 0, 1) := by decide +kernel
theorem dX12_readLine_29 : decode cX12_readLine 29 = .ok (.getfield 112, 3) := by decide +kernel
theorem dX12_readLine_32 : decode cX12_readLine 32 = .ok (.iconst 3, 1) := by decide +kernel
theorem dX12_readLine_33 : decode cX12_readLine 33 = .ok (.if_icmp .eq 8, 3) := by decide +kernel
theorem dX12_readLine_36 : decode cX12_readLine 36 = .ok (.aload_n 0, 1) := by decide +kernel
theorem dX12_readLine_37 : decode cX12_readLine 37 = .ok (.iconst 1, 1) := by decide +kernel
theorem dX12_readLine_38 : decode cX12_readLine 38 = .ok (.invokevirtual 158, 3) := by decide +kernel
theorem dX12_readLine_41 : decode cX12_readLine 41 = .ok (.aload_n 0, 1) := by decide +kernel
theorem dX12_readLine_42 : decode cX12_readLine 42 = .ok (.invokevirtual 135, 3) := by decide +kernel
theorem dX12_readLine_45 : decode cX12_readLine 45 = .ok (.ifCond .eq 7, 3) := by decide +kernel
theorem dX12_readLine_48 : decode cX12_readLine 48 = .ok (.aload_n 0, 1) := by decide +kernel
theorem dX12_readLine_49 : decode cX12_readLine 49 = .ok (.invokevirtual 152, 3) := by decide +kernel
theorem dX12_readLine_52 : decode cX12_readLine 52 = .ok (.aload_n 0, 1) := by decide +kernel
theorem dX12_readLine_53 : decode cX12_readLine 53 = .ok (.getfield 31, 3) := by decide +kernel
theorem dX12_readLine_56 : decode cX12_readLine 56 = .ok (.bipush 9, 2) := by decide +kernel
theorem dX12_readLine_58 : decode cX12_readLine 58 = .ok (.dup2, 1) := by decide +kernel
theorem dX12_readLine_59 : decode cX12_readLine 59 = .ok (.iaload, 1) := by decide +kernel
theorem dX12_readLine_60 : decode cX12_readLine 60 = .ok (.iconst 1, 1) := by decide +kernel
theorem dX12_readLine_61 : decode cX12_readLine 61 = .ok (.iadd, 1) := by decide +kernel
theorem dX12_readLine_62 : decode cX12_readLine 62 = .ok (.iastore, 1) := by decide +kernel
theorem dX12_readLine_63 : decode cX12_readLine 63 = .ok (.return_, 1) := by decide +kernel
theorem dX12_readNext_0 : decode cX12_readNext 0 = .ok (.aload_n 0, 1) := by decide +kernel
theorem dX12_readNext_1 : decode cX12_readNext 1 = .ok (.ldc 222, 2) := by decide +kernel
theorem dX12_readNext_3 : decode cX12_readNext 3 = .ok (.invokevirtual 148, 3) := by decide +kernel
theorem dX12_readNext_6 : decode cX12_readNext 6 = .ok (.ifCond .ne 30, 3) := by decide +kernel
theorem dX12_readNext_9 : decode cX12_readNext 9 = .ok (.aload_n 0, 1) := by decide +kernel
theorem dX12_readNext_10 : decode cX12_readNext 10 = .ok (.ldc 224, 2) := by decide +kernel
theorem dX12_readNext_12 : decode cX12_readNext 12 = .ok (.invokevirtual 148, 3) := by decide +kernel
theorem dX12_readNext_15 : decode cX12_readNext 15 = .ok (.ifCond .ne 21, 3) := by decide +kernel
theorem dX12_readNext_18 : decode cX12_readNext 18 = .ok (.aload_n 0, 1) := by decide +kernel
theorem dX12_readNext_19 : decode cX12_readNext 19 = .ok (.ldc 226, 2) := by decide +kernel
theorem dX12_readNext_21 : decode cX12_readNext 21 = .ok (.invokevirtual 148, 3) := by decide +kernel
theorem dX12_readNext_24 : decode cX12_readNext 24 = .ok (.ifCond .ne 12, 3) := by decide +kernel
theorem dX12_readNext_27 : decode cX12_readNext 27 = .ok (.aload_n 0, 1) := by decide +kernel
theorem dX12_readNext_28 : decode cX12_readNext 28 = .ok (.ldc 228, 2) := by decide +kernel
theorem dX12_readNext_30 : decode cX12_readNext 30 = .ok (.invokevirtual 148, 3) := by decide +kernel
theorem dX12_readNext_33 : decode cX12_readNext 33 = .ok (.ifCond .eq 7, 3) := by decide +kernel
theorem dX12_readNext_36 : decode cX12_readNext 36 = .ok (.iconst 1, 1) := by decide +kernel
theorem dX12_readNext_37 : decode cX12_readNext 37 = .ok (.goto 4, 3) := by decide +kernel
theorem dX12_readNext_40 : decode cX12_readNext 40 = .ok (.iconst 0, 1) := by decide +kernel
theorem dX12_readNext_41 : decode cX12_readNext 41 = .ok (.istore_n 1, 1) := by decide +kernel
theorem dX12_readNext_42 : decode cX12_readNext 42 = .ok (.iload_n 1, 1) := by decide +kernel
theorem dX12_readNext_43 : decode cX12_readNext 43 = .ok (.ifCond .ne 8, 3) := by decide +kernel
theorem dX12_readNext_46 : decode cX12_readNext 46 = .ok (.aload_n 0, 1) := by decide +kernel
theorem dX12_readNext_47 : decode cX12_readNext 47 = .ok (.iconst 1, 1) := by decide +kernel
theorem dX12_readNext_48 : decode cX12_readNext 48 = .ok (.invokevirtual 158, 3) := by decide +kernel
theorem dX12_readNext_51 : decode cX12_readNext 51 = .ok (.aload_n 0, 1) := by decide +kernel
theorem dX12_readNext_52 : decode cX12_readNext 52 = .ok (.ldc 222, 2) := by decide +kernel
theorem dX12_readNext_54 : decode cX12_readNext 54 = .ok (.invokevirtual 148, 3) := by decide +kernel
theorem dX12_readNext_57 : decode cX12_readNext 57 = .ok (.ifCond .eq 13, 3) := by decide +kernel
theorem dX12_readNext_60 : decode cX12_readNext 60 = .ok (.aload_n 0, 1) := by decide +kernel
theorem dX12_readNext_61 : decode cX12_readNext 61 = .ok (.getfield 31, 3) := by decide +kernel
theorem dX12_readNext_64 : decode cX12_readNext 64 = .ok (.iconst 4, 1) := by decide +kernel
theorem dX12_readNext_65 : decode cX12_readNext 65 = .ok (.iaload, 1) := by decide +kernel
theorem dX12_readNext_66 : decode cX12_readNext 66 = .ok (.iconst 4, 1) := by decide +kernel
theorem dX12_readNext_67 : decode cX12_readNext 67 = .ok (.if_icmp .eq 65, 3) := by decide +kernel
theorem dX12_readNext_70 : decode cX12_readNext 70 = .ok (.aload_n 0, 1) := by decide +kernel
theorem dX12_readNext_71 : decode cX12_readNext 71 = .ok (.ldc 224, 2) := by decide +kernel
theorem dX12_readNext_73 : decode cX12_readNext 73 = .ok (.invokevirtual 148, 3) := by decide +kernel
theorem dX12_readNext_76 : decode cX12_readNext 76 = .ok (.ifCond .eq 14, 3) := by decide +kernel
theorem dX12_readNext_79 : decode cX12_readNext 79 = .ok (.aload_n 0, 1) := by decide +kernel
theorem dX12_readNext_80 : decode cX12_readNext 80 = .ok (.getfield 31, 3) := by decide +kernel
theorem dX12_readNext_83 : decode cX12_readNext 83 = .ok (.iconst 5, 1) := by decide +kernel
theorem dX12_readNext_84 : decode cX12_readNext 84 = .ok (.iaload, 1) := by decide +kernel
theorem dX12_readNext_85 : decode cX12_readNext 85 = .ok (.bipush 9, 2) := by decide +kernel
theorem dX12_readNext_87 : decode cX12_readNext 87 = .ok (.if_icmp .eq 45, 3) := by decide +kernel
theorem dX12_readNext_90 : decode cX12_readNext 90 = .ok (.aload_n 0, 1) := by decide +kernel
theorem dX12_readNext_91 : decode cX12_readNext 91 = .ok (.ldc 226, 2) := by decide +kernel
theorem dX12_readNext_93 : decode cX12_readNext 93 = .ok (.invokevirtual 148, 3) := by decide +kernel
theorem dX12_readNext_96 : decode cX12_readNext 96 = .ok (.ifCond .eq 15, 3) := by decide +kernel
theorem dX12_readNext_99 : decode cX12_readNext 99 = .ok (.aload_n 0, 1) := by decide +kernel
theorem dX12_readNext_100 : decode cX12_readNext 100 = .ok (.getfield 31, 3) := by decide +kernel
theorem dX12_readNext_103 : decode cX12_readNext 103 = .ok (.bipush 6, 2) := by decide +kernel
theorem dX12_readNext_105 : decode cX12_readNext 105 = .ok (.iaload, 1) := by decide +kernel
theorem dX12_readNext_106 : decode cX12_readNext 106 = .ok (.bipush 9, 2) := by decide +kernel
theorem dX12_readNext_108 : decode cX12_readNext 108 = .ok (.if_icmp .eq 24, 3) := by decide +kernel
theorem dX12_readNext_111 : decode cX12_readNext 111 = .ok (.aload_n 0, 1) := by decide +kernel
theorem dX12_readNext_112 : decode cX12_readNext 112 = .ok (.ldc 228, 2) := by decide +kernel
theorem dX12_readNext_114 : decode cX12_readNext 114 = .ok (.invokevirtual 148, 3) := by decide +kernel
theorem dX12_readNext_117 : decode cX12_readNext 117 = .ok (.ifCond .eq 20, 3) := by decide +kernel
theorem dX12_readNext_120 : decode cX12_readNext 120 = .ok (.aload_n 0, 1) := by decide +kernel
theorem dX12_readNext_121 : decode cX12_readNext 121 = .ok (.getfield 31, 3) := by decide +kernel
theorem dX12_readNext_124 : decode cX12_readNext 124 = .ok (.bipush 7, 2) := by decide +kernel
theorem dX12_readNext_126 : decode cX12_readNext 126 = .ok (.iaload, 1) := by decide +kernel
theorem dX12_readNext_127 : decode cX12_readNext 127 = .ok (.bipush 8, 2) := by decide +kernel
theorem dX12_readNext_129 : decode cX12_readNext 129 = .ok (.if_icmp .ne 8, 3) := by decide +kernel
theorem dX12_readNext_132 : decode cX12_readNext 132 = .ok (.aload_n 0, 1) := by decide +kernel
theorem dX12_readNext_133 : decode cX12_readNext 133 = .ok (.iconst 3, 1) := by decide +kernel
theorem dX12_readNext_134 : decode cX12_readNext 134 = .ok (.invokevirtual 158, 3) := by decide +kernel
theorem dX12_readNext_137 : decode cX12_readNext 137 = .ok (.aload_n 0, 1) := by decide +kernel
theorem dX12_readNext_138 : decode cX12_readNext 138 = .ok (.invokevirtual 135, 3) := by decide +kernel
theorem dX12_readNext_141 : decode cX12_readNext 141 = .ok (.ifCond .ne 4, 3) := by decide +kernel
theorem dX12_readNext_144 : decode cX12_readNext 144 = .ok (.return_, 1) := by decide +kernel
theorem dX12_readNext_145 : decode cX12_readNext 145 = .ok (.aload_n 0, 1) := by decide +kernel
theorem dX12_readNext_146 : decode cX12_readNext 146 = .ok (.ldc 222, 2) := by decide +kernel
theorem dX12_readNext_148 : decode cX12_readNext 148 = .ok (.invokevirtual 155, 3) := by decide +kernel
theorem dX12_readNext_151 : decode cX12_readNext 151 = .ok (.ifCond .eq 39, 3) := by decide +kernel
theorem dX12_readNext_154 : decode cX12_readNext 154 = .ok (.aload_n 0, 1) := by decide +kernel
theorem dX12_readNext_155 : decode cX12_readNext 155 = .ok (.getfield 31, 3) := by decide +kernel
theorem dX12_readNext_158 : decode cX12_readNext 158 = .ok (.bipush 12, 2) := by decide +kernel
theorem dX12_readNext_160 : decode cX12_readNext 160 = .ok (.aload_n 0, 1) := by decide +kernel
theorem dX12_readNext_161 : decode cX12_readNext 161 = .ok (.getfield 31, 3) := by decide +kernel
theorem dX12_readNext_164 : decode cX12_readNext 164 = .ok (.iconst 4, 1) := by decide +kernel
theorem dX12_readNext_165 : decode cX12_readNext 165 = .ok (.iaload, 1) := by decide +kernel
theorem dX12_readNext_166 : decode cX12_readNext 166 = .ok (.iadd, 1) := by decide +kernel
theorem dX12_readNext_167 : decode cX12_readNext 167 = .ok (.aload_n 0, 1) := by decide +kernel
theorem dX12_readNext_168 : decode cX12_readNext 168 = .ok (.ldc 230, 2) := by decide +kernel
theorem dX12_readNext_170 : decode cX12_readNext 170 = .ok (.iconst 1, 1) := by decide +kernel
theorem dX12_readNext_171 : decode cX12_readNext 171 = .ok (.bipush 9, 2) := by decide +kernel
theorem dX12_readNext_173 : decode cX12_readNext 173 = .ok (.invokevirtual 184, 3) := by decide +kernel
theorem dX12_readNext_176 : decode cX12_readNext 176 = .ok (.iastore, 1) := by decide +kernel
theorem dX12_readNext_177 : decode cX12_readNext 177 = .ok (.aload_n 0, 1) := by decide +kernel
theorem dX12_readNext_178 : decode cX12_readNext 178 = .ok (.getfield 31, 3) := by decide +kernel
theorem dX12_readNext_181 : decode cX12_readNext 181 = .ok (.iconst 4, 1) := by decide +kernel
theorem dX12_readNext_182 : decode cX12_readNext 182 = .ok (.dup2, 1) := by decide +kernel
theorem dX12_readNext_183 : decode cX12_readNext 183 = .ok (.iaload, 1) := by decide +kernel
theorem dX12_readNext_184 : decode cX12_readNext 184 = .ok (.iconst 1, 1) := by decide +kernel
theorem dX12_readNext_185 : decode cX12_readNext 185 = .ok (.iadd, 1) := by decide +kernel
theorem dX12_readNext_186 : decode cX12_readNext 186 = .ok (.iastore, 1) := by decide +kernel
theorem dX12_readNext_187 : decode cX12_readNext 187 = .ok (.goto 43, 3) := by decide +kernel
theorem dX12_readNext_190 : decode cX12_readNext 190 = .ok (.aload_n 0, 1) := by decide +kernel
theorem dX12_readNext_191 : decode cX12_readNext 191 = .ok (.ldc 224, 2) := by decide +kernel
theorem dX12_readNext_193 : decode cX12_readNext 193 = .ok (.invokevirtual 155, 3) := by decide +kernel
theorem dX12_readNext_196 : decode cX12_readNext 196 = .ok (.ifCond .eq 10, 3) := by decide +kernel
theorem dX12_readNext_199 : decode cX12_readNext 199 = .ok (.aload_n 0, 1) := by decide +kernel
theorem dX12_readNext_200 : decode cX12_readNext 200 = .ok (.invokevirtual 232, 3) := by decide +kernel
theorem dX12_readNext_203 : decode cX12_readNext 203 = .ok (.goto 27, 3) := by decide +kernel
theorem dX12_readNext_206 : decode cX12_readNext 206 = .ok (.aload_n 0, 1) := by decide +kernel
theorem dX12_readNext_207 : decode cX12_readNext 207 = .ok (.ldc 226, 2) := by decide +kernel
theorem dX12_readNext_209 : decode cX12_readNext 209 = .ok (.invokevirtual 155, 3) := by decide +kernel
theorem dX12_readNext_212 : decode cX12_readNext 212 = .ok (.ifCond .eq 10, 3) := by decide +kernel
theorem dX12_readNext_215 : decode cX12_readNext 215 = .ok (.aload_n 0, 1) := by decide +kernel
theorem dX12_readNext_216 : decode cX12_readNext 216 = .ok (.invokevirtual 235, 3) := by decide +kernel
theorem dX12_readNext_219 : decode cX12_readNext 219 = .ok (.goto 11, 3) := by decide +kernel
theorem dX12_readNext_222 : decode cX12_readNext 222 = .ok (.aload_n 0, 1) := by decide +kernel
theorem dX12_readNext_223 : decode cX12_readNext 223 = .ok (.invokevirtual 152, 3) := by decide +kernel
theorem dX12_readNext_226 : decode cX12_readNext 226 = .ok (.aload_n 0, 1) := by decide +kernel
theorem dX12_readNext_227 : decode cX12_readNext 227 = .ok (.invokevirtual 238, 3) := by decide +kernel
theorem dX12_readNext_230 : decode cX12_readNext 230 = .ok (.return_, 1) := by decide +kernel
theorem dX12_readRound_0 : decode cX12_readRound 0 = .ok (.bipush 88, 2) := by decide +kernel
theorem dX12_readRound_2 : decode cX12_readRound 2 = .ok (.iconst 3, 1) := by decide +kernel
theorem dX12_readRound_3 : decode cX12_readRound 3 = .ok (.aload_n 0, 1) := by decide +kernel
theorem dX12_readRound_4 : decode cX12_readRound 4 = .ok (.getfield 31, 3) := by decide +kernel
theorem dX12_readRound_7 : decode cX12_readRound 7 = .ok (.bipush 7, 2) := by decide +kernel
theorem dX12_readRound_9 : decode cX12_readRound 9 = .ok (.iaload, 1) := by decide +kernel
theorem dX12_readRound_10 : decode cX12_readRound 10 = .ok (.imul, 1) := by decide +kernel
theorem dX12_readRound_11 : decode cX12_readRound 11 = .ok (.iadd, 1) := by decide +kernel
theorem dX12_readRound_12 : decode cX12_readRound 12 = .ok (.istore_n 1, 1) := by decide +kernel
theorem dX12_readRound_13 : decode cX12_readRound 13 = .ok (.aload_n 0, 1) := by decide +kernel
theorem dX12_readRound_14 : decode cX12_readRound 14 = .ok (.getfield 31, 3) := by decide +kernel
theorem dX12_readRound_17 : decode cX12_readRound 17 = .ok (.iload_n 1, 1) := by decide +kernel
theorem dX12_readRound_18 : decode cX12_readRound 18 = .ok (.aload_n 0, 1) := by decide +kernel
theorem dX12_readRound_19 : decode cX12_readRound 19 = .ok (.invokevirtual 169, 3) := by decide +kernel
theorem dX12_readRound_22 : decode cX12_readRound 22 = .ok (.iastore, 1) := by decide +kernel
theorem dX12_readRound_23 : decode cX12_readRound 23 = .ok (.aload_n 0, 1) := by decide +kernel
theorem dX12_readRound_24 : decode cX12_readRound 24 = .ok (.ldc 215, 2) := by decide +kernel
theorem dX12_readRound_26 : decode cX12_readRound 26 = .ok (.invokevirtual 162, 3) := by decide +kernel
theorem dX12_readRound_29 : decode cX12_readRound 29 = .ok (.aload_n 0, 1) := by decide +kernel
theorem dX12_readRound_30 : decode cX12_readRound 30 = .ok (.getfield 31, 3) := by decide +kernel
theorem dX12_readRound_33 : decode cX12_readRound 33 = .ok (.iload_n 1, 1) := by decide +kernel
theorem dX12_readRound_34 : decode cX12_readRound 34 = .ok (.iconst 1, 1) := by decide +kernel
theorem dX12_readRound_35 : decode cX12_readRound 35 = .ok (.iadd, 1) := by decide +kernel
theorem dX12_readRound_36 : decode cX12_readRound 36 = .ok (.aload_n 0, 1) := by decide +kernel
theorem dX12_readRound_37 : decode cX12_readRound 37 = .ok (.aload_n 0, 1) := by decide +kernel
theorem dX12_readRound_38 : decode cX12_readRound 38 = .ok (.getfield 31, 3) := by decide +kernel
theorem dX12_readRound_41 : decode cX12_readRound 41 = .ok (.iload_n 1, 1) := by decide +kernel
theorem dX12_readRound_42 : decode cX12_readRound 42 = .ok (.iaload, 1) := by decide +kernel
theorem dX12_readRound_43 : decode cX12_readRound 43 = .ok (.invokevirtual 217, 3) := by decide +kernel
theorem dX12_readRound_46 : decode cX12_readRound 46 = .ok (.iastore, 1) := by decide +kernel
theorem dX12_readRound_47 : decode cX12_readRound 47 = .ok (.aload_n 0, 1) := by decide +kernel
theorem dX12_readRound_48 : decode cX12_readRound 48 = .ok (.ldc 220, 2) := by decide +kernel
theorem dX12_readRound_50 : decode cX12_readRound 50 = .ok (.invokevirtual 162, 3) := by decide +kernel
theorem dX12_readRound_53 : decode cX12_readRound 53 = .ok (.aload_n 0, 1) := by decide +kernel
theorem dX12_readRound_54 : decode cX12_readRound 54 = .ok (.getfield 31, 3) := by decide +kernel
theorem dX12_readRound_57 : decode cX12_readRound 57 = .ok (.iload_n 1, 1) := by decide +kernel
theorem dX12_readRound_58 : decode cX12_readRound 58 = .ok (.iconst 2, 1) := by decide +kernel
theorem dX12_readRound_59 : decode cX12_readRound 59 = .ok (.iadd, 1) := by decide +kernel
theorem dX12_readRound_60 : decode cX12_readRound 60 = .ok (.aload_n 0, 1) := by decide +kernel
theorem dX12_readRound_61 : decode cX12_readRound 61 = .ok (.aload_n 0, 1) := by decide +kernel
theorem dX12_readRound_62 : decode cX12_readRound 62 = .ok (.getfield 31, 3) := by decide +kernel
theorem dX12_readRound_65 : decode cX12_readRound 65 = .ok (.iload_n 1, 1) := by decide +kernel
theorem dX12_readRound_66 : decode cX12_readRound 66 = .ok (.iaload, 1) := by decide +kernel
theorem dX12_readRound_67 : decode cX12_readRound 67 = .ok (.invokevirtual 217, 3) := by decide +kernel
theorem dX12_readRound_70 : decode cX12_readRound 70 = .ok (.iastore, 1) := by decide +kernel
theorem dX12_readRound_71 : decode cX12_readRound 71 = .ok (.aload_n 0, 1) := by decide +kernel
theorem dX12_readRound_72 : decode cX12_readRound 72 = .ok (.getfield 31, 3) := by decide +kernel
theorem dX12_readRound_75 : decode cX12_readRound 75 = .ok (.bipush 7, 2) := by decide +kernel
theorem dX12_readRound_77 : decode cX12_readRound 77 = .ok (.dup2, 1) := by decide +kernel
theorem dX12_readRound_78 : decode cX12_readRound 78 = .ok (.iaload, 1) := by decide +kernel
theorem dX12_readRound_79 : decode cX12_readRound 79 = .ok (.iconst 1, 1) := by decide +kernel
theorem dX12_readRound_80 : decode cX12_readRound 80 = .ok (.iadd, 1) := by decide +kernel
theorem dX12_readRound_81 : decode cX12_readRound 81 = .ok (.iastore, 1) := by decide +kernel
theorem dX12_readRound_82 : decode cX12_readRound 82 = .ok (.return_, 1) := by decide +kernel
theorem dX12_readSpeaker_0 : decode cX12_readSpeaker 0 = .ok (.bipush 52, 2) := by decide +kernel
theorem dX12_readSpeaker_2 : decode cX12_readSpeaker 2 = .ok (.iconst 4, 1) := by decide +kernel
theorem dX12_readSpeaker_3 : decode cX12_readSpeaker 3 = .ok (.aload_n 0, 1) := by decide +kernel
theorem dX12_readSpeaker_4 : decode cX12_readSpeaker 4 = .ok (.getfield 31, 3) := by decide +kernel
theorem dX12_readSpeaker_7 : decode cX12_readSpeaker 7 = .ok (.bipush 6, 2) := by decide +kernel
theorem dX12_readSpeaker_9 : decode cX12_readSpeaker 9 = .ok (.iaload, 1) := by decide +kernel
theorem dX12_readSpeaker_10 : decode cX12_readSpeaker 10 = .ok (.imul, 1) := by decide +kernel
theorem dX12_readSpeaker_11 : decode cX12_readSpeaker 11 = .ok (.iadd, 1) := by decide +kernel
theorem dX12_readSpeaker_12 : decode cX12_readSpeaker 12 = .ok (.istore_n 1, 1) := by decide +kernel
theorem dX12_readSpeaker_13 : decode cX12_readSpeaker 13 = .ok (.aload_n 0, 1) := by decide +kernel
theorem dX12_readSpeaker_14 : decode cX12_readSpeaker 14 = .ok (.ldc 199, 2) := by decide +kernel
theorem dX12_readSpeaker_16 : decode cX12_readSpeaker 16 = .ok (.invokevirtual 162, 3) := by decide +kernel
theorem dX12_readSpeaker_19 : decode cX12_readSpeaker 19 = .ok (.aload_n 0, 1) := by decide +kernel
theorem dX12_readSpeaker_20 : decode cX12_readSpeaker 20 = .ok (.getfield 31, 3) := by decide +kernel
theorem dX12_readSpeaker_23 : decode cX12_readSpeaker 23 = .ok (.iload_n 1, 1) := by decide +kernel
theorem dX12_readSpeaker_24 : decode cX12_readSpeaker 24 = .ok (.aload_n 0, 1) := by decide +kernel
theorem dX12_readSpeaker_25 : decode cX12_readSpeaker 25 = .ok (.invokevirtual 200, 3) := by decide +kernel
theorem dX12_readSpeaker_28 : decode cX12_readSpeaker 28 = .ok (.iastore, 1) := by decide +kernel
theorem dX12_readSpeaker_29 : decode cX12_readSpeaker 29 = .ok (.aload_n 0, 1) := by decide +kernel
theorem dX12_readSpeaker_30 : decode cX12_readSpeaker 30 = .ok (.getfield 31, 3) := by decide +kernel
theorem dX12_readSpeaker_33 : decode cX12_readSpeaker 33 = .ok (.iload_n 1, 1) := by decide +kernel
theorem dX12_readSpeaker_34 : decode cX12_readSpeaker 34 = .ok (.iconst 1, 1) := by decide +kernel
theorem dX12_readSpeaker_35 : decode cX12_readSpeaker 35 = .ok (.iadd, 1) := by decide +kernel
theorem dX12_readSpeaker_36 : decode cX12_readSpeaker 36 = .ok (.aload_n 0, 1) := by decide +kernel
theorem dX12_readSpeaker_37 : decode cX12_readSpeaker 37 = .ok (.ldc 210, 2) := by decide +kernel
theorem dX12_readSpeaker_39 : decode cX12_readSpeaker 39 = .ok (.iconst 1, 1) := by decide +kernel
theorem dX12_readSpeaker_40 : decode cX12_readSpeaker 40 = .ok (.bipush 99, 2) := by decide +kernel
theorem dX12_readSpeaker_42 : decode cX12_readSpeaker 42 = .ok (.invokevirtual 184, 3) := by decide +kernel
theorem dX12_readSpeaker_45 : decode cX12_readSpeaker 45 = .ok (.iastore, 1) := by decide +kernel
theorem dX12_readSpeaker_46 : decode cX12_readSpeaker 46 = .ok (.aload_n 0, 1) := by decide +kernel
theorem dX12_readSpeaker_47 : decode cX12_readSpeaker 47 = .ok (.getfield 31, 3) := by decide +kernel
theorem dX12_readSpeaker_50 : decode cX12_readSpeaker 50 = .ok (.iload_n 1, 1) := by decide +kernel
theorem dX12_readSpeaker_51 : decode cX12_readSpeaker 51 = .ok (.iconst 2, 1) := by decide +kernel
theorem dX12_readSpeaker_52 : decode cX12_readSpeaker 52 = .ok (.iadd, 1) := by decide +kernel
theorem dX12_readSpeaker_53 : decode cX12_readSpeaker 53 = .ok (.aload_n 0, 1) := by decide +kernel
theorem dX12_readSpeaker_54 : decode cX12_readSpeaker 54 = .ok (.ldc 212, 2) := by decide +kernel
theorem dX12_readSpeaker_56 : decode cX12_readSpeaker 56 = .ok (.iconst 0, 1) := by decide +kernel
theorem dX12_readSpeaker_57 : decode cX12_readSpeaker 57 = .ok (.bipush 100, 2) := by decide +kernel
theorem dX12_readSpeaker_59 : decode cX12_readSpeaker 59 = .ok (.invokevirtual 184, 3) := by decide +kernel
theorem dX12_readSpeaker_62 : decode cX12_readSpeaker 62 = .ok (.iastore, 1) := by decide +kernel
theorem dX12_readSpeaker_63 : decode cX12_readSpeaker 63 = .ok (.aload_n 0, 1) := by decide +kernel
theorem dX12_readSpeaker_64 : decode cX12_readSpeaker 64 = .ok (.ldc 214, 2) := by decide +kernel
theorem dX12_readSpeaker_66 : decode cX12_readSpeaker 66 = .ok (.invokevirtual 162, 3) := by decide +kernel
theorem dX12_readSpeaker_69 : decode cX12_readSpeaker 69 = .ok (.aload_n 0, 1) := by decide +kernel
theorem dX12_readSpeaker_70 : decode cX12_readSpeaker 70 = .ok (.getfield 31, 3) := by decide +kernel
theorem dX12_readSpeaker_73 : decode cX12_readSpeaker 73 = .ok (.iload_n 1, 1) := by decide +kernel
theorem dX12_readSpeaker_74 : decode cX12_readSpeaker 74 = .ok (.iconst 3, 1) := by decide +kernel
theorem dX12_readSpeaker_75 : decode cX12_readSpeaker 75 = .ok (.iadd, 1) := by decide +kernel
theorem dX12_readSpeaker_76 : decode cX12_readSpeaker 76 = .ok (.aload_n 0, 1) := by decide +kernel
theorem dX12_readSpeaker_77 : decode cX12_readSpeaker 77 = .ok (.invokevirtual 207, 3) := by decide +kernel
theorem dX12_readSpeaker_80 : decode cX12_readSpeaker 80 = .ok (.iastore, 1) := by decide +kernel
theorem dX12_readSpeaker_81 : decode cX12_readSpeaker 81 = .ok (.aload_n 0, 1) := by decide +kernel
theorem dX12_readSpeaker_82 : decode cX12_readSpeaker 82 = .ok (.getfield 31, 3) := by decide +kernel
theorem dX12_readSpeaker_85 : decode cX12_readSpeaker 85 = .ok (.bipush 6, 2) := by decide +kernel
theorem dX12_readSpeaker_87 : decode cX12_readSpeaker 87 = .ok (.dup2, 1) := by decide +kernel
theorem dX12_readSpeaker_88 : decode cX12_readSpeaker 88 = .ok (.iaload, 1) := by decide +kernel
theorem dX12_readSpeaker_89 : decode cX12_readSpeaker 89 = .ok (.iconst 1, 1) := by decide +kernel
theorem dX12_readSpeaker_90 : decode cX12_readSpeaker 90 = .ok (.iadd, 1) := by decide +kernel
theorem dX12_readSpeaker_91 : decode cX12_readSpeaker 91 = .ok (.iastore, 1) := by decide +kernel
theorem dX12_readSpeaker_92 : decode cX12_readSpeaker 92 = .ok (.return_, 1) := by decide +kernel
theorem dX12_readWord_0 : decode cX12_readWord 0 = .ok (.bipush 16, 2) := by decide +kernel
theorem dX12_readWord_2 : decode cX12_readWord 2 = .ok (.iconst 4, 1) := by decide +kernel
theorem dX12_readWord_3 : decode cX12_readWord 3 = .ok (.aload_n 0, 1) := by decide +kernel
theorem dX12_readWord_4 : decode cX12_readWord 4 = .ok (.getfield 31, 3) := by decide +kernel
theorem dX12_readWord_7 : decode cX12_readWord 7 = .ok (.iconst 5, 1) := by decide +kernel
theorem dX12_readWord_8 : decode cX12_readWord 8 = .ok (.iaload, 1) := by decide +kernel
theorem dX12_readWord_9 : decode cX12_readWord 9 = .ok (.imul, 1) := by decide +kernel
theorem dX12_readWord_10 : decode cX12_readWord 10 = .ok (.iadd, 1) := by decide +kernel
theorem dX12_readWord_11 : decode cX12_readWord 11 = .ok (.istore_n 1, 1) := by decide +kernel
theorem dX12_readWord_12 : decode cX12_readWord 12 = .ok (.aload_n 0, 1) := by decide +kernel
theorem dX12_readWord_13 : decode cX12_readWord 13 = .ok (.getfield 31, 3) := by decide +kernel
theorem dX12_readWord_16 : decode cX12_readWord 16 = .ok (.iload_n 1, 1) := by decide +kernel
theorem dX12_readWord_17 : decode cX12_readWord 17 = .ok (.iconst 0, 1) := by decide +kernel
theorem dX12_readWord_18 : decode cX12_readWord 18 = .ok (.iadd, 1) := by decide +kernel
theorem dX12_readWord_19 : decode cX12_readWord 19 = .ok (.aload_n 0, 1) := by decide +kernel
theorem dX12_readWord_20 : decode cX12_readWord 20 = .ok (.ldc 197, 2) := by decide +kernel
theorem dX12_readWord_22 : decode cX12_readWord 22 = .ok (.iconst 1, 1) := by decide +kernel
theorem dX12_readWord_23 : decode cX12_readWord 23 = .ok (.bipush 12, 2) := by decide +kernel
theorem dX12_readWord_25 : decode cX12_readWord 25 = .ok (.invokevirtual 184, 3) := by decide +kernel
theorem dX12_readWord_28 : decode cX12_readWord 28 = .ok (.iastore, 1) := by decide +kernel
theorem dX12_readWord_29 : decode cX12_readWord 29 = .ok (.aload_n 0, 1) := by decide +kernel
theorem dX12_readWord_30 : decode cX12_readWord 30 = .ok (.ldc 199, 2) := by decide +kernel
theorem dX12_readWord_32 : decode cX12_readWord 32 = .ok (.invokevirtual 162, 3) := by decide +kernel
theorem dX12_readWord_35 : decode cX12_readWord 35 = .ok (.aload_n 0, 1) := by decide +kernel
theorem dX12_readWord_36 : decode cX12_readWord 36 = .ok (.getfield 31, 3) := by decide +kernel
theorem dX12_readWord_39 : decode cX12_readWord 39 = .ok (.iload_n 1, 1) := by decide +kernel
theorem dX12_readWord_40 : decode cX12_readWord 40 = .ok (.iconst 1, 1) := by decide +kernel
theorem dX12_readWord_41 : decode cX12_readWord 41 = .ok (.iadd, 1) := by decide +kernel
theorem dX12_readWord_42 : decode cX12_readWord 42 = .ok (.aload_n 0, 1) := by decide +kernel
theorem dX12_readWord_43 : decode cX12_readWord 43 = .ok (.invokevirtual 200, 3) := by decide +kernel
theorem dX12_readWord_46 : decode cX12_readWord 46 = .ok (.iastore, 1) := by decide +kernel
theorem dX12_readWord_47 : decode cX12_readWord 47 = .ok (.aload_n 0, 1) := by decide +kernel
theorem dX12_readWord_48 : decode cX12_readWord 48 = .ok (.getfield 31, 3) := by decide +kernel
theorem dX12_readWord_51 : decode cX12_readWord 51 = .ok (.iload_n 1, 1) := by decide +kernel
theorem dX12_readWord_52 : decode cX12_readWord 52 = .ok (.iconst 2, 1) := by decide +kernel
theorem dX12_readWord_53 : decode cX12_readWord 53 = .ok (.iadd, 1) := by decide +kernel
theorem dX12_readWord_54 : decode cX12_readWord 54 = .ok (.aload_n 0, 1) := by decide +kernel
theorem dX12_readWord_55 : decode cX12_readWord 55 = .ok (.ldc 203, 2) := by decide +kernel
theorem dX12_readWord_57 : decode cX12_readWord 57 = .ok (.iconst 0, 1) := by decide +kernel
theorem dX12_readWord_58 : decode cX12_readWord 58 = .ok (.iconst 3, 1) := by decide +kernel
theorem dX12_readWord_59 : decode cX12_readWord 59 = .ok (.invokevirtual 184, 3) := by decide +kernel
theorem dX12_readWord_62 : decode cX12_readWord 62 = .ok (.iastore, 1) := by decide +kernel
theorem dX12_readWord_63 : decode cX12_readWord 63 = .ok (.aload_n 0, 1) := by decide +kernel
theorem dX12_readWord_64 : decode cX12_readWord 64 = .ok (.ldc 205, 2) := by decide +kernel
theorem dX12_readWord_66 : decode cX12_readWord 66 = .ok (.invokevirtual 162, 3) := by decide +kernel
theorem dX12_readWord_69 : decode cX12_readWord 69 = .ok (.aload_n 0, 1) := by decide +kernel
theorem dX12_readWord_70 : decode cX12_readWord 70 = .ok (.getfield 31, 3) := by decide +kernel
theorem dX12_readWord_73 : decode cX12_readWord 73 = .ok (.iload_n 1, 1) := by decide +kernel
theorem dX12_readWord_74 : decode cX12_readWord 74 = .ok (.iconst 3, 1) := by decide +kernel
theorem dX12_readWord_75 : decode cX12_readWord 75 = .ok (.iadd, 1) := by decide +kernel
theorem dX12_readWord_76 : decode cX12_readWord 76 = .ok (.aload_n 0, 1) := by decide +kernel
theorem dX12_readWord_77 : decode cX12_readWord 77 = .ok (.invokevirtual 207, 3) := by decide +kernel
theorem dX12_readWord_80 : decode cX12_readWord 80 = .ok (.iastore, 1) := by decide +kernel
theorem dX12_readWord_81 : decode cX12_readWord 81 = .ok (.aload_n 0, 1) := by decide +kernel
theorem dX12_readWord_82 : decode cX12_readWord 82 = .ok (.getfield 31, 3) := by decide +kernel
theorem dX12_readWord_85 : decode cX12_readWord 85 = .ok (.iconst 5, 1) := by decide +kernel
theorem dX12_readWord_86 : decode cX12_readWord 86 = .ok (.dup2, 1) := by decide +kernel
theorem dX12_readWord_87 : decode cX12_readWord 87 = .ok (.iaload, 1) := by decide +kernel
theorem dX12_readWord_88 : decode cX12_readWord 88 = .ok (.iconst 1, 1) := by decide +kernel
theorem dX12_readWord_89 : decode cX12_readWord 89 = .ok (.iadd, 1) := by decide +kernel
theorem dX12_readWord_90 : decode cX12_readWord 90 = .ok (.iastore, 1) := by decide +kernel
theorem dX12_readWord_91 : decode cX12_readWord 91 = .ok (.return_, 1) := by decide +kernel
theorem dX12_restless_0 : decode cX12_restless 0 = .ok (.aload_n 0, 1) := by decide +kernel
theorem dX12_restless_1 : decode cX12_restless 1 = .ok (.invokevirtual 347, 3) := by decide +kernel
theorem dX12_restless_4 : decode cX12_restless 4 = .ok (.ifCond .ne 6, 3) := by decide +kernel
theorem dX12_restless_7 : decode cX12_restless 7 = .ok (.bipush (-2), 2) := by decide +kernel
theorem dX12_restless_9 : decode cX12_restless 9 = .ok (.ireturn, 1) := by decide +kernel
theorem dX12_restless_10 : decode cX12_restless 10 = .ok (.iconst 0, 1) := by decide +kernel
theorem dX12_restless_11 : decode cX12_restless 11 = .ok (.istore_n 1, 1) := by decide +kernel
theorem dX12_restless_12 : decode cX12_restless 12 = .ok (.iconst 0, 1) := by decide +kernel
theorem dX12_restless_13 : decode cX12_restless 13 = .ok (.istore_n 2, 1) := by decide +kernel
theorem dX12_restless_14 : decode cX12_restless 14 = .ok (.iload_n 2, 1) := by decide +kernel
theorem dX12_restless_15 : decode cX12_restless 15 = .ok (.aload_n 0, 1) := by decide +kernel
theorem dX12_restless_16 : decode cX12_restless 16 = .ok (.getfield 9, 3) := by decide +kernel
theorem dX12_restless_19 : decode cX12_restless 19 = .ok (.bipush 6, 2) := by decide +kernel
theorem dX12_restless_21 : decode cX12_restless 21 = .ok (.iaload, 1) := by decide +kernel
theorem dX12_restless_22 : decode cX12_restless 22 = .ok (.if_icmp .ge 31, 3) := by decide +kernel
theorem dX12_restless_25 : decode cX12_restless 25 = .ok (.aload_n 0, 1) := by decide +kernel
theorem dX12_restless_26 : decode cX12_restless 26 = .ok (.iload_n 2, 1) := by decide +kernel
theorem dX12_restless_27 : decode cX12_restless 27 = .ok (.invokevirtual 405, 3) := by decide +kernel
theorem dX12_restless_30 : decode cX12_restless 30 = .ok (.iload_n 1, 1) := by decide +kernel
theorem dX12_restless_31 : decode cX12_restless 31 = .ok (.aload_n 0, 1) := by decide +kernel
theorem dX12_restless_32 : decode cX12_restless 32 = .ok (.getfield 402, 3) := by decide +kernel
theorem dX12_restless_35 : decode cX12_restless 35 = .ok (.ifCond .le 9, 3) := by decide +kernel
theorem dX12_restless_38 : decode cX12_restless 38 = .ok (.iconst 1, 1) := by decide +kernel
theorem dX12_restless_39 : decode cX12_restless 39 = .ok (.iload_n 2, 1) := by decide +kernel
theorem dX12_restless_40 : decode cX12_restless 40 = .ok (.ishl, 1) := by decide +kernel
theorem dX12_restless_41 : decode cX12_restless 41 = .ok (.goto 4, 3) := by decide +kernel
theorem dX12_restless_44 : decode cX12_restless 44 = .ok (.iconst 0, 1) := by decide +kernel
theorem dX12_restless_45 : decode cX12_restless 45 = .ok (.ior, 1) := by decide +kernel
theorem dX12_restless_46 : decode cX12_restless 46 = .ok (.istore_n 1, 1) := by decide +kernel
theorem dX12_restless_47 : decode cX12_restless 47 = .ok (.iinc 2 1, 3) := by decide +kernel
theorem dX12_restless_50 : decode cX12_restless 50 = .ok (.goto (-36), 3) := by decide +kernel
theorem dX12_restless_53 : decode cX12_restless 53 = .ok (.iload_n 1, 1) := by decide +kernel
theorem dX12_restless_54 : decode cX12_restless 54 = .ok (.ireturn, 1) := by decide +kernel
theorem dX12_rig_0 : decode cX12_rig 0 = .ok (.aload_n 0, 1) := by decide +kernel
theorem dX12_rig_1 : decode cX12_rig 1 = .ok (.invokevirtual 335, 3) := by decide +kernel
theorem dX12_rig_4 : decode cX12_rig 4 = .ok (.aload_n 0, 1) := by decide +kernel
theorem dX12_rig_5 : decode cX12_rig 5 = .ok (.iconst (-1), 1) := by decide +kernel
theorem dX12_rig_6 : decode cX12_rig 6 = .ok (.putfield 430, 3) := by decide +kernel
theorem dX12_rig_9 : decode cX12_rig 9 = .ok (.aload_n 0, 1) := by decide +kernel
theorem dX12_rig_10 : decode cX12_rig 10 = .ok (.getfield 9, 3) := by decide +kernel
theorem dX12_rig_13 : decode cX12_rig 13 = .ok (.iconst 4, 1) := by decide +kernel
theorem dX12_rig_14 : decode cX12_rig 14 = .ok (.iaload, 1) := by decide +kernel
theorem dX12_rig_15 : decode cX12_rig 15 = .ok (.istore_n 2, 1) := by decide +kernel
theorem dX12_rig_16 : decode cX12_rig 16 = .ok (.iconst 1, 1) := by decide +kernel
theorem dX12_rig_17 : decode cX12_rig 17 = .ok (.istore_n 3, 1) := by decide +kernel
theorem dX12_rig_18 : decode cX12_rig 18 = .ok (.iconst 0, 1) := by decide +kernel
theorem dX12_rig_19 : decode cX12_rig 19 = .ok (.istore 4, 2) := by decide +kernel
theorem dX12_rig_21 : decode cX12_rig 21 = .ok (.iload 4, 2) := by decide +kernel
theorem dX12_rig_23 : decode cX12_rig 23 = .ok (.aload_n 0, 1) := by decide +kernel
theorem dX12_rig_24 : decode cX12_rig 24 = .ok (.getfield 9, 3) := by decide +kernel
theorem dX12_rig_27 : decode cX12_rig 27 = .ok (.bipush 6, 2) := by decide +kernel
theorem dX12_rig_29 : decode cX12_rig 29 = .ok (.iaload, 1) := by decide +kernel
theorem dX12_rig_30 : decode cX12_rig 30 = .ok (.if_icmp .ge 13, 3) := by decide +kernel
theorem dX12_rig_33 : decode cX12_rig 33 = .ok (.iload_n 3, 1) := by decide +kernel
theorem dX12_rig_34 : decode cX12_rig 34 = .ok (.iload_n 2, 1) := by decide +kernel
theorem dX12_rig_35 : decode cX12_rig 35 = .ok (.imul, 1) := by decide +kernel
theorem dX12_rig_36 : decode cX12_rig 36 = .ok (.istore_n 3, 1) := by decide +kernel
theorem dX12_rig_37 : decode cX12_rig 37 = .ok (.iinc 4 1, 3) := by decide +kernel
theorem dX12_rig_40 : decode cX12_rig 40 = .ok (.goto (-19), 3) := by decide +kernel
theorem dX12_rig_43 : decode cX12_rig 43 = .ok (.iconst 0, 1) := by decide +kernel
theorem dX12_rig_44 : decode cX12_rig 44 = .ok (.istore 4, 2) := by decide +kernel
theorem dX12_rig_46 : decode cX12_rig 46 = .ok (.iload 4, 2) := by decide +kernel
theorem dX12_rig_48 : decode cX12_rig 48 = .ok (.iload_n 3, 1) := by decide +kernel
theorem dX12_rig_49 : decode cX12_rig 49 = .ok (.if_icmp .ge 188, 3) := by decide +kernel
theorem dX12_rig_52 : decode cX12_rig 52 = .ok (.iload 4, 2) := by decide +kernel
theorem dX12_rig_54 : decode cX12_rig 54 = .ok (.istore 5, 2) := by decide +kernel
theorem dX12_rig_56 : decode cX12_rig 56 = .ok (.iconst 0, 1) := by decide +kernel
theorem dX12_rig_57 : decode cX12_rig 57 = .ok (.istore 6, 2) := by decide +kernel
theorem dX12_rig_59 : decode cX12_rig 59 = .ok (.aload_n 0, 1) := by decide +kernel
theorem dX12_rig_60 : decode cX12_rig 60 = .ok (.getfield 9, 3) := by decide +kernel
theorem dX12_rig_63 : decode cX12_rig 63 = .ok (.bipush 6, 2) := by decide +kernel
theorem dX12_rig_65 : decode cX12_rig 65 = .ok (.iaload, 1) := by decide +kernel
theorem dX12_rig_66 : decode cX12_rig 66 = .ok (.iconst 1, 1) := by decide +kernel
theorem dX12_rig_67 : decode cX12_rig 67 = .ok (.isub, 1) := by decide +kernel
theorem dX12_rig_68 : decode cX12_rig 68 = .ok (.istore 7, 2) := by decide +kernel
theorem dX12_rig_70 : decode cX12_rig 70 = .ok (.iload 7, 2) := by decide +kernel
theorem dX12_rig_72 : decode cX12_rig 72 = .ok (.ifCond .lt 40, 3) := by decide +kernel
theorem dX12_rig_75 : decode cX12_rig 75 = .ok (.aload_n 0, 1) := by decide +kernel
theorem dX12_rig_76 : decode cX12_rig 76 = .ok (.getfield 34, 3) := by decide +kernel
theorem dX12_rig_79 : decode cX12_rig 79 = .ok (.iload 7, 2) := by decide +kernel
theorem dX12_rig_81 : decode cX12_rig 81 = .ok (.iload 5, 2) := by decide +kernel
theorem dX12_rig_83 : decode cX12_rig 83 = .ok (.iload_n 2, 1) := by decide +kernel
theorem dX12_rig_84 : decode cX12_rig 84 = .ok (.irem, 1) := by decide +kernel
theorem dX12_rig_85 : decode cX12_rig 85 = .ok (.iastore, 1) := by decide +kernel
theorem dX12_rig_86 : decode cX12_rig 86 = .ok (.iload 6, 2) := by decide +kernel
theorem dX12_rig_88 : decode cX12_rig 88 = .ok (.iconst 1, 1) := by decide +kernel
theorem dX12_rig_89 : decode cX12_rig 89 = .ok (.aload_n 0, 1) := by decide +kernel
theorem dX12_rig_90 : decode cX12_rig 90 = .ok (.getfield 34, 3) := by decide +kernel
theorem dX12_rig_93 : decode cX12_rig 93 = .ok (.iload 7, 2) := by decide +kernel
theorem dX12_rig_95 : decode cX12_rig 95 = .ok (.iaload, 1) := by decide +kernel
theorem dX12_rig_96 : decode cX12_rig 96 = .ok (.ishl, 1) := by decide +kernel
theorem dX12_rig_97 : decode cX12_rig 97 = .ok (.ior, 1) := by decide +kernel
theorem dX12_rig_98 : decode cX12_rig 98 = .ok (.istore 6, 2) := by decide +kernel
theorem dX12_rig_100 : decode cX12_rig 100 = .ok (.iload 5, 2) := by decide +kernel
theorem dX12_rig_102 : decode cX12_rig 102 = .ok (.iload_n 2, 1) := by decide +kernel
theorem dX12_rig_103 : decode cX12_rig 103 = .ok (.idiv, 1) := by decide +kernel
theorem dX12_rig_104 : decode cX12_rig 104 = .ok (.istore 5, 2) := by decide +kernel
theorem dX12_rig_106 : decode cX12_rig 106 = .ok (.iinc 7 (-1), 3) := by decide +kernel
theorem dX12_rig_109 : decode cX12_rig 109 = .ok (.goto (-39), 3) := by decide +kernel
theorem dX12_rig_112 : decode cX12_rig 112 = .ok (.iload 6, 2) := by decide +kernel
theorem dX12_rig_114 : decode cX12_rig 114 = .ok (.invokestatic 265, 3) := by decide +kernel
theorem dX12_rig_117 : decode cX12_rig 117 = .ok (.iload_n 2, 1) := by decide +kernel
theorem dX12_rig_118 : decode cX12_rig 118 = .ok (.if_icmp .eq 6, 3) := by decide +kernel
theorem dX12_rig_121 : decode cX12_rig 121 = .ok (.goto 110, 3) := by decide +kernel
theorem dX12_rig_124 : decode cX12_rig 124 = .ok (.iconst 0, 1) := by decide +kernel
theorem dX12_rig_125 : decode cX12_rig 125 = .ok (.istore 7, 2) := by decide +kernel
theorem dX12_rig_127 : decode cX12_rig 127 = .ok (.iconst 0, 1) := by decide +kernel
theorem dX12_rig_128 : decode cX12_rig 128 = .ok (.istore 8, 2) := by decide +kernel
theorem dX12_rig_130 : decode cX12_rig 130 = .ok (.iload 8, 2) := by decide +kernel
theorem dX12_rig_132 : decode cX12_rig 132 = .ok (.iload_n 2, 1) := by decide +kernel
theorem dX12_rig_133 : decode cX12_rig 133 = .ok (.if_icmp .ge 50, 3) := by decide +kernel
theorem dX12_rig_136 : decode cX12_rig 136 = .ok (.aload_n 0, 1) := by decide +kernel
theorem dX12_rig_137 : decode cX12_rig 137 = .ok (.iload 8, 2) := by decide +kernel
theorem dX12_rig_139 : decode cX12_rig 139 = .ok (.aload_n 0, 1) := by decide +kernel
theorem dX12_rig_140 : decode cX12_rig 140 = .ok (.getfield 9, 3) := by decide +kernel
theorem dX12_rig_143 : decode cX12_rig 143 = .ok (.iconst 1, 1) := by decide +kernel
theorem dX12_rig_144 : decode cX12_rig 144 = .ok (.iaload, 1) := by decide +kernel
theorem dX12_rig_145 : decode cX12_rig 145 = .ok (.invokevirtual 319, 3) := by decide +kernel
theorem dX12_rig_148 : decode cX12_rig 148 = .ok (.istore 9, 2) := by decide +kernel
theorem dX12_rig_150 : decode cX12_rig 150 = .ok (.iload 7, 2) := by decide +kernel
theorem dX12_rig_152 : decode cX12_rig 152 = .ok (.iload 9, 2) := by decide +kernel
theorem dX12_rig_154 : decode cX12_rig 154 = .ok (.iconst (-1), 1) := by decide +kernel
theorem dX12_rig_155 : decode cX12_rig 155 = .ok (.if_icmp .eq 18, 3) := by decide +kernel
theorem dX12_rig_158 : decode cX12_rig 158 = .ok (.aload_n 0, 1) := by decide +kernel
theorem dX12_rig_159 : decode cX12_rig 159 = .ok (.iload 9, 2) := by decide +kernel
theorem dX12_rig_161 : decode cX12_rig 161 = .ok (.iconst 2, 1) := by decide +kernel
theorem dX12_rig_162 : decode cX12_rig 162 = .ok (.invokevirtual 262, 3) := by decide +kernel
theorem dX12_rig_165 : decode cX12_rig 165 = .ok (.iload_n 1, 1) := by decide +kernel
theorem dX12_rig_166 : decode cX12_rig 166 = .ok (.if_icmp .ne 7, 3) := by decide +kernel
theorem dX12_rig_169 : decode cX12_rig 169 = .ok (.iconst 1, 1) := by decide +kernel
theorem dX12_rig_170 : decode cX12_rig 170 = .ok (.goto 4, 3) := by decide +kernel
theorem dX12_rig_173 : decode cX12_rig 173 = .ok (.iconst 0, 1) := by decide +kernel
theorem dX12_rig_174 : decode cX12_rig 174 = .ok (.iadd, 1) := by decide +kernel
theorem dX12_rig_175 : decode cX12_rig 175 = .ok (.istore 7, 2) := by decide +kernel
theorem dX12_rig_177 : decode cX12_rig 177 = .ok (.iinc 8 1, 3) := by decide +kernel
theorem dX12_rig_180 : decode cX12_rig 180 = .ok (.goto (-50), 3) := by decide +kernel
theorem dX12_rig_183 : decode cX12_rig 183 = .ok (.iload 7, 2) := by decide +kernel
theorem dX12_rig_185 : decode cX12_rig 185 = .ok (.aload_n 0, 1) := by decide +kernel
theorem dX12_rig_186 : decode cX12_rig 186 = .ok (.getfield 430, 3) := by decide +kernel
theorem dX12_rig_189 : decode cX12_rig 189 = .ok (.if_icmp .gt 6, 3) := by decide +kernel
theorem dX12_rig_192 : decode cX12_rig 192 = .ok (.goto 39, 3) := by decide +kernel
theorem dX12_rig_195 : decode cX12_rig 195 = .ok (.aload_n 0, 1) := by decide +kernel
theorem dX12_rig_196 : decode cX12_rig 196 = .ok (.iload 7, 2) := by decide +kernel
theorem dX12_rig_198 : decode cX12_rig 198 = .ok (.putfield 430, 3) := by decide +kernel
theorem dX12_rig_201 : decode cX12_rig 201 = .ok (.iconst 0, 1) := by decide +kernel
theorem dX12_rig_202 : decode cX12_rig 202 = .ok (.istore 8, 2) := by decide +kernel
theorem dX12_rig_204 : decode cX12_rig 204 = .ok (.iload 8, 2) := by decide +kernel
theorem dX12_rig_206 : decode cX12_rig 206 = .ok (.bipush 9, 2) := by decide +kernel
theorem dX12_rig_208 : decode cX12_rig 208 = .ok (.if_icmp .ge 23, 3) := by decide +kernel
theorem dX12_rig_211 : decode cX12_rig 211 = .ok (.aload_n 0, 1) := by decide +kernel
theorem dX12_rig_212 : decode cX12_rig 212 = .ok (.getfield 61, 3) := by decide +kernel
theorem dX12_rig_215 : decode cX12_rig 215 = .ok (.iload 8, 2) := by decide +kernel
theorem dX12_rig_217 : decode cX12_rig 217 = .ok (.aload_n 0, 1) := by decide +kernel
theorem dX12_rig_218 : decode cX12_rig 218 = .ok (.getfield 34, 3) := by decide +kernel
theorem dX12_rig_221 : decode cX12_rig 221 = .ok (.iload 8, 2) := by decide +kernel
theorem dX12_rig_223 : decode cX12_rig 223 = .ok (.iaload, 1) := by decide +kernel
theorem dX12_rig_224 : decode cX12_rig 224 = .ok (.iastore, 1) := by decide +kernel
theorem dX12_rig_225 : decode cX12_rig 225 = .ok (.iinc 8 1, 3) := by decide +kernel
theorem dX12_rig_228 : decode cX12_rig 228 = .ok (.goto (-24), 3) := by decide +kernel
theorem dX12_rig_231 : decode cX12_rig 231 = .ok (.iinc 4 1, 3) := by decide +kernel
theorem dX12_rig_234 : decode cX12_rig 234 = .ok (.goto (-188), 3) := by decide +kernel
theorem dX12_rig_237 : decode cX12_rig 237 = .ok (.return_, 1) := by decide +kernel
theorem dX12_rigged_0 : decode cX12_rigged 0 = .ok (.iload_n 1, 1) := by decide +kernel
theorem dX12_rigged_1 : decode cX12_rigged 1 = .ok (.invokestatic 413, 3) := by decide +kernel
theorem dX12_rigged_4 : decode cX12_rigged 4 = .ok (.ifCond .eq 12, 3) := by decide +kernel
theorem dX12_rigged_7 : decode cX12_rigged 7 = .ok (.aload_n 0, 1) := by decide +kernel
theorem dX12_rigged_8 : decode cX12_rigged 8 = .ok (.getfield 9, 3) := by decide +kernel
theorem dX12_rigged_11 : decode cX12_rigged 11 = .ok (.iconst 4, 1) := by decide +kernel
theorem dX12_rigged_12 : decode cX12_rigged 12 = .ok (.iaload, 1) := by decide +kernel
theorem dX12_rigged_13 : decode cX12_rigged 13 = .ok (.ifCond .ne 6, 3) := by decide +kernel
theorem dX12_rigged_16 : decode cX12_rigged 16 = .ok (.bipush (-2), 2) := by decide +kernel
theorem dX12_rigged_18 : decode cX12_rigged 18 = .ok (.ireturn, 1) := by decide +kernel
theorem dX12_rigged_19 : decode cX12_rigged 19 = .ok (.aload_n 0, 1) := by decide +kernel
theorem dX12_rigged_20 : decode cX12_rigged 20 = .ok (.invokevirtual 433, 3) := by decide +kernel
theorem dX12_rigged_23 : decode cX12_rigged 23 = .ok (.ifCond .ne 5, 3) := by decide +kernel
theorem dX12_rigged_26 : decode cX12_rigged 26 = .ok (.iconst (-1), 1) := by decide +kernel
theorem dX12_rigged_27 : decode cX12_rigged 27 = .ok (.ireturn, 1) := by decide +kernel
theorem dX12_rigged_28 : decode cX12_rigged 28 = .ok (.aload_n 0, 1) := by decide +kernel
theorem dX12_rigged_29 : decode cX12_rigged 29 = .ok (.iload_n 1, 1) := by decide +kernel
theorem dX12_rigged_30 : decode cX12_rigged 30 = .ok (.invokevirtual 436, 3) := by decide +kernel
theorem dX12_rigged_33 : decode cX12_rigged 33 = .ok (.aload_n 0, 1) := by decide +kernel
theorem dX12_rigged_34 : decode cX12_rigged 34 = .ok (.getfield 430, 3) := by decide +kernel
theorem dX12_rigged_37 : decode cX12_rigged 37 = .ok (.ireturn, 1) := by decide +kernel
theorem dX12_round_0 : decode cX12_round 0 = .ok (.aload_n 0, 1) := by decide +kernel
theorem dX12_round_1 : decode cX12_round 1 = .ok (.iload_n 1, 1) := by decide +kernel
theorem dX12_round_2 : decode cX12_round 2 = .ok (.i2l, 1) := by decide +kernel
theorem dX12_round_3 : decode cX12_round 3 = .ok (.invokevirtual 363, 3) := by decide +kernel
theorem dX12_round_6 : decode cX12_round 6 = .ok (.ifCond .ne 6, 3) := by decide +kernel
theorem dX12_round_9 : decode cX12_round 9 = .ok (.bipush (-2), 2) := by decide +kernel
theorem dX12_round_11 : decode cX12_round 11 = .ok (.ireturn, 1) := by decide +kernel
theorem dX12_round_12 : decode cX12_round 12 = .ok (.aload_n 0, 1) := by decide +kernel
theorem dX12_round_13 : decode cX12_round 13 = .ok (.aload_n 0, 1) := by decide +kernel
theorem dX12_round_14 : decode cX12_round 14 = .ok (.getfield 9, 3) := by decide +kernel
theorem dX12_round_17 : decode cX12_round 17 = .ok (.bipush 10, 2) := by decide +kernel
theorem dX12_round_19 : decode cX12_round 19 = .ok (.iaload, 1) := by decide +kernel
theorem dX12_round_20 : decode cX12_round 20 = .ok (.invokevirtual 366, 3) := by decide +kernel
theorem dX12_round_23 : decode cX12_round 23 = .ok (.aload_n 0, 1) := by decide +kernel
theorem dX12_round_24 : decode cX12_round 24 = .ok (.getfield 52, 3) := by decide +kernel
theorem dX12_round_27 : decode cX12_round 27 = .ok (.iload_n 1, 1) := by decide +kernel
theorem dX12_round_28 : decode cX12_round 28 = .ok (.iaload, 1) := by decide +kernel
theorem dX12_round_29 : decode cX12_round 29 = .ok (.ldc_w 359, 3) := by decide +kernel
theorem dX12_round_32 : decode cX12_round 32 = .ok (.if_icmp .ge 18, 3) := by decide +kernel
theorem dX12_round_35 : decode cX12_round 35 = .ok (.aload_n 0, 1) := by decide +kernel
theorem dX12_round_36 : decode cX12_round 36 = .ok (.getfield 49, 3) := by decide +kernel
theorem dX12_round_39 : decode cX12_round 39 = .ok (.iload_n 1, 1) := by decide +kernel
theorem dX12_round_40 : decode cX12_round 40 = .ok (.iaload, 1) := by decide +kernel
theorem dX12_round_41 : decode cX12_round 41 = .ok (.aload_n 0, 1) := by decide +kernel
theorem dX12_round_42 : decode cX12_round 42 = .ok (.getfield 52, 3) := by decide +kernel
theorem dX12_round_45 : decode cX12_round 45 = .ok (.iload_n 1, 1) := by decide +kernel
theorem dX12_round_46 : decode cX12_round 46 = .ok (.iaload, 1) := by decide +kernel
theorem dX12_round_47 : decode cX12_round 47 = .ok (.if_icmp .ne 5, 3) := by decide +kernel
theorem dX12_round_50 : decode cX12_round 50 = .ok (.iconst (-1), 1) := by decide +kernel
theorem dX12_round_51 : decode cX12_round 51 = .ok (.ireturn, 1) := by decide +kernel
theorem dX12_round_52 : decode cX12_round 52 = .ok (.iconst 0, 1) := by decide +kernel
theorem dX12_round_53 : decode cX12_round 53 = .ok (.istore_n 2, 1) := by decide +kernel
theorem dX12_round_54 : decode cX12_round 54 = .ok (.iload_n 2, 1) := by decide +kernel
theorem dX12_round_55 : decode cX12_round 55 = .ok (.aload_n 0, 1) := by decide +kernel
theorem dX12_round_56 : decode cX12_round 56 = .ok (.getfield 9, 3) := by decide +kernel
theorem dX12_round_59 : decode cX12_round 59 = .ok (.bipush 7, 2) := by decide +kernel
theorem dX12_round_61 : decode cX12_round 61 = .ok (.iaload, 1) := by decide +kernel
theorem dX12_round_62 : decode cX12_round 62 = .ok (.if_icmp .ge 40, 3) := by decide +kernel
theorem dX12_round_65 : decode cX12_round 65 = .ok (.aload_n 0, 1) := by decide +kernel
theorem dX12_round_66 : decode cX12_round 66 = .ok (.getfield 9, 3) := by decide +kernel
theorem dX12_round_69 : decode cX12_round 69 = .ok (.bipush 88, 2) := by decide +kernel
theorem dX12_round_71 : decode cX12_round 71 = .ok (.iconst 3, 1) := by decide +kernel
theorem dX12_round_72 : decode cX12_round 72 = .ok (.iload_n 2, 1) := by decide +kernel
theorem dX12_round_73 : decode cX12_round 73 = .ok (.imul, 1) := by decide +kernel
theorem dX12_round_74 : decode cX12_round 74 = .ok (.iadd, 1) := by decide +kernel
theorem dX12_round_75 : decode cX12_round 75 = .ok (.iaload, 1) := by decide +kernel
theorem dX12_round_76 : decode cX12_round 76 = .ok (.iload_n 1, 1) := by decide +kernel
theorem dX12_round_77 : decode cX12_round 77 = .ok (.if_icmp .ne 19, 3) := by decide +kernel
theorem dX12_round_80 : decode cX12_round 80 = .ok (.aload_n 0, 1) := by decide +kernel
theorem dX12_round_81 : decode cX12_round 81 = .ok (.iload_n 2, 1) := by decide +kernel
theorem dX12_round_82 : decode cX12_round 82 = .ok (.invokevirtual 360, 3) := by decide +kernel
theorem dX12_round_85 : decode cX12_round 85 = .ok (.aload_n 0, 1) := by decide +kernel
theorem dX12_round_86 : decode cX12_round 86 = .ok (.getfield 52, 3) := by decide +kernel
theorem dX12_round_89 : decode cX12_round 89 = .ok (.iload_n 1, 1) := by decide +kernel
theorem dX12_round_90 : decode cX12_round 90 = .ok (.iaload, 1) := by decide +kernel
theorem dX12_round_91 : decode cX12_round 91 = .ok (.if_icmp .ne 5, 3) := by decide +kernel
theorem dX12_round_94 : decode cX12_round 94 = .ok (.iload_n 2, 1) := by decide +kernel
theorem dX12_round_95 : decode cX12_round 95 = .ok (.ireturn, 1) := by decide +kernel
theorem dX12_round_96 : decode cX12_round 96 = .ok (.iinc 2 1, 3) := by decide +kernel
theorem dX12_round_99 : decode cX12_round 99 = .ok (.goto (-45), 3) := by decide +kernel
theorem dX12_round_102 : decode cX12_round 102 = .ok (.iconst (-1), 1) := by decide +kernel
theorem dX12_round_103 : decode cX12_round 103 = .ok (.ireturn, 1) := by decide +kernel
theorem dX12_row_0 : decode cX12_row 0 = .ok (.iload_n 1, 1) := by decide +kernel
theorem dX12_row_1 : decode cX12_row 1 = .ok (.invokestatic 439, 3) := by decide +kernel
theorem dX12_row_4 : decode cX12_row 4 = .ok (.ifCond .eq 21, 3) := by decide +kernel
theorem dX12_row_7 : decode cX12_row 7 = .ok (.iload_n 2, 1) := by decide +kernel
theorem dX12_row_8 : decode cX12_row 8 = .ok (.i2l, 1) := by decide +kernel
theorem dX12_row_9 : decode cX12_row 9 = .ok (.lconst 0, 1) := by decide +kernel
theorem dX12_row_10 : decode cX12_row 10 = .ok (.ldc2_w 86, 3) := by decide +kernel
theorem dX12_row_13 : decode cX12_row 13 = .ok (.invokestatic 82, 3) := by decide +kernel
theorem dX12_row_16 : decode cX12_row 16 = .ok (.ifCond .eq 9, 3) := by decide +kernel
theorem dX12_row_19 : decode cX12_row 19 = .ok (.iload_n 3, 1) := by decide +kernel
theorem dX12_row_20 : decode cX12_row 20 = .ok (.bipush 60, 2) := by decide +kernel
theorem dX12_row_22 : decode cX12_row 22 = .ok (.if_icmp .le 6, 3) := by decide +kernel
theorem dX12_row_25 : decode cX12_row 25 = .ok (.bipush (-2), 2) := by decide +kernel
theorem dX12_row_27 : decode cX12_row 27 = .ok (.ireturn, 1) := by decide +kernel
theorem dX12_row_28 : decode cX12_row 28 = .ok (.iload_n 3, 1) := by decide +kernel
theorem dX12_row_29 : decode cX12_row 29 = .ok (.ifCond .ge 6, 3) := by decide +kernel
theorem dX12_row_32 : decode cX12_row 32 = .ok (.bipush (-3), 2) := by decide +kernel
theorem dX12_row_34 : decode cX12_row 34 = .ok (.ireturn, 1) := by decide +kernel
theorem dX12_row_35 : decode cX12_row 35 = .ok (.aload_n 0, 1) := by decide +kernel
theorem dX12_row_36 : decode cX12_row 36 = .ok (.getfield 64, 3) := by decide +kernel
theorem dX12_row_39 : decode cX12_row 39 = .ok (.iload_n 1, 1) := by decide +kernel
theorem dX12_row_40 : decode cX12_row 40 = .ok (.iload_n 3, 1) := by decide +kernel
theorem dX12_row_41 : decode cX12_row 41 = .ok (.iastore, 1) := by decide +kernel
theorem dX12_row_42 : decode cX12_row 42 = .ok (.aload_n 0, 1) := by decide +kernel
theorem dX12_row_43 : decode cX12_row 43 = .ok (.getfield 67, 3) := by decide +kernel
theorem dX12_row_46 : decode cX12_row 46 = .ok (.iload_n 1, 1) := by decide +kernel
theorem dX12_row_47 : decode cX12_row 47 = .ok (.iload_n 2, 1) := by decide +kernel
theorem dX12_row_48 : decode cX12_row 48 = .ok (.iastore, 1) := by decide +kernel
theorem dX12_row_49 : decode cX12_row 49 = .ok (.iconst 0, 1) := by decide +kernel
theorem dX12_row_50 : decode cX12_row 50 = .ok (.istore 4, 2) := by decide +kernel
theorem dX12_row_52 : decode cX12_row 52 = .ok (.iload 4, 2) := by decide +kernel
theorem dX12_row_54 : decode cX12_row 54 = .ok (.bipush 60, 2) := by decide +kernel
theorem dX12_row_56 : decode cX12_row 56 = .ok (.if_icmp .ge 22, 3) := by decide +kernel
theorem dX12_row_59 : decode cX12_row 59 = .ok (.aload_n 0, 1) := by decide +kernel
theorem dX12_row_60 : decode cX12_row 60 = .ok (.getfield 70, 3) := by decide +kernel
theorem dX12_row_63 : decode cX12_row 63 = .ok (.bipush 60, 2) := by decide +kernel
theorem dX12_row_65 : decode cX12_row 65 = .ok (.iload_n 1, 1) := by decide +kernel
theorem dX12_row_66 : decode cX12_row 66 = .ok (.imul, 1) := by decide +kernel
theorem dX12_row_67 : decode cX12_row 67 = .ok (.iload 4, 2) := by decide +kernel
theorem dX12_row_69 : decode cX12_row 69 = .ok (.iadd, 1) := by decide +kernel
theorem dX12_row_70 : decode cX12_row 70 = .ok (.lconst 0, 1) := by decide +kernel
theorem dX12_row_71 : decode cX12_row 71 = .ok (.lastore, 1) := by decide +kernel
theorem dX12_row_72 : decode cX12_row 72 = .ok (.iinc 4 1, 3) := by decide +kernel
theorem dX12_row_75 : decode cX12_row 75 = .ok (.goto (-23), 3) := by decide +kernel
theorem dX12_row_78 : decode cX12_row 78 = .ok (.iconst 0, 1) := by decide +kernel
theorem dX12_row_79 : decode cX12_row 79 = .ok (.ireturn, 1) := by decide +kernel
theorem dX12_runsOff_0 : decode cX12_runsOff 0 = .ok (.aload_n 0, 1) := by decide +kernel
theorem dX12_runsOff_1 : decode cX12_runsOff 1 = .ok (.iload_n 1, 1) := by decide +kernel
theorem dX12_runsOff_2 : decode cX12_runsOff 2 = .ok (.iload_n 2, 1) := by decide +kernel
theorem dX12_runsOff_3 : decode cX12_runsOff 3 = .ok (.iconst 0, 1) := by decide +kernel
theorem dX12_runsOff_4 : decode cX12_runsOff 4 = .ok (.invokevirtual 297, 3) := by decide +kernel
theorem dX12_runsOff_7 : decode cX12_runsOff 7 = .ok (.aload_n 0, 1) := by decide +kernel
theorem dX12_runsOff_8 : decode cX12_runsOff 8 = .ok (.iload_n 2, 1) := by decide +kernel
theorem dX12_runsOff_9 : decode cX12_runsOff 9 = .ok (.invokevirtual 301, 3) := by decide +kernel
theorem dX12_runsOff_12 : decode cX12_runsOff 12 = .ok (.istore_n 3, 1) := by decide +kernel
theorem dX12_runsOff_13 : decode cX12_runsOff 13 = .ok (.iload_n 3, 1) := by decide +kernel
theorem dX12_runsOff_14 : decode cX12_runsOff 14 = .ok (.iconst (-1), 1) := by decide +kernel
theorem dX12_runsOff_15 : decode cX12_runsOff 15 = .ok (.if_icmp .ne 7, 3) := by decide +kernel
theorem dX12_runsOff_18 : decode cX12_runsOff 18 = .ok (.iconst (-1), 1) := by decide +kernel
theorem dX12_runsOff_19 : decode cX12_runsOff 19 = .ok (.goto 14, 3) := by decide +kernel
theorem dX12_runsOff_22 : decode cX12_runsOff 22 = .ok (.aload_n 0, 1) := by decide +kernel
theorem dX12_runsOff_23 : decode cX12_runsOff 23 = .ok (.iload_n 2, 1) := by decide +kernel
theorem dX12_runsOff_24 : decode cX12_runsOff 24 = .ok (.iconst 1, 1) := by decide +kernel
theorem dX12_runsOff_25 : decode cX12_runsOff 25 = .ok (.iload_n 3, 1) := by decide +kernel
theorem dX12_runsOff_26 : decode cX12_runsOff 26 = .ok (.ishl, 1) := by decide +kernel
theorem dX12_runsOff_27 : decode cX12_runsOff 27 = .ok (.iconst (-1), 1) := by decide +kernel
theorem dX12_runsOff_28 : decode cX12_runsOff 28 = .ok (.ixor, 1) := by decide +kernel
theorem dX12_runsOff_29 : decode cX12_runsOff 29 = .ok (.iand, 1) := by decide +kernel
theorem dX12_runsOff_30 : decode cX12_runsOff 30 = .ok (.invokevirtual 301, 3) := by decide +kernel
theorem dX12_runsOff_33 : decode cX12_runsOff 33 = .ok (.istore 4, 2) := by decide +kernel
theorem dX12_runsOff_35 : decode cX12_runsOff 35 = .ok (.iload_n 3, 1) := by decide +kernel
theorem dX12_runsOff_36 : decode cX12_runsOff 36 = .ok (.iconst (-1), 1) := by decide +kernel
theorem dX12_runsOff_37 : decode cX12_runsOff 37 = .ok (.if_icmp .ne 7, 3) := by decide +kernel
theorem dX12_runsOff_40 : decode cX12_runsOff 40 = .ok (.iconst 0, 1) := by decide +kernel
theorem dX12_runsOff_41 : decode cX12_runsOff 41 = .ok (.goto 6, 3) := by decide +kernel
theorem dX12_runsOff_44 : decode cX12_runsOff 44 = .ok (.iconst 1, 1) := by decide +kernel
theorem dX12_runsOff_45 : decode cX12_runsOff 45 = .ok (.iload_n 3, 1) := by decide +kernel
theorem dX12_runsOff_46 : decode cX12_runsOff 46 = .ok (.ishl, 1) := by decide +kernel
theorem dX12_runsOff_47 : decode cX12_runsOff 47 = .ok (.iload 4, 2) := by decide +kernel
theorem dX12_runsOff_49 : decode cX12_runsOff 49 = .ok (.iconst (-1), 1) := by decide +kernel
theorem dX12_runsOff_50 : decode cX12_runsOff 50 = .ok (.if_icmp .ne 7, 3) := by decide +kernel
theorem dX12_runsOff_53 : decode cX12_runsOff 53 = .ok (.iconst 0, 1) := by decide +kernel
theorem dX12_runsOff_54 : decode cX12_runsOff 54 = .ok (.goto 7, 3) := by decide +kernel
theorem dX12_runsOff_57 : decode cX12_runsOff 57 = .ok (.iconst 1, 1) := by decide +kernel
theorem dX12_runsOff_58 : decode cX12_runsOff 58 = .ok (.iload 4, 2) := by decide +kernel
theorem dX12_runsOff_60 : decode cX12_runsOff 60 = .ok (.ishl, 1) := by decide +kernel
theorem dX12_runsOff_61 : decode cX12_runsOff 61 = .ok (.ior, 1) := by decide +kernel
theorem dX12_runsOff_62 : decode cX12_runsOff 62 = .ok (.istore 5, 2) := by decide +kernel
theorem dX12_runsOff_64 : decode cX12_runsOff 64 = .ok (.aload_n 0, 1) := by decide +kernel
theorem dX12_runsOff_65 : decode cX12_runsOff 65 = .ok (.iload_n 1, 1) := by decide +kernel
theorem dX12_runsOff_66 : decode cX12_runsOff 66 = .ok (.iload 5, 2) := by decide +kernel
theorem dX12_runsOff_68 : decode cX12_runsOff 68 = .ok (.iconst 0, 1) := by decide +kernel
theorem dX12_runsOff_69 : decode cX12_runsOff 69 = .ok (.invokevirtual 297, 3) := by decide +kernel
theorem dX12_runsOff_72 : decode cX12_runsOff 72 = .ok (.aload_n 0, 1) := by decide +kernel
theorem dX12_runsOff_73 : decode cX12_runsOff 73 = .ok (.iload 5, 2) := by decide +kernel
theorem dX12_runsOff_75 : decode cX12_runsOff 75 = .ok (.invokevirtual 301, 3) := by decide +kernel
theorem dX12_runsOff_78 : decode cX12_runsOff 78 = .ok (.ireturn, 1) := by decide +kernel
theorem dX12_said_0 : decode cX12_said 0 = .ok (.aload_n 0, 1) := by decide +kernel
theorem dX12_said_1 : decode cX12_said 1 = .ok (.iload_n 1, 1) := by decide +kernel
theorem dX12_said_2 : decode cX12_said 2 = .ok (.i2l, 1) := by decide +kernel
theorem dX12_said_3 : decode cX12_said 3 = .ok (.invokevirtual 363, 3) := by decide +kernel
theorem dX12_said_6 : decode cX12_said 6 = .ok (.ifCond .ne 6, 3) := by decide +kernel
theorem dX12_said_9 : decode cX12_said 9 = .ok (.bipush (-2), 2) := by decide +kernel
theorem dX12_said_11 : decode cX12_said 11 = .ok (.ireturn, 1) := by decide +kernel
theorem dX12_said_12 : decode cX12_said 12 = .ok (.aload_n 0, 1) := by decide +kernel
theorem dX12_said_13 : decode cX12_said 13 = .ok (.aload_n 0, 1) := by decide +kernel
theorem dX12_said_14 : decode cX12_said 14 = .ok (.getfield 9, 3) := by decide +kernel
theorem dX12_said_17 : decode cX12_said 17 = .ok (.bipush 10, 2) := by decide +kernel
theorem dX12_said_19 : decode cX12_said 19 = .ok (.iaload, 1) := by decide +kernel
theorem dX12_said_20 : decode cX12_said 20 = .ok (.invokevirtual 366, 3) := by decide +kernel
theorem dX12_said_23 : decode cX12_said 23 = .ok (.aload_n 0, 1) := by decide +kernel
theorem dX12_said_24 : decode cX12_said 24 = .ok (.getfield 49, 3) := by decide +kernel
theorem dX12_said_27 : decode cX12_said 27 = .ok (.iload_n 1, 1) := by decide +kernel
theorem dX12_said_28 : decode cX12_said 28 = .ok (.iaload, 1) := by decide +kernel
theorem dX12_said_29 : decode cX12_said 29 = .ok (.invokestatic 369, 3) := by decide +kernel
theorem dX12_said_32 : decode cX12_said 32 = .ok (.ireturn, 1) := by decide +kernel
theorem dX12_sayable_0 : decode cX12_sayable 0 = .ok (.iconst 0, 1) := by decide +kernel
theorem dX12_sayable_1 : decode cX12_sayable 1 = .ok (.istore_n 1, 1) := by decide +kernel
theorem dX12_sayable_2 : decode cX12_sayable 2 = .ok (.iconst 0, 1) := by decide +kernel
theorem dX12_sayable_3 : decode cX12_sayable 3 = .ok (.istore_n 2, 1) := by decide +kernel
theorem dX12_sayable_4 : decode cX12_sayable 4 = .ok (.iload_n 2, 1) := by decide +kernel
theorem dX12_sayable_5 : decode cX12_sayable 5 = .ok (.aload_n 0, 1) := by decide +kernel
theorem dX12_sayable_6 : decode cX12_sayable 6 = .ok (.getfield 9, 3) := by decide +kernel
theorem dX12_sayable_9 : decode cX12_sayable 9 = .ok (.iconst 0, 1) := by decide +kernel
theorem dX12_sayable_10 : decode cX12_sayable 10 = .ok (.iaload, 1) := by decide +kernel
theorem dX12_sayable_11 : decode cX12_sayable 11 = .ok (.if_icmp .ge 31, 3) := by decide +kernel
theorem dX12_sayable_14 : decode cX12_sayable 14 = .ok (.iload_n 1, 1) := by decide +kernel
theorem dX12_sayable_15 : decode cX12_sayable 15 = .ok (.aload_n 0, 1) := by decide +kernel
theorem dX12_sayable_16 : decode cX12_sayable 16 = .ok (.getfield 52, 3) := by decide +kernel
theorem dX12_sayable_19 : decode cX12_sayable 19 = .ok (.iload_n 2, 1) := by decide +kernel
theorem dX12_sayable_20 : decode cX12_sayable 20 = .ok (.iaload, 1) := by decide +kernel
theorem dX12_sayable_21 : decode cX12_sayable 21 = .ok (.ldc_w 359, 3) := by decide +kernel
theorem dX12_sayable_24 : decode cX12_sayable 24 = .ok (.if_icmp .ge 9, 3) := by decide +kernel
theorem dX12_sayable_27 : decode cX12_sayable 27 = .ok (.iconst 1, 1) := by decide +kernel
theorem dX12_sayable_28 : decode cX12_sayable 28 = .ok (.iload_n 2, 1) := by decide +kernel
theorem dX12_sayable_29 : decode cX12_sayable 29 = .ok (.ishl, 1) := by decide +kernel
theorem dX12_sayable_30 : decode cX12_sayable 30 = .ok (.goto 4, 3) := by decide +kernel
theorem dX12_sayable_33 : decode cX12_sayable 33 = .ok (.iconst 0, 1) := by decide +kernel
theorem dX12_sayable_34 : decode cX12_sayable 34 = .ok (.ior, 1) := by decide +kernel
theorem dX12_sayable_35 : decode cX12_sayable 35 = .ok (.istore_n 1, 1) := by decide +kernel
theorem dX12_sayable_36 : decode cX12_sayable 36 = .ok (.iinc 2 1, 3) := by decide +kernel
theorem dX12_sayable_39 : decode cX12_sayable 39 = .ok (.goto (-35), 3) := by decide +kernel
theorem dX12_sayable_42 : decode cX12_sayable 42 = .ok (.iload_n 1, 1) := by decide +kernel
theorem dX12_sayable_43 : decode cX12_sayable 43 = .ok (.ireturn, 1) := by decide +kernel
theorem dX12_seats_0 : decode cX12_seats 0 = .ok (.aload_n 0, 1) := by decide +kernel
theorem dX12_seats_1 : decode cX12_seats 1 = .ok (.invokevirtual 347, 3) := by decide +kernel
theorem dX12_seats_4 : decode cX12_seats 4 = .ok (.ifCond .eq 20, 3) := by decide +kernel
theorem dX12_seats_7 : decode cX12_seats 7 = .ok (.iload_n 1, 1) := by decide +kernel
theorem dX12_seats_8 : decode cX12_seats 8 = .ok (.invokestatic 413, 3) := by decide +kernel
theorem dX12_seats_11 : decode cX12_seats 11 = .ok (.ifCond .eq 13, 3) := by decide +kernel
theorem dX12_seats_14 : decode cX12_seats 14 = .ok (.aload_n 0, 1) := by decide +kernel
theorem dX12_seats_15 : decode cX12_seats 15 = .ok (.iconst 1, 1) := by decide +kernel
theorem dX12_seats_16 : decode cX12_seats 16 = .ok (.iload_n 1, 1) := by decide +kernel
theorem dX12_seats_17 : decode cX12_seats 17 = .ok (.ishl, 1) := by decide +kernel
theorem dX12_seats_18 : decode cX12_seats 18 = .ok (.invokevirtual 408, 3) := by decide +kernel
theorem dX12_seats_21 : decode cX12_seats 21 = .ok (.goto 5, 3) := by decide +kernel
theorem dX12_seats_24 : decode cX12_seats 24 = .ok (.bipush (-2), 2) := by decide +kernel
theorem dX12_seats_26 : decode cX12_seats 26 = .ok (.ireturn, 1) := by decide +kernel
theorem dX12_seatsOf_0 : decode cX12_seatsOf 0 = .ok (.iconst 0, 1) := by decide +kernel
theorem dX12_seatsOf_1 : decode cX12_seatsOf 1 = .ok (.istore_n 2, 1) := by decide +kernel
theorem dX12_seatsOf_2 : decode cX12_seatsOf 2 = .ok (.iconst 0, 1) := by decide +kernel
theorem dX12_seatsOf_3 : decode cX12_seatsOf 3 = .ok (.istore_n 3, 1) := by decide +kernel
theorem dX12_seatsOf_4 : decode cX12_seatsOf 4 = .ok (.iload_n 3, 1) := by decide +kernel
theorem dX12_seatsOf_5 : decode cX12_seatsOf 5 = .ok (.aload_n 0, 1) := by decide +kernel
theorem dX12_seatsOf_6 : decode cX12_seatsOf 6 = .ok (.getfield 9, 3) := by decide +kernel
theorem dX12_seatsOf_9 : decode cX12_seatsOf 9 = .ok (.iconst 5, 1) := by decide +kernel
theorem dX12_seatsOf_10 : decode cX12_seatsOf 10 = .ok (.iaload, 1) := by decide +kernel
theorem dX12_seatsOf_11 : decode cX12_seatsOf 11 = .ok (.if_icmp .ge 59, 3) := by decide +kernel
theorem dX12_seatsOf_14 : decode cX12_seatsOf 14 = .ok (.iload_n 2, 1) := by decide +kernel
theorem dX12_seatsOf_15 : decode cX12_seatsOf 15 = .ok (.aload_n 0, 1) := by decide +kernel
theorem dX12_seatsOf_16 : decode cX12_seatsOf 16 = .ok (.getfield 9, 3) := by decide +kernel
theorem dX12_seatsOf_19 : decode cX12_seatsOf 19 = .ok (.bipush 10, 2) := by decide +kernel
theorem dX12_seatsOf_21 : decode cX12_seatsOf 21 = .ok (.iaload, 1) := by decide +kernel
theorem dX12_seatsOf_22 : decode cX12_seatsOf 22 = .ok (.iload_n 3, 1) := by decide +kernel
theorem dX12_seatsOf_23 : decode cX12_seatsOf 23 = .ok (.invokestatic 88, 3) := by decide +kernel
theorem dX12_seatsOf_26 : decode cX12_seatsOf 26 = .ok (.iconst 1, 1) := by decide +kernel
theorem dX12_seatsOf_27 : decode cX12_seatsOf 27 = .ok (.if_icmp .ne 34, 3) := by decide +kernel
theorem dX12_seatsOf_30 : decode cX12_seatsOf 30 = .ok (.iload_n 1, 1) := by decide +kernel
theorem dX12_seatsOf_31 : decode cX12_seatsOf 31 = .ok (.aload_n 0, 1) := by decide +kernel
theorem dX12_seatsOf_32 : decode cX12_seatsOf 32 = .ok (.iload_n 3, 1) := by decide +kernel
theorem dX12_seatsOf_33 : decode cX12_seatsOf 33 = .ok (.iconst 2, 1) := by decide +kernel
theorem dX12_seatsOf_34 : decode cX12_seatsOf 34 = .ok (.invokevirtual 262, 3) := by decide +kernel
theorem dX12_seatsOf_37 : decode cX12_seatsOf 37 = .ok (.invokestatic 88, 3) := by decide +kernel
theorem dX12_seatsOf_40 : decode cX12_seatsOf 40 = .ok (.iconst 1, 1) := by decide +kernel
theorem dX12_seatsOf_41 : decode cX12_seatsOf 41 = .ok (.if_icmp .ne 20, 3) := by decide +kernel
theorem dX12_seatsOf_44 : decode cX12_seatsOf 44 = .ok (.aload_n 0, 1) := by decide +kernel
theorem dX12_seatsOf_45 : decode cX12_seatsOf 45 = .ok (.getfield 9, 3) := by decide +kernel
theorem dX12_seatsOf_48 : decode cX12_seatsOf 48 = .ok (.bipush 12, 2) := by decide +kernel
theorem dX12_seatsOf_50 : decode cX12_seatsOf 50 = .ok (.aload_n 0, 1) := by decide +kernel
theorem dX12_seatsOf_51 : decode cX12_seatsOf 51 = .ok (.iload_n 3, 1) := by decide +kernel
theorem dX12_seatsOf_52 : decode cX12_seatsOf 52 = .ok (.iconst 1, 1) := by decide +kernel
theorem dX12_seatsOf_53 : decode cX12_seatsOf 53 = .ok (.invokevirtual 262, 3) := by decide +kernel
theorem dX12_seatsOf_56 : decode cX12_seatsOf 56 = .ok (.iadd, 1) := by decide +kernel
theorem dX12_seatsOf_57 : decode cX12_seatsOf 57 = .ok (.iaload, 1) := by decide +kernel
theorem dX12_seatsOf_58 : decode cX12_seatsOf 58 = .ok (.goto 4, 3) := by decide +kernel
theorem dX12_seatsOf_61 : decode cX12_seatsOf 61 = .ok (.iconst 0, 1) := by decide +kernel
theorem dX12_seatsOf_62 : decode cX12_seatsOf 62 = .ok (.iadd, 1) := by decide +kernel
theorem dX12_seatsOf_63 : decode cX12_seatsOf 63 = .ok (.istore_n 2, 1) := by decide +kernel
theorem dX12_seatsOf_64 : decode cX12_seatsOf 64 = .ok (.iinc 3 1, 3) := by decide +kernel
theorem dX12_seatsOf_67 : decode cX12_seatsOf 67 = .ok (.goto (-63), 3) := by decide +kernel
theorem dX12_seatsOf_70 : decode cX12_seatsOf 70 = .ok (.iload_n 2, 1) := by decide +kernel
theorem dX12_seatsOf_71 : decode cX12_seatsOf 71 = .ok (.ireturn, 1) := by decide +kernel
theorem dX12_see_0 : decode cX12_see 0 = .ok (.iload_n 1, 1) := by decide +kernel
theorem dX12_see_1 : decode cX12_see 1 = .ok (.aload_n 0, 1) := by decide +kernel
theorem dX12_see_2 : decode cX12_see 2 = .ok (.getfield 99, 3) := by decide +kernel
theorem dX12_see_5 : decode cX12_see 5 = .ok (.if_icmp .ge 16, 3) := by decide +kernel
theorem dX12_see_8 : decode cX12_see 8 = .ok (.aload_n 0, 1) := by decide +kernel
theorem dX12_see_9 : decode cX12_see 9 = .ok (.getfield 20, 3) := by decide +kernel
theorem dX12_see_12 : decode cX12_see 12 = .ok (.iload_n 1, 1) := by decide +kernel
theorem dX12_see_13 : decode cX12_see 13 = .ok (.baload, 1) := by decide +kernel
theorem dX12_see_14 : decode cX12_see 14 = .ok (.sipush 255, 3) := by decide +kernel
theorem dX12_see_17 : decode cX12_see 17 = .ok (.iand, 1) := by decide +kernel
theorem dX12_see_18 : decode cX12_see 18 = .ok (.goto 4, 3) := by decide +kernel
theorem dX12_see_21 : decode cX12_see 21 = .ok (.iconst (-1), 1) := by decide +kernel
theorem dX12_see_22 : decode cX12_see 22 = .ok (.ireturn, 1) := by decide +kernel
theorem dX12_share_0 : decode cX12_share 0 = .ok (.aload_n 0, 1) := by decide +kernel
theorem dX12_share_1 : decode cX12_share 1 = .ok (.invokevirtual 347, 3) := by decide +kernel
theorem dX12_share_4 : decode cX12_share 4 = .ok (.ifCond .eq 20, 3) := by decide +kernel
theorem dX12_share_7 : decode cX12_share 7 = .ok (.iload_n 1, 1) := by decide +kernel
theorem dX12_share_8 : decode cX12_share 8 = .ok (.invokestatic 413, 3) := by decide +kernel
theorem dX12_share_11 : decode cX12_share 11 = .ok (.ifCond .eq 13, 3) := by decide +kernel
theorem dX12_share_14 : decode cX12_share 14 = .ok (.iload_n 2, 1) := by decide +kernel
theorem dX12_share_15 : decode cX12_share 15 = .ok (.i2l, 1) := by decide +kernel
theorem dX12_share_16 : decode cX12_share 16 = .ok (.lconst 0, 1) := by decide +kernel
theorem dX12_share_17 : decode cX12_share 17 = .ok (.lconst 1, 1) := by decide +kernel
theorem dX12_share_18 : decode cX12_share 18 = .ok (.invokestatic 82, 3) := by decide +kernel
theorem dX12_share_21 : decode cX12_share 21 = .ok (.ifCond .ne 6, 3) := by decide +kernel
theorem dX12_share_24 : decode cX12_share 24 = .ok (.bipush (-2), 2) := by decide +kernel
theorem dX12_share_26 : decode cX12_share 26 = .ok (.ireturn, 1) := by decide +kernel
theorem dX12_share_27 : decode cX12_share 27 = .ok (.iconst 0, 1) := by decide +kernel
theorem dX12_share_28 : decode cX12_share 28 = .ok (.istore_n 3, 1) := by decide +kernel
theorem dX12_share_29 : decode cX12_share 29 = .ok (.iconst 0, 1) := by decide +kernel
theorem dX12_share_30 : decode cX12_share 30 = .ok (.istore 4, 2) := by decide +kernel
theorem dX12_share_32 : decode cX12_share 32 = .ok (.iload 4, 2) := by decide +kernel
theorem dX12_share_34 : decode cX12_share 34 = .ok (.bipush 16, 2) := by decide +kernel
theorem dX12_share_36 : decode cX12_share 36 = .ok (.if_icmp .ge 66, 3) := by decide +kernel
theorem dX12_share_39 : decode cX12_share 39 = .ok (.iload 4, 2) := by decide +kernel
theorem dX12_share_41 : decode cX12_share 41 = .ok (.iload_n 1, 1) := by decide +kernel
theorem dX12_share_42 : decode cX12_share 42 = .ok (.invokestatic 88, 3) := by decide +kernel
theorem dX12_share_45 : decode cX12_share 45 = .ok (.iconst 1, 1) := by decide +kernel
theorem dX12_share_46 : decode cX12_share 46 = .ok (.if_icmp .eq 50, 3) := by decide +kernel
theorem dX12_share_49 : decode cX12_share 49 = .ok (.aload_n 0, 1) := by decide +kernel
theorem dX12_share_50 : decode cX12_share 50 = .ok (.iload 4, 2) := by decide +kernel
theorem dX12_share_52 : decode cX12_share 52 = .ok (.invokevirtual 419, 3) := by decide +kernel
theorem dX12_share_55 : decode cX12_share 55 = .ok (.ifCond .ne 41, 3) := by decide +kernel
theorem dX12_share_58 : decode cX12_share 58 = .ok (.aload_n 0, 1) := by decide +kernel
theorem dX12_share_59 : decode cX12_share 59 = .ok (.iload 4, 2) := by decide +kernel
theorem dX12_share_61 : decode cX12_share 61 = .ok (.iconst 1, 1) := by decide +kernel
theorem dX12_share_62 : decode cX12_share 62 = .ok (.iload_n 1, 1) := by decide +kernel
theorem dX12_share_63 : decode cX12_share 63 = .ok (.ishl, 1) := by decide +kernel
theorem dX12_share_64 : decode cX12_share 64 = .ok (.ior, 1) := by decide +kernel
theorem dX12_share_65 : decode cX12_share 65 = .ok (.invokevirtual 419, 3) := by decide +kernel
theorem dX12_share_68 : decode cX12_share 68 = .ok (.ifCond .ne 6, 3) := by decide +kernel
theorem dX12_share_71 : decode cX12_share 71 = .ok (.goto 25, 3) := by decide +kernel
theorem dX12_share_74 : decode cX12_share 74 = .ok (.iload_n 3, 1) := by decide +kernel
theorem dX12_share_75 : decode cX12_share 75 = .ok (.iload 4, 2) := by decide +kernel
theorem dX12_share_77 : decode cX12_share 77 = .ok (.invokestatic 265, 3) := by decide +kernel
theorem dX12_share_80 : decode cX12_share 80 = .ok (.invokestatic 422, 3) := by decide +kernel
theorem dX12_share_83 : decode cX12_share 83 = .ok (.iconst 3, 1) := by decide +kernel
theorem dX12_share_84 : decode cX12_share 84 = .ok (.iload 4, 2) := by decide +kernel
theorem dX12_share_86 : decode cX12_share 86 = .ok (.invokestatic 265, 3) := by decide +kernel
theorem dX12_share_89 : decode cX12_share 89 = .ok (.isub, 1) := by decide +kernel
theorem dX12_share_90 : decode cX12_share 90 = .ok (.invokestatic 422, 3) := by decide +kernel
theorem dX12_share_93 : decode cX12_share 93 = .ok (.imul, 1) := by decide +kernel
theorem dX12_share_94 : decode cX12_share 94 = .ok (.iadd, 1) := by decide +kernel
theorem dX12_share_95 : decode cX12_share 95 = .ok (.istore_n 3, 1) := by decide +kernel
theorem dX12_share_96 : decode cX12_share 96 = .ok (.iinc 4 1, 3) := by decide +kernel
theorem dX12_share_99 : decode cX12_share 99 = .ok (.goto (-67), 3) := by decide +kernel
theorem dX12_share_102 : decode cX12_share 102 = .ok (.iconst 4, 1) := by decide +kernel
theorem dX12_share_103 : decode cX12_share 103 = .ok (.invokestatic 422, 3) := by decide +kernel
theorem dX12_share_106 : decode cX12_share 106 = .ok (.istore 4, 2) := by decide +kernel
theorem dX12_share_108 : decode cX12_share 108 = .ok (.iload_n 2, 1) := by decide +kernel
theorem dX12_share_109 : decode cX12_share 109 = .ok (.ifCond .ne 7, 3) := by decide +kernel
theorem dX12_share_112 : decode cX12_share 112 = .ok (.iload_n 3, 1) := by decide +kernel
theorem dX12_share_113 : decode cX12_share 113 = .ok (.goto 5, 3) := by decide +kernel
theorem dX12_share_116 : decode cX12_share 116 = .ok (.iload 4, 2) := by decide +kernel
theorem dX12_share_118 : decode cX12_share 118 = .ok (.iload_n 3, 1) := by decide +kernel
theorem dX12_share_119 : decode cX12_share 119 = .ok (.iload 4, 2) := by decide +kernel
theorem dX12_share_121 : decode cX12_share 121 = .ok (.invokestatic 425, 3) := by decide +kernel
theorem dX12_share_124 : decode cX12_share 124 = .ok (.idiv, 1) := by decide +kernel
theorem dX12_share_125 : decode cX12_share 125 = .ok (.ireturn, 1) := by decide +kernel
theorem dX12_sits_0 : decode cX12_sits 0 = .ok (.aload_n 0, 1) := by decide +kernel
theorem dX12_sits_1 : decode cX12_sits 1 = .ok (.iload_n 1, 1) := by decide +kernel
theorem dX12_sits_2 : decode cX12_sits 2 = .ok (.invokevirtual 332, 3) := by decide +kernel
theorem dX12_sits_5 : decode cX12_sits 5 = .ok (.ifCond .eq 10, 3) := by decide +kernel
theorem dX12_sits_8 : decode cX12_sits 8 = .ok (.iload_n 2, 1) := by decide +kernel
theorem dX12_sits_9 : decode cX12_sits 9 = .ok (.invokestatic 338, 3) := by decide +kernel
theorem dX12_sits_12 : decode cX12_sits 12 = .ok (.ifCond .ne 6, 3) := by decide +kernel
theorem dX12_sits_15 : decode cX12_sits 15 = .ok (.bipush (-2), 2) := by decide +kernel
theorem dX12_sits_17 : decode cX12_sits 17 = .ok (.ireturn, 1) := by decide +kernel
theorem dX12_sits_18 : decode cX12_sits 18 = .ok (.aload_n 0, 1) := by decide +kernel
theorem dX12_sits_19 : decode cX12_sits 19 = .ok (.invokevirtual 335, 3) := by decide +kernel
theorem dX12_sits_22 : decode cX12_sits 22 = .ok (.aload_n 0, 1) := by decide +kernel
theorem dX12_sits_23 : decode cX12_sits 23 = .ok (.iload_n 1, 1) := by decide +kernel
theorem dX12_sits_24 : decode cX12_sits 24 = .ok (.iload_n 2, 1) := by decide +kernel
theorem dX12_sits_25 : decode cX12_sits 25 = .ok (.invokevirtual 319, 3) := by decide +kernel
theorem dX12_sits_28 : decode cX12_sits 28 = .ok (.ireturn, 1) := by decide +kernel
theorem dX12_sitter_0 : decode cX12_sitter 0 = .ok (.aload_n 0, 1) := by decide +kernel
theorem dX12_sitter_1 : decode cX12_sitter 1 = .ok (.iload_n 1, 1) := by decide +kernel
theorem dX12_sitter_2 : decode cX12_sitter 2 = .ok (.iload_n 2, 1) := by decide +kernel
theorem dX12_sitter_3 : decode cX12_sitter 3 = .ok (.invokevirtual 313, 3) := by decide +kernel
theorem dX12_sitter_6 : decode cX12_sitter 6 = .ok (.istore_n 3, 1) := by decide +kernel
theorem dX12_sitter_7 : decode cX12_sitter 7 = .ok (.iload_n 3, 1) := by decide +kernel
theorem dX12_sitter_8 : decode cX12_sitter 8 = .ok (.iconst (-1), 1) := by decide +kernel
theorem dX12_sitter_9 : decode cX12_sitter 9 = .ok (.if_icmp .eq 27, 3) := by decide +kernel
theorem dX12_sitter_12 : decode cX12_sitter 12 = .ok (.bipush 100, 2) := by decide +kernel
theorem dX12_sitter_14 : decode cX12_sitter 14 = .ok (.aload_n 0, 1) := by decide +kernel
theorem dX12_sitter_15 : decode cX12_sitter 15 = .ok (.getfield 40, 3) := by decide +kernel
theorem dX12_sitter_18 : decode cX12_sitter 18 = .ok (.iload_n 3, 1) := by decide +kernel
theorem dX12_sitter_19 : decode cX12_sitter 19 = .ok (.iaload, 1) := by decide +kernel
theorem dX12_sitter_20 : decode cX12_sitter 20 = .ok (.imul, 1) := by decide +kernel
theorem dX12_sitter_21 : decode cX12_sitter 21 = .ok (.aload_n 0, 1) := by decide +kernel
theorem dX12_sitter_22 : decode cX12_sitter 22 = .ok (.getfield 9, 3) := by decide +kernel
theorem dX12_sitter_25 : decode cX12_sitter 25 = .ok (.iconst 2, 1) := by decide +kernel
theorem dX12_sitter_26 : decode cX12_sitter 26 = .ok (.iaload, 1) := by decide +kernel
theorem dX12_sitter_27 : decode cX12_sitter 27 = .ok (.aload_n 0, 1) := by decide +kernel
theorem dX12_sitter_28 : decode cX12_sitter 28 = .ok (.iload_n 1, 1) := by decide +kernel
theorem dX12_sitter_29 : decode cX12_sitter 29 = .ok (.invokevirtual 316, 3) := by decide +kernel
theorem dX12_sitter_32 : decode cX12_sitter 32 = .ok (.imul, 1) := by decide +kernel
theorem dX12_sitter_33 : decode cX12_sitter 33 = .ok (.if_icmp .ge 7, 3) := by decide +kernel
theorem dX12_sitter_36 : decode cX12_sitter 36 = .ok (.iconst (-1), 1) := by decide +kernel
theorem dX12_sitter_37 : decode cX12_sitter 37 = .ok (.goto 4, 3) := by decide +kernel
theorem dX12_sitter_40 : decode cX12_sitter 40 = .ok (.iload_n 3, 1) := by decide +kernel
theorem dX12_sitter_41 : decode cX12_sitter 41 = .ok (.ireturn, 1) := by decide +kernel
theorem dX12_sitterWithout_0 : decode cX12_sitterWithout 0 = .ok (.aload_n 0, 1) := by decide +kernel
theorem dX12_sitterWithout_1 : decode cX12_sitterWithout 1 = .ok (.dup, 1) := by decide +kernel
theorem dX12_sitterWithout_2 : decode cX12_sitterWithout 2 = .ok (.getfield 253, 3) := by decide +kernel
theorem dX12_sitterWithout_5 : decode cX12_sitterWithout 5 = .ok (.iconst 1, 1) := by decide +kernel
theorem dX12_sitterWithout_6 : decode cX12_sitterWithout 6 = .ok (.iload_n 1, 1) := by decide +kernel
theorem dX12_sitterWithout_7 : decode cX12_sitterWithout 7 = .ok (.ishl, 1) := by decide +kernel
theorem dX12_sitterWithout_8 : decode cX12_sitterWithout 8 = .ok (.iconst (-1), 1) := by decide +kernel
theorem dX12_sitterWithout_9 : decode cX12_sitterWithout 9 = .ok (.ixor, 1) := by decide +kernel
theorem dX12_sitterWithout_10 : decode cX12_sitterWithout 10 = .ok (.iand, 1) := by decide +kernel
theorem dX12_sitterWithout_11 : decode cX12_sitterWithout 11 = .ok (.putfield 253, 3) := by decide +kernel
theorem dX12_sitterWithout_14 : decode cX12_sitterWithout 14 = .ok (.aload_n 0, 1) := by decide +kernel
theorem dX12_sitterWithout_15 : decode cX12_sitterWithout 15 = .ok (.aload_n 0, 1) := by decide +kernel
theorem dX12_sitterWithout_16 : decode cX12_sitterWithout 16 = .ok (.iload_n 1, 1) := by decide +kernel
theorem dX12_sitterWithout_17 : decode cX12_sitterWithout 17 = .ok (.iconst 1, 1) := by decide +kernel
theorem dX12_sitterWithout_18 : decode cX12_sitterWithout 18 = .ok (.invokevirtual 262, 3) := by decide +kernel
theorem dX12_sitterWithout_21 : decode cX12_sitterWithout 21 = .ok (.aload_n 0, 1) := by decide +kernel
theorem dX12_sitterWithout_22 : decode cX12_sitterWithout 22 = .ok (.getfield 9, 3) := by decide +kernel
theorem dX12_sitterWithout_25 : decode cX12_sitterWithout 25 = .ok (.iconst 1, 1) := by decide +kernel
theorem dX12_sitterWithout_26 : decode cX12_sitterWithout 26 = .ok (.iaload, 1) := by decide +kernel
theorem dX12_sitterWithout_27 : decode cX12_sitterWithout 27 = .ok (.invokevirtual 319, 3) := by decide +kernel
theorem dX12_sitterWithout_30 : decode cX12_sitterWithout 30 = .ok (.istore_n 2, 1) := by decide +kernel
theorem dX12_sitterWithout_31 : decode cX12_sitterWithout 31 = .ok (.aload_n 0, 1) := by decide +kernel
theorem dX12_sitterWithout_32 : decode cX12_sitterWithout 32 = .ok (.dup, 1) := by decide +kernel
theorem dX12_sitterWithout_33 : decode cX12_sitterWithout 33 = .ok (.getfield 253, 3) := by decide +kernel
theorem dX12_sitterWithout_36 : decode cX12_sitterWithout 36 = .ok (.iconst 1, 1) := by decide +kernel
theorem dX12_sitterWithout_37 : decode cX12_sitterWithout 37 = .ok (.iload_n 1, 1) := by decide +kernel
theorem dX12_sitterWithout_38 : decode cX12_sitterWithout 38 = .ok (.ishl, 1) := by decide +kernel
theorem dX12_sitterWithout_39 : decode cX12_sitterWithout 39 = .ok (.ior, 1) := by decide +kernel
theorem dX12_sitterWithout_40 : decode cX12_sitterWithout 40 = .ok (.putfield 253, 3) := by decide +kernel
theorem dX12_sitterWithout_43 : decode cX12_sitterWithout 43 = .ok (.iload_n 2, 1) := by decide +kernel
theorem dX12_sitterWithout_44 : decode cX12_sitterWithout 44 = .ok (.ireturn, 1) := by decide +kernel
theorem dX12_sitting_0 : decode cX12_sitting 0 = .ok (.aload_n 0, 1) := by decide +kernel
theorem dX12_sitting_1 : decode cX12_sitting 1 = .ok (.invokevirtual 347, 3) := by decide +kernel
theorem dX12_sitting_4 : decode cX12_sitting 4 = .ok (.ifCond .eq 13, 3) := by decide +kernel
theorem dX12_sitting_7 : decode cX12_sitting 7 = .ok (.aload_n 0, 1) := by decide +kernel
theorem dX12_sitting_8 : decode cX12_sitting 8 = .ok (.getfield 9, 3) := by decide +kernel
theorem dX12_sitting_11 : decode cX12_sitting 11 = .ok (.bipush 10, 2) := by decide +kernel
theorem dX12_sitting_13 : decode cX12_sitting 13 = .ok (.iaload, 1) := by decide +kernel
theorem dX12_sitting_14 : decode cX12_sitting 14 = .ok (.goto 5, 3) := by decide +kernel
theorem dX12_sitting_17 : decode cX12_sitting 17 = .ok (.bipush (-2), 2) := by decide +kernel
theorem dX12_sitting_19 : decode cX12_sitting 19 = .ok (.ireturn, 1) := by decide +kernel
theorem dX12_speak_0 : decode cX12_speak 0 = .ok (.iconst 0, 1) := by decide +kernel
theorem dX12_speak_1 : decode cX12_speak 1 = .ok (.istore_n 2, 1) := by decide +kernel
theorem dX12_speak_2 : decode cX12_speak 2 = .ok (.iload_n 2, 1) := by decide +kernel
theorem dX12_speak_3 : decode cX12_speak 3 = .ok (.bipush 8, 2) := by decide +kernel
theorem dX12_speak_5 : decode cX12_speak 5 = .ok (.if_icmp .ge 92, 3) := by decide +kernel
theorem dX12_speak_8 : decode cX12_speak 8 = .ok (.aload_n 0, 1) := by decide +kernel
theorem dX12_speak_9 : decode cX12_speak 9 = .ok (.getfield 49, 3) := by decide +kernel
theorem dX12_speak_12 : decode cX12_speak 12 = .ok (.iload_n 2, 1) := by decide +kernel
theorem dX12_speak_13 : decode cX12_speak 13 = .ok (.ldc_w 359, 3) := by decide +kernel
theorem dX12_speak_16 : decode cX12_speak 16 = .ok (.iastore, 1) := by decide +kernel
theorem dX12_speak_17 : decode cX12_speak 17 = .ok (.iconst 0, 1) := by decide +kernel
theorem dX12_speak_18 : decode cX12_speak 18 = .ok (.istore_n 3, 1) := by decide +kernel
theorem dX12_speak_19 : decode cX12_speak 19 = .ok (.iload_n 3, 1) := by decide +kernel
theorem dX12_speak_20 : decode cX12_speak 20 = .ok (.aload_n 0, 1) := by decide +kernel
theorem dX12_speak_21 : decode cX12_speak 21 = .ok (.getfield 9, 3) := by decide +kernel
theorem dX12_speak_24 : decode cX12_speak 24 = .ok (.iconst 5, 1) := by decide +kernel
theorem dX12_speak_25 : decode cX12_speak 25 = .ok (.iaload, 1) := by decide +kernel
theorem dX12_speak_26 : decode cX12_speak 26 = .ok (.if_icmp .ge 53, 3) := by decide +kernel
theorem dX12_speak_29 : decode cX12_speak 29 = .ok (.iload_n 1, 1) := by decide +kernel
theorem dX12_speak_30 : decode cX12_speak 30 = .ok (.iload_n 3, 1) := by decide +kernel
theorem dX12_speak_31 : decode cX12_speak 31 = .ok (.invokestatic 88, 3) := by decide +kernel
theorem dX12_speak_34 : decode cX12_speak 34 = .ok (.iconst 1, 1) := by decide +kernel
theorem dX12_speak_35 : decode cX12_speak 35 = .ok (.if_icmp .ne 38, 3) := by decide +kernel
theorem dX12_speak_38 : decode cX12_speak 38 = .ok (.aload_n 0, 1) := by decide +kernel
theorem dX12_speak_39 : decode cX12_speak 39 = .ok (.iload_n 3, 1) := by decide +kernel
theorem dX12_speak_40 : decode cX12_speak 40 = .ok (.iconst 3, 1) := by decide +kernel
theorem dX12_speak_41 : decode cX12_speak 41 = .ok (.invokevirtual 262, 3) := by decide +kernel
theorem dX12_speak_44 : decode cX12_speak 44 = .ok (.iload_n 2, 1) := by decide +kernel
theorem dX12_speak_45 : decode cX12_speak 45 = .ok (.invokestatic 88, 3) := by decide +kernel
theorem dX12_speak_48 : decode cX12_speak 48 = .ok (.iconst 1, 1) := by decide +kernel
theorem dX12_speak_49 : decode cX12_speak 49 = .ok (.if_icmp .ne 24, 3) := by decide +kernel
theorem dX12_speak_52 : decode cX12_speak 52 = .ok (.aload_n 0, 1) := by decide +kernel
theorem dX12_speak_53 : decode cX12_speak 53 = .ok (.getfield 49, 3) := by decide +kernel
theorem dX12_speak_56 : decode cX12_speak 56 = .ok (.iload_n 2, 1) := by decide +kernel
theorem dX12_speak_57 : decode cX12_speak 57 = .ok (.aload_n 0, 1) := by decide +kernel
theorem dX12_speak_58 : decode cX12_speak 58 = .ok (.getfield 49, 3) := by decide +kernel
theorem dX12_speak_61 : decode cX12_speak 61 = .ok (.iload_n 2, 1) := by decide +kernel
theorem dX12_speak_62 : decode cX12_speak 62 = .ok (.iaload, 1) := by decide +kernel
theorem dX12_speak_63 : decode cX12_speak 63 = .ok (.aload_n 0, 1) := by decide +kernel
theorem dX12_speak_64 : decode cX12_speak 64 = .ok (.iload_n 3, 1) := by decide +kernel
theorem dX12_speak_65 : decode cX12_speak 65 = .ok (.iconst 0, 1) := by decide +kernel
theorem dX12_speak_66 : decode cX12_speak 66 = .ok (.invokevirtual 262, 3) := by decide +kernel
theorem dX12_speak_69 : decode cX12_speak 69 = .ok (.invokestatic 127, 3) := by decide +kernel
theorem dX12_speak_72 : decode cX12_speak 72 = .ok (.iastore, 1) := by decide +kernel
theorem dX12_speak_73 : decode cX12_speak 73 = .ok (.iinc 3 1, 3) := by decide +kernel
theorem dX12_speak_76 : decode cX12_speak 76 = .ok (.goto (-57), 3) := by decide +kernel
theorem dX12_speak_79 : decode cX12_speak 79 = .ok (.aload_n 0, 1) := by decide +kernel
theorem dX12_speak_80 : decode cX12_speak 80 = .ok (.getfield 52, 3) := by decide +kernel
theorem dX12_speak_83 : decode cX12_speak 83 = .ok (.iload_n 2, 1) := by decide +kernel
theorem dX12_speak_84 : decode cX12_speak 84 = .ok (.aload_n 0, 1) := by decide +kernel
theorem dX12_speak_85 : decode cX12_speak 85 = .ok (.getfield 49, 3) := by decide +kernel
theorem dX12_speak_88 : decode cX12_speak 88 = .ok (.iload_n 2, 1) := by decide +kernel
theorem dX12_speak_89 : decode cX12_speak 89 = .ok (.iaload, 1) := by decide +kernel
theorem dX12_speak_90 : decode cX12_speak 90 = .ok (.iastore, 1) := by decide +kernel
theorem dX12_speak_91 : decode cX12_speak 91 = .ok (.iinc 2 1, 3) := by decide +kernel
theorem dX12_speak_94 : decode cX12_speak 94 = .ok (.goto (-92), 3) := by decide +kernel
theorem dX12_speak_97 : decode cX12_speak 97 = .ok (.iconst 1, 1) := by decide +kernel
theorem dX12_speak_98 : decode cX12_speak 98 = .ok (.istore_n 2, 1) := by decide +kernel
theorem dX12_speak_99 : decode cX12_speak 99 = .ok (.iload_n 2, 1) := by decide +kernel
theorem dX12_speak_100 : decode cX12_speak 100 = .ok (.ifCond .eq 72, 3) := by decide +kernel
theorem dX12_speak_103 : decode cX12_speak 103 = .ok (.iconst 0, 1) := by decide +kernel
theorem dX12_speak_104 : decode cX12_speak 104 = .ok (.istore_n 2, 1) := by decide +kernel
theorem dX12_speak_105 : decode cX12_speak 105 = .ok (.iconst 0, 1) := by decide +kernel
theorem dX12_speak_106 : decode cX12_speak 106 = .ok (.istore_n 3, 1) := by decide +kernel
theorem dX12_speak_107 : decode cX12_speak 107 = .ok (.iload_n 3, 1) := by decide +kernel
theorem dX12_speak_108 : decode cX12_speak 108 = .ok (.aload_n 0, 1) := by decide +kernel
theorem dX12_speak_109 : decode cX12_speak 109 = .ok (.getfield 9, 3) := by decide +kernel
theorem dX12_speak_112 : decode cX12_speak 112 = .ok (.bipush 7, 2) := by decide +kernel
theorem dX12_speak_114 : decode cX12_speak 114 = .ok (.iaload, 1) := by decide +kernel
theorem dX12_speak_115 : decode cX12_speak 115 = .ok (.if_icmp .ge 54, 3) := by decide +kernel
theorem dX12_speak_118 : decode cX12_speak 118 = .ok (.aload_n 0, 1) := by decide +kernel
theorem dX12_speak_119 : decode cX12_speak 119 = .ok (.getfield 9, 3) := by decide +kernel
theorem dX12_speak_122 : decode cX12_speak 122 = .ok (.bipush 88, 2) := by decide +kernel
theorem dX12_speak_124 : decode cX12_speak 124 = .ok (.iconst 3, 1) := by decide +kernel
theorem dX12_speak_125 : decode cX12_speak 125 = .ok (.iload_n 3, 1) := by decide +kernel
theorem dX12_speak_126 : decode cX12_speak 126 = .ok (.imul, 1) := by decide +kernel
theorem dX12_speak_127 : decode cX12_speak 127 = .ok (.iadd, 1) := by decide +kernel
theorem dX12_speak_128 : decode cX12_speak 128 = .ok (.iaload, 1) := by decide +kernel
theorem dX12_speak_129 : decode cX12_speak 129 = .ok (.istore 4, 2) := by decide +kernel
theorem dX12_speak_131 : decode cX12_speak 131 = .ok (.aload_n 0, 1) := by decide +kernel
theorem dX12_speak_132 : decode cX12_speak 132 = .ok (.iload_n 3, 1) := by decide +kernel
theorem dX12_speak_133 : decode cX12_speak 133 = .ok (.invokevirtual 360, 3) := by decide +kernel
theorem dX12_speak_136 : decode cX12_speak 136 = .ok (.aload_n 0, 1) := by decide +kernel
theorem dX12_speak_137 : decode cX12_speak 137 = .ok (.getfield 52, 3) := by decide +kernel
theorem dX12_speak_140 : decode cX12_speak 140 = .ok (.iload 4, 2) := by decide +kernel
theorem dX12_speak_142 : decode cX12_speak 142 = .ok (.iaload, 1) := by decide +kernel
theorem dX12_speak_143 : decode cX12_speak 143 = .ok (.if_icmp .lt 6, 3) := by decide +kernel
theorem dX12_speak_146 : decode cX12_speak 146 = .ok (.goto 17, 3) := by decide +kernel
theorem dX12_speak_149 : decode cX12_speak 149 = .ok (.aload_n 0, 1) := by decide +kernel
theorem dX12_speak_150 : decode cX12_speak 150 = .ok (.getfield 52, 3) := by decide +kernel
theorem dX12_speak_153 : decode cX12_speak 153 = .ok (.iload 4, 2) := by decide +kernel
theorem dX12_speak_155 : decode cX12_speak 155 = .ok (.aload_n 0, 1) := by decide +kernel
theorem dX12_speak_156 : decode cX12_speak 156 = .ok (.iload_n 3, 1) := by decide +kernel
theorem dX12_speak_157 : decode cX12_speak 157 = .ok (.invokevirtual 360, 3) := by decide +kernel
theorem dX12_speak_160 : decode cX12_speak 160 = .ok (.iastore, 1) := by decide +kernel
theorem dX12_speak_161 : decode cX12_speak 161 = .ok (.iconst 1, 1) := by decide +kernel
theorem dX12_speak_162 : decode cX12_speak 162 = .ok (.istore_n 2, 1) := by decide +kernel
theorem dX12_speak_163 : decode cX12_speak 163 = .ok (.iinc 3 1, 3) := by decide +kernel
theorem dX12_speak_166 : decode cX12_speak 166 = .ok (.goto (-59), 3) := by decide +kernel
theorem dX12_speak_169 : decode cX12_speak 169 = .ok (.goto (-70), 3) := by decide +kernel
theorem dX12_speak_172 : decode cX12_speak 172 = .ok (.return_, 1) := by decide +kernel
theorem dX12_speaker_0 : decode cX12_speaker 0 = .ok (.aload_n 0, 1) := by decide +kernel
theorem dX12_speaker_1 : decode cX12_speaker 1 = .ok (.iload_n 1, 1) := by decide +kernel
theorem dX12_speaker_2 : decode cX12_speaker 2 = .ok (.invokevirtual 328, 3) := by decide +kernel
theorem dX12_speaker_5 : decode cX12_speaker 5 = .ok (.ifCond .eq 24, 3) := by decide +kernel
theorem dX12_speaker_8 : decode cX12_speaker 8 = .ok (.iload_n 2, 1) := by decide +kernel
theorem dX12_speaker_9 : decode cX12_speaker 9 = .ok (.i2l, 1) := by decide +kernel
theorem dX12_speaker_10 : decode cX12_speaker 10 = .ok (.lconst 0, 1) := by decide +kernel
theorem dX12_speaker_11 : decode cX12_speaker 11 = .ok (.ldc2_w 86, 3) := by decide +kernel
theorem dX12_speaker_14 : decode cX12_speaker 14 = .ok (.invokestatic 82, 3) := by decide +kernel
theorem dX12_speaker_17 : decode cX12_speaker 17 = .ok (.ifCond .eq 12, 3) := by decide +kernel
theorem dX12_speaker_20 : decode cX12_speaker 20 = .ok (.aload_n 0, 1) := by decide +kernel
theorem dX12_speaker_21 : decode cX12_speaker 21 = .ok (.iload_n 1, 1) := by decide +kernel
theorem dX12_speaker_22 : decode cX12_speaker 22 = .ok (.iload_n 2, 1) := by decide +kernel
theorem dX12_speaker_23 : decode cX12_speaker 23 = .ok (.invokevirtual 259, 3) := by decide +kernel
theorem dX12_speaker_26 : decode cX12_speaker 26 = .ok (.goto 5, 3) := by decide +kernel
theorem dX12_speaker_29 : decode cX12_speaker 29 = .ok (.bipush (-2), 2) := by decide +kernel
theorem dX12_speaker_31 : decode cX12_speaker 31 = .ok (.ireturn, 1) := by decide +kernel
theorem dX12_speech_0 : decode cX12_speech 0 = .ok (.aload_n 0, 1) := by decide +kernel
theorem dX12_speech_1 : decode cX12_speech 1 = .ok (.iload_n 1, 1) := by decide +kernel
theorem dX12_speech_2 : decode cX12_speech 2 = .ok (.iconst 1, 1) := by decide +kernel
theorem dX12_speech_3 : decode cX12_speech 3 = .ok (.invokevirtual 448, 3) := by decide +kernel
theorem dX12_speech_6 : decode cX12_speech 6 = .ok (.istore_n 2, 1) := by decide +kernel
theorem dX12_speech_7 : decode cX12_speech 7 = .ok (.iload_n 2, 1) := by decide +kernel
theorem dX12_speech_8 : decode cX12_speech 8 = .ok (.ifCond .ge 7, 3) := by decide +kernel
theorem dX12_speech_11 : decode cX12_speech 11 = .ok (.iload_n 2, 1) := by decide +kernel
theorem dX12_speech_12 : decode cX12_speech 12 = .ok (.goto 15, 3) := by decide +kernel
theorem dX12_speech_15 : decode cX12_speech 15 = .ok (.aload_n 0, 1) := by decide +kernel
theorem dX12_speech_16 : decode cX12_speech 16 = .ok (.iload_n 1, 1) := by decide +kernel
theorem dX12_speech_17 : decode cX12_speech 17 = .ok (.aload_n 0, 1) := by decide +kernel
theorem dX12_speech_18 : decode cX12_speech 18 = .ok (.getfield 9, 3) := by decide +kernel
theorem dX12_speech_21 : decode cX12_speech 21 = .ok (.bipush 10, 2) := by decide +kernel
theorem dX12_speech_23 : decode cX12_speech 23 = .ok (.iaload, 1) := by decide +kernel
theorem dX12_speech_24 : decode cX12_speech 24 = .ok (.invokevirtual 452, 3) := by decide +kernel
theorem dX12_speech_27 : decode cX12_speech 27 = .ok (.ireturn, 1) := by decide +kernel
theorem dX12_spoilers_0 : decode cX12_spoilers 0 = .ok (.aload_n 0, 1) := by decide +kernel
theorem dX12_spoilers_1 : decode cX12_spoilers 1 = .ok (.invokevirtual 347, 3) := by decide +kernel
theorem dX12_spoilers_4 : decode cX12_spoilers 4 = .ok (.ifCond .ne 6, 3) := by decide +kernel
theorem dX12_spoilers_7 : decode cX12_spoilers 7 = .ok (.bipush (-2), 2) := by decide +kernel
theorem dX12_spoilers_9 : decode cX12_spoilers 9 = .ok (.ireturn, 1) := by decide +kernel
theorem dX12_spoilers_10 : decode cX12_spoilers 10 = .ok (.aload_n 0, 1) := by decide +kernel
theorem dX12_spoilers_11 : decode cX12_spoilers 11 = .ok (.invokevirtual 335, 3) := by decide +kernel
theorem dX12_spoilers_14 : decode cX12_spoilers 14 = .ok (.iconst 0, 1) := by decide +kernel
theorem dX12_spoilers_15 : decode cX12_spoilers 15 = .ok (.istore_n 1, 1) := by decide +kernel
theorem dX12_spoilers_16 : decode cX12_spoilers 16 = .ok (.iconst 0, 1) := by decide +kernel
theorem dX12_spoilers_17 : decode cX12_spoilers 17 = .ok (.istore_n 2, 1) := by decide +kernel
theorem dX12_spoilers_18 : decode cX12_spoilers 18 = .ok (.iload_n 2, 1) := by decide +kernel
theorem dX12_spoilers_19 : decode cX12_spoilers 19 = .ok (.aload_n 0, 1) := by decide +kernel
theorem dX12_spoilers_20 : decode cX12_spoilers 20 = .ok (.getfield 9, 3) := by decide +kernel
theorem dX12_spoilers_23 : decode cX12_spoilers 23 = .ok (.iconst 5, 1) := by decide +kernel
theorem dX12_spoilers_24 : decode cX12_spoilers 24 = .ok (.iaload, 1) := by decide +kernel
theorem dX12_spoilers_25 : decode cX12_spoilers 25 = .ok (.if_icmp .ge 71, 3) := by decide +kernel
theorem dX12_spoilers_28 : decode cX12_spoilers 28 = .ok (.aload_n 0, 1) := by decide +kernel
theorem dX12_spoilers_29 : decode cX12_spoilers 29 = .ok (.iload_n 2, 1) := by decide +kernel
theorem dX12_spoilers_30 : decode cX12_spoilers 30 = .ok (.invokevirtual 341, 3) := by decide +kernel
theorem dX12_spoilers_33 : decode cX12_spoilers 33 = .ok (.ifCond .eq 6, 3) := by decide +kernel
theorem dX12_spoilers_36 : decode cX12_spoilers 36 = .ok (.goto 54, 3) := by decide +kernel
theorem dX12_spoilers_39 : decode cX12_spoilers 39 = .ok (.aload_n 0, 1) := by decide +kernel
theorem dX12_spoilers_40 : decode cX12_spoilers 40 = .ok (.aload_n 0, 1) := by decide +kernel
theorem dX12_spoilers_41 : decode cX12_spoilers 41 = .ok (.iload_n 2, 1) := by decide +kernel
theorem dX12_spoilers_42 : decode cX12_spoilers 42 = .ok (.iconst 1, 1) := by decide +kernel
theorem dX12_spoilers_43 : decode cX12_spoilers 43 = .ok (.invokevirtual 262, 3) := by decide +kernel
theorem dX12_spoilers_46 : decode cX12_spoilers 46 = .ok (.aload_n 0, 1) := by decide +kernel
theorem dX12_spoilers_47 : decode cX12_spoilers 47 = .ok (.getfield 9, 3) := by decide +kernel
theorem dX12_spoilers_50 : decode cX12_spoilers 50 = .ok (.iconst 1, 1) := by decide +kernel
theorem dX12_spoilers_51 : decode cX12_spoilers 51 = .ok (.iaload, 1) := by decide +kernel
theorem dX12_spoilers_52 : decode cX12_spoilers 52 = .ok (.invokevirtual 319, 3) := by decide +kernel
theorem dX12_spoilers_55 : decode cX12_spoilers 55 = .ok (.istore_n 3, 1) := by decide +kernel
theorem dX12_spoilers_56 : decode cX12_spoilers 56 = .ok (.aload_n 0, 1) := by decide +kernel
theorem dX12_spoilers_57 : decode cX12_spoilers 57 = .ok (.iload_n 2, 1) := by decide +kernel
theorem dX12_spoilers_58 : decode cX12_spoilers 58 = .ok (.invokevirtual 350, 3) := by decide +kernel
theorem dX12_spoilers_61 : decode cX12_spoilers 61 = .ok (.istore 4, 2) := by decide +kernel
theorem dX12_spoilers_63 : decode cX12_spoilers 63 = .ok (.iload_n 1, 1) := by decide +kernel
theorem dX12_spoilers_64 : decode cX12_spoilers 64 = .ok (.iload_n 3, 1) := by decide +kernel
theorem dX12_spoilers_65 : decode cX12_spoilers 65 = .ok (.iload_n 2, 1) := by decide +kernel
theorem dX12_spoilers_66 : decode cX12_spoilers 66 = .ok (.if_icmp .eq 21, 3) := by decide +kernel
theorem dX12_spoilers_69 : decode cX12_spoilers 69 = .ok (.iload 4, 2) := by decide +kernel
theorem dX12_spoilers_71 : decode cX12_spoilers 71 = .ok (.iconst (-1), 1) := by decide +kernel
theorem dX12_spoilers_72 : decode cX12_spoilers 72 = .ok (.if_icmp .eq 15, 3) := by decide +kernel
theorem dX12_spoilers_75 : decode cX12_spoilers 75 = .ok (.iload 4, 2) := by decide +kernel
theorem dX12_spoilers_77 : decode cX12_spoilers 77 = .ok (.iload_n 3, 1) := by decide +kernel
theorem dX12_spoilers_78 : decode cX12_spoilers 78 = .ok (.if_icmp .eq 9, 3) := by decide +kernel
theorem dX12_spoilers_81 : decode cX12_spoilers 81 = .ok (.iconst 1, 1) := by decide +kernel
theorem dX12_spoilers_82 : decode cX12_spoilers 82 = .ok (.iload_n 2, 1) := by decide +kernel
theorem dX12_spoilers_83 : decode cX12_spoilers 83 = .ok (.ishl, 1) := by decide +kernel
theorem dX12_spoilers_84 : decode cX12_spoilers 84 = .ok (.goto 4, 3) := by decide +kernel
theorem dX12_spoilers_87 : decode cX12_spoilers 87 = .ok (.iconst 0, 1) := by decide +kernel
theorem dX12_spoilers_88 : decode cX12_spoilers 88 = .ok (.ior, 1) := by decide +kernel
theorem dX12_spoilers_89 : decode cX12_spoilers 89 = .ok (.istore_n 1, 1) := by decide +kernel
theorem dX12_spoilers_90 : decode cX12_spoilers 90 = .ok (.iinc 2 1, 3) := by decide +kernel
theorem dX12_spoilers_93 : decode cX12_spoilers 93 = .ok (.goto (-75), 3) := by decide +kernel
theorem dX12_spoilers_96 : decode cX12_spoilers 96 = .ok (.iload_n 1, 1) := by decide +kernel
theorem dX12_spoilers_97 : decode cX12_spoilers 97 = .ok (.ireturn, 1) := by decide +kernel
theorem dX12_spoils_0 : decode cX12_spoils 0 = .ok (.aload_n 0, 1) := by decide +kernel
theorem dX12_spoils_1 : decode cX12_spoils 1 = .ok (.iload_n 1, 1) := by decide +kernel
theorem dX12_spoils_2 : decode cX12_spoils 2 = .ok (.i2l, 1) := by decide +kernel
theorem dX12_spoils_3 : decode cX12_spoils 3 = .ok (.invokevirtual 322, 3) := by decide +kernel
theorem dX12_spoils_6 : decode cX12_spoils 6 = .ok (.ifCond .eq 11, 3) := by decide +kernel
theorem dX12_spoils_9 : decode cX12_spoils 9 = .ok (.aload_n 0, 1) := by decide +kernel
theorem dX12_spoils_10 : decode cX12_spoils 10 = .ok (.iload_n 1, 1) := by decide +kernel
theorem dX12_spoils_11 : decode cX12_spoils 11 = .ok (.invokevirtual 341, 3) := by decide +kernel
theorem dX12_spoils_14 : decode cX12_spoils 14 = .ok (.ifCond .eq 6, 3) := by decide +kernel
theorem dX12_spoils_17 : decode cX12_spoils 17 = .ok (.bipush (-2), 2) := by decide +kernel
theorem dX12_spoils_19 : decode cX12_spoils 19 = .ok (.ireturn, 1) := by decide +kernel
theorem dX12_spoils_20 : decode cX12_spoils 20 = .ok (.aload_n 0, 1) := by decide +kernel
theorem dX12_spoils_21 : decode cX12_spoils 21 = .ok (.invokevirtual 335, 3) := by decide +kernel
theorem dX12_spoils_24 : decode cX12_spoils 24 = .ok (.aload_n 0, 1) := by decide +kernel
theorem dX12_spoils_25 : decode cX12_spoils 25 = .ok (.iload_n 1, 1) := by decide +kernel
theorem dX12_spoils_26 : decode cX12_spoils 26 = .ok (.invokevirtual 350, 3) := by decide +kernel
theorem dX12_spoils_29 : decode cX12_spoils 29 = .ok (.ireturn, 1) := by decide +kernel
theorem dX12_stand_0 : decode cX12_stand 0 = .ok (.aload_n 0, 1) := by decide +kernel
theorem dX12_stand_1 : decode cX12_stand 1 = .ok (.iload_n 1, 1) := by decide +kernel
theorem dX12_stand_2 : decode cX12_stand 2 = .ok (.i2l, 1) := by decide +kernel
theorem dX12_stand_3 : decode cX12_stand 3 = .ok (.invokevirtual 322, 3) := by decide +kernel
theorem dX12_stand_6 : decode cX12_stand 6 = .ok (.ifCond .eq 11, 3) := by decide +kernel
theorem dX12_stand_9 : decode cX12_stand 9 = .ok (.aload_n 0, 1) := by decide +kernel
theorem dX12_stand_10 : decode cX12_stand 10 = .ok (.iload_n 2, 1) := by decide +kernel
theorem dX12_stand_11 : decode cX12_stand 11 = .ok (.invokevirtual 332, 3) := by decide +kernel
theorem dX12_stand_14 : decode cX12_stand 14 = .ok (.ifCond .ne 6, 3) := by decide +kernel
theorem dX12_stand_17 : decode cX12_stand 17 = .ok (.bipush (-2), 2) := by decide +kernel
theorem dX12_stand_19 : decode cX12_stand 19 = .ok (.ireturn, 1) := by decide +kernel
theorem dX12_stand_20 : decode cX12_stand 20 = .ok (.aload_n 0, 1) := by decide +kernel
theorem dX12_stand_21 : decode cX12_stand 21 = .ok (.getfield 9, 3) := by decide +kernel
theorem dX12_stand_24 : decode cX12_stand 24 = .ok (.bipush 8, 2) := by decide +kernel
theorem dX12_stand_26 : decode cX12_stand 26 = .ok (.iaload, 1) := by decide +kernel
theorem dX12_stand_27 : decode cX12_stand 27 = .ok (.ifCond .le 6, 3) := by decide +kernel
theorem dX12_stand_30 : decode cX12_stand 30 = .ok (.bipush (-5), 2) := by decide +kernel
theorem dX12_stand_32 : decode cX12_stand 32 = .ok (.ireturn, 1) := by decide +kernel
theorem dX12_stand_33 : decode cX12_stand 33 = .ok (.aload_n 0, 1) := by decide +kernel
theorem dX12_stand_34 : decode cX12_stand 34 = .ok (.iload_n 1, 1) := by decide +kernel
theorem dX12_stand_35 : decode cX12_stand 35 = .ok (.iconst 1, 1) := by decide +kernel
theorem dX12_stand_36 : decode cX12_stand 36 = .ok (.invokevirtual 262, 3) := by decide +kernel
theorem dX12_stand_39 : decode cX12_stand 39 = .ok (.istore_n 3, 1) := by decide +kernel
theorem dX12_stand_40 : decode cX12_stand 40 = .ok (.aload_n 0, 1) := by decide +kernel
theorem dX12_stand_41 : decode cX12_stand 41 = .ok (.getfield 9, 3) := by decide +kernel
theorem dX12_stand_44 : decode cX12_stand 44 = .ok (.bipush 16, 2) := by decide +kernel
theorem dX12_stand_46 : decode cX12_stand 46 = .ok (.iconst 4, 1) := by decide +kernel
theorem dX12_stand_47 : decode cX12_stand 47 = .ok (.iload_n 1, 1) := by decide +kernel
theorem dX12_stand_48 : decode cX12_stand 48 = .ok (.imul, 1) := by decide +kernel
theorem dX12_stand_49 : decode cX12_stand 49 = .ok (.iadd, 1) := by decide +kernel
theorem dX12_stand_50 : decode cX12_stand 50 = .ok (.iconst 1, 1) := by decide +kernel
theorem dX12_stand_51 : decode cX12_stand 51 = .ok (.iadd, 1) := by decide +kernel
theorem dX12_stand_52 : decode cX12_stand 52 = .ok (.iload_n 2, 1) := by decide +kernel
theorem dX12_stand_53 : decode cX12_stand 53 = .ok (.iastore, 1) := by decide +kernel
theorem dX12_stand_54 : decode cX12_stand 54 = .ok (.iload_n 3, 1) := by decide +kernel
theorem dX12_stand_55 : decode cX12_stand 55 = .ok (.ireturn, 1) := by decide +kernel
theorem dX12_standingIn_0 : decode cX12_standingIn 0 = .ok (.iconst 0, 1) := by decide +kernel
theorem dX12_standingIn_1 : decode cX12_standingIn 1 = .ok (.istore_n 2, 1) := by decide +kernel
theorem dX12_standingIn_2 : decode cX12_standingIn 2 = .ok (.iconst 0, 1) := by decide +kernel
theorem dX12_standingIn_3 : decode cX12_standingIn 3 = .ok (.istore_n 3, 1) := by decide +kernel
theorem dX12_standingIn_4 : decode cX12_standingIn 4 = .ok (.iload_n 3, 1) := by decide +kernel
theorem dX12_standingIn_5 : decode cX12_standingIn 5 = .ok (.aload_n 0, 1) := by decide +kernel
theorem dX12_standingIn_6 : decode cX12_standingIn 6 = .ok (.getfield 9, 3) := by decide +kernel
theorem dX12_standingIn_9 : decode cX12_standingIn 9 = .ok (.iconst 5, 1) := by decide +kernel
theorem dX12_standingIn_10 : decode cX12_standingIn 10 = .ok (.iaload, 1) := by decide +kernel
theorem dX12_standingIn_11 : decode cX12_standingIn 11 = .ok (.if_icmp .ge 41, 3) := by decide +kernel
theorem dX12_standingIn_14 : decode cX12_standingIn 14 = .ok (.iload_n 2, 1) := by decide +kernel
theorem dX12_standingIn_15 : decode cX12_standingIn 15 = .ok (.aload_n 0, 1) := by decide +kernel
theorem dX12_standingIn_16 : decode cX12_standingIn 16 = .ok (.getfield 253, 3) := by decide +kernel
theorem dX12_standingIn_19 : decode cX12_standingIn 19 = .ok (.iload_n 3, 1) := by decide +kernel
theorem dX12_standingIn_20 : decode cX12_standingIn 20 = .ok (.invokestatic 88, 3) := by decide +kernel
theorem dX12_standingIn_23 : decode cX12_standingIn 23 = .ok (.iconst 1, 1) := by decide +kernel
theorem dX12_standingIn_24 : decode cX12_standingIn 24 = .ok (.if_icmp .ne 19, 3) := by decide +kernel
theorem dX12_standingIn_27 : decode cX12_standingIn 27 = .ok (.aload_n 0, 1) := by decide +kernel
theorem dX12_standingIn_28 : decode cX12_standingIn 28 = .ok (.iload_n 3, 1) := by decide +kernel
theorem dX12_standingIn_29 : decode cX12_standingIn 29 = .ok (.iconst 1, 1) := by decide +kernel
theorem dX12_standingIn_30 : decode cX12_standingIn 30 = .ok (.invokevirtual 262, 3) := by decide +kernel
theorem dX12_standingIn_33 : decode cX12_standingIn 33 = .ok (.iload_n 1, 1) := by decide +kernel
theorem dX12_standingIn_34 : decode cX12_standingIn 34 = .ok (.if_icmp .ne 9, 3) := by decide +kernel
theorem dX12_standingIn_37 : decode cX12_standingIn 37 = .ok (.iconst 1, 1) := by decide +kernel
theorem dX12_standingIn_38 : decode cX12_standingIn 38 = .ok (.iload_n 3, 1) := by decide +kernel
theorem dX12_standingIn_39 : decode cX12_standingIn 39 = .ok (.ishl, 1) := by decide +kernel
theorem dX12_standingIn_40 : decode cX12_standingIn 40 = .ok (.goto 4, 3) := by decide +kernel
theorem dX12_standingIn_43 : decode cX12_standingIn 43 = .ok (.iconst 0, 1) := by decide +kernel
theorem dX12_standingIn_44 : decode cX12_standingIn 44 = .ok (.ior, 1) := by decide +kernel
theorem dX12_standingIn_45 : decode cX12_standingIn 45 = .ok (.istore_n 2, 1) := by decide +kernel
theorem dX12_standingIn_46 : decode cX12_standingIn 46 = .ok (.iinc 3 1, 3) := by decide +kernel
theorem dX12_standingIn_49 : decode cX12_standingIn 49 = .ok (.goto (-45), 3) := by decide +kernel
theorem dX12_standingIn_52 : decode cX12_standingIn 52 = .ok (.iload_n 2, 1) := by decide +kernel
theorem dX12_standingIn_53 : decode cX12_standingIn 53 = .ok (.ireturn, 1) := by decide +kernel
theorem dX12_strikes_0 : decode cX12_strikes 0 = .ok (.iload_n 2, 1) := by decide +kernel
theorem dX12_strikes_1 : decode cX12_strikes 1 = .ok (.istore_n 3, 1) := by decide +kernel
theorem dX12_strikes_2 : decode cX12_strikes 2 = .ok (.aload_n 0, 1) := by decide +kernel
theorem dX12_strikes_3 : decode cX12_strikes 3 = .ok (.iconst 0, 1) := by decide +kernel
theorem dX12_strikes_4 : decode cX12_strikes 4 = .ok (.putfield 294, 3) := by decide +kernel
theorem dX12_strikes_7 : decode cX12_strikes 7 = .ok (.aload_n 0, 1) := by decide +kernel
theorem dX12_strikes_8 : decode cX12_strikes 8 = .ok (.iload_n 1, 1) := by decide +kernel
theorem dX12_strikes_9 : decode cX12_strikes 9 = .ok (.iload_n 3, 1) := by decide +kernel
theorem dX12_strikes_10 : decode cX12_strikes 10 = .ok (.iconst 0, 1) := by decide +kernel
theorem dX12_strikes_11 : decode cX12_strikes 11 = .ok (.invokevirtual 297, 3) := by decide +kernel
theorem dX12_strikes_14 : decode cX12_strikes 14 = .ok (.aload_n 0, 1) := by decide +kernel
theorem dX12_strikes_15 : decode cX12_strikes 15 = .ok (.iload_n 3, 1) := by decide +kernel
theorem dX12_strikes_16 : decode cX12_strikes 16 = .ok (.invokevirtual 301, 3) := by decide +kernel
theorem dX12_strikes_19 : decode cX12_strikes 19 = .ok (.istore 4, 2) := by decide +kernel
theorem dX12_strikes_21 : decode cX12_strikes 21 = .ok (.iload_n 3, 1) := by decide +kernel
theorem dX12_strikes_22 : decode cX12_strikes 22 = .ok (.invokestatic 265, 3) := by decide +kernel
theorem dX12_strikes_25 : decode cX12_strikes 25 = .ok (.iconst 2, 1) := by decide +kernel
theorem dX12_strikes_26 : decode cX12_strikes 26 = .ok (.if_icmp .lt 19, 3) := by decide +kernel
theorem dX12_strikes_29 : decode cX12_strikes 29 = .ok (.iconst 2, 1) := by decide +kernel
theorem dX12_strikes_30 : decode cX12_strikes 30 = .ok (.aload_n 0, 1) := by decide +kernel
theorem dX12_strikes_31 : decode cX12_strikes 31 = .ok (.getfield 40, 3) := by decide +kernel
theorem dX12_strikes_34 : decode cX12_strikes 34 = .ok (.iload 4, 2) := by decide +kernel
theorem dX12_strikes_36 : decode cX12_strikes 36 = .ok (.iaload, 1) := by decide +kernel
theorem dX12_strikes_37 : decode cX12_strikes 37 = .ok (.imul, 1) := by decide +kernel
theorem dX12_strikes_38 : decode cX12_strikes 38 = .ok (.aload_n 0, 1) := by decide +kernel
theorem dX12_strikes_39 : decode cX12_strikes 39 = .ok (.getfield 285, 3) := by decide +kernel
theorem dX12_strikes_42 : decode cX12_strikes 42 = .ok (.if_icmp .le 6, 3) := by decide +kernel
theorem dX12_strikes_45 : decode cX12_strikes 45 = .ok (.iload 4, 2) := by decide +kernel
theorem dX12_strikes_47 : decode cX12_strikes 47 = .ok (.ireturn, 1) := by decide +kernel
theorem dX12_strikes_48 : decode cX12_strikes 48 = .ok (.iconst (-1), 1) := by decide +kernel
theorem dX12_strikes_49 : decode cX12_strikes 49 = .ok (.istore 5, 2) := by decide +kernel
theorem dX12_strikes_51 : decode cX12_strikes 51 = .ok (.iconst 0, 1) := by decide +kernel
theorem dX12_strikes_52 : decode cX12_strikes 52 = .ok (.istore 6, 2) := by decide +kernel
theorem dX12_strikes_54 : decode cX12_strikes 54 = .ok (.iload 6, 2) := by decide +kernel
theorem dX12_strikes_56 : decode cX12_strikes 56 = .ok (.aload_n 0, 1) := by decide +kernel
theorem dX12_strikes_57 : decode cX12_strikes 57 = .ok (.getfield 9, 3) := by decide +kernel
theorem dX12_strikes_60 : decode cX12_strikes 60 = .ok (.iconst 5, 1) := by decide +kernel
theorem dX12_strikes_61 : decode cX12_strikes 61 = .ok (.iaload, 1) := by decide +kernel
theorem dX12_strikes_62 : decode cX12_strikes 62 = .ok (.if_icmp .ge 76, 3) := by decide +kernel
theorem dX12_strikes_65 : decode cX12_strikes 65 = .ok (.iload_n 3, 1) := by decide +kernel
theorem dX12_strikes_66 : decode cX12_strikes 66 = .ok (.iload 6, 2) := by decide +kernel
theorem dX12_strikes_68 : decode cX12_strikes 68 = .ok (.invokestatic 88, 3) := by decide +kernel
theorem dX12_strikes_71 : decode cX12_strikes 71 = .ok (.ifCond .ne 6, 3) := by decide +kernel
theorem dX12_strikes_74 : decode cX12_strikes 74 = .ok (.goto 58, 3) := by decide +kernel
theorem dX12_strikes_77 : decode cX12_strikes 77 = .ok (.iload 5, 2) := by decide +kernel
theorem dX12_strikes_79 : decode cX12_strikes 79 = .ok (.iconst (-1), 1) := by decide +kernel
theorem dX12_strikes_80 : decode cX12_strikes 80 = .ok (.if_icmp .eq 48, 3) := by decide +kernel
theorem dX12_strikes_83 : decode cX12_strikes 83 = .ok (.aload_n 0, 1) := by decide +kernel
theorem dX12_strikes_84 : decode cX12_strikes 84 = .ok (.getfield 40, 3) := by decide +kernel
theorem dX12_strikes_87 : decode cX12_strikes 87 = .ok (.iload 6, 2) := by decide +kernel
theorem dX12_strikes_89 : decode cX12_strikes 89 = .ok (.iaload, 1) := by decide +kernel
theorem dX12_strikes_90 : decode cX12_strikes 90 = .ok (.aload_n 0, 1) := by decide +kernel
theorem dX12_strikes_91 : decode cX12_strikes 91 = .ok (.getfield 40, 3) := by decide +kernel
theorem dX12_strikes_94 : decode cX12_strikes 94 = .ok (.iload 5, 2) := by decide +kernel
theorem dX12_strikes_96 : decode cX12_strikes 96 = .ok (.iaload, 1) := by decide +kernel
theorem dX12_strikes_97 : decode cX12_strikes 97 = .ok (.if_icmp .lt 31, 3) := by decide +kernel
theorem dX12_strikes_100 : decode cX12_strikes 100 = .ok (.aload_n 0, 1) := by decide +kernel
theorem dX12_strikes_101 : decode cX12_strikes 101 = .ok (.getfield 40, 3) := by decide +kernel
theorem dX12_strikes_104 : decode cX12_strikes 104 = .ok (.iload 6, 2) := by decide +kernel
theorem dX12_strikes_106 : decode cX12_strikes 106 = .ok (.iaload, 1) := by decide +kernel
theorem dX12_strikes_107 : decode cX12_strikes 107 = .ok (.aload_n 0, 1) := by decide +kernel
theorem dX12_strikes_108 : decode cX12_strikes 108 = .ok (.getfield 40, 3) := by decide +kernel
theorem dX12_strikes_111 : decode cX12_strikes 111 = .ok (.iload 5, 2) := by decide +kernel
theorem dX12_strikes_113 : decode cX12_strikes 113 = .ok (.iaload, 1) := by decide +kernel
theorem dX12_strikes_114 : decode cX12_strikes 114 = .ok (.if_icmp .ne 18, 3) := by decide +kernel
theorem dX12_strikes_117 : decode cX12_strikes 117 = .ok (.aload_n 0, 1) := by decide +kernel
theorem dX12_strikes_118 : decode cX12_strikes 118 = .ok (.iload 5, 2) := by decide +kernel
theorem dX12_strikes_120 : decode cX12_strikes 120 = .ok (.iload 6, 2) := by decide +kernel
theorem dX12_strikes_122 : decode cX12_strikes 122 = .ok (.invokevirtual 274, 3) := by decide +kernel
theorem dX12_strikes_125 : decode cX12_strikes 125 = .ok (.ifCond .eq 7, 3) := by decide +kernel
theorem dX12_strikes_128 : decode cX12_strikes 128 = .ok (.iload 6, 2) := by decide +kernel
theorem dX12_strikes_130 : decode cX12_strikes 130 = .ok (.istore 5, 2) := by decide +kernel
theorem dX12_strikes_132 : decode cX12_strikes 132 = .ok (.iinc 6 1, 3) := by decide +kernel
theorem dX12_strikes_135 : decode cX12_strikes 135 = .ok (.goto (-81), 3) := by decide +kernel
theorem dX12_strikes_138 : decode cX12_strikes 138 = .ok (.aload_n 0, 1) := by decide +kernel
theorem dX12_strikes_139 : decode cX12_strikes 139 = .ok (.getfield 43, 3) := by decide +kernel
theorem dX12_strikes_142 : decode cX12_strikes 142 = .ok (.aload_n 0, 1) := by decide +kernel
theorem dX12_strikes_143 : decode cX12_strikes 143 = .ok (.getfield 294, 3) := by decide +kernel
theorem dX12_strikes_146 : decode cX12_strikes 146 = .ok (.iload 5, 2) := by decide +kernel
theorem dX12_strikes_148 : decode cX12_strikes 148 = .ok (.iastore, 1) := by decide +kernel
theorem dX12_strikes_149 : decode cX12_strikes 149 = .ok (.aload_n 0, 1) := by decide +kernel
theorem dX12_strikes_150 : decode cX12_strikes 150 = .ok (.dup, 1) := by decide +kernel
theorem dX12_strikes_151 : decode cX12_strikes 151 = .ok (.getfield 294, 3) := by decide +kernel
theorem dX12_strikes_154 : decode cX12_strikes 154 = .ok (.iconst 1, 1) := by decide +kernel
theorem dX12_strikes_155 : decode cX12_strikes 155 = .ok (.iadd, 1) := by decide +kernel
theorem dX12_strikes_156 : decode cX12_strikes 156 = .ok (.putfield 294, 3) := by decide +kernel
theorem dX12_strikes_159 : decode cX12_strikes 159 = .ok (.iload_n 3, 1) := by decide +kernel
theorem dX12_strikes_160 : decode cX12_strikes 160 = .ok (.iconst 1, 1) := by decide +kernel
theorem dX12_strikes_161 : decode cX12_strikes 161 = .ok (.iload 5, 2) := by decide +kernel
theorem dX12_strikes_163 : decode cX12_strikes 163 = .ok (.ishl, 1) := by decide +kernel
theorem dX12_strikes_164 : decode cX12_strikes 164 = .ok (.iconst (-1), 1) := by decide +kernel
theorem dX12_strikes_165 : decode cX12_strikes 165 = .ok (.ixor, 1) := by decide +kernel
theorem dX12_strikes_166 : decode cX12_strikes 166 = .ok (.iand, 1) := by decide +kernel
theorem dX12_strikes_167 : decode cX12_strikes 167 = .ok (.istore_n 3, 1) := by decide +kernel
theorem dX12_strikes_168 : decode cX12_strikes 168 = .ok (.goto (-161), 3) := by decide +kernel
theorem dX12_struck_0 : decode cX12_struck 0 = .ok (.aload_n 0, 1) := by decide +kernel
theorem dX12_struck_1 : decode cX12_struck 1 = .ok (.iload_n 1, 1) := by decide +kernel
theorem dX12_struck_2 : decode cX12_struck 2 = .ok (.invokevirtual 332, 3) := by decide +kernel
theorem dX12_struck_5 : decode cX12_struck 5 = .ok (.ifCond .ne 6, 3) := by decide +kernel
theorem dX12_struck_8 : decode cX12_struck 8 = .ok (.bipush (-2), 2) := by decide +kernel
theorem dX12_struck_10 : decode cX12_struck 10 = .ok (.ireturn, 1) := by decide +kernel
theorem dX12_struck_11 : decode cX12_struck 11 = .ok (.aload_n 0, 1) := by decide +kernel
theorem dX12_struck_12 : decode cX12_struck 12 = .ok (.invokevirtual 335, 3) := by decide +kernel
theorem dX12_struck_15 : decode cX12_struck 15 = .ok (.aload_n 0, 1) := by decide +kernel
theorem dX12_struck_16 : decode cX12_struck 16 = .ok (.iconst 0, 1) := by decide +kernel
theorem dX12_struck_17 : decode cX12_struck 17 = .ok (.putfield 294, 3) := by decide +kernel
theorem dX12_struck_20 : decode cX12_struck 20 = .ok (.aload_n 0, 1) := by decide +kernel
theorem dX12_struck_21 : decode cX12_struck 21 = .ok (.iload_n 1, 1) := by decide +kernel
theorem dX12_struck_22 : decode cX12_struck 22 = .ok (.iconst 2, 1) := by decide +kernel
theorem dX12_struck_23 : decode cX12_struck 23 = .ok (.invokevirtual 313, 3) := by decide +kernel
theorem dX12_struck_26 : decode cX12_struck 26 = .ok (.pop, 1) := by decide +kernel
theorem dX12_struck_27 : decode cX12_struck 27 = .ok (.iload_n 2, 1) := by decide +kernel
theorem dX12_struck_28 : decode cX12_struck 28 = .ok (.i2l, 1) := by decide +kernel
theorem dX12_struck_29 : decode cX12_struck 29 = .ok (.lconst 0, 1) := by decide +kernel
theorem dX12_struck_30 : decode cX12_struck 30 = .ok (.aload_n 0, 1) := by decide +kernel
theorem dX12_struck_31 : decode cX12_struck 31 = .ok (.getfield 294, 3) := by decide +kernel
theorem dX12_struck_34 : decode cX12_struck 34 = .ok (.iconst 1, 1) := by decide +kernel
theorem dX12_struck_35 : decode cX12_struck 35 = .ok (.isub, 1) := by decide +kernel
theorem dX12_struck_36 : decode cX12_struck 36 = .ok (.i2l, 1) := by decide +kernel
theorem dX12_struck_37 : decode cX12_struck 37 = .ok (.invokestatic 82, 3) := by decide +kernel
theorem dX12_struck_40 : decode cX12_struck 40 = .ok (.ifCond .eq 12, 3) := by decide +kernel
theorem dX12_struck_43 : decode cX12_struck 43 = .ok (.aload_n 0, 1) := by decide +kernel
theorem dX12_struck_44 : decode cX12_struck 44 = .ok (.getfield 43, 3) := by decide +kernel
theorem dX12_struck_47 : decode cX12_struck 47 = .ok (.iload_n 2, 1) := by decide +kernel
theorem dX12_struck_48 : decode cX12_struck 48 = .ok (.iaload, 1) := by decide +kernel
theorem dX12_struck_49 : decode cX12_struck 49 = .ok (.goto 4, 3) := by decide +kernel
theorem dX12_struck_52 : decode cX12_struck 52 = .ok (.iconst (-1), 1) := by decide +kernel
theorem dX12_struck_53 : decode cX12_struck 53 = .ok (.ireturn, 1) := by decide +kernel
theorem dX12_sure_0 : decode cX12_sure 0 = .ok (.aload_n 0, 1) := by decide +kernel
theorem dX12_sure_1 : decode cX12_sure 1 = .ok (.iload_n 1, 1) := by decide +kernel
theorem dX12_sure_2 : decode cX12_sure 2 = .ok (.iload_n 2, 1) := by decide +kernel
theorem dX12_sure_3 : decode cX12_sure 3 = .ok (.i2l, 1) := by decide +kernel
theorem dX12_sure_4 : decode cX12_sure 4 = .ok (.lconst 0, 1) := by decide +kernel
theorem dX12_sure_5 : decode cX12_sure 5 = .ok (.lconst 1, 1) := by decide +kernel
theorem dX12_sure_6 : decode cX12_sure 6 = .ok (.invokestatic 82, 3) := by decide +kernel
theorem dX12_sure_9 : decode cX12_sure 9 = .ok (.invokevirtual 448, 3) := by decide +kernel
theorem dX12_sure_12 : decode cX12_sure 12 = .ok (.istore_n 3, 1) := by decide +kernel
theorem dX12_sure_13 : decode cX12_sure 13 = .ok (.iload_n 3, 1) := by decide +kernel
theorem dX12_sure_14 : decode cX12_sure 14 = .ok (.ifCond .ge 5, 3) := by decide +kernel
theorem dX12_sure_17 : decode cX12_sure 17 = .ok (.iload_n 3, 1) := by decide +kernel
theorem dX12_sure_18 : decode cX12_sure 18 = .ok (.ireturn, 1) := by decide +kernel
theorem dX12_sure_19 : decode cX12_sure 19 = .ok (.aload_n 0, 1) := by decide +kernel
theorem dX12_sure_20 : decode cX12_sure 20 = .ok (.iload_n 1, 1) := by decide +kernel
theorem dX12_sure_21 : decode cX12_sure 21 = .ok (.invokevirtual 461, 3) := by decide +kernel
theorem dX12_sure_24 : decode cX12_sure 24 = .ok (.ifCond .ne 7, 3) := by decide +kernel
theorem dX12_sure_27 : decode cX12_sure 27 = .ok (.iconst 0, 1) := by decide +kernel
theorem dX12_sure_28 : decode cX12_sure 28 = .ok (.goto 18, 3) := by decide +kernel
theorem dX12_sure_31 : decode cX12_sure 31 = .ok (.iload_n 2, 1) := by decide +kernel
theorem dX12_sure_32 : decode cX12_sure 32 = .ok (.ifCond .ne 10, 3) := by decide +kernel
theorem dX12_sure_35 : decode cX12_sure 35 = .ok (.aload_n 0, 1) := by decide +kernel
theorem dX12_sure_36 : decode cX12_sure 36 = .ok (.getfield 455, 3) := by decide +kernel
theorem dX12_sure_39 : decode cX12_sure 39 = .ok (.goto 7, 3) := by decide +kernel
theorem dX12_sure_42 : decode cX12_sure 42 = .ok (.aload_n 0, 1) := by decide +kernel
theorem dX12_sure_43 : decode cX12_sure 43 = .ok (.getfield 458, 3) := by decide +kernel
theorem dX12_sure_46 : decode cX12_sure 46 = .ok (.ireturn, 1) := by decide +kernel
theorem dX12_synonyms_0 : decode cX12_synonyms 0 = .ok (.aload_n 0, 1) := by decide +kernel
theorem dX12_synonyms_1 : decode cX12_synonyms 1 = .ok (.iload_n 1, 1) := by decide +kernel
theorem dX12_synonyms_2 : decode cX12_synonyms 2 = .ok (.i2l, 1) := by decide +kernel
theorem dX12_synonyms_3 : decode cX12_synonyms 3 = .ok (.invokevirtual 322, 3) := by decide +kernel
theorem dX12_synonyms_6 : decode cX12_synonyms 6 = .ok (.ifCond .ne 6, 3) := by decide +kernel
theorem dX12_synonyms_9 : decode cX12_synonyms 9 = .ok (.bipush (-2), 2) := by decide +kernel
theorem dX12_synonyms_11 : decode cX12_synonyms 11 = .ok (.ireturn, 1) := by decide +kernel
theorem dX12_synonyms_12 : decode cX12_synonyms 12 = .ok (.iconst 0, 1) := by decide +kernel
theorem dX12_synonyms_13 : decode cX12_synonyms 13 = .ok (.istore_n 2, 1) := by decide +kernel
theorem dX12_synonyms_14 : decode cX12_synonyms 14 = .ok (.iconst 0, 1) := by decide +kernel
theorem dX12_synonyms_15 : decode cX12_synonyms 15 = .ok (.istore_n 3, 1) := by decide +kernel
theorem dX12_synonyms_16 : decode cX12_synonyms 16 = .ok (.iload_n 3, 1) := by decide +kernel
theorem dX12_synonyms_17 : decode cX12_synonyms 17 = .ok (.aload_n 0, 1) := by decide +kernel
theorem dX12_synonyms_18 : decode cX12_synonyms 18 = .ok (.getfield 9, 3) := by decide +kernel
theorem dX12_synonyms_21 : decode cX12_synonyms 21 = .ok (.iconst 5, 1) := by decide +kernel
theorem dX12_synonyms_22 : decode cX12_synonyms 22 = .ok (.iaload, 1) := by decide +kernel
theorem dX12_synonyms_23 : decode cX12_synonyms 23 = .ok (.if_icmp .ge 62, 3) := by decide +kernel
theorem dX12_synonyms_26 : decode cX12_synonyms 26 = .ok (.iload_n 2, 1) := by decide +kernel
theorem dX12_synonyms_27 : decode cX12_synonyms 27 = .ok (.iload_n 3, 1) := by decide +kernel
theorem dX12_synonyms_28 : decode cX12_synonyms 28 = .ok (.iload_n 1, 1) := by decide +kernel
theorem dX12_synonyms_29 : decode cX12_synonyms 29 = .ok (.if_icmp .eq 47, 3) := by decide +kernel
theorem dX12_synonyms_32 : decode cX12_synonyms 32 = .ok (.aload_n 0, 1) := by decide +kernel
theorem dX12_synonyms_33 : decode cX12_synonyms 33 = .ok (.iload_n 3, 1) := by decide +kernel
theorem dX12_synonyms_34 : decode cX12_synonyms 34 = .ok (.invokevirtual 341, 3) := by decide +kernel
theorem dX12_synonyms_37 : decode cX12_synonyms 37 = .ok (.ifCond .ne 39, 3) := by decide +kernel
theorem dX12_synonyms_40 : decode cX12_synonyms 40 = .ok (.aload_n 0, 1) := by decide +kernel
theorem dX12_synonyms_41 : decode cX12_synonyms 41 = .ok (.iload_n 3, 1) := by decide +kernel
theorem dX12_synonyms_42 : decode cX12_synonyms 42 = .ok (.iconst 1, 1) := by decide +kernel
theorem dX12_synonyms_43 : decode cX12_synonyms 43 = .ok (.invokevirtual 262, 3) := by decide +kernel
theorem dX12_synonyms_46 : decode cX12_synonyms 46 = .ok (.aload_n 0, 1) := by decide +kernel
theorem dX12_synonyms_47 : decode cX12_synonyms 47 = .ok (.iload_n 1, 1) := by decide +kernel
theorem dX12_synonyms_48 : decode cX12_synonyms 48 = .ok (.iconst 1, 1) := by decide +kernel
theorem dX12_synonyms_49 : decode cX12_synonyms 49 = .ok (.invokevirtual 262, 3) := by decide +kernel
theorem dX12_synonyms_52 : decode cX12_synonyms 52 = .ok (.if_icmp .ne 24, 3) := by decide +kernel
theorem dX12_synonyms_55 : decode cX12_synonyms 55 = .ok (.aload_n 0, 1) := by decide +kernel
theorem dX12_synonyms_56 : decode cX12_synonyms 56 = .ok (.iload_n 3, 1) := by decide +kernel
theorem dX12_synonyms_57 : decode cX12_synonyms 57 = .ok (.iconst 3, 1) := by decide +kernel
theorem dX12_synonyms_58 : decode cX12_synonyms 58 = .ok (.invokevirtual 262, 3) := by decide +kernel
theorem dX12_synonyms_61 : decode cX12_synonyms 61 = .ok (.aload_n 0, 1) := by decide +kernel
theorem dX12_synonyms_62 : decode cX12_synonyms 62 = .ok (.iload_n 1, 1) := by decide +kernel
theorem dX12_synonyms_63 : decode cX12_synonyms 63 = .ok (.iconst 3, 1) := by decide +kernel
theorem dX12_synonyms_64 : decode cX12_synonyms 64 = .ok (.invokevirtual 262, 3) := by decide +kernel
theorem dX12_synonyms_67 : decode cX12_synonyms 67 = .ok (.if_icmp .ne 9, 3) := by decide +kernel
theorem dX12_synonyms_70 : decode cX12_synonyms 70 = .ok (.iconst 1, 1) := by decide +kernel
theorem dX12_synonyms_71 : decode cX12_synonyms 71 = .ok (.iload_n 3, 1) := by decide +kernel
theorem dX12_synonyms_72 : decode cX12_synonyms 72 = .ok (.ishl, 1) := by decide +kernel
theorem dX12_synonyms_73 : decode cX12_synonyms 73 = .ok (.goto 4, 3) := by decide +kernel
theorem dX12_synonyms_76 : decode cX12_synonyms 76 = .ok (.iconst 0, 1) := by decide +kernel
theorem dX12_synonyms_77 : decode cX12_synonyms 77 = .ok (.ior, 1) := by decide +kernel
theorem dX12_synonyms_78 : decode cX12_synonyms 78 = .ok (.istore_n 2, 1) := by decide +kernel
theorem dX12_synonyms_79 : decode cX12_synonyms 79 = .ok (.iinc 3 1, 3) := by decide +kernel
theorem dX12_synonyms_82 : decode cX12_synonyms 82 = .ok (.goto (-66), 3) := by decide +kernel
theorem dX12_synonyms_85 : decode cX12_synonyms 85 = .ok (.iload_n 2, 1) := by decide +kernel
theorem dX12_synonyms_86 : decode cX12_synonyms 86 = .ok (.ireturn, 1) := by decide +kernel
theorem dX12_takes_0 : decode cX12_takes 0 = .ok (.aload_n 0, 1) := by decide +kernel
theorem dX12_takes_1 : decode cX12_takes 1 = .ok (.aload_n 1, 1) := by decide +kernel
theorem dX12_takes_2 : decode cX12_takes 2 = .ok (.invokevirtual 148, 3) := by decide +kernel
theorem dX12_takes_5 : decode cX12_takes 5 = .ok (.istore_n 2, 1) := by decide +kernel
theorem dX12_takes_6 : decode cX12_takes 6 = .ok (.iload_n 2, 1) := by decide +kernel
theorem dX12_takes_7 : decode cX12_takes 7 = .ok (.ifCond .eq 7, 3) := by decide +kernel
theorem dX12_takes_10 : decode cX12_takes 10 = .ok (.aload_n 0, 1) := by decide +kernel
theorem dX12_takes_11 : decode cX12_takes 11 = .ok (.invokevirtual 152, 3) := by decide +kernel
theorem dX12_takes_14 : decode cX12_takes 14 = .ok (.iload_n 2, 1) := by decide +kernel
theorem dX12_takes_15 : decode cX12_takes 15 = .ok (.ireturn, 1) := by decide +kernel
theorem dX12_term_0 : decode cX12_term 0 = .ok (.aload_n 0, 1) := by decide +kernel
theorem dX12_term_1 : decode cX12_term 1 = .ok (.invokevirtual 347, 3) := by decide +kernel
theorem dX12_term_4 : decode cX12_term 4 = .ok (.ifCond .ne 6, 3) := by decide +kernel
theorem dX12_term_7 : decode cX12_term 7 = .ok (.bipush (-2), 2) := by decide +kernel
theorem dX12_term_9 : decode cX12_term 9 = .ok (.ireturn, 1) := by decide +kernel
theorem dX12_term_10 : decode cX12_term 10 = .ok (.aload_n 0, 1) := by decide +kernel
theorem dX12_term_11 : decode cX12_term 11 = .ok (.getfield 9, 3) := by decide +kernel
theorem dX12_term_14 : decode cX12_term 14 = .ok (.bipush 8, 2) := by decide +kernel
theorem dX12_term_16 : decode cX12_term 16 = .ok (.iaload, 1) := by decide +kernel
theorem dX12_term_17 : decode cX12_term 17 = .ok (.bipush 60, 2) := by decide +kernel
theorem dX12_term_19 : decode cX12_term 19 = .ok (.if_icmp .ne 6, 3) := by decide +kernel
theorem dX12_term_22 : decode cX12_term 22 = .ok (.bipush (-5), 2) := by decide +kernel
theorem dX12_term_24 : decode cX12_term 24 = .ok (.ireturn, 1) := by decide +kernel
theorem dX12_term_25 : decode cX12_term 25 = .ok (.bipush 121, 2) := by decide +kernel
theorem dX12_term_27 : decode cX12_term 27 = .ok (.bipush 12, 2) := by decide +kernel
theorem dX12_term_29 : decode cX12_term 29 = .ok (.aload_n 0, 1) := by decide +kernel
theorem dX12_term_30 : decode cX12_term 30 = .ok (.getfield 9, 3) := by decide +kernel
theorem dX12_term_33 : decode cX12_term 33 = .ok (.bipush 8, 2) := by decide +kernel
theorem dX12_term_35 : decode cX12_term 35 = .ok (.iaload, 1) := by decide +kernel
theorem dX12_term_36 : decode cX12_term 36 = .ok (.imul, 1) := by decide +kernel
theorem dX12_term_37 : decode cX12_term 37 = .ok (.iadd, 1) := by decide +kernel
theorem dX12_term_38 : decode cX12_term 38 = .ok (.istore_n 1, 1) := by decide +kernel
theorem dX12_term_39 : decode cX12_term 39 = .ok (.aload_n 0, 1) := by decide +kernel
theorem dX12_term_40 : decode cX12_term 40 = .ok (.getfield 9, 3) := by decide +kernel
theorem dX12_term_43 : decode cX12_term 43 = .ok (.iload_n 1, 1) := by decide +kernel
theorem dX12_term_44 : decode cX12_term 44 = .ok (.iconst 1, 1) := by decide +kernel
theorem dX12_term_45 : decode cX12_term 45 = .ok (.iadd, 1) := by decide +kernel
theorem dX12_term_46 : decode cX12_term 46 = .ok (.aload_n 0, 1) := by decide +kernel
theorem dX12_term_47 : decode cX12_term 47 = .ok (.getfield 9, 3) := by decide +kernel
theorem dX12_term_50 : decode cX12_term 50 = .ok (.bipush 11, 2) := by decide +kernel
theorem dX12_term_52 : decode cX12_term 52 = .ok (.iaload, 1) := by decide +kernel
theorem dX12_term_53 : decode cX12_term 53 = .ok (.iastore, 1) := by decide +kernel
theorem dX12_term_54 : decode cX12_term 54 = .ok (.aload_n 0, 1) := by decide +kernel
theorem dX12_term_55 : decode cX12_term 55 = .ok (.getfield 9, 3) := by decide +kernel
theorem dX12_term_58 : decode cX12_term 58 = .ok (.iload_n 1, 1) := by decide +kernel
theorem dX12_term_59 : decode cX12_term 59 = .ok (.iconst 2, 1) := by decide +kernel
theorem dX12_term_60 : decode cX12_term 60 = .ok (.iadd, 1) := by decide +kernel
theorem dX12_term_61 : decode cX12_term 61 = .ok (.aload_n 0, 1) := by decide +kernel
theorem dX12_term_62 : decode cX12_term 62 = .ok (.getfield 9, 3) := by decide +kernel
theorem dX12_term_65 : decode cX12_term 65 = .ok (.bipush 10, 2) := by decide +kernel
theorem dX12_term_67 : decode cX12_term 67 = .ok (.iaload, 1) := by decide +kernel
theorem dX12_term_68 : decode cX12_term 68 = .ok (.iastore, 1) := by decide +kernel
theorem dX12_term_69 : decode cX12_term 69 = .ok (.iconst 0, 1) := by decide +kernel
theorem dX12_term_70 : decode cX12_term 70 = .ok (.istore_n 2, 1) := by decide +kernel
theorem dX12_term_71 : decode cX12_term 71 = .ok (.iload_n 2, 1) := by decide +kernel
theorem dX12_term_72 : decode cX12_term 72 = .ok (.bipush 9, 2) := by decide +kernel
theorem dX12_term_74 : decode cX12_term 74 = .ok (.if_icmp .ge 28, 3) := by decide +kernel
theorem dX12_term_77 : decode cX12_term 77 = .ok (.aload_n 0, 1) := by decide +kernel
theorem dX12_term_78 : decode cX12_term 78 = .ok (.getfield 9, 3) := by decide +kernel
theorem dX12_term_81 : decode cX12_term 81 = .ok (.iload_n 1, 1) := by decide +kernel
theorem dX12_term_82 : decode cX12_term 82 = .ok (.iconst 3, 1) := by decide +kernel
theorem dX12_term_83 : decode cX12_term 83 = .ok (.iadd, 1) := by decide +kernel
theorem dX12_term_84 : decode cX12_term 84 = .ok (.iload_n 2, 1) := by decide +kernel
theorem dX12_term_85 : decode cX12_term 85 = .ok (.iadd, 1) := by decide +kernel
theorem dX12_term_86 : decode cX12_term 86 = .ok (.aload_n 0, 1) := by decide +kernel
theorem dX12_term_87 : decode cX12_term 87 = .ok (.getfield 9, 3) := by decide +kernel
theorem dX12_term_90 : decode cX12_term 90 = .ok (.bipush 112, 2) := by decide +kernel
theorem dX12_term_92 : decode cX12_term 92 = .ok (.iload_n 2, 1) := by decide +kernel
theorem dX12_term_93 : decode cX12_term 93 = .ok (.iadd, 1) := by decide +kernel
theorem dX12_term_94 : decode cX12_term 94 = .ok (.iaload, 1) := by decide +kernel
theorem dX12_term_95 : decode cX12_term 95 = .ok (.iastore, 1) := by decide +kernel
theorem dX12_term_96 : decode cX12_term 96 = .ok (.iinc 2 1, 3) := by decide +kernel
theorem dX12_term_99 : decode cX12_term 99 = .ok (.goto (-28), 3) := by decide +kernel
theorem dX12_term_102 : decode cX12_term 102 = .ok (.aload_n 0, 1) := by decide +kernel
theorem dX12_term_103 : decode cX12_term 103 = .ok (.invokevirtual 356, 3) := by decide +kernel
theorem dX12_term_106 : decode cX12_term 106 = .ok (.aload_n 0, 1) := by decide +kernel
theorem dX12_term_107 : decode cX12_term 107 = .ok (.getfield 9, 3) := by decide +kernel
theorem dX12_term_110 : decode cX12_term 110 = .ok (.iload_n 1, 1) := by decide +kernel
theorem dX12_term_111 : decode cX12_term 111 = .ok (.aload_n 0, 1) := by decide +kernel
theorem dX12_term_112 : decode cX12_term 112 = .ok (.getfield 9, 3) := by decide +kernel
theorem dX12_term_115 : decode cX12_term 115 = .ok (.bipush 10, 2) := by decide +kernel
theorem dX12_term_117 : decode cX12_term 117 = .ok (.iaload, 1) := by decide +kernel
theorem dX12_term_118 : decode cX12_term 118 = .ok (.iastore, 1) := by decide +kernel
theorem dX12_term_119 : decode cX12_term 119 = .ok (.aload_n 0, 1) := by decide +kernel
theorem dX12_term_120 : decode cX12_term 120 = .ok (.getfield 9, 3) := by decide +kernel
theorem dX12_term_123 : decode cX12_term 123 = .ok (.bipush 8, 2) := by decide +kernel
theorem dX12_term_125 : decode cX12_term 125 = .ok (.dup2, 1) := by decide +kernel
theorem dX12_term_126 : decode cX12_term 126 = .ok (.iaload, 1) := by decide +kernel
theorem dX12_term_127 : decode cX12_term 127 = .ok (.iconst 1, 1) := by decide +kernel
theorem dX12_term_128 : decode cX12_term 128 = .ok (.iadd, 1) := by decide +kernel
theorem dX12_term_129 : decode cX12_term 129 = .ok (.iastore, 1) := by decide +kernel
theorem dX12_term_130 : decode cX12_term 130 = .ok (.aload_n 0, 1) := by decide +kernel
theorem dX12_term_131 : decode cX12_term 131 = .ok (.getfield 9, 3) := by decide +kernel
theorem dX12_term_134 : decode cX12_term 134 = .ok (.bipush 10, 2) := by decide +kernel
theorem dX12_term_136 : decode cX12_term 136 = .ok (.iaload, 1) := by decide +kernel
theorem dX12_term_137 : decode cX12_term 137 = .ok (.invokestatic 265, 3) := by decide +kernel
theorem dX12_term_140 : decode cX12_term 140 = .ok (.ireturn, 1) := by decide +kernel
theorem dX12_told_0 : decode cX12_told 0 = .ok (.aload_n 0, 1) := by decide +kernel
theorem dX12_told_1 : decode cX12_told 1 = .ok (.aload_n 1, 1) := by decide +kernel
theorem dX12_told_2 : decode cX12_told 2 = .ok (.invokevirtual 162, 3) := by decide +kernel
theorem dX12_told_5 : decode cX12_told 5 = .ok (.aload_n 0, 1) := by decide +kernel
theorem dX12_told_6 : decode cX12_told 6 = .ok (.iload_n 2, 1) := by decide +kernel
theorem dX12_told_7 : decode cX12_told 7 = .ok (.iload_n 3, 1) := by decide +kernel
theorem dX12_told_8 : decode cX12_told 8 = .ok (.invokevirtual 166, 3) := by decide +kernel
theorem dX12_told_11 : decode cX12_told 11 = .ok (.ireturn, 1) := by decide +kernel
theorem dX12_undo_0 : decode cX12_undo 0 = .ok (.aload_n 0, 1) := by decide +kernel
theorem dX12_undo_1 : decode cX12_undo 1 = .ok (.invokevirtual 347, 3) := by decide +kernel
theorem dX12_undo_4 : decode cX12_undo 4 = .ok (.ifCond .ne 6, 3) := by decide +kernel
theorem dX12_undo_7 : decode cX12_undo 7 = .ok (.bipush (-2), 2) := by decide +kernel
theorem dX12_undo_9 : decode cX12_undo 9 = .ok (.ireturn, 1) := by decide +kernel
theorem dX12_undo_10 : decode cX12_undo 10 = .ok (.aload_n 0, 1) := by decide +kernel
theorem dX12_undo_11 : decode cX12_undo 11 = .ok (.getfield 9, 3) := by decide +kernel
theorem dX12_undo_14 : decode cX12_undo 14 = .ok (.bipush 8, 2) := by decide +kernel
theorem dX12_undo_16 : decode cX12_undo 16 = .ok (.iaload, 1) := by decide +kernel
theorem dX12_undo_17 : decode cX12_undo 17 = .ok (.ifCond .ne 6, 3) := by decide +kernel
theorem dX12_undo_20 : decode cX12_undo 20 = .ok (.bipush (-5), 2) := by decide +kernel
theorem dX12_undo_22 : decode cX12_undo 22 = .ok (.ireturn, 1) := by decide +kernel
theorem dX12_undo_23 : decode cX12_undo 23 = .ok (.aload_n 0, 1) := by decide +kernel
theorem dX12_undo_24 : decode cX12_undo 24 = .ok (.getfield 9, 3) := by decide +kernel
theorem dX12_undo_27 : decode cX12_undo 27 = .ok (.bipush 8, 2) := by decide +kernel
theorem dX12_undo_29 : decode cX12_undo 29 = .ok (.dup2, 1) := by decide +kernel
theorem dX12_undo_30 : decode cX12_undo 30 = .ok (.iaload, 1) := by decide +kernel
theorem dX12_undo_31 : decode cX12_undo 31 = .ok (.iconst 1, 1) := by decide +kernel
theorem dX12_undo_32 : decode cX12_undo 32 = .ok (.isub, 1) := by decide +kernel
theorem dX12_undo_33 : decode cX12_undo 33 = .ok (.iastore, 1) := by decide +kernel
theorem dX12_undo_34 : decode cX12_undo 34 = .ok (.bipush 121, 2) := by decide +kernel
theorem dX12_undo_36 : decode cX12_undo 36 = .ok (.bipush 12, 2) := by decide +kernel
theorem dX12_undo_38 : decode cX12_undo 38 = .ok (.aload_n 0, 1) := by decide +kernel
theorem dX12_undo_39 : decode cX12_undo 39 = .ok (.getfield 9, 3) := by decide +kernel
theorem dX12_undo_42 : decode cX12_undo 42 = .ok (.bipush 8, 2) := by decide +kernel
theorem dX12_undo_44 : decode cX12_undo 44 = .ok (.iaload, 1) := by decide +kernel
theorem dX12_undo_45 : decode cX12_undo 45 = .ok (.imul, 1) := by decide +kernel
theorem dX12_undo_46 : decode cX12_undo 46 = .ok (.iadd, 1) := by decide +kernel
theorem dX12_undo_47 : decode cX12_undo 47 = .ok (.istore_n 1, 1) := by decide +kernel
theorem dX12_undo_48 : decode cX12_undo 48 = .ok (.aload_n 0, 1) := by decide +kernel
theorem dX12_undo_49 : decode cX12_undo 49 = .ok (.getfield 9, 3) := by decide +kernel
theorem dX12_undo_52 : decode cX12_undo 52 = .ok (.bipush 11, 2) := by decide +kernel
theorem dX12_undo_54 : decode cX12_undo 54 = .ok (.aload_n 0, 1) := by decide +kernel
theorem dX12_undo_55 : decode cX12_undo 55 = .ok (.getfield 9, 3) := by decide +kernel
theorem dX12_undo_58 : decode cX12_undo 58 = .ok (.iload_n 1, 1) := by decide +kernel
theorem dX12_undo_59 : decode cX12_undo 59 = .ok (.iconst 1, 1) := by decide +kernel
theorem dX12_undo_60 : decode cX12_undo 60 = .ok (.iadd, 1) := by decide +kernel
theorem dX12_undo_61 : decode cX12_undo 61 = .ok (.iaload, 1) := by decide +kernel
theorem dX12_undo_62 : decode cX12_undo 62 = .ok (.iastore, 1) := by decide +kernel
theorem dX12_undo_63 : decode cX12_undo 63 = .ok (.aload_n 0, 1) := by decide +kernel
theorem dX12_undo_64 : decode cX12_undo 64 = .ok (.getfield 9, 3) := by decide +kernel
theorem dX12_undo_67 : decode cX12_undo 67 = .ok (.bipush 10, 2) := by decide +kernel
theorem dX12_undo_69 : decode cX12_undo 69 = .ok (.aload_n 0, 1) := by decide +kernel
theorem dX12_undo_70 : decode cX12_undo 70 = .ok (.getfield 9, 3) := by decide +kernel
theorem dX12_undo_73 : decode cX12_undo 73 = .ok (.iload_n 1, 1) := by decide +kernel
theorem dX12_undo_74 : decode cX12_undo 74 = .ok (.iconst 2, 1) := by decide +kernel
theorem dX12_undo_75 : decode cX12_undo 75 = .ok (.iadd, 1) := by decide +kernel
theorem dX12_undo_76 : decode cX12_undo 76 = .ok (.iaload, 1) := by decide +kernel
theorem dX12_undo_77 : decode cX12_undo 77 = .ok (.iastore, 1) := by decide +kernel
theorem dX12_undo_78 : decode cX12_undo 78 = .ok (.iconst 0, 1) := by decide +kernel
theorem dX12_undo_79 : decode cX12_undo 79 = .ok (.istore_n 2, 1) := by decide +kernel
theorem dX12_undo_80 : decode cX12_undo 80 = .ok (.iload_n 2, 1) := by decide +kernel
theorem dX12_undo_81 : decode cX12_undo 81 = .ok (.bipush 9, 2) := by decide +kernel
theorem dX12_undo_83 : decode cX12_undo 83 = .ok (.if_icmp .ge 28, 3) := by decide +kernel
theorem dX12_undo_86 : decode cX12_undo 86 = .ok (.aload_n 0, 1) := by decide +kernel
theorem dX12_undo_87 : decode cX12_undo 87 = .ok (.getfield 9, 3) := by decide +kernel
theorem dX12_undo_90 : decode cX12_undo 90 = .ok (.bipush 112, 2) := by decide +kernel
theorem dX12_undo_92 : decode cX12_undo 92 = .ok (.iload_n 2, 1) := by decide +kernel
theorem dX12_undo_93 : decode cX12_undo 93 = .ok (.iadd, 1) := by decide +kernel
theorem dX12_undo_94 : decode cX12_undo 94 = .ok (.aload_n 0, 1) := by decide +kernel
theorem dX12_undo_95 : decode cX12_undo 95 = .ok (.getfield 9, 3) := by decide +kernel
theorem dX12_undo_98 : decode cX12_undo 98 = .ok (.iload_n 1, 1) := by decide +kernel
theorem dX12_undo_99 : decode cX12_undo 99 = .ok (.iconst 3, 1) := by decide +kernel
theorem dX12_undo_100 : decode cX12_undo 100 = .ok (.iadd, 1) := by decide +kernel
theorem dX12_undo_101 : decode cX12_undo 101 = .ok (.iload_n 2, 1) := by decide +kernel
theorem dX12_undo_102 : decode cX12_undo 102 = .ok (.iadd, 1) := by decide +kernel
theorem dX12_undo_103 : decode cX12_undo 103 = .ok (.iaload, 1) := by decide +kernel
theorem dX12_undo_104 : decode cX12_undo 104 = .ok (.iastore, 1) := by decide +kernel
theorem dX12_undo_105 : decode cX12_undo 105 = .ok (.iinc 2 1, 3) := by decide +kernel
theorem dX12_undo_108 : decode cX12_undo 108 = .ok (.goto (-28), 3) := by decide +kernel
theorem dX12_undo_111 : decode cX12_undo 111 = .ok (.aload_n 0, 1) := by decide +kernel
theorem dX12_undo_112 : decode cX12_undo 112 = .ok (.getfield 9, 3) := by decide +kernel
theorem dX12_undo_115 : decode cX12_undo 115 = .ok (.bipush 8, 2) := by decide +kernel
theorem dX12_undo_117 : decode cX12_undo 117 = .ok (.iaload, 1) := by decide +kernel
theorem dX12_undo_118 : decode cX12_undo 118 = .ok (.ireturn, 1) := by decide +kernel
theorem dX12_unlike_0 : decode cX12_unlike 0 = .ok (.aload_n 0, 1) := by decide +kernel
theorem dX12_unlike_1 : decode cX12_unlike 1 = .ok (.invokevirtual 135, 3) := by decide +kernel
theorem dX12_unlike_4 : decode cX12_unlike 4 = .ok (.ifCond .eq 24, 3) := by decide +kernel
theorem dX12_unlike_7 : decode cX12_unlike 7 = .ok (.aload_n 0, 1) := by decide +kernel
theorem dX12_unlike_8 : decode cX12_unlike 8 = .ok (.getfield 112, 3) := by decide +kernel
theorem dX12_unlike_11 : decode cX12_unlike 11 = .ok (.iconst 2, 1) := by decide +kernel
theorem dX12_unlike_12 : decode cX12_unlike 12 = .ok (.if_icmp .ne 16, 3) := by decide +kernel
theorem dX12_unlike_15 : decode cX12_unlike 15 = .ok (.aload_n 0, 1) := by decide +kernel
theorem dX12_unlike_16 : decode cX12_unlike 16 = .ok (.getfield 123, 3) := by decide +kernel
theorem dX12_unlike_19 : decode cX12_unlike 19 = .ok (.iload_n 1, 1) := by decide +kernel
theorem dX12_unlike_20 : decode cX12_unlike 20 = .ok (.if_icmp .ne 8, 3) := by decide +kernel
theorem dX12_unlike_23 : decode cX12_unlike 23 = .ok (.aload_n 0, 1) := by decide +kernel
theorem dX12_unlike_24 : decode cX12_unlike 24 = .ok (.iconst 2, 1) := by decide +kernel
theorem dX12_unlike_25 : decode cX12_unlike 25 = .ok (.invokevirtual 158, 3) := by decide +kernel
theorem dX12_unlike_28 : decode cX12_unlike 28 = .ok (.aload_n 0, 1) := by decide +kernel
theorem dX12_unlike_29 : decode cX12_unlike 29 = .ok (.invokevirtual 169, 3) := by decide +kernel
theorem dX12_unlike_32 : decode cX12_unlike 32 = .ok (.ireturn, 1) := by decide +kernel
theorem dX12_unlike__0 : decode cX12_unlike_ 0 = .ok (.aload_n 0, 1) := by decide +kernel
theorem dX12_unlike__1 : decode cX12_unlike_ 1 = .ok (.invokevirtual 347, 3) := by decide +kernel
theorem dX12_unlike__4 : decode cX12_unlike_ 4 = .ok (.ifCond .eq 17, 3) := by decide +kernel
theorem dX12_unlike__7 : decode cX12_unlike_ 7 = .ok (.iload_n 1, 1) := by decide +kernel
theorem dX12_unlike__8 : decode cX12_unlike_ 8 = .ok (.invokestatic 338, 3) := by decide +kernel
theorem dX12_unlike__11 : decode cX12_unlike_ 11 = .ok (.ifCond .eq 10, 3) := by decide +kernel
theorem dX12_unlike__14 : decode cX12_unlike_ 14 = .ok (.iload_n 2, 1) := by decide +kernel
theorem dX12_unlike__15 : decode cX12_unlike_ 15 = .ok (.invokestatic 338, 3) := by decide +kernel
theorem dX12_unlike__18 : decode cX12_unlike_ 18 = .ok (.ifCond .ne 6, 3) := by decide +kernel
theorem dX12_unlike__21 : decode cX12_unlike_ 21 = .ok (.bipush (-2), 2) := by decide +kernel
theorem dX12_unlike__23 : decode cX12_unlike_ 23 = .ok (.ireturn, 1) := by decide +kernel
theorem dX12_unlike__24 : decode cX12_unlike_ 24 = .ok (.aload_n 0, 1) := by decide +kernel
theorem dX12_unlike__25 : decode cX12_unlike_ 25 = .ok (.invokevirtual 335, 3) := by decide +kernel
theorem dX12_unlike__28 : decode cX12_unlike_ 28 = .ok (.iconst 0, 1) := by decide +kernel
theorem dX12_unlike__29 : decode cX12_unlike_ 29 = .ok (.istore_n 3, 1) := by decide +kernel
theorem dX12_unlike__30 : decode cX12_unlike_ 30 = .ok (.iconst 0, 1) := by decide +kernel
theorem dX12_unlike__31 : decode cX12_unlike_ 31 = .ok (.istore 4, 2) := by decide +kernel
theorem dX12_unlike__33 : decode cX12_unlike_ 33 = .ok (.iload 4, 2) := by decide +kernel
theorem dX12_unlike__35 : decode cX12_unlike_ 35 = .ok (.aload_n 0, 1) := by decide +kernel
theorem dX12_unlike__36 : decode cX12_unlike_ 36 = .ok (.getfield 9, 3) := by decide +kernel
theorem dX12_unlike__39 : decode cX12_unlike_ 39 = .ok (.iconst 4, 1) := by decide +kernel
theorem dX12_unlike__40 : decode cX12_unlike_ 40 = .ok (.iaload, 1) := by decide +kernel
theorem dX12_unlike__41 : decode cX12_unlike_ 41 = .ok (.if_icmp .ge 34, 3) := by decide +kernel
theorem dX12_unlike__44 : decode cX12_unlike_ 44 = .ok (.iload_n 3, 1) := by decide +kernel
theorem dX12_unlike__45 : decode cX12_unlike_ 45 = .ok (.aload_n 0, 1) := by decide +kernel
theorem dX12_unlike__46 : decode cX12_unlike_ 46 = .ok (.iload 4, 2) := by decide +kernel
theorem dX12_unlike__48 : decode cX12_unlike_ 48 = .ok (.iload_n 1, 1) := by decide +kernel
theorem dX12_unlike__49 : decode cX12_unlike_ 49 = .ok (.invokevirtual 319, 3) := by decide +kernel
theorem dX12_unlike__52 : decode cX12_unlike_ 52 = .ok (.aload_n 0, 1) := by decide +kernel
theorem dX12_unlike__53 : decode cX12_unlike_ 53 = .ok (.iload 4, 2) := by decide +kernel
theorem dX12_unlike__55 : decode cX12_unlike_ 55 = .ok (.iload_n 2, 1) := by decide +kernel
theorem dX12_unlike__56 : decode cX12_unlike_ 56 = .ok (.invokevirtual 319, 3) := by decide +kernel
theorem dX12_unlike__59 : decode cX12_unlike_ 59 = .ok (.if_icmp .ne 7, 3) := by decide +kernel
theorem dX12_unlike__62 : decode cX12_unlike_ 62 = .ok (.iconst 0, 1) := by decide +kernel
theorem dX12_unlike__63 : decode cX12_unlike_ 63 = .ok (.goto 4, 3) := by decide +kernel
theorem dX12_unlike__66 : decode cX12_unlike_ 66 = .ok (.iconst 1, 1) := by decide +kernel
theorem dX12_unlike__67 : decode cX12_unlike_ 67 = .ok (.iadd, 1) := by decide +kernel
theorem dX12_unlike__68 : decode cX12_unlike_ 68 = .ok (.istore_n 3, 1) := by decide +kernel
theorem dX12_unlike__69 : decode cX12_unlike_ 69 = .ok (.iinc 4 1, 3) := by decide +kernel
theorem dX12_unlike__72 : decode cX12_unlike_ 72 = .ok (.goto (-39), 3) := by decide +kernel
theorem dX12_unlike__75 : decode cX12_unlike_ 75 = .ok (.iload_n 3, 1) := by decide +kernel
theorem dX12_unlike__76 : decode cX12_unlike_ 76 = .ok (.ireturn, 1) := by decide +kernel
theorem dX12_votes_0 : decode cX12_votes 0 = .ok (.aload_n 0, 1) := by decide +kernel
theorem dX12_votes_1 : decode cX12_votes 1 = .ok (.iload_n 1, 1) := by decide +kernel
theorem dX12_votes_2 : decode cX12_votes 2 = .ok (.i2l, 1) := by decide +kernel
theorem dX12_votes_3 : decode cX12_votes 3 = .ok (.invokevirtual 322, 3) := by decide +kernel
theorem dX12_votes_6 : decode cX12_votes 6 = .ok (.ifCond .ne 6, 3) := by decide +kernel
theorem dX12_votes_9 : decode cX12_votes 9 = .ok (.bipush (-2), 2) := by decide +kernel
theorem dX12_votes_11 : decode cX12_votes 11 = .ok (.ireturn, 1) := by decide +kernel
theorem dX12_votes_12 : decode cX12_votes 12 = .ok (.aload_n 0, 1) := by decide +kernel
theorem dX12_votes_13 : decode cX12_votes 13 = .ok (.invokevirtual 335, 3) := by decide +kernel
theorem dX12_votes_16 : decode cX12_votes 16 = .ok (.aload_n 0, 1) := by decide +kernel
theorem dX12_votes_17 : decode cX12_votes 17 = .ok (.aload_n 0, 1) := by decide +kernel
theorem dX12_votes_18 : decode cX12_votes 18 = .ok (.iload_n 1, 1) := by decide +kernel
theorem dX12_votes_19 : decode cX12_votes 19 = .ok (.iconst 1, 1) := by decide +kernel
theorem dX12_votes_20 : decode cX12_votes 20 = .ok (.invokevirtual 262, 3) := by decide +kernel
theorem dX12_votes_23 : decode cX12_votes 23 = .ok (.aload_n 0, 1) := by decide +kernel
theorem dX12_votes_24 : decode cX12_votes 24 = .ok (.aload_n 0, 1) := by decide +kernel
theorem dX12_votes_25 : decode cX12_votes 25 = .ok (.iload_n 1, 1) := by decide +kernel
theorem dX12_votes_26 : decode cX12_votes 26 = .ok (.iconst 1, 1) := by decide +kernel
theorem dX12_votes_27 : decode cX12_votes 27 = .ok (.invokevirtual 262, 3) := by decide +kernel
theorem dX12_votes_30 : decode cX12_votes 30 = .ok (.invokevirtual 304, 3) := by decide +kernel
theorem dX12_votes_33 : decode cX12_votes 33 = .ok (.iconst 0, 1) := by decide +kernel
theorem dX12_votes_34 : decode cX12_votes 34 = .ok (.invokevirtual 297, 3) := by decide +kernel
theorem dX12_votes_37 : decode cX12_votes 37 = .ok (.aload_n 0, 1) := by decide +kernel
theorem dX12_votes_38 : decode cX12_votes 38 = .ok (.getfield 40, 3) := by decide +kernel
theorem dX12_votes_41 : decode cX12_votes 41 = .ok (.iload_n 1, 1) := by decide +kernel
theorem dX12_votes_42 : decode cX12_votes 42 = .ok (.iaload, 1) := by decide +kernel
theorem dX12_votes_43 : decode cX12_votes 43 = .ok (.ireturn, 1) := by decide +kernel
theorem dX12_votesIn_0 : decode cX12_votesIn 0 = .ok (.aload_n 0, 1) := by decide +kernel
theorem dX12_votesIn_1 : decode cX12_votesIn 1 = .ok (.getfield 34, 3) := by decide +kernel
theorem dX12_votesIn_4 : decode cX12_votesIn 4 = .ok (.iload_n 1, 1) := by decide +kernel
theorem dX12_votesIn_5 : decode cX12_votesIn 5 = .ok (.iaload, 1) := by decide +kernel
theorem dX12_votesIn_6 : decode cX12_votesIn 6 = .ok (.iload_n 2, 1) := by decide +kernel
theorem dX12_votesIn_7 : decode cX12_votesIn 7 = .ok (.if_icmp .ne 19, 3) := by decide +kernel
theorem dX12_votesIn_10 : decode cX12_votesIn 10 = .ok (.aload_n 0, 1) := by decide +kernel
theorem dX12_votesIn_11 : decode cX12_votesIn 11 = .ok (.getfield 256, 3) := by decide +kernel
theorem dX12_votesIn_14 : decode cX12_votesIn 14 = .ok (.iload_n 1, 1) := by decide +kernel
theorem dX12_votesIn_15 : decode cX12_votesIn 15 = .ok (.invokestatic 88, 3) := by decide +kernel
theorem dX12_votesIn_18 : decode cX12_votesIn 18 = .ok (.iconst 1, 1) := by decide +kernel
theorem dX12_votesIn_19 : decode cX12_votesIn 19 = .ok (.if_icmp .ne 7, 3) := by decide +kernel
theorem dX12_votesIn_22 : decode cX12_votesIn 22 = .ok (.iconst 1, 1) := by decide +kernel
theorem dX12_votesIn_23 : decode cX12_votesIn 23 = .ok (.goto 4, 3) := by decide +kernel
theorem dX12_votesIn_26 : decode cX12_votesIn 26 = .ok (.iconst 0, 1) := by decide +kernel
theorem dX12_votesIn_27 : decode cX12_votesIn 27 = .ok (.ireturn, 1) := by decide +kernel
theorem dX12_votesOfAll_0 : decode cX12_votesOfAll 0 = .ok (.iconst 0, 1) := by decide +kernel
theorem dX12_votesOfAll_1 : decode cX12_votesOfAll 1 = .ok (.istore_n 2, 1) := by decide +kernel
theorem dX12_votesOfAll_2 : decode cX12_votesOfAll 2 = .ok (.iconst 0, 1) := by decide +kernel
theorem dX12_votesOfAll_3 : decode cX12_votesOfAll 3 = .ok (.istore_n 3, 1) := by decide +kernel
theorem dX12_votesOfAll_4 : decode cX12_votesOfAll 4 = .ok (.iload_n 3, 1) := by decide +kernel
theorem dX12_votesOfAll_5 : decode cX12_votesOfAll 5 = .ok (.aload_n 0, 1) := by decide +kernel
theorem dX12_votesOfAll_6 : decode cX12_votesOfAll 6 = .ok (.getfield 9, 3) := by decide +kernel
theorem dX12_votesOfAll_9 : decode cX12_votesOfAll 9 = .ok (.bipush 6, 2) := by decide +kernel
theorem dX12_votesOfAll_11 : decode cX12_votesOfAll 11 = .ok (.iaload, 1) := by decide +kernel
theorem dX12_votesOfAll_12 : decode cX12_votesOfAll 12 = .ok (.if_icmp .ge 32, 3) := by decide +kernel
theorem dX12_votesOfAll_15 : decode cX12_votesOfAll 15 = .ok (.iload_n 2, 1) := by decide +kernel
theorem dX12_votesOfAll_16 : decode cX12_votesOfAll 16 = .ok (.aload_n 0, 1) := by decide +kernel
theorem dX12_votesOfAll_17 : decode cX12_votesOfAll 17 = .ok (.getfield 34, 3) := by decide +kernel
theorem dX12_votesOfAll_20 : decode cX12_votesOfAll 20 = .ok (.iload_n 3, 1) := by decide +kernel
theorem dX12_votesOfAll_21 : decode cX12_votesOfAll 21 = .ok (.iaload, 1) := by decide +kernel
theorem dX12_votesOfAll_22 : decode cX12_votesOfAll 22 = .ok (.iload_n 1, 1) := by decide +kernel
theorem dX12_votesOfAll_23 : decode cX12_votesOfAll 23 = .ok (.if_icmp .ne 12, 3) := by decide +kernel
theorem dX12_votesOfAll_26 : decode cX12_votesOfAll 26 = .ok (.aload_n 0, 1) := by decide +kernel
theorem dX12_votesOfAll_27 : decode cX12_votesOfAll 27 = .ok (.iload_n 3, 1) := by decide +kernel
theorem dX12_votesOfAll_28 : decode cX12_votesOfAll 28 = .ok (.iconst 1, 1) := by decide +kernel
theorem dX12_votesOfAll_29 : decode cX12_votesOfAll 29 = .ok (.invokevirtual 259, 3) := by decide +kernel
theorem dX12_votesOfAll_32 : decode cX12_votesOfAll 32 = .ok (.goto 4, 3) := by decide +kernel
theorem dX12_votesOfAll_35 : decode cX12_votesOfAll 35 = .ok (.iconst 0, 1) := by decide +kernel
theorem dX12_votesOfAll_36 : decode cX12_votesOfAll 36 = .ok (.iadd, 1) := by decide +kernel
theorem dX12_votesOfAll_37 : decode cX12_votesOfAll 37 = .ok (.istore_n 2, 1) := by decide +kernel
theorem dX12_votesOfAll_38 : decode cX12_votesOfAll 38 = .ok (.iinc 3 1, 3) := by decide +kernel
theorem dX12_votesOfAll_41 : decode cX12_votesOfAll 41 = .ok (.goto (-37), 3) := by decide +kernel
theorem dX12_votesOfAll_44 : decode cX12_votesOfAll 44 = .ok (.iload_n 2, 1) := by decide +kernel
theorem dX12_votesOfAll_45 : decode cX12_votesOfAll 45 = .ok (.ireturn, 1) := by decide +kernel
theorem dX12_winner_0 : decode cX12_winner 0 = .ok (.aload_n 0, 1) := by decide +kernel
theorem dX12_winner_1 : decode cX12_winner 1 = .ok (.iload_n 1, 1) := by decide +kernel
theorem dX12_winner_2 : decode cX12_winner 2 = .ok (.invokevirtual 304, 3) := by decide +kernel
theorem dX12_winner_5 : decode cX12_winner 5 = .ok (.istore_n 3, 1) := by decide +kernel
theorem dX12_winner_6 : decode cX12_winner 6 = .ok (.iload_n 3, 1) := by decide +kernel
theorem dX12_winner_7 : decode cX12_winner 7 = .ok (.ifCond .ne 5, 3) := by decide +kernel
theorem dX12_winner_10 : decode cX12_winner 10 = .ok (.iconst (-1), 1) := by decide +kernel
theorem dX12_winner_11 : decode cX12_winner 11 = .ok (.ireturn, 1) := by decide +kernel
theorem dX12_winner_12 : decode cX12_winner 12 = .ok (.iload_n 2, 1) := by decide +kernel
theorem dX12_winner_13 : decode cX12_winner 13 = .ok (.iconst 2, 1) := by decide +kernel
theorem dX12_winner_14 : decode cX12_winner 14 = .ok (.if_icmp .ne 14, 3) := by decide +kernel
theorem dX12_winner_17 : decode cX12_winner 17 = .ok (.aload_n 0, 1) := by decide +kernel
theorem dX12_winner_18 : decode cX12_winner 18 = .ok (.iload_n 1, 1) := by decide +kernel
theorem dX12_winner_19 : decode cX12_winner 19 = .ok (.iload_n 3, 1) := by decide +kernel
theorem dX12_winner_20 : decode cX12_winner 20 = .ok (.invokevirtual 307, 3) := by decide +kernel
theorem dX12_winner_23 : decode cX12_winner 23 = .ok (.istore 4, 2) := by decide +kernel
theorem dX12_winner_25 : decode cX12_winner 25 = .ok (.goto 42, 3) := by decide +kernel
theorem dX12_winner_28 : decode cX12_winner 28 = .ok (.iload_n 2, 1) := by decide +kernel
theorem dX12_winner_29 : decode cX12_winner 29 = .ok (.iconst 1, 1) := by decide +kernel
theorem dX12_winner_30 : decode cX12_winner 30 = .ok (.if_icmp .ne 14, 3) := by decide +kernel
theorem dX12_winner_33 : decode cX12_winner 33 = .ok (.aload_n 0, 1) := by decide +kernel
theorem dX12_winner_34 : decode cX12_winner 34 = .ok (.iload_n 1, 1) := by decide +kernel
theorem dX12_winner_35 : decode cX12_winner 35 = .ok (.iload_n 3, 1) := by decide +kernel
theorem dX12_winner_36 : decode cX12_winner 36 = .ok (.invokevirtual 310, 3) := by decide +kernel
theorem dX12_winner_39 : decode cX12_winner 39 = .ok (.istore 4, 2) := by decide +kernel
theorem dX12_winner_41 : decode cX12_winner 41 = .ok (.goto 26, 3) := by decide +kernel
theorem dX12_winner_44 : decode cX12_winner 44 = .ok (.aload_n 0, 1) := by decide +kernel
theorem dX12_winner_45 : decode cX12_winner 45 = .ok (.iload_n 1, 1) := by decide +kernel
theorem dX12_winner_46 : decode cX12_winner 46 = .ok (.iload_n 3, 1) := by decide +kernel
theorem dX12_winner_47 : decode cX12_winner 47 = .ok (.iload_n 2, 1) := by decide +kernel
theorem dX12_winner_48 : decode cX12_winner 48 = .ok (.iconst 3, 1) := by decide +kernel
theorem dX12_winner_49 : decode cX12_winner 49 = .ok (.if_icmp .ne 7, 3) := by decide +kernel
theorem dX12_winner_52 : decode cX12_winner 52 = .ok (.iconst 1, 1) := by decide +kernel
theorem dX12_winner_53 : decode cX12_winner 53 = .ok (.goto 4, 3) := by decide +kernel
theorem dX12_winner_56 : decode cX12_winner 56 = .ok (.iconst 0, 1) := by decide +kernel
theorem dX12_winner_57 : decode cX12_winner 57 = .ok (.invokevirtual 297, 3) := by decide +kernel
theorem dX12_winner_60 : decode cX12_winner 60 = .ok (.aload_n 0, 1) := by decide +kernel
theorem dX12_winner_61 : decode cX12_winner 61 = .ok (.iload_n 3, 1) := by decide +kernel
theorem dX12_winner_62 : decode cX12_winner 62 = .ok (.invokevirtual 301, 3) := by decide +kernel
theorem dX12_winner_65 : decode cX12_winner 65 = .ok (.istore 4, 2) := by decide +kernel
theorem dX12_winner_67 : decode cX12_winner 67 = .ok (.aload_n 0, 1) := by decide +kernel
theorem dX12_winner_68 : decode cX12_winner 68 = .ok (.getfield 40, 3) := by decide +kernel
theorem dX12_winner_71 : decode cX12_winner 71 = .ok (.iload 4, 2) := by decide +kernel
theorem dX12_winner_73 : decode cX12_winner 73 = .ok (.iaload, 1) := by decide +kernel
theorem dX12_winner_74 : decode cX12_winner 74 = .ok (.ifCond .ne 7, 3) := by decide +kernel
theorem dX12_winner_77 : decode cX12_winner 77 = .ok (.iconst (-1), 1) := by decide +kernel
theorem dX12_winner_78 : decode cX12_winner 78 = .ok (.goto 5, 3) := by decide +kernel
theorem dX12_winner_81 : decode cX12_winner 81 = .ok (.iload 4, 2) := by decide +kernel
theorem dX12_winner_83 : decode cX12_winner 83 = .ok (.ireturn, 1) := by decide +kernel
theorem dX12_wins_0 : decode cX12_wins 0 = .ok (.aload_n 0, 1) := by decide +kernel
theorem dX12_wins_1 : decode cX12_wins 1 = .ok (.iload_n 1, 1) := by decide +kernel
theorem dX12_wins_2 : decode cX12_wins 2 = .ok (.invokevirtual 332, 3) := by decide +kernel
theorem dX12_wins_5 : decode cX12_wins 5 = .ok (.ifCond .eq 10, 3) := by decide +kernel
theorem dX12_wins_8 : decode cX12_wins 8 = .ok (.iload_n 2, 1) := by decide +kernel
theorem dX12_wins_9 : decode cX12_wins 9 = .ok (.invokestatic 338, 3) := by decide +kernel
theorem dX12_wins_12 : decode cX12_wins 12 = .ok (.ifCond .ne 6, 3) := by decide +kernel
theorem dX12_wins_15 : decode cX12_wins 15 = .ok (.bipush (-2), 2) := by decide +kernel
theorem dX12_wins_17 : decode cX12_wins 17 = .ok (.ireturn, 1) := by decide +kernel
theorem dX12_wins_18 : decode cX12_wins 18 = .ok (.aload_n 0, 1) := by decide +kernel
theorem dX12_wins_19 : decode cX12_wins 19 = .ok (.invokevirtual 335, 3) := by decide +kernel
theorem dX12_wins_22 : decode cX12_wins 22 = .ok (.aload_n 0, 1) := by decide +kernel
theorem dX12_wins_23 : decode cX12_wins 23 = .ok (.iload_n 1, 1) := by decide +kernel
theorem dX12_wins_24 : decode cX12_wins 24 = .ok (.iload_n 2, 1) := by decide +kernel
theorem dX12_wins_25 : decode cX12_wins 25 = .ok (.invokevirtual 313, 3) := by decide +kernel
theorem dX12_wins_28 : decode cX12_wins 28 = .ok (.ireturn, 1) := by decide +kernel
theorem dX12_with_0 : decode cX12_with 0 = .ok (.aload_n 0, 1) := by decide +kernel
theorem dX12_with_1 : decode cX12_with 1 = .ok (.iload_n 1, 1) := by decide +kernel
theorem dX12_with_2 : decode cX12_with 2 = .ok (.invokevirtual 332, 3) := by decide +kernel
theorem dX12_with_5 : decode cX12_with 5 = .ok (.ifCond .eq 10, 3) := by decide +kernel
theorem dX12_with_8 : decode cX12_with 8 = .ok (.iload_n 2, 1) := by decide +kernel
theorem dX12_with_9 : decode cX12_with 9 = .ok (.invokestatic 338, 3) := by decide +kernel
theorem dX12_with_12 : decode cX12_with 12 = .ok (.ifCond .ne 6, 3) := by decide +kernel
theorem dX12_with_15 : decode cX12_with 15 = .ok (.bipush (-2), 2) := by decide +kernel
theorem dX12_with_17 : decode cX12_with 17 = .ok (.ireturn, 1) := by decide +kernel
theorem dX12_with_18 : decode cX12_with 18 = .ok (.aload_n 0, 1) := by decide +kernel
theorem dX12_with_19 : decode cX12_with 19 = .ok (.invokevirtual 335, 3) := by decide +kernel
theorem dX12_with_22 : decode cX12_with 22 = .ok (.aload_n 0, 1) := by decide +kernel
theorem dX12_with_23 : decode cX12_with 23 = .ok (.iload_n 1, 1) := by decide +kernel
theorem dX12_with_24 : decode cX12_with 24 = .ok (.iload_n 2, 1) := by decide +kernel
theorem dX12_with_25 : decode cX12_with 25 = .ok (.invokevirtual 313, 3) := by decide +kernel
theorem dX12_with_28 : decode cX12_with 28 = .ok (.istore_n 3, 1) := by decide +kernel
theorem dX12_with_29 : decode cX12_with 29 = .ok (.iload_n 3, 1) := by decide +kernel
theorem dX12_with_30 : decode cX12_with 30 = .ok (.iconst (-1), 1) := by decide +kernel
theorem dX12_with_31 : decode cX12_with 31 = .ok (.if_icmp .ne 7, 3) := by decide +kernel
theorem dX12_with_34 : decode cX12_with 34 = .ok (.iconst (-1), 1) := by decide +kernel
theorem dX12_with_35 : decode cX12_with 35 = .ok (.goto 9, 3) := by decide +kernel
theorem dX12_with_38 : decode cX12_with 38 = .ok (.aload_n 0, 1) := by decide +kernel
theorem dX12_with_39 : decode cX12_with 39 = .ok (.getfield 40, 3) := by decide +kernel
theorem dX12_with_42 : decode cX12_with 42 = .ok (.iload_n 3, 1) := by decide +kernel
theorem dX12_with_43 : decode cX12_with 43 = .ok (.iaload, 1) := by decide +kernel
theorem dX12_with_44 : decode cX12_with 44 = .ok (.ireturn, 1) := by decide +kernel
theorem dX12_word_0 : decode cX12_word 0 = .ok (.aload_n 0, 1) := by decide +kernel
theorem dX12_word_1 : decode cX12_word 1 = .ok (.iload_n 1, 1) := by decide +kernel
theorem dX12_word_2 : decode cX12_word 2 = .ok (.i2l, 1) := by decide +kernel
theorem dX12_word_3 : decode cX12_word 3 = .ok (.invokevirtual 322, 3) := by decide +kernel
theorem dX12_word_6 : decode cX12_word 6 = .ok (.ifCond .eq 15, 3) := by decide +kernel
theorem dX12_word_9 : decode cX12_word 9 = .ok (.iload_n 2, 1) := by decide +kernel
theorem dX12_word_10 : decode cX12_word 10 = .ok (.i2l, 1) := by decide +kernel
theorem dX12_word_11 : decode cX12_word 11 = .ok (.lconst 0, 1) := by decide +kernel
theorem dX12_word_12 : decode cX12_word 12 = .ok (.ldc2_w 326, 3) := by decide +kernel
theorem dX12_word_15 : decode cX12_word 15 = .ok (.invokestatic 82, 3) := by decide +kernel
theorem dX12_word_18 : decode cX12_word 18 = .ok (.ifCond .ne 6, 3) := by decide +kernel
theorem dX12_word_21 : decode cX12_word 21 = .ok (.bipush (-2), 2) := by decide +kernel
theorem dX12_word_23 : decode cX12_word 23 = .ok (.ireturn, 1) := by decide +kernel
theorem dX12_word_24 : decode cX12_word 24 = .ok (.iload_n 2, 1) := by decide +kernel
theorem dX12_word_25 : decode cX12_word 25 = .ok (.iconst 4, 1) := by decide +kernel
theorem dX12_word_26 : decode cX12_word 26 = .ok (.if_icmp .ge 12, 3) := by decide +kernel
theorem dX12_word_29 : decode cX12_word 29 = .ok (.aload_n 0, 1) := by decide +kernel
theorem dX12_word_30 : decode cX12_word 30 = .ok (.iload_n 1, 1) := by decide +kernel
theorem dX12_word_31 : decode cX12_word 31 = .ok (.iload_n 2, 1) := by decide +kernel
theorem dX12_word_32 : decode cX12_word 32 = .ok (.invokevirtual 262, 3) := by decide +kernel
theorem dX12_word_35 : decode cX12_word 35 = .ok (.goto 31, 3) := by decide +kernel
theorem dX12_word_38 : decode cX12_word 38 = .ok (.iload_n 2, 1) := by decide +kernel
theorem dX12_word_39 : decode cX12_word 39 = .ok (.iconst 4, 1) := by decide +kernel
theorem dX12_word_40 : decode cX12_word 40 = .ok (.if_icmp .ne 15, 3) := by decide +kernel
theorem dX12_word_43 : decode cX12_word 43 = .ok (.aload_n 0, 1) := by decide +kernel
theorem dX12_word_44 : decode cX12_word 44 = .ok (.getfield 9, 3) := by decide +kernel
theorem dX12_word_47 : decode cX12_word 47 = .ok (.bipush 112, 2) := by decide +kernel
theorem dX12_word_49 : decode cX12_word 49 = .ok (.iload_n 1, 1) := by decide +kernel
theorem dX12_word_50 : decode cX12_word 50 = .ok (.iadd, 1) := by decide +kernel
theorem dX12_word_51 : decode cX12_word 51 = .ok (.iaload, 1) := by decide +kernel
theorem dX12_word_52 : decode cX12_word 52 = .ok (.goto 14, 3) := by decide +kernel
theorem dX12_word_55 : decode cX12_word 55 = .ok (.aload_n 0, 1) := by decide +kernel
theorem dX12_word_56 : decode cX12_word 56 = .ok (.getfield 9, 3) := by decide +kernel
theorem dX12_word_59 : decode cX12_word 59 = .ok (.bipush 11, 2) := by decide +kernel
theorem dX12_word_61 : decode cX12_word 61 = .ok (.iaload, 1) := by decide +kernel
theorem dX12_word_62 : decode cX12_word 62 = .ok (.iload_n 1, 1) := by decide +kernel
theorem dX12_word_63 : decode cX12_word 63 = .ok (.invokestatic 88, 3) := by decide +kernel
theorem dX12_word_66 : decode cX12_word 66 = .ok (.ireturn, 1) := by decide +kernel
theorem dX12_write_0 : decode cX12_write 0 = .ok (.iload_n 1, 1) := by decide +kernel
theorem dX12_write_1 : decode cX12_write 1 = .ok (.invokestatic 439, 3) := by decide +kernel
theorem dX12_write_4 : decode cX12_write 4 = .ok (.ifCond .ne 6, 3) := by decide +kernel
theorem dX12_write_7 : decode cX12_write 7 = .ok (.bipush (-2), 2) := by decide +kernel
theorem dX12_write_9 : decode cX12_write 9 = .ok (.ireturn, 1) := by decide +kernel
theorem dX12_write_10 : decode cX12_write 10 = .ok (.aload_n 0, 1) := by decide +kernel
theorem dX12_write_11 : decode cX12_write 11 = .ok (.getfield 64, 3) := by decide +kernel
theorem dX12_write_14 : decode cX12_write 14 = .ok (.iload_n 1, 1) := by decide +kernel
theorem dX12_write_15 : decode cX12_write 15 = .ok (.iaload, 1) := by decide +kernel
theorem dX12_write_16 : decode cX12_write 16 = .ok (.iconst (-1), 1) := by decide +kernel
theorem dX12_write_17 : decode cX12_write 17 = .ok (.if_icmp .ne 6, 3) := by decide +kernel
theorem dX12_write_20 : decode cX12_write 20 = .ok (.bipush (-6), 2) := by decide +kernel
theorem dX12_write_22 : decode cX12_write 22 = .ok (.ireturn, 1) := by decide +kernel
theorem dX12_write_23 : decode cX12_write 23 = .ok (.iload_n 2, 1) := by decide +kernel
theorem dX12_write_24 : decode cX12_write 24 = .ok (.i2l, 1) := by decide +kernel
theorem dX12_write_25 : decode cX12_write 25 = .ok (.lconst 0, 1) := by decide +kernel
theorem dX12_write_26 : decode cX12_write 26 = .ok (.aload_n 0, 1) := by decide +kernel
theorem dX12_write_27 : decode cX12_write 27 = .ok (.getfield 64, 3) := by decide +kernel
theorem dX12_write_30 : decode cX12_write 30 = .ok (.iload_n 1, 1) := by decide +kernel
theorem dX12_write_31 : decode cX12_write 31 = .ok (.iaload, 1) := by decide +kernel
theorem dX12_write_32 : decode cX12_write 32 = .ok (.iconst 1, 1) := by decide +kernel
theorem dX12_write_33 : decode cX12_write 33 = .ok (.isub, 1) := by decide +kernel
theorem dX12_write_34 : decode cX12_write 34 = .ok (.i2l, 1) := by decide +kernel
theorem dX12_write_35 : decode cX12_write 35 = .ok (.invokestatic 82, 3) := by decide +kernel
theorem dX12_write_38 : decode cX12_write 38 = .ok (.ifCond .ne 6, 3) := by decide +kernel
theorem dX12_write_41 : decode cX12_write 41 = .ok (.bipush (-7), 2) := by decide +kernel
theorem dX12_write_43 : decode cX12_write 43 = .ok (.ireturn, 1) := by decide +kernel
theorem dX12_write_44 : decode cX12_write 44 = .ok (.aload_n 0, 1) := by decide +kernel
theorem dX12_write_45 : decode cX12_write 45 = .ok (.getfield 70, 3) := by decide +kernel
theorem dX12_write_48 : decode cX12_write 48 = .ok (.bipush 60, 2) := by decide +kernel
theorem dX12_write_50 : decode cX12_write 50 = .ok (.iload_n 1, 1) := by decide +kernel
theorem dX12_write_51 : decode cX12_write 51 = .ok (.imul, 1) := by decide +kernel
theorem dX12_write_52 : decode cX12_write 52 = .ok (.iload_n 2, 1) := by decide +kernel
theorem dX12_write_53 : decode cX12_write 53 = .ok (.iadd, 1) := by decide +kernel
theorem dX12_write_54 : decode cX12_write 54 = .ok (.lload_n 3, 1) := by decide +kernel
theorem dX12_write_55 : decode cX12_write 55 = .ok (.aload_n 0, 1) := by decide +kernel
theorem dX12_write_56 : decode cX12_write 56 = .ok (.getfield 67, 3) := by decide +kernel
theorem dX12_write_59 : decode cX12_write 59 = .ok (.iload_n 1, 1) := by decide +kernel
theorem dX12_write_60 : decode cX12_write 60 = .ok (.iaload, 1) := by decide +kernel
theorem dX12_write_61 : decode cX12_write 61 = .ok (.invokestatic 483, 3) := by decide +kernel
theorem dX12_write_64 : decode cX12_write 64 = .ok (.lastore, 1) := by decide +kernel
theorem dX12_write_65 : decode cX12_write 65 = .ok (.iconst 0, 1) := by decide +kernel
theorem dX12_write_66 : decode cX12_write 66 = .ok (.ireturn, 1) := by decide +kernel
theorem dX12_years_0 : decode cX12_years 0 = .ok (.iload_n 1, 1) := by decide +kernel
theorem dX12_years_1 : decode cX12_years 1 = .ok (.invokestatic 476, 3) := by decide +kernel
theorem dX12_years_4 : decode cX12_years 4 = .ok (.ifCond .eq 24, 3) := by decide +kernel
theorem dX12_years_7 : decode cX12_years 7 = .ok (.iload_n 2, 1) := by decide +kernel
theorem dX12_years_8 : decode cX12_years 8 = .ok (.i2l, 1) := by decide +kernel
theorem dX12_years_9 : decode cX12_years 9 = .ok (.lconst 1, 1) := by decide +kernel
theorem dX12_years_10 : decode cX12_years 10 = .ok (.ldc2_w 428, 3) := by decide +kernel
theorem dX12_years_13 : decode cX12_years 13 = .ok (.invokestatic 82, 3) := by decide +kernel
theorem dX12_years_16 : decode cX12_years 16 = .ok (.ifCond .eq 12, 3) := by decide +kernel
theorem dX12_years_19 : decode cX12_years 19 = .ok (.aload_n 0, 1) := by decide +kernel
theorem dX12_years_20 : decode cX12_years 20 = .ok (.iload_n 3, 1) := by decide +kernel
theorem dX12_years_21 : decode cX12_years 21 = .ok (.i2l, 1) := by decide +kernel
theorem dX12_years_22 : decode cX12_years 22 = .ok (.invokevirtual 322, 3) := by decide +kernel
theorem dX12_years_25 : decode cX12_years 25 = .ok (.ifCond .ne 6, 3) := by decide +kernel
theorem dX12_years_28 : decode cX12_years 28 = .ok (.bipush (-2), 2) := by decide +kernel
theorem dX12_years_30 : decode cX12_years 30 = .ok (.ireturn, 1) := by decide +kernel
theorem dX12_years_31 : decode cX12_years 31 = .ok (.iconst 0, 1) := by decide +kernel
theorem dX12_years_32 : decode cX12_years 32 = .ok (.istore 4, 2) := by decide +kernel
theorem dX12_years_34 : decode cX12_years 34 = .ok (.iconst 0, 1) := by decide +kernel
theorem dX12_years_35 : decode cX12_years 35 = .ok (.istore 5, 2) := by decide +kernel
theorem dX12_years_37 : decode cX12_years 37 = .ok (.iload 5, 2) := by decide +kernel
theorem dX12_years_39 : decode cX12_years 39 = .ok (.iload_n 2, 1) := by decide +kernel
theorem dX12_years_40 : decode cX12_years 40 = .ok (.if_icmp .ge 39, 3) := by decide +kernel
theorem dX12_years_43 : decode cX12_years 43 = .ok (.iload 4, 2) := by decide +kernel
theorem dX12_years_45 : decode cX12_years 45 = .ok (.aload_n 0, 1) := by decide +kernel
theorem dX12_years_46 : decode cX12_years 46 = .ok (.iload_n 1, 1) := by decide +kernel
theorem dX12_years_47 : decode cX12_years 47 = .ok (.i2l, 1) := by decide +kernel
theorem dX12_years_48 : decode cX12_years 48 = .ok (.iload 5, 2) := by decide +kernel
theorem dX12_years_50 : decode cX12_years 50 = .ok (.i2l, 1) := by decide +kernel
theorem dX12_years_51 : decode cX12_years 51 = .ok (.ladd, 1) := by decide +kernel
theorem dX12_years_52 : decode cX12_years 52 = .ok (.aload_n 0, 1) := by decide +kernel
theorem dX12_years_53 : decode cX12_years 53 = .ok (.iload_n 3, 1) := by decide +kernel
theorem dX12_years_54 : decode cX12_years 54 = .ok (.iconst 1, 1) := by decide +kernel
theorem dX12_years_55 : decode cX12_years 55 = .ok (.invokevirtual 262, 3) := by decide +kernel
theorem dX12_years_58 : decode cX12_years 58 = .ok (.invokevirtual 479, 3) := by decide +kernel
theorem dX12_years_61 : decode cX12_years 61 = .ok (.iload_n 3, 1) := by decide +kernel
theorem dX12_years_62 : decode cX12_years 62 = .ok (.if_icmp .ne 7, 3) := by decide +kernel
theorem dX12_years_65 : decode cX12_years 65 = .ok (.iconst 1, 1) := by decide +kernel
theorem dX12_years_66 : decode cX12_years 66 = .ok (.goto 4, 3) := by decide +kernel
theorem dX12_years_69 : decode cX12_years 69 = .ok (.iconst 0, 1) := by decide +kernel
theorem dX12_years_70 : decode cX12_years 70 = .ok (.iadd, 1) := by decide +kernel
theorem dX12_years_71 : decode cX12_years 71 = .ok (.istore 4, 2) := by decide +kernel
theorem dX12_years_73 : decode cX12_years 73 = .ok (.iinc 5 1, 3) := by decide +kernel
theorem dX12_years_76 : decode cX12_years 76 = .ok (.goto (-39), 3) := by decide +kernel
theorem dX12_years_79 : decode cX12_years 79 = .ok (.iload 4, 2) := by decide +kernel
theorem dX12_years_81 : decode cX12_years 81 = .ok (.ireturn, 1) := by decide +kernel
theorem m_1 : Cond.initialized RX11 ∈ TB := tb_m 1 (by decide +kernel) (by decide +kernel)
theorem m_117 : Cond.fieldLink RX0 53 "WordSeats$Chamber" "lines" "I" ∈ TB := tb_m 117 (by decide +kernel) (by decide +kernel)
theorem m_121 : Cond.fieldLink RX0 76 "WordSeats$Chamber" "meanings" "I" ∈ TB := tb_m 121 (by decide +kernel) (by decide +kernel)
theorem m_13 : Cond.initialized RX12 ∈ TB := tb_m 13 (by decide +kernel) (by decide +kernel)
theorem m_1344 : Cond.fieldLink RX12 9 "WordSeatsModel" "world" "[I" ∈ TB := tb_m 1344 (by decide +kernel) (by decide +kernel)
theorem m_1345 : Cond.fieldLink RX12 13 "WordSeatsModel" "images" "[I" ∈ TB := tb_m 1345 (by decide +kernel) (by decide +kernel)
theorem m_1346 : Cond.fieldLink RX12 16 "WordSeatsModel" "hasImage" "[Z" ∈ TB := tb_m 1346 (by decide +kernel) (by decide +kernel)
theorem m_1347 : Cond.fieldLink RX12 20 "WordSeatsModel" "tape" "[B" ∈ TB := tb_m 1347 (by decide +kernel) (by decide +kernel)
theorem m_1348 : Cond.fieldLink RX12 96 "WordSeatsModel" "taped" "I" ∈ TB := tb_m 1348 (by decide +kernel) (by decide +kernel)
theorem m_1349 : Cond.fieldLink RX12 24 "WordSeatsModel" "five" "[I" ∈ TB := tb_m 1349 (by decide +kernel) (by decide +kernel)
theorem m_135 : Cond.fieldLink RX0 61 "WordSeats$Chamber" "districts" "I" ∈ TB := tb_m 135 (by decide +kernel) (by decide +kernel)
theorem m_1350 : Cond.fieldLink RX12 99 "WordSeatsModel" "size" "I" ∈ TB := tb_m 1350 (by decide +kernel) (by decide +kernel)
theorem m_1351 : Cond.fieldLink RX12 102 "WordSeatsModel" "at" "I" ∈ TB := tb_m 1351 (by decide +kernel) (by decide +kernel)
theorem m_1352 : Cond.fieldLink RX12 109 "WordSeatsModel" "from" "I" ∈ TB := tb_m 1352 (by decide +kernel) (by decide +kernel)
theorem m_1353 : Cond.fieldLink RX12 112 "WordSeatsModel" "token" "I" ∈ TB := tb_m 1353 (by decide +kernel) (by decide +kernel)
theorem m_1354 : Cond.fieldLink RX12 123 "WordSeatsModel" "value" "I" ∈ TB := tb_m 1354 (by decide +kernel) (by decide +kernel)
theorem m_1355 : Cond.fieldLink RX12 132 "WordSeatsModel" "faultKind" "I" ∈ TB := tb_m 1355 (by decide +kernel) (by decide +kernel)
theorem m_1356 : Cond.fieldLink RX12 27 "WordSeatsModel" "faultPlace" "I" ∈ TB := tb_m 1356 (by decide +kernel) (by decide +kernel)
theorem m_1358 : Cond.fieldLink RX12 253 "WordSeatsModel" "stands" "I" ∈ TB := tb_m 1358 (by decide +kernel) (by decide +kernel)
theorem m_1359 : Cond.fieldLink RX12 34 "WordSeatsModel" "placeOf" "[I" ∈ TB := tb_m 1359 (by decide +kernel) (by decide +kernel)
theorem m_1360 : Cond.fieldLink RX12 256 "WordSeatsModel" "come" "I" ∈ TB := tb_m 1360 (by decide +kernel) (by decide +kernel)
theorem m_1361 : Cond.fieldLink RX12 37 "WordSeatsModel" "feinter" "I" ∈ TB := tb_m 1361 (by decide +kernel) (by decide +kernel)
theorem m_1362 : Cond.fieldLink RX12 271 "WordSeatsModel" "feintFor" "I" ∈ TB := tb_m 1362 (by decide +kernel) (by decide +kernel)
theorem m_1363 : Cond.fieldLink RX12 40 "WordSeatsModel" "tally" "[I" ∈ TB := tb_m 1363 (by decide +kernel) (by decide +kernel)
theorem m_1364 : Cond.fieldLink RX12 285 "WordSeatsModel" "given" "I" ∈ TB := tb_m 1364 (by decide +kernel) (by decide +kernel)
theorem m_1365 : Cond.fieldLink RX12 43 "WordSeatsModel" "struckRow" "[I" ∈ TB := tb_m 1365 (by decide +kernel) (by decide +kernel)
theorem m_1366 : Cond.fieldLink RX12 294 "WordSeatsModel" "struckMany" "I" ∈ TB := tb_m 1366 (by decide +kernel) (by decide +kernel)
theorem m_1367 : Cond.fieldLink RX12 46 "WordSeatsModel" "seasons" "[I" ∈ TB := tb_m 1367 (by decide +kernel) (by decide +kernel)
theorem m_1368 : Cond.fieldLink RX12 49 "WordSeatsModel" "saidBy" "[I" ∈ TB := tb_m 1368 (by decide +kernel) (by decide +kernel)
theorem m_1369 : Cond.fieldLink RX12 52 "WordSeatsModel" "leastBy" "[I" ∈ TB := tb_m 1369 (by decide +kernel) (by decide +kernel)
theorem m_1370 : Cond.fieldLink RX12 387 "WordSeatsModel" "houseSet" "I" ∈ TB := tb_m 1370 (by decide +kernel) (by decide +kernel)
theorem m_1371 : Cond.fieldLink RX12 399 "WordSeatsModel" "feintWord" "I" ∈ TB := tb_m 1371 (by decide +kernel) (by decide +kernel)
theorem m_1372 : Cond.fieldLink RX12 402 "WordSeatsModel" "feintGain" "I" ∈ TB := tb_m 1372 (by decide +kernel) (by decide +kernel)
theorem m_1373 : Cond.fieldLink RX12 55 "WordSeatsModel" "partyVotes" "[I" ∈ TB := tb_m 1373 (by decide +kernel) (by decide +kernel)
theorem m_1374 : Cond.fieldLink RX12 58 "WordSeatsModel" "listed" "[I" ∈ TB := tb_m 1374 (by decide +kernel) (by decide +kernel)
theorem m_1375 : Cond.fieldLink RX12 61 "WordSeatsModel" "riggedRow" "[I" ∈ TB := tb_m 1375 (by decide +kernel) (by decide +kernel)
theorem m_1376 : Cond.fieldLink RX12 430 "WordSeatsModel" "riggedMost" "I" ∈ TB := tb_m 1376 (by decide +kernel) (by decide +kernel)
theorem m_1379 : Cond.fieldLink RX12 64 "WordSeatsModel" "many" "[I" ∈ TB := tb_m 1379 (by decide +kernel) (by decide +kernel)
theorem m_1380 : Cond.fieldLink RX12 67 "WordSeatsModel" "width" "[I" ∈ TB := tb_m 1380 (by decide +kernel) (by decide +kernel)
theorem m_1381 : Cond.fieldLink RX12 70 "WordSeatsModel" "numbers" "[J" ∈ TB := tb_m 1381 (by decide +kernel) (by decide +kernel)
theorem m_1382 : Cond.fieldLink RX12 74 "WordSeatsModel" "moving" "[J" ∈ TB := tb_m 1382 (by decide +kernel) (by decide +kernel)
theorem m_142 : Cond.fieldLink RX0 64 "WordSeats$Chamber" "words" "I" ∈ TB := tb_m 142 (by decide +kernel) (by decide +kernel)
theorem m_1468 : Cond.constantLong RX12 80 (2) ∈ TB := tb_m 1468 (by decide +kernel) (by decide +kernel)
theorem m_1469 : Cond.methodLink RX12 82 yX12_in ∈ TB := tb_m 1469 (by decide +kernel) (by decide +kernel)
theorem m_1470 : Cond.static yX12_in ∈ TB := tb_m 1470 (by decide +kernel) (by decide +kernel)
theorem m_1471 : Cond.code yX12_in cX12_in 6 (some .boolean) ∈ TB := tb_m 1471 (by decide +kernel) (by decide +kernel)
theorem m_149 : Cond.fieldLink RX0 67 "WordSeats$Chamber" "speakers" "I" ∈ TB := tb_m 149 (by decide +kernel) (by decide +kernel)
theorem m_1492 : Cond.methodLink RX12 152 yX12_advance ∈ TB := tb_m 1492 (by decide +kernel) (by decide +kernel)
theorem m_1494 : Cond.instanceMethod yX12_advance ∈ TB := tb_m 1494 (by decide +kernel) (by decide +kernel)
theorem m_1495 : Cond.code yX12_advance cX12_advance 2 none ∈ TB := tb_m 1495 (by decide +kernel) (by decide +kernel)
theorem m_1496 : Cond.methodLink RX12 105 yX12_see ∈ TB := tb_m 1496 (by decide +kernel) (by decide +kernel)
theorem m_1498 : Cond.instanceMethod yX12_see ∈ TB := tb_m 1498 (by decide +kernel) (by decide +kernel)
theorem m_1499 : Cond.code yX12_see cX12_see 2 (some .int) ∈ TB := tb_m 1499 (by decide +kernel) (by decide +kernel)
theorem m_15 : Cond.initialized RJ9 ∈ TB := tb_m 15 (by decide +kernel) (by decide +kernel)
theorem m_1500 : Cond.constantLong RX12 115 (97) ∈ TB := tb_m 1500 (by decide +kernel) (by decide +kernel)
theorem m_1501 : Cond.constantLong RX12 117 (122) ∈ TB := tb_m 1501 (by decide +kernel) (by decide +kernel)
theorem m_1502 : Cond.constantLong RX12 119 (48) ∈ TB := tb_m 1502 (by decide +kernel) (by decide +kernel)
theorem m_1503 : Cond.constantLong RX12 121 (57) ∈ TB := tb_m 1503 (by decide +kernel) (by decide +kernel)
theorem m_1504 : Cond.constant RX12 126 (99999) ∈ TB := tb_m 1504 (by decide +kernel) (by decide +kernel)
theorem m_1505 : Cond.methodLink RX12 127 Lib.Math.min.name ∈ TB := tb_m 1505 (by decide +kernel) (by decide +kernel)
theorem m_1506 : Cond.methodLink RX12 135 yX12_good ∈ TB := tb_m 1506 (by decide +kernel) (by decide +kernel)
theorem m_1508 : Cond.instanceMethod yX12_good ∈ TB := tb_m 1508 (by decide +kernel) (by decide +kernel)
theorem m_1509 : Cond.code yX12_good cX12_good 1 (some .boolean) ∈ TB := tb_m 1509 (by decide +kernel) (by decide +kernel)
theorem m_1533 : Cond.methodLink RX12 158 yX12_errs ∈ TB := tb_m 1533 (by decide +kernel) (by decide +kernel)
theorem m_1535 : Cond.instanceMethod yX12_errs ∈ TB := tb_m 1535 (by decide +kernel) (by decide +kernel)
theorem m_1536 : Cond.code yX12_errs cX12_errs 2 none ∈ TB := tb_m 1536 (by decide +kernel) (by decide +kernel)
theorem m_160 : Cond.fieldLink RX0 18 "WordSeats$Chamber" "home" "[I" ∈ TB := tb_m 160 (by decide +kernel) (by decide +kernel)
theorem m_1607 : Cond.methodLink RX12 322 yX12_isWord ∈ TB := tb_m 1607 (by decide +kernel) (by decide +kernel)
theorem m_1609 : Cond.instanceMethod yX12_isWord ∈ TB := tb_m 1609 (by decide +kernel) (by decide +kernel)
theorem m_1610 : Cond.code yX12_isWord cX12_isWord 3 (some .boolean) ∈ TB := tb_m 1610 (by decide +kernel) (by decide +kernel)
theorem m_1611 : Cond.constantLong RX12 326 (5) ∈ TB := tb_m 1611 (by decide +kernel) (by decide +kernel)
theorem m_1612 : Cond.methodLink RX12 262 yX12_ofWord ∈ TB := tb_m 1612 (by decide +kernel) (by decide +kernel)
theorem m_1614 : Cond.instanceMethod yX12_ofWord ∈ TB := tb_m 1614 (by decide +kernel) (by decide +kernel)
theorem m_1615 : Cond.code yX12_ofWord cX12_ofWord 3 (some .int) ∈ TB := tb_m 1615 (by decide +kernel) (by decide +kernel)
theorem m_1616 : Cond.methodLink RX12 88 yX12_bit ∈ TB := tb_m 1616 (by decide +kernel) (by decide +kernel)
theorem m_1617 : Cond.static yX12_bit ∈ TB := tb_m 1617 (by decide +kernel) (by decide +kernel)
theorem m_1618 : Cond.code yX12_bit cX12_bit 2 (some .int) ∈ TB := tb_m 1618 (by decide +kernel) (by decide +kernel)
theorem m_1623 : Cond.methodLink RX12 328 yX12_isSpeaker ∈ TB := tb_m 1623 (by decide +kernel) (by decide +kernel)
theorem m_1625 : Cond.instanceMethod yX12_isSpeaker ∈ TB := tb_m 1625 (by decide +kernel) (by decide +kernel)
theorem m_1626 : Cond.code yX12_isSpeaker cX12_isSpeaker 2 (some .boolean) ∈ TB := tb_m 1626 (by decide +kernel) (by decide +kernel)
theorem m_1627 : Cond.constantLong RX12 86 (3) ∈ TB := tb_m 1627 (by decide +kernel) (by decide +kernel)
theorem m_1628 : Cond.methodLink RX12 259 yX12_ofSpeaker ∈ TB := tb_m 1628 (by decide +kernel) (by decide +kernel)
theorem m_1630 : Cond.instanceMethod yX12_ofSpeaker ∈ TB := tb_m 1630 (by decide +kernel) (by decide +kernel)
theorem m_1631 : Cond.code yX12_ofSpeaker cX12_ofSpeaker 3 (some .int) ∈ TB := tb_m 1631 (by decide +kernel) (by decide +kernel)
theorem m_1636 : Cond.methodLink RX12 332 yX12_isDistrict ∈ TB := tb_m 1636 (by decide +kernel) (by decide +kernel)
theorem m_1638 : Cond.instanceMethod yX12_isDistrict ∈ TB := tb_m 1638 (by decide +kernel) (by decide +kernel)
theorem m_1639 : Cond.code yX12_isDistrict cX12_isDistrict 2 (some .boolean) ∈ TB := tb_m 1639 (by decide +kernel) (by decide +kernel)
theorem m_1640 : Cond.methodLink RX12 335 yX12_asItIs ∈ TB := tb_m 1640 (by decide +kernel) (by decide +kernel)
theorem m_1642 : Cond.instanceMethod yX12_asItIs ∈ TB := tb_m 1642 (by decide +kernel) (by decide +kernel)
theorem m_1643 : Cond.code yX12_asItIs cX12_asItIs 2 none ∈ TB := tb_m 1643 (by decide +kernel) (by decide +kernel)
theorem m_1644 : Cond.methodLink RX12 250 yX12_living ∈ TB := tb_m 1644 (by decide +kernel) (by decide +kernel)
theorem m_1646 : Cond.instanceMethod yX12_living ∈ TB := tb_m 1646 (by decide +kernel) (by decide +kernel)
theorem m_1647 : Cond.code yX12_living cX12_living 1 (some .int) ∈ TB := tb_m 1647 (by decide +kernel) (by decide +kernel)
theorem m_1648 : Cond.methodLink RX12 92 yX12_allWords ∈ TB := tb_m 1648 (by decide +kernel) (by decide +kernel)
theorem m_1650 : Cond.instanceMethod yX12_allWords ∈ TB := tb_m 1650 (by decide +kernel) (by decide +kernel)
theorem m_1651 : Cond.code yX12_allWords cX12_allWords 1 (some .int) ∈ TB := tb_m 1651 (by decide +kernel) (by decide +kernel)
theorem m_1652 : Cond.methodLink RX12 304 yX12_standingIn ∈ TB := tb_m 1652 (by decide +kernel) (by decide +kernel)
theorem m_1654 : Cond.instanceMethod yX12_standingIn ∈ TB := tb_m 1654 (by decide +kernel) (by decide +kernel)
theorem m_1655 : Cond.code yX12_standingIn cX12_standingIn 4 (some .int) ∈ TB := tb_m 1655 (by decide +kernel) (by decide +kernel)
theorem m_1656 : Cond.methodLink RX12 316 yX12_votesOfAll ∈ TB := tb_m 1656 (by decide +kernel) (by decide +kernel)
theorem m_1658 : Cond.instanceMethod yX12_votesOfAll ∈ TB := tb_m 1658 (by decide +kernel) (by decide +kernel)
theorem m_1659 : Cond.code yX12_votesOfAll cX12_votesOfAll 4 (some .int) ∈ TB := tb_m 1659 (by decide +kernel) (by decide +kernel)
theorem m_1664 : Cond.methodLink RX12 268 yX12_likesOf ∈ TB := tb_m 1664 (by decide +kernel) (by decide +kernel)
theorem m_1666 : Cond.instanceMethod yX12_likesOf ∈ TB := tb_m 1666 (by decide +kernel) (by decide +kernel)
theorem m_1667 : Cond.code yX12_likesOf cX12_likesOf 3 (some .int) ∈ TB := tb_m 1667 (by decide +kernel) (by decide +kernel)
theorem m_1668 : Cond.methodLink RX12 265 yX12_bits ∈ TB := tb_m 1668 (by decide +kernel) (by decide +kernel)
theorem m_1669 : Cond.static yX12_bits ∈ TB := tb_m 1669 (by decide +kernel) (by decide +kernel)
theorem m_1670 : Cond.code yX12_bits cX12_bits 3 (some .int) ∈ TB := tb_m 1670 (by decide +kernel) (by decide +kernel)
theorem m_1675 : Cond.methodLink RX12 291 yX12_firstOf ∈ TB := tb_m 1675 (by decide +kernel) (by decide +kernel)
theorem m_1677 : Cond.instanceMethod yX12_firstOf ∈ TB := tb_m 1677 (by decide +kernel) (by decide +kernel)
theorem m_1678 : Cond.code yX12_firstOf cX12_firstOf 5 (some .int) ∈ TB := tb_m 1678 (by decide +kernel) (by decide +kernel)
theorem m_1679 : Cond.methodLink RX12 278 yX12_isLiked ∈ TB := tb_m 1679 (by decide +kernel) (by decide +kernel)
theorem m_168 : Cond.fieldLink RX0 24 "WordSeats$Chamber" "means" "[I" ∈ TB := tb_m 168 (by decide +kernel) (by decide +kernel)
theorem m_1681 : Cond.instanceMethod yX12_isLiked ∈ TB := tb_m 1681 (by decide +kernel) (by decide +kernel)
theorem m_1682 : Cond.code yX12_isLiked cX12_isLiked 3 (some .boolean) ∈ TB := tb_m 1682 (by decide +kernel) (by decide +kernel)
theorem m_1683 : Cond.methodLink RX12 281 yX12_isAhead ∈ TB := tb_m 1683 (by decide +kernel) (by decide +kernel)
theorem m_1685 : Cond.instanceMethod yX12_isAhead ∈ TB := tb_m 1685 (by decide +kernel) (by decide +kernel)
theorem m_1686 : Cond.code yX12_isAhead cX12_isAhead 4 (some .boolean) ∈ TB := tb_m 1686 (by decide +kernel) (by decide +kernel)
theorem m_1687 : Cond.methodLink RX12 274 yX12_isLonger ∈ TB := tb_m 1687 (by decide +kernel) (by decide +kernel)
theorem m_1689 : Cond.instanceMethod yX12_isLonger ∈ TB := tb_m 1689 (by decide +kernel) (by decide +kernel)
theorem m_1690 : Cond.code yX12_isLonger cX12_isLonger 3 (some .boolean) ∈ TB := tb_m 1690 (by decide +kernel) (by decide +kernel)
theorem m_1695 : Cond.methodLink RX12 297 yX12_count ∈ TB := tb_m 1695 (by decide +kernel) (by decide +kernel)
theorem m_1697 : Cond.instanceMethod yX12_count ∈ TB := tb_m 1697 (by decide +kernel) (by decide +kernel)
theorem m_1698 : Cond.code yX12_count cX12_count 7 none ∈ TB := tb_m 1698 (by decide +kernel) (by decide +kernel)
theorem m_1699 : Cond.methodLink RX12 288 yX12_votesIn ∈ TB := tb_m 1699 (by decide +kernel) (by decide +kernel)
theorem m_1701 : Cond.instanceMethod yX12_votesIn ∈ TB := tb_m 1701 (by decide +kernel) (by decide +kernel)
theorem m_1702 : Cond.code yX12_votesIn cX12_votesIn 3 (some .boolean) ∈ TB := tb_m 1702 (by decide +kernel) (by decide +kernel)
theorem m_1711 : Cond.methodLink RX12 338 yX12_isLaw ∈ TB := tb_m 1711 (by decide +kernel) (by decide +kernel)
theorem m_1712 : Cond.static yX12_isLaw ∈ TB := tb_m 1712 (by decide +kernel) (by decide +kernel)
theorem m_1713 : Cond.code yX12_isLaw cX12_isLaw 1 (some .boolean) ∈ TB := tb_m 1713 (by decide +kernel) (by decide +kernel)
theorem m_1714 : Cond.methodLink RX12 313 yX12_winner ∈ TB := tb_m 1714 (by decide +kernel) (by decide +kernel)
theorem m_1716 : Cond.instanceMethod yX12_winner ∈ TB := tb_m 1716 (by decide +kernel) (by decide +kernel)
theorem m_1717 : Cond.code yX12_winner cX12_winner 5 (some .int) ∈ TB := tb_m 1717 (by decide +kernel) (by decide +kernel)
theorem m_1718 : Cond.methodLink RX12 307 yX12_strikes ∈ TB := tb_m 1718 (by decide +kernel) (by decide +kernel)
theorem m_172 : Cond.fieldLink RX0 27 "WordSeats$Chamber" "place" "[I" ∈ TB := tb_m 172 (by decide +kernel) (by decide +kernel)
theorem m_1720 : Cond.instanceMethod yX12_strikes ∈ TB := tb_m 1720 (by decide +kernel) (by decide +kernel)
theorem m_1721 : Cond.code yX12_strikes cX12_strikes 7 (some .int) ∈ TB := tb_m 1721 (by decide +kernel) (by decide +kernel)
theorem m_1722 : Cond.methodLink RX12 301 yX12_mostOf ∈ TB := tb_m 1722 (by decide +kernel) (by decide +kernel)
theorem m_1724 : Cond.instanceMethod yX12_mostOf ∈ TB := tb_m 1724 (by decide +kernel) (by decide +kernel)
theorem m_1725 : Cond.code yX12_mostOf cX12_mostOf 4 (some .int) ∈ TB := tb_m 1725 (by decide +kernel) (by decide +kernel)
theorem m_1726 : Cond.methodLink RX12 310 yX12_runsOff ∈ TB := tb_m 1726 (by decide +kernel) (by decide +kernel)
theorem m_1728 : Cond.instanceMethod yX12_runsOff ∈ TB := tb_m 1728 (by decide +kernel) (by decide +kernel)
theorem m_1729 : Cond.code yX12_runsOff cX12_runsOff 6 (some .int) ∈ TB := tb_m 1729 (by decide +kernel) (by decide +kernel)
theorem m_1734 : Cond.methodLink RX12 319 yX12_sitter ∈ TB := tb_m 1734 (by decide +kernel) (by decide +kernel)
theorem m_1736 : Cond.instanceMethod yX12_sitter ∈ TB := tb_m 1736 (by decide +kernel) (by decide +kernel)
theorem m_1737 : Cond.code yX12_sitter cX12_sitter 4 (some .int) ∈ TB := tb_m 1737 (by decide +kernel) (by decide +kernel)
theorem m_175 : Cond.fieldLink RX0 30 "WordSeats$Chamber" "weight" "[I" ∈ TB := tb_m 175 (by decide +kernel) (by decide +kernel)
theorem m_1750 : Cond.methodLink RX12 341 yX12_isDead ∈ TB := tb_m 1750 (by decide +kernel) (by decide +kernel)
theorem m_1752 : Cond.instanceMethod yX12_isDead ∈ TB := tb_m 1752 (by decide +kernel) (by decide +kernel)
theorem m_1753 : Cond.code yX12_isDead cX12_isDead 2 (some .boolean) ∈ TB := tb_m 1753 (by decide +kernel) (by decide +kernel)
theorem m_1754 : Cond.methodLink RX12 344 yX12_beatsOf ∈ TB := tb_m 1754 (by decide +kernel) (by decide +kernel)
theorem m_1756 : Cond.instanceMethod yX12_beatsOf ∈ TB := tb_m 1756 (by decide +kernel) (by decide +kernel)
theorem m_1757 : Cond.code yX12_beatsOf cX12_beatsOf 5 (some .int) ∈ TB := tb_m 1757 (by decide +kernel) (by decide +kernel)
theorem m_1766 : Cond.methodLink RX12 347 yX12_isChamber ∈ TB := tb_m 1766 (by decide +kernel) (by decide +kernel)
theorem m_1768 : Cond.instanceMethod yX12_isChamber ∈ TB := tb_m 1768 (by decide +kernel) (by decide +kernel)
theorem m_1769 : Cond.code yX12_isChamber cX12_isChamber 1 (some .boolean) ∈ TB := tb_m 1769 (by decide +kernel) (by decide +kernel)
theorem m_1778 : Cond.methodLink RX12 350 yX12_sitterWithout ∈ TB := tb_m 1778 (by decide +kernel) (by decide +kernel)
theorem m_1780 : Cond.instanceMethod yX12_sitterWithout ∈ TB := tb_m 1780 (by decide +kernel) (by decide +kernel)
theorem m_1781 : Cond.code yX12_sitterWithout cX12_sitterWithout 3 (some .int) ∈ TB := tb_m 1781 (by decide +kernel) (by decide +kernel)
theorem m_1790 : Cond.methodLink RX12 353 yX12_electedNow ∈ TB := tb_m 1790 (by decide +kernel) (by decide +kernel)
theorem m_1792 : Cond.instanceMethod yX12_electedNow ∈ TB := tb_m 1792 (by decide +kernel) (by decide +kernel)
theorem m_1793 : Cond.code yX12_electedNow cX12_electedNow 4 (some .int) ∈ TB := tb_m 1793 (by decide +kernel) (by decide +kernel)
theorem m_1802 : Cond.methodLink RX12 356 yX12_goesTerm ∈ TB := tb_m 1802 (by decide +kernel) (by decide +kernel)
theorem m_1804 : Cond.instanceMethod yX12_goesTerm ∈ TB := tb_m 1804 (by decide +kernel) (by decide +kernel)
theorem m_1805 : Cond.code yX12_goesTerm cX12_goesTerm 3 none ∈ TB := tb_m 1805 (by decide +kernel) (by decide +kernel)
theorem m_182 : Cond.fieldLink RX0 36 "WordSeats$Chamber" "needs" "[I" ∈ TB := tb_m 182 (by decide +kernel) (by decide +kernel)
theorem m_1822 : Cond.methodLink RX12 363 yX12_isMeaning ∈ TB := tb_m 1822 (by decide +kernel) (by decide +kernel)
theorem m_1824 : Cond.instanceMethod yX12_isMeaning ∈ TB := tb_m 1824 (by decide +kernel) (by decide +kernel)
theorem m_1825 : Cond.code yX12_isMeaning cX12_isMeaning 3 (some .boolean) ∈ TB := tb_m 1825 (by decide +kernel) (by decide +kernel)
theorem m_1826 : Cond.methodLink RX12 366 yX12_speak ∈ TB := tb_m 1826 (by decide +kernel) (by decide +kernel)
theorem m_1828 : Cond.instanceMethod yX12_speak ∈ TB := tb_m 1828 (by decide +kernel) (by decide +kernel)
theorem m_1829 : Cond.code yX12_speak cX12_speak 5 none ∈ TB := tb_m 1829 (by decide +kernel) (by decide +kernel)
theorem m_1830 : Cond.constant RX12 359 (100000) ∈ TB := tb_m 1830 (by decide +kernel) (by decide +kernel)
theorem m_1831 : Cond.methodLink RX12 360 yX12_byRound ∈ TB := tb_m 1831 (by decide +kernel) (by decide +kernel)
theorem m_1833 : Cond.instanceMethod yX12_byRound ∈ TB := tb_m 1833 (by decide +kernel) (by decide +kernel)
theorem m_1834 : Cond.code yX12_byRound cX12_byRound 2 (some .int) ∈ TB := tb_m 1834 (by decide +kernel) (by decide +kernel)
theorem m_1835 : Cond.methodLink RX12 369 yX12_orNone ∈ TB := tb_m 1835 (by decide +kernel) (by decide +kernel)
theorem m_1836 : Cond.static yX12_orNone ∈ TB := tb_m 1836 (by decide +kernel) (by decide +kernel)
theorem m_1837 : Cond.code yX12_orNone cX12_orNone 1 (some .int) ∈ TB := tb_m 1837 (by decide +kernel) (by decide +kernel)
theorem m_1850 : Cond.methodLink RX12 372 yX12_sayable ∈ TB := tb_m 1850 (by decide +kernel) (by decide +kernel)
theorem m_1852 : Cond.instanceMethod yX12_sayable ∈ TB := tb_m 1852 (by decide +kernel) (by decide +kernel)
theorem m_1853 : Cond.code yX12_sayable cX12_sayable 3 (some .int) ∈ TB := tb_m 1853 (by decide +kernel) (by decide +kernel)
theorem m_1858 : Cond.methodLink RX12 375 yX12_costOf ∈ TB := tb_m 1858 (by decide +kernel) (by decide +kernel)
theorem m_1860 : Cond.instanceMethod yX12_costOf ∈ TB := tb_m 1860 (by decide +kernel) (by decide +kernel)
theorem m_1861 : Cond.code yX12_costOf cX12_costOf 4 (some .int) ∈ TB := tb_m 1861 (by decide +kernel) (by decide +kernel)
theorem m_1866 : Cond.methodLink RX12 378 yX12_costBy ∈ TB := tb_m 1866 (by decide +kernel) (by decide +kernel)
theorem m_1868 : Cond.instanceMethod yX12_costBy ∈ TB := tb_m 1868 (by decide +kernel) (by decide +kernel)
theorem m_1869 : Cond.code yX12_costBy cX12_costBy 4 (some .int) ∈ TB := tb_m 1869 (by decide +kernel) (by decide +kernel)
theorem m_1882 : Cond.methodLink RX12 381 yX12_areMeanings ∈ TB := tb_m 1882 (by decide +kernel) (by decide +kernel)
theorem m_1884 : Cond.instanceMethod yX12_areMeanings ∈ TB := tb_m 1884 (by decide +kernel) (by decide +kernel)
theorem m_1885 : Cond.code yX12_areMeanings cX12_areMeanings 2 (some .boolean) ∈ TB := tb_m 1885 (by decide +kernel) (by decide +kernel)
theorem m_1886 : Cond.methodLink RX12 384 yX12_coverOf ∈ TB := tb_m 1886 (by decide +kernel) (by decide +kernel)
theorem m_1888 : Cond.instanceMethod yX12_coverOf ∈ TB := tb_m 1888 (by decide +kernel) (by decide +kernel)
theorem m_1889 : Cond.code yX12_coverOf cX12_coverOf 4 (some .int) ∈ TB := tb_m 1889 (by decide +kernel) (by decide +kernel)
theorem m_189 : Cond.fieldLink RX0 49 "WordSeats$Chamber" "terms" "LWordSeats$Terms;" ∈ TB := tb_m 189 (by decide +kernel) (by decide +kernel)
theorem m_1898 : Cond.methodLink RX12 393 yX12_houseOf ∈ TB := tb_m 1898 (by decide +kernel) (by decide +kernel)
theorem m_1900 : Cond.instanceMethod yX12_houseOf ∈ TB := tb_m 1900 (by decide +kernel) (by decide +kernel)
theorem m_1901 : Cond.code yX12_houseOf cX12_houseOf 4 (some .int) ∈ TB := tb_m 1901 (by decide +kernel) (by decide +kernel)
theorem m_1902 : Cond.methodLink RX12 390 yX12_isHouse ∈ TB := tb_m 1902 (by decide +kernel) (by decide +kernel)
theorem m_1904 : Cond.instanceMethod yX12_isHouse ∈ TB := tb_m 1904 (by decide +kernel) (by decide +kernel)
theorem m_1905 : Cond.code yX12_isHouse cX12_isHouse 4 (some .boolean) ∈ TB := tb_m 1905 (by decide +kernel) (by decide +kernel)
theorem m_1914 : Cond.methodLink RX12 405 yX12_findFeint ∈ TB := tb_m 1914 (by decide +kernel) (by decide +kernel)
theorem m_1916 : Cond.instanceMethod yX12_findFeint ∈ TB := tb_m 1916 (by decide +kernel) (by decide +kernel)
theorem m_1917 : Cond.code yX12_findFeint cX12_findFeint 7 none ∈ TB := tb_m 1917 (by decide +kernel) (by decide +kernel)
theorem m_1918 : Cond.methodLink RX12 396 yX12_likesSitter ∈ TB := tb_m 1918 (by decide +kernel) (by decide +kernel)
theorem m_1920 : Cond.instanceMethod yX12_likesSitter ∈ TB := tb_m 1920 (by decide +kernel) (by decide +kernel)
theorem m_1921 : Cond.code yX12_likesSitter cX12_likesSitter 3 (some .int) ∈ TB := tb_m 1921 (by decide +kernel) (by decide +kernel)
theorem m_1934 : Cond.methodLink RX12 413 yX12_isParty ∈ TB := tb_m 1934 (by decide +kernel) (by decide +kernel)
theorem m_1935 : Cond.static yX12_isParty ∈ TB := tb_m 1935 (by decide +kernel) (by decide +kernel)
theorem m_1936 : Cond.code yX12_isParty cX12_isParty 1 (some .boolean) ∈ TB := tb_m 1936 (by decide +kernel) (by decide +kernel)
theorem m_1937 : Cond.methodLink RX12 408 yX12_seatsOf ∈ TB := tb_m 1937 (by decide +kernel) (by decide +kernel)
theorem m_1939 : Cond.instanceMethod yX12_seatsOf ∈ TB := tb_m 1939 (by decide +kernel) (by decide +kernel)
theorem m_1940 : Cond.code yX12_seatsOf cX12_seatsOf 4 (some .int) ∈ TB := tb_m 1940 (by decide +kernel) (by decide +kernel)
theorem m_1945 : Cond.methodLink RX12 416 yX12_areParties ∈ TB := tb_m 1945 (by decide +kernel) (by decide +kernel)
theorem m_1947 : Cond.instanceMethod yX12_areParties ∈ TB := tb_m 1947 (by decide +kernel) (by decide +kernel)
theorem m_1948 : Cond.code yX12_areParties cX12_areParties 2 (some .boolean) ∈ TB := tb_m 1948 (by decide +kernel) (by decide +kernel)
theorem m_1949 : Cond.constantLong RX12 411 (15) ∈ TB := tb_m 1949 (by decide +kernel) (by decide +kernel)
theorem m_1950 : Cond.methodLink RX12 419 yX12_isMajority ∈ TB := tb_m 1950 (by decide +kernel) (by decide +kernel)
theorem m_1952 : Cond.instanceMethod yX12_isMajority ∈ TB := tb_m 1952 (by decide +kernel) (by decide +kernel)
theorem m_1953 : Cond.code yX12_isMajority cX12_isMajority 4 (some .boolean) ∈ TB := tb_m 1953 (by decide +kernel) (by decide +kernel)
theorem m_1958 : Cond.methodLink RX12 422 yX12_orders ∈ TB := tb_m 1958 (by decide +kernel) (by decide +kernel)
theorem m_1959 : Cond.static yX12_orders ∈ TB := tb_m 1959 (by decide +kernel) (by decide +kernel)
theorem m_1960 : Cond.code yX12_orders cX12_orders 3 (some .int) ∈ TB := tb_m 1960 (by decide +kernel) (by decide +kernel)
theorem m_1961 : Cond.methodLink RX12 425 yX12_divisor ∈ TB := tb_m 1961 (by decide +kernel) (by decide +kernel)
theorem m_1962 : Cond.static yX12_divisor ∈ TB := tb_m 1962 (by decide +kernel) (by decide +kernel)
theorem m_1963 : Cond.code yX12_divisor cX12_divisor 5 (some .int) ∈ TB := tb_m 1963 (by decide +kernel) (by decide +kernel)
theorem m_1976 : Cond.constantLong RX12 428 (20) ∈ TB := tb_m 1976 (by decide +kernel) (by decide +kernel)
theorem m_1981 : Cond.methodLink RX12 433 yX12_canRig ∈ TB := tb_m 1981 (by decide +kernel) (by decide +kernel)
theorem m_1983 : Cond.instanceMethod yX12_canRig ∈ TB := tb_m 1983 (by decide +kernel) (by decide +kernel)
theorem m_1984 : Cond.code yX12_canRig cX12_canRig 1 (some .boolean) ∈ TB := tb_m 1984 (by decide +kernel) (by decide +kernel)
theorem m_1985 : Cond.methodLink RX12 436 yX12_rig ∈ TB := tb_m 1985 (by decide +kernel) (by decide +kernel)
theorem m_1987 : Cond.instanceMethod yX12_rig ∈ TB := tb_m 1987 (by decide +kernel) (by decide +kernel)
theorem m_1988 : Cond.code yX12_rig cX12_rig 10 none ∈ TB := tb_m 1988 (by decide +kernel) (by decide +kernel)
theorem m_2001 : Cond.methodLink RX12 439 yX12_isSlot ∈ TB := tb_m 2001 (by decide +kernel) (by decide +kernel)
theorem m_2002 : Cond.static yX12_isSlot ∈ TB := tb_m 2002 (by decide +kernel) (by decide +kernel)
theorem m_2003 : Cond.code yX12_isSlot cX12_isSlot 1 (some .boolean) ∈ TB := tb_m 2003 (by decide +kernel) (by decide +kernel)
theorem m_2008 : Cond.constantLong RX12 446 (9) ∈ TB := tb_m 2008 (by decide +kernel) (by decide +kernel)
theorem m_2037 : Cond.constantLong RX12 464 (100) ∈ TB := tb_m 2037 (by decide +kernel) (by decide +kernel)
theorem m_2042 : Cond.methodLink RX12 476 yX12_isSeed ∈ TB := tb_m 2042 (by decide +kernel) (by decide +kernel)
theorem m_2043 : Cond.static yX12_isSeed ∈ TB := tb_m 2043 (by decide +kernel) (by decide +kernel)
theorem m_2044 : Cond.code yX12_isSeed cX12_isSeed 1 (some .boolean) ∈ TB := tb_m 2044 (by decide +kernel) (by decide +kernel)
theorem m_2045 : Cond.constantLong RX12 474 (2000000000) ∈ TB := tb_m 2045 (by decide +kernel) (by decide +kernel)
theorem m_2046 : Cond.methodLink RX12 479 yX12_drawnSitter ∈ TB := tb_m 2046 (by decide +kernel) (by decide +kernel)
theorem m_2048 : Cond.instanceMethod yX12_drawnSitter ∈ TB := tb_m 2048 (by decide +kernel) (by decide +kernel)
theorem m_2049 : Cond.code yX12_drawnSitter cX12_drawnSitter 7 (some .int) ∈ TB := tb_m 2049 (by decide +kernel) (by decide +kernel)
theorem m_2050 : Cond.constantLong RX12 466 (1103515245) ∈ TB := tb_m 2050 (by decide +kernel) (by decide +kernel)
theorem m_2051 : Cond.constantLong RX12 468 (12345) ∈ TB := tb_m 2051 (by decide +kernel) (by decide +kernel)
theorem m_2052 : Cond.constantLong RX12 470 (2147483648) ∈ TB := tb_m 2052 (by decide +kernel) (by decide +kernel)
theorem m_2053 : Cond.constantLong RX12 472 (65536) ∈ TB := tb_m 2053 (by decide +kernel) (by decide +kernel)
theorem m_2070 : Cond.methodLink RX12 483 yX12_cut ∈ TB := tb_m 2070 (by decide +kernel) (by decide +kernel)
theorem m_2071 : Cond.static yX12_cut ∈ TB := tb_m 2071 (by decide +kernel) (by decide +kernel)
theorem m_2072 : Cond.code yX12_cut cX12_cut 4 (some .long) ∈ TB := tb_m 2072 (by decide +kernel) (by decide +kernel)
theorem m_21 : Cond.initialized RJ6 ∈ TB := tb_m 21 (by decide +kernel) (by decide +kernel)
theorem m_3 : Cond.initialized RX0 ∈ TB := tb_m 3 (by decide +kernel) (by decide +kernel)
theorem m_527 : Cond.static Lib.Math.min.name ∈ TB := tb_m 527 (by decide +kernel) (by decide +kernel)
theorem m_528 : Cond.code Lib.Math.min.name Lib.Math.min.code 2 (some .int) ∈ TB := tb_m 528 (by decide +kernel) (by decide +kernel)
theorem m_703 : Cond.instanceMethod yX0_hasWord ∈ TB := tb_m 703 (by decide +kernel) (by decide +kernel)
theorem m_704 : Cond.selects RX0 yX0_hasWord yX0_hasWord ∈ TB := tb_m 704 (by decide +kernel) (by decide +kernel)
theorem m_705 : Cond.code yX0_hasWord cX0_hasWord 2 (some .boolean) ∈ TB := tb_m 705 (by decide +kernel) (by decide +kernel)
theorem m_707 : Cond.static yX11_holds ∈ TB := tb_m 707 (by decide +kernel) (by decide +kernel)
theorem m_708 : Cond.code yX11_holds cX11_holds 2 (some .boolean) ∈ TB := tb_m 708 (by decide +kernel) (by decide +kernel)
theorem m_714 : Cond.instanceMethod yX0_hasSpeaker ∈ TB := tb_m 714 (by decide +kernel) (by decide +kernel)
theorem m_715 : Cond.selects RX0 yX0_hasSpeaker yX0_hasSpeaker ∈ TB := tb_m 715 (by decide +kernel) (by decide +kernel)
theorem m_716 : Cond.code yX0_hasSpeaker cX0_hasSpeaker 2 (some .boolean) ∈ TB := tb_m 716 (by decide +kernel) (by decide +kernel)
theorem m_729 : Cond.methodLink RX0 101 yX0_wordsIn ∈ TB := tb_m 729 (by decide +kernel) (by decide +kernel)
theorem m_730 : Cond.instanceMethod yX0_wordsIn ∈ TB := tb_m 730 (by decide +kernel) (by decide +kernel)
theorem m_731 : Cond.selects RX0 yX0_wordsIn yX0_wordsIn ∈ TB := tb_m 731 (by decide +kernel) (by decide +kernel)
theorem m_732 : Cond.code yX0_wordsIn cX0_wordsIn 4 (some .int) ∈ TB := tb_m 732 (by decide +kernel) (by decide +kernel)
theorem m_750 : Cond.methodLink RX0 112 yX0_hasSpeaker ∈ TB := tb_m 750 (by decide +kernel) (by decide +kernel)
theorem m_751 : Cond.methodLink RX0 116 yX0_hasWord ∈ TB := tb_m 751 (by decide +kernel) (by decide +kernel)
theorem m_752 : Cond.methodLink RX0 119 yJ6_bitCount_0f7a4 ∈ TB := tb_m 752 (by decide +kernel) (by decide +kernel)
theorem m_753 : Cond.static yJ6_bitCount_0f7a4 ∈ TB := tb_m 753 (by decide +kernel) (by decide +kernel)
theorem m_754 : Cond.code yJ6_bitCount_0f7a4 cJ6_bitCount_0f7a4 1 (some .int) ∈ TB := tb_m 754 (by decide +kernel) (by decide +kernel)
theorem m_755 : Cond.constant RJ6 265 (1431655765) ∈ TB := tb_m 755 (by decide +kernel) (by decide +kernel)
theorem m_756 : Cond.constant RJ6 266 (858993459) ∈ TB := tb_m 756 (by decide +kernel) (by decide +kernel)
theorem m_757 : Cond.constant RJ6 267 (252645135) ∈ TB := tb_m 757 (by decide +kernel) (by decide +kernel)
theorem m_s100 : Cond.selects RX12 yX12_canRig yX12_canRig ∈ TB := tb_s 100 (by decide +kernel) (by decide +kernel)
theorem m_s101 : Cond.selects RX12 yX12_rig yX12_rig ∈ TB := tb_s 101 (by decide +kernel) (by decide +kernel)
theorem m_s106 : Cond.selects RX12 yX12_drawnSitter yX12_drawnSitter ∈ TB := tb_s 106 (by decide +kernel) (by decide +kernel)
theorem m_s37 : Cond.selects RX12 yX12_advance yX12_advance ∈ TB := tb_s 37 (by decide +kernel) (by decide +kernel)
theorem m_s38 : Cond.selects RX12 yX12_see yX12_see ∈ TB := tb_s 38 (by decide +kernel) (by decide +kernel)
theorem m_s39 : Cond.selects RX12 yX12_good yX12_good ∈ TB := tb_s 39 (by decide +kernel) (by decide +kernel)
theorem m_s45 : Cond.selects RX12 yX12_errs yX12_errs ∈ TB := tb_s 45 (by decide +kernel) (by decide +kernel)
theorem m_s57 : Cond.selects RX12 yX12_isWord yX12_isWord ∈ TB := tb_s 57 (by decide +kernel) (by decide +kernel)
theorem m_s58 : Cond.selects RX12 yX12_ofWord yX12_ofWord ∈ TB := tb_s 58 (by decide +kernel) (by decide +kernel)
theorem m_s59 : Cond.selects RX12 yX12_isSpeaker yX12_isSpeaker ∈ TB := tb_s 59 (by decide +kernel) (by decide +kernel)
theorem m_s60 : Cond.selects RX12 yX12_ofSpeaker yX12_ofSpeaker ∈ TB := tb_s 60 (by decide +kernel) (by decide +kernel)
theorem m_s61 : Cond.selects RX12 yX12_isDistrict yX12_isDistrict ∈ TB := tb_s 61 (by decide +kernel) (by decide +kernel)
theorem m_s62 : Cond.selects RX12 yX12_asItIs yX12_asItIs ∈ TB := tb_s 62 (by decide +kernel) (by decide +kernel)
theorem m_s63 : Cond.selects RX12 yX12_living yX12_living ∈ TB := tb_s 63 (by decide +kernel) (by decide +kernel)
theorem m_s64 : Cond.selects RX12 yX12_allWords yX12_allWords ∈ TB := tb_s 64 (by decide +kernel) (by decide +kernel)
theorem m_s65 : Cond.selects RX12 yX12_standingIn yX12_standingIn ∈ TB := tb_s 65 (by decide +kernel) (by decide +kernel)
theorem m_s66 : Cond.selects RX12 yX12_votesOfAll yX12_votesOfAll ∈ TB := tb_s 66 (by decide +kernel) (by decide +kernel)
theorem m_s67 : Cond.selects RX12 yX12_likesOf yX12_likesOf ∈ TB := tb_s 67 (by decide +kernel) (by decide +kernel)
theorem m_s68 : Cond.selects RX12 yX12_firstOf yX12_firstOf ∈ TB := tb_s 68 (by decide +kernel) (by decide +kernel)
theorem m_s69 : Cond.selects RX12 yX12_isLiked yX12_isLiked ∈ TB := tb_s 69 (by decide +kernel) (by decide +kernel)
theorem m_s70 : Cond.selects RX12 yX12_isAhead yX12_isAhead ∈ TB := tb_s 70 (by decide +kernel) (by decide +kernel)
theorem m_s71 : Cond.selects RX12 yX12_isLonger yX12_isLonger ∈ TB := tb_s 71 (by decide +kernel) (by decide +kernel)
theorem m_s72 : Cond.selects RX12 yX12_count yX12_count ∈ TB := tb_s 72 (by decide +kernel) (by decide +kernel)
theorem m_s73 : Cond.selects RX12 yX12_votesIn yX12_votesIn ∈ TB := tb_s 73 (by decide +kernel) (by decide +kernel)
theorem m_s74 : Cond.selects RX12 yX12_winner yX12_winner ∈ TB := tb_s 74 (by decide +kernel) (by decide +kernel)
theorem m_s75 : Cond.selects RX12 yX12_strikes yX12_strikes ∈ TB := tb_s 75 (by decide +kernel) (by decide +kernel)
theorem m_s76 : Cond.selects RX12 yX12_mostOf yX12_mostOf ∈ TB := tb_s 76 (by decide +kernel) (by decide +kernel)
theorem m_s77 : Cond.selects RX12 yX12_runsOff yX12_runsOff ∈ TB := tb_s 77 (by decide +kernel) (by decide +kernel)
theorem m_s78 : Cond.selects RX12 yX12_sitter yX12_sitter ∈ TB := tb_s 78 (by decide +kernel) (by decide +kernel)
theorem m_s79 : Cond.selects RX12 yX12_isDead yX12_isDead ∈ TB := tb_s 79 (by decide +kernel) (by decide +kernel)
theorem m_s80 : Cond.selects RX12 yX12_beatsOf yX12_beatsOf ∈ TB := tb_s 80 (by decide +kernel) (by decide +kernel)
theorem m_s81 : Cond.selects RX12 yX12_isChamber yX12_isChamber ∈ TB := tb_s 81 (by decide +kernel) (by decide +kernel)
theorem m_s82 : Cond.selects RX12 yX12_sitterWithout yX12_sitterWithout ∈ TB := tb_s 82 (by decide +kernel) (by decide +kernel)
theorem m_s83 : Cond.selects RX12 yX12_electedNow yX12_electedNow ∈ TB := tb_s 83 (by decide +kernel) (by decide +kernel)
theorem m_s84 : Cond.selects RX12 yX12_goesTerm yX12_goesTerm ∈ TB := tb_s 84 (by decide +kernel) (by decide +kernel)
theorem m_s85 : Cond.selects RX12 yX12_isMeaning yX12_isMeaning ∈ TB := tb_s 85 (by decide +kernel) (by decide +kernel)
theorem m_s86 : Cond.selects RX12 yX12_speak yX12_speak ∈ TB := tb_s 86 (by decide +kernel) (by decide +kernel)
theorem m_s87 : Cond.selects RX12 yX12_byRound yX12_byRound ∈ TB := tb_s 87 (by decide +kernel) (by decide +kernel)
theorem m_s88 : Cond.selects RX12 yX12_sayable yX12_sayable ∈ TB := tb_s 88 (by decide +kernel) (by decide +kernel)
theorem m_s89 : Cond.selects RX12 yX12_costOf yX12_costOf ∈ TB := tb_s 89 (by decide +kernel) (by decide +kernel)
theorem m_s90 : Cond.selects RX12 yX12_costBy yX12_costBy ∈ TB := tb_s 90 (by decide +kernel) (by decide +kernel)
theorem m_s91 : Cond.selects RX12 yX12_areMeanings yX12_areMeanings ∈ TB := tb_s 91 (by decide +kernel) (by decide +kernel)
theorem m_s92 : Cond.selects RX12 yX12_coverOf yX12_coverOf ∈ TB := tb_s 92 (by decide +kernel) (by decide +kernel)
theorem m_s93 : Cond.selects RX12 yX12_houseOf yX12_houseOf ∈ TB := tb_s 93 (by decide +kernel) (by decide +kernel)
theorem m_s94 : Cond.selects RX12 yX12_isHouse yX12_isHouse ∈ TB := tb_s 94 (by decide +kernel) (by decide +kernel)
theorem m_s95 : Cond.selects RX12 yX12_findFeint yX12_findFeint ∈ TB := tb_s 95 (by decide +kernel) (by decide +kernel)
theorem m_s96 : Cond.selects RX12 yX12_likesSitter yX12_likesSitter ∈ TB := tb_s 96 (by decide +kernel) (by decide +kernel)
theorem m_s97 : Cond.selects RX12 yX12_seatsOf yX12_seatsOf ∈ TB := tb_s 97 (by decide +kernel) (by decide +kernel)
theorem m_s98 : Cond.selects RX12 yX12_areParties yX12_areParties ∈ TB := tb_s 98 (by decide +kernel) (by decide +kernel)
theorem m_s99 : Cond.selects RX12 yX12_isMajority yX12_isMajority ∈ TB := tb_s 99 (by decide +kernel) (by decide +kernel)
theorem n_741 : Cond.methodLinkNest RX0 108 yX11_holds "WordSeats" ∈ NB := nb_m 741 (by decide +kernel) rfl
theorem n_94 : Cond.fieldLinkNest RX0 105 "WordSeats$Terms" "dead" "I" "WordSeats" ∈ NB := nb_m 94 (by decide +kernel) rfl
theorem hd_J6_bitCount_0f7a4 : hdT yJ6_bitCount_0f7a4 1 := by decide +kernel
theorem hd_X0_hasSpeaker : hdT yX0_hasSpeaker 1 := by decide +kernel
theorem hd_X0_hasWord : hdT yX0_hasWord 1 := by decide +kernel
theorem hd_X0_wordsIn : hdT yX0_wordsIn 1 := by decide +kernel
theorem hd_X11_holds : hdT yX11_holds 2 := by decide +kernel
theorem hd_X12_advance : hdT yX12_advance 0 := by decide +kernel
theorem hd_X12_allWords : hdT yX12_allWords 0 := by decide +kernel
theorem hd_X12_areMeanings : hdT yX12_areMeanings 1 := by decide +kernel
theorem hd_X12_areParties : hdT yX12_areParties 1 := by decide +kernel
theorem hd_X12_asItIs : hdT yX12_asItIs 0 := by decide +kernel
theorem hd_X12_beatsOf : hdT yX12_beatsOf 2 := by decide +kernel
theorem hd_X12_bit : hdT yX12_bit 2 := by decide +kernel
theorem hd_X12_bits : hdT yX12_bits 1 := by decide +kernel
theorem hd_X12_byRound : hdT yX12_byRound 1 := by decide +kernel
theorem hd_X12_canRig : hdT yX12_canRig 0 := by decide +kernel
theorem hd_X12_costBy : hdT yX12_costBy 1 := by decide +kernel
theorem hd_X12_costOf : hdT yX12_costOf 1 := by decide +kernel
theorem hd_X12_count : hdT yX12_count 3 := by decide +kernel
theorem hd_X12_coverOf : hdT yX12_coverOf 1 := by decide +kernel
theorem hd_X12_cut : hdT yX12_cut 2 := by decide +kernel
theorem hd_X12_divisor : hdT yX12_divisor 2 := by decide +kernel
theorem hd_X12_drawnSitter : hdT yX12_drawnSitter 2 := by decide +kernel
theorem hd_X12_electedNow : hdT yX12_electedNow 0 := by decide +kernel
theorem hd_X12_errs : hdT yX12_errs 1 := by decide +kernel
theorem hd_X12_findFeint : hdT yX12_findFeint 1 := by decide +kernel
theorem hd_X12_firstOf : hdT yX12_firstOf 2 := by decide +kernel
theorem hd_X12_goesTerm : hdT yX12_goesTerm 0 := by decide +kernel
theorem hd_X12_good : hdT yX12_good 0 := by decide +kernel
theorem hd_X12_houseOf : hdT yX12_houseOf 0 := by decide +kernel
theorem hd_X12_in : hdT yX12_in 3 := by decide +kernel
theorem hd_X12_isAhead : hdT yX12_isAhead 3 := by decide +kernel
theorem hd_X12_isChamber : hdT yX12_isChamber 0 := by decide +kernel
theorem hd_X12_isDead : hdT yX12_isDead 1 := by decide +kernel
theorem hd_X12_isDistrict : hdT yX12_isDistrict 1 := by decide +kernel
theorem hd_X12_isHouse : hdT yX12_isHouse 1 := by decide +kernel
theorem hd_X12_isLaw : hdT yX12_isLaw 1 := by decide +kernel
theorem hd_X12_isLiked : hdT yX12_isLiked 2 := by decide +kernel
theorem hd_X12_isLonger : hdT yX12_isLonger 2 := by decide +kernel
theorem hd_X12_isMajority : hdT yX12_isMajority 1 := by decide +kernel
theorem hd_X12_isMeaning : hdT yX12_isMeaning 1 := by decide +kernel
theorem hd_X12_isParty : hdT yX12_isParty 1 := by decide +kernel
theorem hd_X12_isSeed : hdT yX12_isSeed 1 := by decide +kernel
theorem hd_X12_isSlot : hdT yX12_isSlot 1 := by decide +kernel
theorem hd_X12_isSpeaker : hdT yX12_isSpeaker 1 := by decide +kernel
theorem hd_X12_isWord : hdT yX12_isWord 1 := by decide +kernel
theorem hd_X12_likesOf : hdT yX12_likesOf 2 := by decide +kernel
theorem hd_X12_likesSitter : hdT yX12_likesSitter 2 := by decide +kernel
theorem hd_X12_living : hdT yX12_living 0 := by decide +kernel
theorem hd_X12_mostOf : hdT yX12_mostOf 1 := by decide +kernel
theorem hd_X12_ofSpeaker : hdT yX12_ofSpeaker 2 := by decide +kernel
theorem hd_X12_ofWord : hdT yX12_ofWord 2 := by decide +kernel
theorem hd_X12_orNone : hdT yX12_orNone 1 := by decide +kernel
theorem hd_X12_orders : hdT yX12_orders 1 := by decide +kernel
theorem hd_X12_rig : hdT yX12_rig 1 := by decide +kernel
theorem hd_X12_runsOff : hdT yX12_runsOff 2 := by decide +kernel
theorem hd_X12_sayable : hdT yX12_sayable 0 := by decide +kernel
theorem hd_X12_seatsOf : hdT yX12_seatsOf 1 := by decide +kernel
theorem hd_X12_see : hdT yX12_see 1 := by decide +kernel
theorem hd_X12_sitter : hdT yX12_sitter 2 := by decide +kernel
theorem hd_X12_sitterWithout : hdT yX12_sitterWithout 1 := by decide +kernel
theorem hd_X12_speak : hdT yX12_speak 1 := by decide +kernel
theorem hd_X12_standingIn : hdT yX12_standingIn 1 := by decide +kernel
theorem hd_X12_strikes : hdT yX12_strikes 2 := by decide +kernel
theorem hd_X12_votesIn : hdT yX12_votesIn 2 := by decide +kernel
theorem hd_X12_votesOfAll : hdT yX12_votesOfAll 1 := by decide +kernel
theorem hd_X12_winner : hdT yX12_winner 2 := by decide +kernel
