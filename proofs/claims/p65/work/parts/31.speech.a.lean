theorem dX11_fits_0 : decode cX11_fits 0 = .ok (.aload_n 0, 1) := by decide +kernel
theorem dX11_fits_1 : decode cX11_fits 1 = .ok (.iload_n 1, 1) := by decide +kernel
theorem dX11_fits_2 : decode cX11_fits 2 = .ok (.invokevirtual 369, 3) := by decide +kernel
theorem dX11_fits_5 : decode cX11_fits 5 = .ok (.istore_n 2, 1) := by decide +kernel
theorem dX11_fits_6 : decode cX11_fits 6 = .ok (.iload_n 2, 1) := by decide +kernel
theorem dX11_fits_7 : decode cX11_fits 7 = .ok (.ifCond .eq 5, 3) := by decide +kernel
theorem dX11_fits_10 : decode cX11_fits 10 = .ok (.iload_n 2, 1) := by decide +kernel
theorem dX11_fits_11 : decode cX11_fits 11 = .ok (.ireturn, 1) := by decide +kernel
theorem dX11_fits_12 : decode cX11_fits 12 = .ok (.aload_n 0, 1) := by decide +kernel
theorem dX11_fits_13 : decode cX11_fits 13 = .ok (.getfield 82, 3) := by decide +kernel
theorem dX11_fits_16 : decode cX11_fits 16 = .ok (.aload_n 0, 1) := by decide +kernel
theorem dX11_fits_17 : decode cX11_fits 17 = .ok (.getfield 41, 3) := by decide +kernel
theorem dX11_fits_20 : decode cX11_fits 20 = .ok (.iload_n 1, 1) := by decide +kernel
theorem dX11_fits_21 : decode cX11_fits 21 = .ok (.aaload, 1) := by decide +kernel
theorem dX11_fits_22 : decode cX11_fits 22 = .ok (.invokevirtual 376, 3) := by decide +kernel
theorem dX11_fits_25 : decode cX11_fits 25 = .ok (.aload_n 0, 1) := by decide +kernel
theorem dX11_fits_26 : decode cX11_fits 26 = .ok (.getfield 82, 3) := by decide +kernel
theorem dX11_fits_29 : decode cX11_fits 29 = .ok (.getfield 380, 3) := by decide +kernel
theorem dX11_fits_32 : decode cX11_fits 32 = .ok (.ireturn, 1) := by decide +kernel
theorem dX11_refusesSpeech_0 : decode cX11_refusesSpeech 0 = .ok (.iload_n 1, 1) := by decide +kernel
theorem dX11_refusesSpeech_1 : decode cX11_refusesSpeech 1 = .ok (.invokestatic 416, 3) := by decide +kernel
theorem dX11_refusesSpeech_4 : decode cX11_refusesSpeech 4 = .ok (.ifCond .eq 13, 3) := by decide +kernel
theorem dX11_refusesSpeech_7 : decode cX11_refusesSpeech 7 = .ok (.aload_n 0, 1) := by decide +kernel
theorem dX11_refusesSpeech_8 : decode cX11_refusesSpeech 8 = .ok (.getfield 32, 3) := by decide +kernel
theorem dX11_refusesSpeech_11 : decode cX11_refusesSpeech 11 = .ok (.invokevirtual 227, 3) := by decide +kernel
theorem dX11_refusesSpeech_14 : decode cX11_refusesSpeech 14 = .ok (.ifCond .eq 6, 3) := by decide +kernel
theorem dX11_refusesSpeech_17 : decode cX11_refusesSpeech 17 = .ok (.bipush (-2), 2) := by decide +kernel
theorem dX11_refusesSpeech_19 : decode cX11_refusesSpeech 19 = .ok (.ireturn, 1) := by decide +kernel
theorem dX11_refusesSpeech_20 : decode cX11_refusesSpeech 20 = .ok (.aload_n 0, 1) := by decide +kernel
theorem dX11_refusesSpeech_21 : decode cX11_refusesSpeech 21 = .ok (.getfield 41, 3) := by decide +kernel
theorem dX11_refusesSpeech_24 : decode cX11_refusesSpeech 24 = .ok (.iload_n 1, 1) := by decide +kernel
theorem dX11_refusesSpeech_25 : decode cX11_refusesSpeech 25 = .ok (.aaload, 1) := by decide +kernel
theorem dX11_refusesSpeech_26 : decode cX11_refusesSpeech 26 = .ok (.invokevirtual 423, 3) := by decide +kernel
theorem dX11_refusesSpeech_29 : decode cX11_refusesSpeech 29 = .ok (.ifCond .eq 6, 3) := by decide +kernel
theorem dX11_refusesSpeech_32 : decode cX11_refusesSpeech 32 = .ok (.bipush (-6), 2) := by decide +kernel
theorem dX11_refusesSpeech_34 : decode cX11_refusesSpeech 34 = .ok (.ireturn, 1) := by decide +kernel
theorem dX11_refusesSpeech_35 : decode cX11_refusesSpeech 35 = .ok (.aload_n 0, 1) := by decide +kernel
theorem dX11_refusesSpeech_36 : decode cX11_refusesSpeech 36 = .ok (.getfield 82, 3) := by decide +kernel
theorem dX11_refusesSpeech_39 : decode cX11_refusesSpeech 39 = .ok (.aload_n 0, 1) := by decide +kernel
theorem dX11_refusesSpeech_40 : decode cX11_refusesSpeech 40 = .ok (.getfield 41, 3) := by decide +kernel
theorem dX11_refusesSpeech_43 : decode cX11_refusesSpeech 43 = .ok (.iload_n 1, 1) := by decide +kernel
theorem dX11_refusesSpeech_44 : decode cX11_refusesSpeech 44 = .ok (.aaload, 1) := by decide +kernel
theorem dX11_refusesSpeech_45 : decode cX11_refusesSpeech 45 = .ok (.invokevirtual 447, 3) := by decide +kernel
theorem dX11_refusesSpeech_48 : decode cX11_refusesSpeech 48 = .ok (.ifCond .eq 7, 3) := by decide +kernel
theorem dX11_refusesSpeech_51 : decode cX11_refusesSpeech 51 = .ok (.iconst 0, 1) := by decide +kernel
theorem dX11_refusesSpeech_52 : decode cX11_refusesSpeech 52 = .ok (.goto 5, 3) := by decide +kernel
theorem dX11_refusesSpeech_55 : decode cX11_refusesSpeech 55 = .ok (.bipush (-2), 2) := by decide +kernel
theorem dX11_refusesSpeech_57 : decode cX11_refusesSpeech 57 = .ok (.ireturn, 1) := by decide +kernel
theorem dX11_speech_0 : decode cX11_speech 0 = .ok (.aload_n 0, 1) := by decide +kernel
theorem dX11_speech_1 : decode cX11_speech 1 = .ok (.iload_n 1, 1) := by decide +kernel
theorem dX11_speech_2 : decode cX11_speech 2 = .ok (.invokevirtual 369, 3) := by decide +kernel
theorem dX11_speech_5 : decode cX11_speech 5 = .ok (.istore_n 2, 1) := by decide +kernel
theorem dX11_speech_6 : decode cX11_speech 6 = .ok (.iload_n 2, 1) := by decide +kernel
theorem dX11_speech_7 : decode cX11_speech 7 = .ok (.ifCond .eq 7, 3) := by decide +kernel
theorem dX11_speech_10 : decode cX11_speech 10 = .ok (.iload_n 2, 1) := by decide +kernel
theorem dX11_speech_11 : decode cX11_speech 11 = .ok (.goto 26, 3) := by decide +kernel
theorem dX11_speech_14 : decode cX11_speech 14 = .ok (.aload_n 0, 1) := by decide +kernel
theorem dX11_speech_15 : decode cX11_speech 15 = .ok (.getfield 82, 3) := by decide +kernel
theorem dX11_speech_18 : decode cX11_speech 18 = .ok (.aload_n 0, 1) := by decide +kernel
theorem dX11_speech_19 : decode cX11_speech 19 = .ok (.getfield 41, 3) := by decide +kernel
theorem dX11_speech_22 : decode cX11_speech 22 = .ok (.iload_n 1, 1) := by decide +kernel
theorem dX11_speech_23 : decode cX11_speech 23 = .ok (.aaload, 1) := by decide +kernel
theorem dX11_speech_24 : decode cX11_speech 24 = .ok (.aload_n 0, 1) := by decide +kernel
theorem dX11_speech_25 : decode cX11_speech 25 = .ok (.getfield 32, 3) := by decide +kernel
theorem dX11_speech_28 : decode cX11_speech 28 = .ok (.getfield 131, 3) := by decide +kernel
theorem dX11_speech_31 : decode cX11_speech 31 = .ok (.getfield 245, 3) := by decide +kernel
theorem dX11_speech_34 : decode cX11_speech 34 = .ok (.invokevirtual 372, 3) := by decide +kernel
theorem dX11_speech_37 : decode cX11_speech 37 = .ok (.ireturn, 1) := by decide +kernel
theorem dX11_sure_0 : decode cX11_sure 0 = .ok (.iload_n 2, 1) := by decide +kernel
theorem dX11_sure_1 : decode cX11_sure 1 = .ok (.ifCond .lt 8, 3) := by decide +kernel
theorem dX11_sure_4 : decode cX11_sure 4 = .ok (.iload_n 2, 1) := by decide +kernel
theorem dX11_sure_5 : decode cX11_sure 5 = .ok (.iconst 1, 1) := by decide +kernel
theorem dX11_sure_6 : decode cX11_sure 6 = .ok (.if_icmp .le 6, 3) := by decide +kernel
theorem dX11_sure_9 : decode cX11_sure 9 = .ok (.bipush (-2), 2) := by decide +kernel
theorem dX11_sure_11 : decode cX11_sure 11 = .ok (.ireturn, 1) := by decide +kernel
theorem dX11_sure_12 : decode cX11_sure 12 = .ok (.aload_n 0, 1) := by decide +kernel
theorem dX11_sure_13 : decode cX11_sure 13 = .ok (.iload_n 1, 1) := by decide +kernel
theorem dX11_sure_14 : decode cX11_sure 14 = .ok (.invokevirtual 369, 3) := by decide +kernel
theorem dX11_sure_17 : decode cX11_sure 17 = .ok (.istore_n 3, 1) := by decide +kernel
theorem dX11_sure_18 : decode cX11_sure 18 = .ok (.iload_n 3, 1) := by decide +kernel
theorem dX11_sure_19 : decode cX11_sure 19 = .ok (.ifCond .eq 5, 3) := by decide +kernel
theorem dX11_sure_22 : decode cX11_sure 22 = .ok (.iload_n 3, 1) := by decide +kernel
theorem dX11_sure_23 : decode cX11_sure 23 = .ok (.ireturn, 1) := by decide +kernel
theorem dX11_sure_24 : decode cX11_sure 24 = .ok (.aload_n 0, 1) := by decide +kernel
theorem dX11_sure_25 : decode cX11_sure 25 = .ok (.getfield 82, 3) := by decide +kernel
theorem dX11_sure_28 : decode cX11_sure 28 = .ok (.aload_n 0, 1) := by decide +kernel
theorem dX11_sure_29 : decode cX11_sure 29 = .ok (.getfield 41, 3) := by decide +kernel
theorem dX11_sure_32 : decode cX11_sure 32 = .ok (.iload_n 1, 1) := by decide +kernel
theorem dX11_sure_33 : decode cX11_sure 33 = .ok (.aaload, 1) := by decide +kernel
theorem dX11_sure_34 : decode cX11_sure 34 = .ok (.invokevirtual 376, 3) := by decide +kernel
theorem dX11_sure_37 : decode cX11_sure 37 = .ok (.iload_n 2, 1) := by decide +kernel
theorem dX11_sure_38 : decode cX11_sure 38 = .ok (.ifCond .ne 13, 3) := by decide +kernel
theorem dX11_sure_41 : decode cX11_sure 41 = .ok (.aload_n 0, 1) := by decide +kernel
theorem dX11_sure_42 : decode cX11_sure 42 = .ok (.getfield 82, 3) := by decide +kernel
theorem dX11_sure_45 : decode cX11_sure 45 = .ok (.getfield 383, 3) := by decide +kernel
theorem dX11_sure_48 : decode cX11_sure 48 = .ok (.goto 10, 3) := by decide +kernel
theorem dX11_sure_51 : decode cX11_sure 51 = .ok (.aload_n 0, 1) := by decide +kernel
theorem dX11_sure_52 : decode cX11_sure 52 = .ok (.getfield 82, 3) := by decide +kernel
theorem dX11_sure_55 : decode cX11_sure 55 = .ok (.getfield 386, 3) := by decide +kernel
theorem dX11_sure_58 : decode cX11_sure 58 = .ok (.ireturn, 1) := by decide +kernel
theorem dX7_firstUnsaid_0 : decode cX7_firstUnsaid 0 = .ok (.aload_n 0, 1) := by decide +kernel
theorem dX7_firstUnsaid_1 : decode cX7_firstUnsaid 1 = .ok (.getfield 15, 3) := by decide +kernel
theorem dX7_firstUnsaid_4 : decode cX7_firstUnsaid 4 = .ok (.iload_n 2, 1) := by decide +kernel
theorem dX7_firstUnsaid_5 : decode cX7_firstUnsaid 5 = .ok (.invokevirtual 39, 3) := by decide +kernel
theorem dX7_firstUnsaid_8 : decode cX7_firstUnsaid 8 = .ok (.iconst 0, 1) := by decide +kernel
theorem dX7_firstUnsaid_9 : decode cX7_firstUnsaid 9 = .ok (.istore_n 3, 1) := by decide +kernel
theorem dX7_firstUnsaid_10 : decode cX7_firstUnsaid 10 = .ok (.iload_n 3, 1) := by decide +kernel
theorem dX7_firstUnsaid_11 : decode cX7_firstUnsaid 11 = .ok (.iconst 1, 1) := by decide +kernel
theorem dX7_firstUnsaid_12 : decode cX7_firstUnsaid 12 = .ok (.iadd, 1) := by decide +kernel
theorem dX7_firstUnsaid_13 : decode cX7_firstUnsaid 13 = .ok (.aload_n 1, 1) := by decide +kernel
theorem dX7_firstUnsaid_14 : decode cX7_firstUnsaid 14 = .ok (.getfield 19, 3) := by decide +kernel
theorem dX7_firstUnsaid_17 : decode cX7_firstUnsaid 17 = .ok (.if_icmp .ge 91, 3) := by decide +kernel
theorem dX7_firstUnsaid_20 : decode cX7_firstUnsaid 20 = .ok (.aload_n 1, 1) := by decide +kernel
theorem dX7_firstUnsaid_21 : decode cX7_firstUnsaid 21 = .ok (.getfield 25, 3) := by decide +kernel
theorem dX7_firstUnsaid_24 : decode cX7_firstUnsaid 24 = .ok (.iload_n 3, 1) := by decide +kernel
theorem dX7_firstUnsaid_25 : decode cX7_firstUnsaid 25 = .ok (.laload, 1) := by decide +kernel
theorem dX7_firstUnsaid_26 : decode cX7_firstUnsaid 26 = .ok (.l2i, 1) := by decide +kernel
theorem dX7_firstUnsaid_27 : decode cX7_firstUnsaid 27 = .ok (.istore 4, 2) := by decide +kernel
theorem dX7_firstUnsaid_29 : decode cX7_firstUnsaid 29 = .ok (.aload_n 1, 1) := by decide +kernel
theorem dX7_firstUnsaid_30 : decode cX7_firstUnsaid 30 = .ok (.getfield 25, 3) := by decide +kernel
theorem dX7_firstUnsaid_33 : decode cX7_firstUnsaid 33 = .ok (.iload_n 3, 1) := by decide +kernel
theorem dX7_firstUnsaid_34 : decode cX7_firstUnsaid 34 = .ok (.iconst 1, 1) := by decide +kernel
theorem dX7_firstUnsaid_35 : decode cX7_firstUnsaid 35 = .ok (.iadd, 1) := by decide +kernel
theorem dX7_firstUnsaid_36 : decode cX7_firstUnsaid 36 = .ok (.laload, 1) := by decide +kernel
theorem dX7_firstUnsaid_37 : decode cX7_firstUnsaid 37 = .ok (.l2i, 1) := by decide +kernel
theorem dX7_firstUnsaid_38 : decode cX7_firstUnsaid 38 = .ok (.istore 5, 2) := by decide +kernel
theorem dX7_firstUnsaid_40 : decode cX7_firstUnsaid 40 = .ok (.iload 5, 2) := by decide +kernel
theorem dX7_firstUnsaid_42 : decode cX7_firstUnsaid 42 = .ok (.bipush 9, 2) := by decide +kernel
theorem dX7_firstUnsaid_44 : decode cX7_firstUnsaid 44 = .ok (.if_icmp .ne 15, 3) := by decide +kernel
theorem dX7_firstUnsaid_47 : decode cX7_firstUnsaid 47 = .ok (.aload_n 0, 1) := by decide +kernel
theorem dX7_firstUnsaid_48 : decode cX7_firstUnsaid 48 = .ok (.getfield 15, 3) := by decide +kernel
theorem dX7_firstUnsaid_51 : decode cX7_firstUnsaid 51 = .ok (.iload 4, 2) := by decide +kernel
theorem dX7_firstUnsaid_53 : decode cX7_firstUnsaid 53 = .ok (.invokevirtual 45, 3) := by decide +kernel
theorem dX7_firstUnsaid_56 : decode cX7_firstUnsaid 56 = .ok (.goto 35, 3) := by decide +kernel
theorem dX7_firstUnsaid_59 : decode cX7_firstUnsaid 59 = .ok (.iload_n 2, 1) := by decide +kernel
theorem dX7_firstUnsaid_60 : decode cX7_firstUnsaid 60 = .ok (.iload 5, 2) := by decide +kernel
theorem dX7_firstUnsaid_62 : decode cX7_firstUnsaid 62 = .ok (.invokestatic 49, 3) := by decide +kernel
theorem dX7_firstUnsaid_65 : decode cX7_firstUnsaid 65 = .ok (.ifCond .eq 25, 3) := by decide +kernel
theorem dX7_firstUnsaid_68 : decode cX7_firstUnsaid 68 = .ok (.aload_n 0, 1) := by decide +kernel
theorem dX7_firstUnsaid_69 : decode cX7_firstUnsaid 69 = .ok (.getfield 9, 3) := by decide +kernel
theorem dX7_firstUnsaid_72 : decode cX7_firstUnsaid 72 = .ok (.getfield 53, 3) := by decide +kernel
theorem dX7_firstUnsaid_75 : decode cX7_firstUnsaid 75 = .ok (.iload 5, 2) := by decide +kernel
theorem dX7_firstUnsaid_77 : decode cX7_firstUnsaid 77 = .ok (.iaload, 1) := by decide +kernel
theorem dX7_firstUnsaid_78 : decode cX7_firstUnsaid 78 = .ok (.iload 4, 2) := by decide +kernel
theorem dX7_firstUnsaid_80 : decode cX7_firstUnsaid 80 = .ok (.invokestatic 49, 3) := by decide +kernel
theorem dX7_firstUnsaid_83 : decode cX7_firstUnsaid 83 = .ok (.ifCond .eq 7, 3) := by decide +kernel
theorem dX7_firstUnsaid_86 : decode cX7_firstUnsaid 86 = .ok (.iconst 1, 1) := by decide +kernel
theorem dX7_firstUnsaid_87 : decode cX7_firstUnsaid 87 = .ok (.goto 4, 3) := by decide +kernel
theorem dX7_firstUnsaid_90 : decode cX7_firstUnsaid 90 = .ok (.iconst 0, 1) := by decide +kernel
theorem dX7_firstUnsaid_91 : decode cX7_firstUnsaid 91 = .ok (.istore 6, 2) := by decide +kernel
theorem dX7_firstUnsaid_93 : decode cX7_firstUnsaid 93 = .ok (.iload 6, 2) := by decide +kernel
theorem dX7_firstUnsaid_95 : decode cX7_firstUnsaid 95 = .ok (.ifCond .ne 7, 3) := by decide +kernel
theorem dX7_firstUnsaid_98 : decode cX7_firstUnsaid 98 = .ok (.iload_n 3, 1) := by decide +kernel
theorem dX7_firstUnsaid_99 : decode cX7_firstUnsaid 99 = .ok (.iconst 2, 1) := by decide +kernel
theorem dX7_firstUnsaid_100 : decode cX7_firstUnsaid 100 = .ok (.idiv, 1) := by decide +kernel
theorem dX7_firstUnsaid_101 : decode cX7_firstUnsaid 101 = .ok (.ireturn, 1) := by decide +kernel
theorem dX7_firstUnsaid_102 : decode cX7_firstUnsaid 102 = .ok (.iinc 3 2, 3) := by decide +kernel
theorem dX7_firstUnsaid_105 : decode cX7_firstUnsaid 105 = .ok (.goto (-95), 3) := by decide +kernel
theorem dX7_firstUnsaid_108 : decode cX7_firstUnsaid 108 = .ok (.iconst (-1), 1) := by decide +kernel
theorem dX7_firstUnsaid_109 : decode cX7_firstUnsaid 109 = .ok (.ireturn, 1) := by decide +kernel
theorem dX7_isSpeech_0 : decode cX7_isSpeech 0 = .ok (.aload_n 1, 1) := by decide +kernel
theorem dX7_isSpeech_1 : decode cX7_isSpeech 1 = .ok (.getfield 19, 3) := by decide +kernel
theorem dX7_isSpeech_4 : decode cX7_isSpeech 4 = .ok (.iconst 2, 1) := by decide +kernel
theorem dX7_isSpeech_5 : decode cX7_isSpeech 5 = .ok (.irem, 1) := by decide +kernel
theorem dX7_isSpeech_6 : decode cX7_isSpeech 6 = .ok (.ifCond .eq 5, 3) := by decide +kernel
theorem dX7_isSpeech_9 : decode cX7_isSpeech 9 = .ok (.iconst 0, 1) := by decide +kernel
theorem dX7_isSpeech_10 : decode cX7_isSpeech 10 = .ok (.ireturn, 1) := by decide +kernel
theorem dX7_isSpeech_11 : decode cX7_isSpeech 11 = .ok (.iconst 0, 1) := by decide +kernel
theorem dX7_isSpeech_12 : decode cX7_isSpeech 12 = .ok (.istore_n 2, 1) := by decide +kernel
theorem dX7_isSpeech_13 : decode cX7_isSpeech 13 = .ok (.iload_n 2, 1) := by decide +kernel
theorem dX7_isSpeech_14 : decode cX7_isSpeech 14 = .ok (.aload_n 1, 1) := by decide +kernel
theorem dX7_isSpeech_15 : decode cX7_isSpeech 15 = .ok (.getfield 19, 3) := by decide +kernel
theorem dX7_isSpeech_18 : decode cX7_isSpeech 18 = .ok (.if_icmp .ge 89, 3) := by decide +kernel
theorem dX7_isSpeech_21 : decode cX7_isSpeech 21 = .ok (.aload_n 1, 1) := by decide +kernel
theorem dX7_isSpeech_22 : decode cX7_isSpeech 22 = .ok (.getfield 25, 3) := by decide +kernel
theorem dX7_isSpeech_25 : decode cX7_isSpeech 25 = .ok (.iload_n 2, 1) := by decide +kernel
theorem dX7_isSpeech_26 : decode cX7_isSpeech 26 = .ok (.laload, 1) := by decide +kernel
theorem dX7_isSpeech_27 : decode cX7_isSpeech 27 = .ok (.lstore_n 3, 1) := by decide +kernel
theorem dX7_isSpeech_28 : decode cX7_isSpeech 28 = .ok (.aload_n 1, 1) := by decide +kernel
theorem dX7_isSpeech_29 : decode cX7_isSpeech 29 = .ok (.getfield 25, 3) := by decide +kernel
theorem dX7_isSpeech_32 : decode cX7_isSpeech 32 = .ok (.iload_n 2, 1) := by decide +kernel
theorem dX7_isSpeech_33 : decode cX7_isSpeech 33 = .ok (.iconst 1, 1) := by decide +kernel
theorem dX7_isSpeech_34 : decode cX7_isSpeech 34 = .ok (.iadd, 1) := by decide +kernel
theorem dX7_isSpeech_35 : decode cX7_isSpeech 35 = .ok (.laload, 1) := by decide +kernel
theorem dX7_isSpeech_36 : decode cX7_isSpeech 36 = .ok (.lstore 5, 2) := by decide +kernel
theorem dX7_isSpeech_38 : decode cX7_isSpeech 38 = .ok (.lload 5, 2) := by decide +kernel
theorem dX7_isSpeech_40 : decode cX7_isSpeech 40 = .ok (.lconst 0, 1) := by decide +kernel
theorem dX7_isSpeech_41 : decode cX7_isSpeech 41 = .ok (.lcmp, 1) := by decide +kernel
theorem dX7_isSpeech_42 : decode cX7_isSpeech 42 = .ok (.ifCond .lt 17, 3) := by decide +kernel
theorem dX7_isSpeech_45 : decode cX7_isSpeech 45 = .ok (.lload 5, 2) := by decide +kernel
theorem dX7_isSpeech_47 : decode cX7_isSpeech 47 = .ok (.aload_n 0, 1) := by decide +kernel
theorem dX7_isSpeech_48 : decode cX7_isSpeech 48 = .ok (.getfield 9, 3) := by decide +kernel
theorem dX7_isSpeech_51 : decode cX7_isSpeech 51 = .ok (.getfield 29, 3) := by decide +kernel
theorem dX7_isSpeech_54 : decode cX7_isSpeech 54 = .ok (.i2l, 1) := by decide +kernel
theorem dX7_isSpeech_55 : decode cX7_isSpeech 55 = .ok (.lcmp, 1) := by decide +kernel
theorem dX7_isSpeech_56 : decode cX7_isSpeech 56 = .ok (.ifCond .lt 12, 3) := by decide +kernel
theorem dX7_isSpeech_59 : decode cX7_isSpeech 59 = .ok (.lload 5, 2) := by decide +kernel
theorem dX7_isSpeech_61 : decode cX7_isSpeech 61 = .ok (.ldc2_w 34, 3) := by decide +kernel
theorem dX7_isSpeech_64 : decode cX7_isSpeech 64 = .ok (.lcmp, 1) := by decide +kernel
theorem dX7_isSpeech_65 : decode cX7_isSpeech 65 = .ok (.ifCond .ne 7, 3) := by decide +kernel
theorem dX7_isSpeech_68 : decode cX7_isSpeech 68 = .ok (.iconst 1, 1) := by decide +kernel
theorem dX7_isSpeech_69 : decode cX7_isSpeech 69 = .ok (.goto 4, 3) := by decide +kernel
theorem dX7_isSpeech_72 : decode cX7_isSpeech 72 = .ok (.iconst 0, 1) := by decide +kernel
theorem dX7_isSpeech_73 : decode cX7_isSpeech 73 = .ok (.istore 7, 2) := by decide +kernel
theorem dX7_isSpeech_75 : decode cX7_isSpeech 75 = .ok (.lload_n 3, 1) := by decide +kernel
theorem dX7_isSpeech_76 : decode cX7_isSpeech 76 = .ok (.lconst 0, 1) := by decide +kernel
theorem dX7_isSpeech_77 : decode cX7_isSpeech 77 = .ok (.lcmp, 1) := by decide +kernel
theorem dX7_isSpeech_78 : decode cX7_isSpeech 78 = .ok (.ifCond .lt 21, 3) := by decide +kernel
theorem dX7_isSpeech_81 : decode cX7_isSpeech 81 = .ok (.lload_n 3, 1) := by decide +kernel
theorem dX7_isSpeech_82 : decode cX7_isSpeech 82 = .ok (.aload_n 0, 1) := by decide +kernel
theorem dX7_isSpeech_83 : decode cX7_isSpeech 83 = .ok (.getfield 9, 3) := by decide +kernel
theorem dX7_isSpeech_86 : decode cX7_isSpeech 86 = .ok (.getfield 36, 3) := by decide +kernel
theorem dX7_isSpeech_89 : decode cX7_isSpeech 89 = .ok (.i2l, 1) := by decide +kernel
theorem dX7_isSpeech_90 : decode cX7_isSpeech 90 = .ok (.lcmp, 1) := by decide +kernel
theorem dX7_isSpeech_91 : decode cX7_isSpeech 91 = .ok (.ifCond .ge 8, 3) := by decide +kernel
theorem dX7_isSpeech_94 : decode cX7_isSpeech 94 = .ok (.iload 7, 2) := by decide +kernel
theorem dX7_isSpeech_96 : decode cX7_isSpeech 96 = .ok (.ifCond .ne 5, 3) := by decide +kernel
theorem dX7_isSpeech_99 : decode cX7_isSpeech 99 = .ok (.iconst 0, 1) := by decide +kernel
theorem dX7_isSpeech_100 : decode cX7_isSpeech 100 = .ok (.ireturn, 1) := by decide +kernel
theorem dX7_isSpeech_101 : decode cX7_isSpeech 101 = .ok (.iinc 2 2, 3) := by decide +kernel
theorem dX7_isSpeech_104 : decode cX7_isSpeech 104 = .ok (.goto (-91), 3) := by decide +kernel
theorem dX7_isSpeech_107 : decode cX7_isSpeech 107 = .ok (.iconst 1, 1) := by decide +kernel
theorem dX7_isSpeech_108 : decode cX7_isSpeech 108 = .ok (.ireturn, 1) := by decide +kernel
theorem dX7_survey_0 : decode cX7_survey 0 = .ok (.aload_n 0, 1) := by decide +kernel
theorem dX7_survey_1 : decode cX7_survey 1 = .ok (.iconst 0, 1) := by decide +kernel
theorem dX7_survey_2 : decode cX7_survey 2 = .ok (.putfield 57, 3) := by decide +kernel
theorem dX7_survey_5 : decode cX7_survey 5 = .ok (.aload_n 0, 1) := by decide +kernel
theorem dX7_survey_6 : decode cX7_survey 6 = .ok (.iconst 1, 1) := by decide +kernel
theorem dX7_survey_7 : decode cX7_survey 7 = .ok (.aload_n 0, 1) := by decide +kernel
theorem dX7_survey_8 : decode cX7_survey 8 = .ok (.getfield 9, 3) := by decide +kernel
theorem dX7_survey_11 : decode cX7_survey 11 = .ok (.getfield 29, 3) := by decide +kernel
theorem dX7_survey_14 : decode cX7_survey 14 = .ok (.ishl, 1) := by decide +kernel
theorem dX7_survey_15 : decode cX7_survey 15 = .ok (.iconst 1, 1) := by decide +kernel
theorem dX7_survey_16 : decode cX7_survey 16 = .ok (.isub, 1) := by decide +kernel
theorem dX7_survey_17 : decode cX7_survey 17 = .ok (.putfield 60, 3) := by decide +kernel
theorem dX7_survey_20 : decode cX7_survey 20 = .ok (.aload_n 0, 1) := by decide +kernel
theorem dX7_survey_21 : decode cX7_survey 21 = .ok (.iconst 0, 1) := by decide +kernel
theorem dX7_survey_22 : decode cX7_survey 22 = .ok (.putfield 63, 3) := by decide +kernel
theorem dX7_survey_25 : decode cX7_survey 25 = .ok (.iconst 0, 1) := by decide +kernel
theorem dX7_survey_26 : decode cX7_survey 26 = .ok (.istore_n 2, 1) := by decide +kernel
theorem dX7_survey_27 : decode cX7_survey 27 = .ok (.iload_n 2, 1) := by decide +kernel
theorem dX7_survey_28 : decode cX7_survey 28 = .ok (.iconst 1, 1) := by decide +kernel
theorem dX7_survey_29 : decode cX7_survey 29 = .ok (.aload_n 0, 1) := by decide +kernel
theorem dX7_survey_30 : decode cX7_survey 30 = .ok (.getfield 9, 3) := by decide +kernel
theorem dX7_survey_33 : decode cX7_survey 33 = .ok (.getfield 29, 3) := by decide +kernel
theorem dX7_survey_36 : decode cX7_survey 36 = .ok (.ishl, 1) := by decide +kernel
theorem dX7_survey_37 : decode cX7_survey 37 = .ok (.if_icmp .ge 60, 3) := by decide +kernel
theorem dX7_survey_40 : decode cX7_survey 40 = .ok (.aload_n 0, 1) := by decide +kernel
theorem dX7_survey_41 : decode cX7_survey 41 = .ok (.getfield 9, 3) := by decide +kernel
theorem dX7_survey_44 : decode cX7_survey 44 = .ok (.iload_n 2, 1) := by decide +kernel
theorem dX7_survey_45 : decode cX7_survey 45 = .ok (.invokevirtual 66, 3) := by decide +kernel
theorem dX7_survey_48 : decode cX7_survey 48 = .ok (.ifCond .eq 43, 3) := by decide +kernel
theorem dX7_survey_51 : decode cX7_survey 51 = .ok (.aload_n 0, 1) := by decide +kernel
theorem dX7_survey_52 : decode cX7_survey 52 = .ok (.aload_n 1, 1) := by decide +kernel
theorem dX7_survey_53 : decode cX7_survey 53 = .ok (.iload_n 2, 1) := by decide +kernel
theorem dX7_survey_54 : decode cX7_survey 54 = .ok (.invokevirtual 69, 3) := by decide +kernel
theorem dX7_survey_57 : decode cX7_survey 57 = .ok (.iconst (-1), 1) := by decide +kernel
theorem dX7_survey_58 : decode cX7_survey 58 = .ok (.if_icmp .ne 33, 3) := by decide +kernel
theorem dX7_survey_61 : decode cX7_survey 61 = .ok (.aload_n 0, 1) := by decide +kernel
theorem dX7_survey_62 : decode cX7_survey 62 = .ok (.dup, 1) := by decide +kernel
theorem dX7_survey_63 : decode cX7_survey 63 = .ok (.getfield 57, 3) := by decide +kernel
theorem dX7_survey_66 : decode cX7_survey 66 = .ok (.iconst 1, 1) := by decide +kernel
theorem dX7_survey_67 : decode cX7_survey 67 = .ok (.iadd, 1) := by decide +kernel
theorem dX7_survey_68 : decode cX7_survey 68 = .ok (.putfield 57, 3) := by decide +kernel
theorem dX7_survey_71 : decode cX7_survey 71 = .ok (.aload_n 0, 1) := by decide +kernel
theorem dX7_survey_72 : decode cX7_survey 72 = .ok (.dup, 1) := by decide +kernel
theorem dX7_survey_73 : decode cX7_survey 73 = .ok (.getfield 60, 3) := by decide +kernel
theorem dX7_survey_76 : decode cX7_survey 76 = .ok (.iload_n 2, 1) := by decide +kernel
theorem dX7_survey_77 : decode cX7_survey 77 = .ok (.iand, 1) := by decide +kernel
theorem dX7_survey_78 : decode cX7_survey 78 = .ok (.putfield 60, 3) := by decide +kernel
theorem dX7_survey_81 : decode cX7_survey 81 = .ok (.aload_n 0, 1) := by decide +kernel
theorem dX7_survey_82 : decode cX7_survey 82 = .ok (.dup, 1) := by decide +kernel
theorem dX7_survey_83 : decode cX7_survey 83 = .ok (.getfield 63, 3) := by decide +kernel
theorem dX7_survey_86 : decode cX7_survey 86 = .ok (.iload_n 2, 1) := by decide +kernel
theorem dX7_survey_87 : decode cX7_survey 87 = .ok (.ior, 1) := by decide +kernel
theorem dX7_survey_88 : decode cX7_survey 88 = .ok (.putfield 63, 3) := by decide +kernel
theorem dX7_survey_91 : decode cX7_survey 91 = .ok (.iinc 2 1, 3) := by decide +kernel
theorem dX7_survey_94 : decode cX7_survey 94 = .ok (.goto (-67), 3) := by decide +kernel
theorem dX7_survey_97 : decode cX7_survey 97 = .ok (.aload_n 0, 1) := by decide +kernel
theorem dX7_survey_98 : decode cX7_survey 98 = .ok (.getfield 57, 3) := by decide +kernel
theorem dX7_survey_101 : decode cX7_survey 101 = .ok (.ifCond .ne 8, 3) := by decide +kernel
theorem dX7_survey_104 : decode cX7_survey 104 = .ok (.aload_n 0, 1) := by decide +kernel
theorem dX7_survey_105 : decode cX7_survey 105 = .ok (.iconst 0, 1) := by decide +kernel
theorem dX7_survey_106 : decode cX7_survey 106 = .ok (.putfield 60, 3) := by decide +kernel
theorem dX7_survey_109 : decode cX7_survey 109 = .ok (.return_, 1) := by decide +kernel
theorem m_11 : Cond.initialized RX7 ∈ TB := tb_m 11 (by decide +kernel) (by decide +kernel)
theorem m_1216 : Cond.methodLink RX11 369 yX11_refusesSpeech ∈ TB := tb_m 1216 (by decide +kernel) (by decide +kernel)
theorem m_1218 : Cond.instanceMethod yX11_refusesSpeech ∈ TB := tb_m 1218 (by decide +kernel) (by decide +kernel)
theorem m_1219 : Cond.code yX11_refusesSpeech cX11_refusesSpeech 2 (some .int) ∈ TB := tb_m 1219 (by decide +kernel) (by decide +kernel)
theorem m_1227 : Cond.methodLink RX11 447 yX7_isSpeech ∈ TB := tb_m 1227 (by decide +kernel) (by decide +kernel)
theorem m_1228 : Cond.instanceMethod yX7_isSpeech ∈ TB := tb_m 1228 (by decide +kernel) (by decide +kernel)
theorem m_1229 : Cond.selects RX7 yX7_isSpeech yX7_isSpeech ∈ TB := tb_m 1229 (by decide +kernel) (by decide +kernel)
theorem m_1230 : Cond.code yX7_isSpeech cX7_isSpeech 8 (some .boolean) ∈ TB := tb_m 1230 (by decide +kernel) (by decide +kernel)
theorem m_1231 : Cond.constantLong RX7 34 (9) ∈ TB := tb_m 1231 (by decide +kernel) (by decide +kernel)
theorem m_1232 : Cond.methodLink RX11 372 yX7_firstUnsaid ∈ TB := tb_m 1232 (by decide +kernel) (by decide +kernel)
theorem m_1233 : Cond.instanceMethod yX7_firstUnsaid ∈ TB := tb_m 1233 (by decide +kernel) (by decide +kernel)
theorem m_1234 : Cond.selects RX7 yX7_firstUnsaid yX7_firstUnsaid ∈ TB := tb_m 1234 (by decide +kernel) (by decide +kernel)
theorem m_1235 : Cond.code yX7_firstUnsaid cX7_firstUnsaid 7 (some .int) ∈ TB := tb_m 1235 (by decide +kernel) (by decide +kernel)
theorem m_1236 : Cond.methodLink RX7 39 yX10_learn ∈ TB := tb_m 1236 (by decide +kernel) (by decide +kernel)
theorem m_1237 : Cond.methodLink RX7 45 yX10_goesRound ∈ TB := tb_m 1237 (by decide +kernel) (by decide +kernel)
theorem m_1243 : Cond.methodLink RX11 376 yX7_survey ∈ TB := tb_m 1243 (by decide +kernel) (by decide +kernel)
theorem m_1244 : Cond.instanceMethod yX7_survey ∈ TB := tb_m 1244 (by decide +kernel) (by decide +kernel)
theorem m_1245 : Cond.selects RX7 yX7_survey yX7_survey ∈ TB := tb_m 1245 (by decide +kernel) (by decide +kernel)
theorem m_1246 : Cond.code yX7_survey cX7_survey 3 none ∈ TB := tb_m 1246 (by decide +kernel) (by decide +kernel)
theorem m_1247 : Cond.methodLink RX7 66 yX0_canSit ∈ TB := tb_m 1247 (by decide +kernel) (by decide +kernel)
theorem m_1248 : Cond.methodLink RX7 69 yX7_firstUnsaid ∈ TB := tb_m 1248 (by decide +kernel) (by decide +kernel)
theorem m_393 : Cond.fieldLink RX7 9 "WordSeats$Speeches" "chamber" "LWordSeats$Chamber;" ∈ TB := tb_m 393 (by decide +kernel) (by decide +kernel)
theorem m_394 : Cond.fieldLink RX7 15 "WordSeats$Speeches" "tongue" "LWordSeats$Tongue;" ∈ TB := tb_m 394 (by decide +kernel) (by decide +kernel)
theorem m_395 : Cond.fieldLink RX7 57 "WordSeats$Speeches" "ways" "I" ∈ TB := tb_m 395 (by decide +kernel) (by decide +kernel)
theorem m_397 : Cond.fieldLink RX7 60 "WordSeats$Speeches" "always" "I" ∈ TB := tb_m 397 (by decide +kernel) (by decide +kernel)
theorem m_399 : Cond.fieldLink RX7 63 "WordSeats$Speeches" "ever" "I" ∈ TB := tb_m 399 (by decide +kernel) (by decide +kernel)
theorem m_444 : Cond.fieldLink RX11 82 "WordSeats" "speeches" "LWordSeats$Speeches;" ∈ TB := tb_m 444 (by decide +kernel) (by decide +kernel)
theorem m_s33 : Cond.selects RX11 yX11_refusesSpeech yX11_refusesSpeech ∈ TB := tb_s 33 (by decide +kernel) (by decide +kernel)
theorem n_120 : Cond.fieldLinkNest RX7 36 "WordSeats$Chamber" "meanings" "I" "WordSeats" ∈ NB := nb_m 120 (by decide +kernel) rfl
theorem n_1238 : Cond.methodLinkNest RX7 49 yX11_holds "WordSeats" ∈ NB := nb_m 1238 (by decide +kernel) rfl
theorem n_143 : Cond.fieldLinkNest RX7 29 "WordSeats$Chamber" "words" "I" "WordSeats" ∈ NB := nb_m 143 (by decide +kernel) rfl
theorem n_170 : Cond.fieldLinkNest RX7 53 "WordSeats$Chamber" "means" "[I" "WordSeats" ∈ NB := nb_m 170 (by decide +kernel) rfl
theorem n_396 : Cond.fieldLinkNest RX11 380 "WordSeats$Speeches" "ways" "I" "WordSeats" ∈ NB := nb_m 396 (by decide +kernel) rfl
theorem n_398 : Cond.fieldLinkNest RX11 383 "WordSeats$Speeches" "always" "I" "WordSeats" ∈ NB := nb_m 398 (by decide +kernel) rfl
theorem n_400 : Cond.fieldLinkNest RX11 386 "WordSeats$Speeches" "ever" "I" "WordSeats" ∈ NB := nb_m 400 (by decide +kernel) rfl
theorem n_418 : Cond.fieldLinkNest RX7 25 "WordSeats$Row" "numbers" "[J" "WordSeats" ∈ NB := nb_m 418 (by decide +kernel) rfl
theorem n_422 : Cond.fieldLinkNest RX7 19 "WordSeats$Row" "length" "I" "WordSeats" ∈ NB := nb_m 422 (by decide +kernel) rfl
theorem hd_X11_refusesSpeech : hdT yX11_refusesSpeech 1 := by decide +kernel
theorem hd_X7_firstUnsaid : hdT yX7_firstUnsaid 2 := by decide +kernel
theorem hd_X7_isSpeech : hdT yX7_isSpeech 1 := by decide +kernel
theorem hd_X7_survey : hdT yX7_survey 1 := by decide +kernel
