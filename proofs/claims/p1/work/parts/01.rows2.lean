theorem dX11_majority_7 : decode cX11_majority 7 = .ok (.ifCond .ne 11, 3) := by decide +kernel
theorem dX11_majority_18 : decode cX11_majority 18 = .ok (.bipush (-2), 2) := by decide +kernel
theorem dX11_majority_20 : decode cX11_majority 20 = .ok (.ireturn, 1) := by decide +kernel
theorem dX11_need_0 : decode cX11_need 0 = .ok (.aload_n 0, 1) := by decide +kernel
theorem dX11_need_1 : decode cX11_need 1 = .ok (.getfield 32, 3) := by decide +kernel
theorem dX11_need_4 : decode cX11_need 4 = .ok (.iload_n 1, 1) := by decide +kernel
theorem dX11_need_5 : decode cX11_need 5 = .ok (.invokevirtual 147, 3) := by decide +kernel
theorem dX11_need_8 : decode cX11_need 8 = .ok (.ifCond .eq 22, 3) := by decide +kernel
theorem dX11_need_30 : decode cX11_need 30 = .ok (.bipush (-2), 2) := by decide +kernel
theorem dX11_need_32 : decode cX11_need 32 = .ok (.ireturn, 1) := by decide +kernel
theorem dX11_order_0 : decode cX11_order 0 = .ok (.aload_n 0, 1) := by decide +kernel
theorem dX11_order_1 : decode cX11_order 1 = .ok (.getfield 32, 3) := by decide +kernel
theorem dX11_order_4 : decode cX11_order 4 = .ok (.iload_n 1, 1) := by decide +kernel
theorem dX11_order_5 : decode cX11_order 5 = .ok (.invokevirtual 147, 3) := by decide +kernel
theorem dX11_order_8 : decode cX11_order 8 = .ok (.ifCond .ne 6, 3) := by decide +kernel
theorem dX11_order_11 : decode cX11_order 11 = .ok (.bipush (-2), 2) := by decide +kernel
theorem dX11_order_13 : decode cX11_order 13 = .ok (.ireturn, 1) := by decide +kernel
theorem dX11_paste_0 : decode cX11_paste 0 = .ok (.iload_n 1, 1) := by decide +kernel
theorem dX11_paste_1 : decode cX11_paste 1 = .ok (.invokestatic 416, 3) := by decide +kernel
theorem dX11_paste_4 : decode cX11_paste 4 = .ok (.ifCond .eq 10, 3) := by decide +kernel
theorem dX11_paste_7 : decode cX11_paste 7 = .ok (.iload_n 3, 1) := by decide +kernel
theorem dX11_paste_8 : decode cX11_paste 8 = .ok (.invokestatic 416, 3) := by decide +kernel
theorem dX11_paste_11 : decode cX11_paste 11 = .ok (.ifCond .ne 6, 3) := by decide +kernel
theorem dX11_paste_14 : decode cX11_paste 14 = .ok (.bipush (-2), 2) := by decide +kernel
theorem dX11_paste_16 : decode cX11_paste 16 = .ok (.ireturn, 1) := by decide +kernel
theorem dX11_paste_17 : decode cX11_paste 17 = .ok (.aload_n 0, 1) := by decide +kernel
theorem dX11_paste_18 : decode cX11_paste 18 = .ok (.getfield 41, 3) := by decide +kernel
theorem dX11_paste_21 : decode cX11_paste 21 = .ok (.iload_n 1, 1) := by decide +kernel
theorem dX11_paste_22 : decode cX11_paste 22 = .ok (.aaload, 1) := by decide +kernel
theorem dX11_paste_23 : decode cX11_paste 23 = .ok (.astore 6, 2) := by decide +kernel
theorem dX11_paste_25 : decode cX11_paste 25 = .ok (.aload_n 0, 1) := by decide +kernel
theorem dX11_paste_26 : decode cX11_paste 26 = .ok (.getfield 41, 3) := by decide +kernel
theorem dX11_paste_29 : decode cX11_paste 29 = .ok (.iload_n 3, 1) := by decide +kernel
theorem dX11_paste_30 : decode cX11_paste 30 = .ok (.aaload, 1) := by decide +kernel
theorem dX11_paste_31 : decode cX11_paste 31 = .ok (.astore 7, 2) := by decide +kernel
theorem dX11_paste_33 : decode cX11_paste 33 = .ok (.aload 6, 2) := by decide +kernel
theorem dX11_paste_35 : decode cX11_paste 35 = .ok (.invokevirtual 423, 3) := by decide +kernel
theorem dX11_paste_38 : decode cX11_paste 38 = .ok (.ifCond .ne 11, 3) := by decide +kernel
theorem dX11_paste_49 : decode cX11_paste 49 = .ok (.bipush (-6), 2) := by decide +kernel
theorem dX11_paste_51 : decode cX11_paste 51 = .ok (.ireturn, 1) := by decide +kernel
theorem dX11_put_0 : decode cX11_put 0 = .ok (.iload_n 1, 1) := by decide +kernel
theorem dX11_put_1 : decode cX11_put 1 = .ok (.invokestatic 326, 3) := by decide +kernel
theorem dX11_put_4 : decode cX11_put 4 = .ok (.ifCond .eq 24, 3) := by decide +kernel
theorem dX11_put_7 : decode cX11_put 7 = .ok (.aload_n 0, 1) := by decide +kernel
theorem dX11_put_8 : decode cX11_put 8 = .ok (.getfield 32, 3) := by decide +kernel
theorem dX11_put_11 : decode cX11_put 11 = .ok (.iload_n 2, 1) := by decide +kernel
theorem dX11_put_12 : decode cX11_put 12 = .ok (.invokevirtual 147, 3) := by decide +kernel
theorem dX11_put_15 : decode cX11_put 15 = .ok (.ifCond .eq 13, 3) := by decide +kernel
theorem dX11_put_28 : decode cX11_put 28 = .ok (.bipush (-2), 2) := by decide +kernel
theorem dX11_put_30 : decode cX11_put 30 = .ok (.ireturn, 1) := by decide +kernel
theorem dX11_refusesSpeech_0 : decode cX11_refusesSpeech 0 = .ok (.iload_n 1, 1) := by decide +kernel
theorem dX11_refusesSpeech_1 : decode cX11_refusesSpeech 1 = .ok (.invokestatic 416, 3) := by decide +kernel
theorem dX11_refusesSpeech_4 : decode cX11_refusesSpeech 4 = .ok (.ifCond .eq 13, 3) := by decide +kernel
theorem dX11_refusesSpeech_7 : decode cX11_refusesSpeech 7 = .ok (.aload_n 0, 1) := by decide +kernel
theorem dX11_refusesSpeech_8 : decode cX11_refusesSpeech 8 = .ok (.getfield 32, 3) := by decide +kernel
theorem dX11_refusesSpeech_11 : decode cX11_refusesSpeech 11 = .ok (.invokevirtual 227, 3) := by decide +kernel
theorem dX11_refusesSpeech_14 : decode cX11_refusesSpeech 14 = .ok (.ifCond .eq 6, 3) := by decide +kernel
theorem dX11_refusesSpeech_17 : decode cX11_refusesSpeech 17 = .ok (.bipush (-2), 2) := by decide +kernel
theorem dX11_refusesSpeech_19 : decode cX11_refusesSpeech 19 = .ok (.ireturn, 1) := by decide +kernel
theorem dX11_restless_0 : decode cX11_restless 0 = .ok (.aload_n 0, 1) := by decide +kernel
theorem dX11_restless_1 : decode cX11_restless 1 = .ok (.getfield 32, 3) := by decide +kernel
theorem dX11_restless_4 : decode cX11_restless 4 = .ok (.invokevirtual 227, 3) := by decide +kernel
theorem dX11_restless_7 : decode cX11_restless 7 = .ok (.ifCond .eq 6, 3) := by decide +kernel
theorem dX11_restless_10 : decode cX11_restless 10 = .ok (.bipush (-2), 2) := by decide +kernel
theorem dX11_restless_12 : decode cX11_restless 12 = .ok (.ireturn, 1) := by decide +kernel
theorem dX11_rigged_0 : decode cX11_rigged 0 = .ok (.iload_n 1, 1) := by decide +kernel
theorem dX11_rigged_1 : decode cX11_rigged 1 = .ok (.invokestatic 326, 3) := by decide +kernel
theorem dX11_rigged_4 : decode cX11_rigged 4 = .ok (.ifCond .eq 13, 3) := by decide +kernel
theorem dX11_rigged_7 : decode cX11_rigged 7 = .ok (.aload_n 0, 1) := by decide +kernel
theorem dX11_rigged_8 : decode cX11_rigged 8 = .ok (.getfield 32, 3) := by decide +kernel
theorem dX11_rigged_11 : decode cX11_rigged 11 = .ok (.getfield 230, 3) := by decide +kernel
theorem dX11_rigged_14 : decode cX11_rigged 14 = .ok (.ifCond .ne 6, 3) := by decide +kernel
theorem dX11_rigged_17 : decode cX11_rigged 17 = .ok (.bipush (-2), 2) := by decide +kernel
theorem dX11_rigged_19 : decode cX11_rigged 19 = .ok (.ireturn, 1) := by decide +kernel
theorem dX11_round_0 : decode cX11_round 0 = .ok (.aload_n 0, 1) := by decide +kernel
theorem dX11_round_1 : decode cX11_round 1 = .ok (.getfield 32, 3) := by decide +kernel
theorem dX11_round_4 : decode cX11_round 4 = .ok (.iload_n 1, 1) := by decide +kernel
theorem dX11_round_5 : decode cX11_round 5 = .ok (.invokevirtual 272, 3) := by decide +kernel
theorem dX11_round_8 : decode cX11_round 8 = .ok (.ifCond .ne 6, 3) := by decide +kernel
theorem dX11_round_11 : decode cX11_round 11 = .ok (.bipush (-2), 2) := by decide +kernel
theorem dX11_round_13 : decode cX11_round 13 = .ok (.ireturn, 1) := by decide +kernel
theorem dX11_row_0 : decode cX11_row 0 = .ok (.iload_n 1, 1) := by decide +kernel
theorem dX11_row_1 : decode cX11_row 1 = .ok (.invokestatic 416, 3) := by decide +kernel
theorem dX11_row_4 : decode cX11_row 4 = .ok (.ifCond .eq 18, 3) := by decide +kernel
theorem dX11_row_7 : decode cX11_row 7 = .ok (.iload_n 2, 1) := by decide +kernel
theorem dX11_row_8 : decode cX11_row 8 = .ok (.ifCond .lt 14, 3) := by decide +kernel
theorem dX11_row_11 : decode cX11_row 11 = .ok (.iload_n 2, 1) := by decide +kernel
theorem dX11_row_12 : decode cX11_row 12 = .ok (.iconst 4, 1) := by decide +kernel
theorem dX11_row_13 : decode cX11_row 13 = .ok (.if_icmp .ge 9, 3) := by decide +kernel
theorem dX11_row_16 : decode cX11_row 16 = .ok (.iload_n 3, 1) := by decide +kernel
theorem dX11_row_17 : decode cX11_row 17 = .ok (.bipush 60, 2) := by decide +kernel
theorem dX11_row_19 : decode cX11_row 19 = .ok (.if_icmp .le 6, 3) := by decide +kernel
theorem dX11_row_22 : decode cX11_row 22 = .ok (.bipush (-2), 2) := by decide +kernel
theorem dX11_row_24 : decode cX11_row 24 = .ok (.ireturn, 1) := by decide +kernel
theorem dX11_row_25 : decode cX11_row 25 = .ok (.iload_n 3, 1) := by decide +kernel
theorem dX11_row_26 : decode cX11_row 26 = .ok (.ifCond .ge 6, 3) := by decide +kernel
theorem dX11_row_29 : decode cX11_row 29 = .ok (.bipush (-3), 2) := by decide +kernel
theorem dX11_row_31 : decode cX11_row 31 = .ok (.ireturn, 1) := by decide +kernel
theorem dX11_row_32 : decode cX11_row 32 = .ok (.aload_n 0, 1) := by decide +kernel
theorem dX11_row_33 : decode cX11_row 33 = .ok (.getfield 41, 3) := by decide +kernel
theorem dX11_row_36 : decode cX11_row 36 = .ok (.iload_n 1, 1) := by decide +kernel
theorem dX11_row_37 : decode cX11_row 37 = .ok (.aaload, 1) := by decide +kernel
theorem dX11_row_38 : decode cX11_row 38 = .ok (.iload_n 2, 1) := by decide +kernel
theorem dX11_row_39 : decode cX11_row 39 = .ok (.iload_n 3, 1) := by decide +kernel
theorem dX11_row_40 : decode cX11_row 40 = .ok (.invokevirtual 419, 3) := by decide +kernel
theorem dX11_row_43 : decode cX11_row 43 = .ok (.iconst 0, 1) := by decide +kernel
theorem dX11_row_44 : decode cX11_row 44 = .ok (.ireturn, 1) := by decide +kernel
theorem dX11_said_0 : decode cX11_said 0 = .ok (.aload_n 0, 1) := by decide +kernel
theorem dX11_said_1 : decode cX11_said 1 = .ok (.getfield 32, 3) := by decide +kernel
theorem dX11_said_4 : decode cX11_said 4 = .ok (.iload_n 1, 1) := by decide +kernel
theorem dX11_said_5 : decode cX11_said 5 = .ok (.invokevirtual 272, 3) := by decide +kernel
theorem dX11_said_8 : decode cX11_said 8 = .ok (.ifCond .ne 6, 3) := by decide +kernel
theorem dX11_said_11 : decode cX11_said 11 = .ok (.bipush (-2), 2) := by decide +kernel
theorem dX11_said_13 : decode cX11_said 13 = .ok (.ireturn, 1) := by decide +kernel
theorem dX11_seats_0 : decode cX11_seats 0 = .ok (.aload_n 0, 1) := by decide +kernel
theorem dX11_seats_1 : decode cX11_seats 1 = .ok (.getfield 32, 3) := by decide +kernel
theorem dX11_seats_4 : decode cX11_seats 4 = .ok (.invokevirtual 227, 3) := by decide +kernel
theorem dX11_seats_7 : decode cX11_seats 7 = .ok (.ifCond .ne 10, 3) := by decide +kernel
theorem dX11_seats_17 : decode cX11_seats 17 = .ok (.bipush (-2), 2) := by decide +kernel
theorem dX11_seats_19 : decode cX11_seats 19 = .ok (.goto 13, 3) := by decide +kernel
theorem dX11_seats_32 : decode cX11_seats 32 = .ok (.ireturn, 1) := by decide +kernel
theorem dX11_share_0 : decode cX11_share 0 = .ok (.aload_n 0, 1) := by decide +kernel
theorem dX11_share_1 : decode cX11_share 1 = .ok (.getfield 32, 3) := by decide +kernel
theorem dX11_share_4 : decode cX11_share 4 = .ok (.invokevirtual 227, 3) := by decide +kernel
theorem dX11_share_7 : decode cX11_share 7 = .ok (.ifCond .ne 19, 3) := by decide +kernel
theorem dX11_share_26 : decode cX11_share 26 = .ok (.bipush (-2), 2) := by decide +kernel
theorem dX11_share_28 : decode cX11_share 28 = .ok (.ireturn, 1) := by decide +kernel
theorem dX11_sits_0 : decode cX11_sits 0 = .ok (.aload_n 0, 1) := by decide +kernel
theorem dX11_sits_1 : decode cX11_sits 1 = .ok (.getfield 32, 3) := by decide +kernel
theorem dX11_sits_4 : decode cX11_sits 4 = .ok (.iload_n 1, 1) := by decide +kernel
theorem dX11_sits_5 : decode cX11_sits 5 = .ok (.invokevirtual 161, 3) := by decide +kernel
theorem dX11_sits_8 : decode cX11_sits 8 = .ok (.ifCond .eq 10, 3) := by decide +kernel
theorem dX11_sits_18 : decode cX11_sits 18 = .ok (.bipush (-2), 2) := by decide +kernel
theorem dX11_sits_20 : decode cX11_sits 20 = .ok (.ireturn, 1) := by decide +kernel
theorem dX11_sitting_0 : decode cX11_sitting 0 = .ok (.aload_n 0, 1) := by decide +kernel
theorem dX11_sitting_1 : decode cX11_sitting 1 = .ok (.getfield 32, 3) := by decide +kernel
theorem dX11_sitting_4 : decode cX11_sitting 4 = .ok (.invokevirtual 227, 3) := by decide +kernel
theorem dX11_sitting_7 : decode cX11_sitting 7 = .ok (.ifCond .eq 8, 3) := by decide +kernel
theorem dX11_sitting_10 : decode cX11_sitting 10 = .ok (.bipush (-2), 2) := by decide +kernel
theorem dX11_sitting_12 : decode cX11_sitting 12 = .ok (.goto 13, 3) := by decide +kernel
theorem dX11_sitting_25 : decode cX11_sitting 25 = .ok (.ireturn, 1) := by decide +kernel
theorem dX11_speaker_0 : decode cX11_speaker 0 = .ok (.aload_n 0, 1) := by decide +kernel
theorem dX11_speaker_1 : decode cX11_speaker 1 = .ok (.getfield 32, 3) := by decide +kernel
theorem dX11_speaker_4 : decode cX11_speaker 4 = .ok (.iload_n 1, 1) := by decide +kernel
theorem dX11_speaker_5 : decode cX11_speaker 5 = .ok (.invokevirtual 147, 3) := by decide +kernel
theorem dX11_speaker_8 : decode cX11_speaker 8 = .ok (.ifCond .ne 6, 3) := by decide +kernel
theorem dX11_speaker_11 : decode cX11_speaker 11 = .ok (.bipush (-2), 2) := by decide +kernel
theorem dX11_speaker_13 : decode cX11_speaker 13 = .ok (.ireturn, 1) := by decide +kernel
theorem dX11_speech_0 : decode cX11_speech 0 = .ok (.aload_n 0, 1) := by decide +kernel
theorem dX11_speech_1 : decode cX11_speech 1 = .ok (.iload_n 1, 1) := by decide +kernel
theorem dX11_speech_2 : decode cX11_speech 2 = .ok (.invokevirtual 369, 3) := by decide +kernel
theorem dX11_speech_5 : decode cX11_speech 5 = .ok (.istore_n 2, 1) := by decide +kernel
theorem dX11_speech_6 : decode cX11_speech 6 = .ok (.iload_n 2, 1) := by decide +kernel
theorem dX11_speech_7 : decode cX11_speech 7 = .ok (.ifCond .eq 7, 3) := by decide +kernel
theorem dX11_speech_10 : decode cX11_speech 10 = .ok (.iload_n 2, 1) := by decide +kernel
theorem dX11_speech_11 : decode cX11_speech 11 = .ok (.goto 26, 3) := by decide +kernel
theorem dX11_speech_37 : decode cX11_speech 37 = .ok (.ireturn, 1) := by decide +kernel
theorem dX11_spoilers_0 : decode cX11_spoilers 0 = .ok (.aload_n 0, 1) := by decide +kernel
theorem dX11_spoilers_1 : decode cX11_spoilers 1 = .ok (.getfield 32, 3) := by decide +kernel
theorem dX11_spoilers_4 : decode cX11_spoilers 4 = .ok (.invokevirtual 227, 3) := by decide +kernel
theorem dX11_spoilers_7 : decode cX11_spoilers 7 = .ok (.ifCond .eq 8, 3) := by decide +kernel
theorem dX11_spoilers_10 : decode cX11_spoilers 10 = .ok (.bipush (-2), 2) := by decide +kernel
theorem dX11_spoilers_12 : decode cX11_spoilers 12 = .ok (.goto 10, 3) := by decide +kernel
theorem dX11_spoilers_22 : decode cX11_spoilers 22 = .ok (.ireturn, 1) := by decide +kernel
theorem dX11_spoils_0 : decode cX11_spoils 0 = .ok (.aload_n 0, 1) := by decide +kernel
theorem dX11_spoils_1 : decode cX11_spoils 1 = .ok (.getfield 32, 3) := by decide +kernel
theorem dX11_spoils_4 : decode cX11_spoils 4 = .ok (.iload_n 1, 1) := by decide +kernel
theorem dX11_spoils_5 : decode cX11_spoils 5 = .ok (.invokevirtual 114, 3) := by decide +kernel
theorem dX11_spoils_8 : decode cX11_spoils 8 = .ok (.ifCond .eq 20, 3) := by decide +kernel
theorem dX11_spoils_28 : decode cX11_spoils 28 = .ok (.bipush (-2), 2) := by decide +kernel
theorem dX11_spoils_30 : decode cX11_spoils 30 = .ok (.ireturn, 1) := by decide +kernel
theorem dX11_stand_0 : decode cX11_stand 0 = .ok (.aload_n 0, 1) := by decide +kernel
theorem dX11_stand_1 : decode cX11_stand 1 = .ok (.getfield 32, 3) := by decide +kernel
theorem dX11_stand_4 : decode cX11_stand 4 = .ok (.iload_n 1, 1) := by decide +kernel
theorem dX11_stand_5 : decode cX11_stand 5 = .ok (.invokevirtual 114, 3) := by decide +kernel
theorem dX11_stand_8 : decode cX11_stand 8 = .ok (.ifCond .eq 14, 3) := by decide +kernel
theorem dX11_stand_22 : decode cX11_stand 22 = .ok (.bipush (-2), 2) := by decide +kernel
theorem dX11_stand_24 : decode cX11_stand 24 = .ok (.ireturn, 1) := by decide +kernel
theorem dX11_struck_0 : decode cX11_struck 0 = .ok (.aload_n 0, 1) := by decide +kernel
theorem dX11_struck_1 : decode cX11_struck 1 = .ok (.getfield 32, 3) := by decide +kernel
theorem dX11_struck_4 : decode cX11_struck 4 = .ok (.iload_n 1, 1) := by decide +kernel
theorem dX11_struck_5 : decode cX11_struck 5 = .ok (.invokevirtual 161, 3) := by decide +kernel
theorem dX11_struck_8 : decode cX11_struck 8 = .ok (.ifCond .ne 6, 3) := by decide +kernel
theorem dX11_struck_11 : decode cX11_struck 11 = .ok (.bipush (-2), 2) := by decide +kernel
theorem dX11_struck_13 : decode cX11_struck 13 = .ok (.ireturn, 1) := by decide +kernel
theorem dX11_sure_0 : decode cX11_sure 0 = .ok (.iload_n 2, 1) := by decide +kernel
theorem dX11_sure_1 : decode cX11_sure 1 = .ok (.ifCond .lt 8, 3) := by decide +kernel
theorem dX11_sure_4 : decode cX11_sure 4 = .ok (.iload_n 2, 1) := by decide +kernel
theorem dX11_sure_5 : decode cX11_sure 5 = .ok (.iconst 1, 1) := by decide +kernel
theorem dX11_sure_6 : decode cX11_sure 6 = .ok (.if_icmp .le 6, 3) := by decide +kernel
theorem dX11_sure_9 : decode cX11_sure 9 = .ok (.bipush (-2), 2) := by decide +kernel
theorem dX11_sure_11 : decode cX11_sure 11 = .ok (.ireturn, 1) := by decide +kernel
theorem dX11_sure_12 : decode cX11_sure 12 = .ok (.aload_n 0, 1) := by decide +kernel
theorem dX11_sure_13 : decode cX11_sure 13 = .ok (.iload_n 1, 1) := by decide +kernel
theorem dX11_sure_14 : decode cX11_sure 14 = .ok (.invokevirtual 369, 3) := by decide +kernel
theorem dX11_sure_17 : decode cX11_sure 17 = .ok (.istore_n 3, 1) := by decide +kernel
theorem dX11_sure_18 : decode cX11_sure 18 = .ok (.iload_n 3, 1) := by decide +kernel
theorem dX11_sure_19 : decode cX11_sure 19 = .ok (.ifCond .eq 5, 3) := by decide +kernel
theorem dX11_sure_22 : decode cX11_sure 22 = .ok (.iload_n 3, 1) := by decide +kernel
theorem dX11_sure_23 : decode cX11_sure 23 = .ok (.ireturn, 1) := by decide +kernel
theorem dX11_synonyms_0 : decode cX11_synonyms 0 = .ok (.aload_n 0, 1) := by decide +kernel
theorem dX11_synonyms_1 : decode cX11_synonyms 1 = .ok (.getfield 32, 3) := by decide +kernel
theorem dX11_synonyms_4 : decode cX11_synonyms 4 = .ok (.iload_n 1, 1) := by decide +kernel
theorem dX11_synonyms_5 : decode cX11_synonyms 5 = .ok (.invokevirtual 114, 3) := by decide +kernel
theorem dX11_synonyms_8 : decode cX11_synonyms 8 = .ok (.ifCond .ne 6, 3) := by decide +kernel
theorem dX11_synonyms_11 : decode cX11_synonyms 11 = .ok (.bipush (-2), 2) := by decide +kernel
theorem dX11_synonyms_13 : decode cX11_synonyms 13 = .ok (.ireturn, 1) := by decide +kernel
theorem dX11_term_0 : decode cX11_term 0 = .ok (.aload_n 0, 1) := by decide +kernel
theorem dX11_term_1 : decode cX11_term 1 = .ok (.getfield 32, 3) := by decide +kernel
theorem dX11_term_4 : decode cX11_term 4 = .ok (.invokevirtual 227, 3) := by decide +kernel
theorem dX11_term_7 : decode cX11_term 7 = .ok (.ifCond .eq 6, 3) := by decide +kernel
theorem dX11_term_10 : decode cX11_term 10 = .ok (.bipush (-2), 2) := by decide +kernel
theorem dX11_term_12 : decode cX11_term 12 = .ok (.ireturn, 1) := by decide +kernel
theorem dX11_undo_0 : decode cX11_undo 0 = .ok (.aload_n 0, 1) := by decide +kernel
theorem dX11_undo_1 : decode cX11_undo 1 = .ok (.getfield 32, 3) := by decide +kernel
theorem dX11_undo_4 : decode cX11_undo 4 = .ok (.invokevirtual 227, 3) := by decide +kernel
theorem dX11_undo_7 : decode cX11_undo 7 = .ok (.ifCond .eq 6, 3) := by decide +kernel
theorem dX11_undo_10 : decode cX11_undo 10 = .ok (.bipush (-2), 2) := by decide +kernel
theorem dX11_undo_12 : decode cX11_undo 12 = .ok (.ireturn, 1) := by decide +kernel
theorem dX11_unlike_0 : decode cX11_unlike 0 = .ok (.aload_n 0, 1) := by decide +kernel
theorem dX11_unlike_1 : decode cX11_unlike 1 = .ok (.getfield 32, 3) := by decide +kernel
theorem dX11_unlike_4 : decode cX11_unlike 4 = .ok (.invokevirtual 227, 3) := by decide +kernel
theorem dX11_unlike_7 : decode cX11_unlike 7 = .ok (.ifCond .ne 17, 3) := by decide +kernel
theorem dX11_unlike_24 : decode cX11_unlike 24 = .ok (.bipush (-2), 2) := by decide +kernel
theorem dX11_unlike_26 : decode cX11_unlike 26 = .ok (.ireturn, 1) := by decide +kernel
theorem dX11_votes_0 : decode cX11_votes 0 = .ok (.aload_n 0, 1) := by decide +kernel
theorem dX11_votes_1 : decode cX11_votes 1 = .ok (.getfield 32, 3) := by decide +kernel
theorem dX11_votes_4 : decode cX11_votes 4 = .ok (.iload_n 1, 1) := by decide +kernel
theorem dX11_votes_5 : decode cX11_votes 5 = .ok (.invokevirtual 114, 3) := by decide +kernel
theorem dX11_votes_8 : decode cX11_votes 8 = .ok (.ifCond .ne 6, 3) := by decide +kernel
theorem dX11_votes_11 : decode cX11_votes 11 = .ok (.bipush (-2), 2) := by decide +kernel
theorem dX11_votes_13 : decode cX11_votes 13 = .ok (.ireturn, 1) := by decide +kernel
theorem dX11_wins_0 : decode cX11_wins 0 = .ok (.aload_n 0, 1) := by decide +kernel
theorem dX11_wins_1 : decode cX11_wins 1 = .ok (.getfield 32, 3) := by decide +kernel
theorem dX11_wins_4 : decode cX11_wins 4 = .ok (.iload_n 1, 1) := by decide +kernel
theorem dX11_wins_5 : decode cX11_wins 5 = .ok (.invokevirtual 161, 3) := by decide +kernel
theorem dX11_wins_8 : decode cX11_wins 8 = .ok (.ifCond .eq 10, 3) := by decide +kernel
theorem dX11_wins_18 : decode cX11_wins 18 = .ok (.bipush (-2), 2) := by decide +kernel
theorem dX11_wins_20 : decode cX11_wins 20 = .ok (.ireturn, 1) := by decide +kernel
theorem dX11_with_0 : decode cX11_with 0 = .ok (.aload_n 0, 1) := by decide +kernel
theorem dX11_with_1 : decode cX11_with 1 = .ok (.getfield 32, 3) := by decide +kernel
theorem dX11_with_4 : decode cX11_with 4 = .ok (.iload_n 1, 1) := by decide +kernel
theorem dX11_with_5 : decode cX11_with 5 = .ok (.invokevirtual 161, 3) := by decide +kernel
theorem dX11_with_8 : decode cX11_with 8 = .ok (.ifCond .eq 10, 3) := by decide +kernel
theorem dX11_with_18 : decode cX11_with 18 = .ok (.bipush (-2), 2) := by decide +kernel
theorem dX11_with_20 : decode cX11_with 20 = .ok (.ireturn, 1) := by decide +kernel
theorem dX11_word_0 : decode cX11_word 0 = .ok (.aload_n 0, 1) := by decide +kernel
theorem dX11_word_1 : decode cX11_word 1 = .ok (.getfield 32, 3) := by decide +kernel
theorem dX11_word_4 : decode cX11_word 4 = .ok (.iload_n 1, 1) := by decide +kernel
theorem dX11_word_5 : decode cX11_word 5 = .ok (.invokevirtual 114, 3) := by decide +kernel
theorem dX11_word_8 : decode cX11_word 8 = .ok (.ifCond .ne 6, 3) := by decide +kernel
theorem dX11_word_11 : decode cX11_word 11 = .ok (.bipush (-2), 2) := by decide +kernel
theorem dX11_word_13 : decode cX11_word 13 = .ok (.ireturn, 1) := by decide +kernel
theorem dX11_write_0 : decode cX11_write 0 = .ok (.iload_n 1, 1) := by decide +kernel
theorem dX11_write_1 : decode cX11_write 1 = .ok (.invokestatic 416, 3) := by decide +kernel
theorem dX11_write_4 : decode cX11_write 4 = .ok (.ifCond .ne 6, 3) := by decide +kernel
theorem dX11_write_7 : decode cX11_write 7 = .ok (.bipush (-2), 2) := by decide +kernel
theorem dX11_write_9 : decode cX11_write 9 = .ok (.ireturn, 1) := by decide +kernel
theorem dX11_write_10 : decode cX11_write 10 = .ok (.aload_n 0, 1) := by decide +kernel
theorem dX11_write_11 : decode cX11_write 11 = .ok (.getfield 41, 3) := by decide +kernel
theorem dX11_write_14 : decode cX11_write 14 = .ok (.iload_n 1, 1) := by decide +kernel
theorem dX11_write_15 : decode cX11_write 15 = .ok (.aaload, 1) := by decide +kernel
theorem dX11_write_16 : decode cX11_write 16 = .ok (.invokevirtual 423, 3) := by decide +kernel
theorem dX11_write_19 : decode cX11_write 19 = .ok (.ifCond .eq 6, 3) := by decide +kernel
theorem dX11_write_22 : decode cX11_write 22 = .ok (.bipush (-6), 2) := by decide +kernel
theorem dX11_write_24 : decode cX11_write 24 = .ok (.ireturn, 1) := by decide +kernel
theorem dX11_years_0 : decode cX11_years 0 = .ok (.iload_n 1, 1) := by decide +kernel
theorem dX11_years_1 : decode cX11_years 1 = .ok (.invokestatic 395, 3) := by decide +kernel
theorem dX11_years_4 : decode cX11_years 4 = .ok (.ifCond .eq 25, 3) := by decide +kernel
theorem dX11_years_7 : decode cX11_years 7 = .ok (.iload_n 2, 1) := by decide +kernel
theorem dX11_years_8 : decode cX11_years 8 = .ok (.iconst 1, 1) := by decide +kernel
theorem dX11_years_9 : decode cX11_years 9 = .ok (.if_icmp .lt 20, 3) := by decide +kernel
theorem dX11_years_12 : decode cX11_years 12 = .ok (.iload_n 2, 1) := by decide +kernel
theorem dX11_years_13 : decode cX11_years 13 = .ok (.bipush 20, 2) := by decide +kernel
theorem dX11_years_15 : decode cX11_years 15 = .ok (.if_icmp .gt 14, 3) := by decide +kernel
theorem dX11_years_18 : decode cX11_years 18 = .ok (.aload_n 0, 1) := by decide +kernel
theorem dX11_years_19 : decode cX11_years 19 = .ok (.getfield 32, 3) := by decide +kernel
theorem dX11_years_22 : decode cX11_years 22 = .ok (.iload_n 3, 1) := by decide +kernel
theorem dX11_years_23 : decode cX11_years 23 = .ok (.invokevirtual 114, 3) := by decide +kernel
theorem dX11_years_26 : decode cX11_years 26 = .ok (.ifCond .ne 6, 3) := by decide +kernel
theorem dX11_years_29 : decode cX11_years 29 = .ok (.bipush (-2), 2) := by decide +kernel
theorem dX11_years_31 : decode cX11_years 31 = .ok (.ireturn, 1) := by decide +kernel
theorem dX12_abstains_0 : decode cX12_abstains 0 = .ok (.aload_n 0, 1) := by decide +kernel
theorem dX12_abstains_1 : decode cX12_abstains 1 = .ok (.iload_n 1, 1) := by decide +kernel
theorem dX12_abstains_2 : decode cX12_abstains 2 = .ok (.invokevirtual 332, 3) := by decide +kernel
theorem dX12_abstains_5 : decode cX12_abstains 5 = .ok (.ifCond .ne 6, 3) := by decide +kernel
theorem dX12_abstains_8 : decode cX12_abstains 8 = .ok (.bipush (-2), 2) := by decide +kernel
theorem dX12_abstains_10 : decode cX12_abstains 10 = .ok (.ireturn, 1) := by decide +kernel
theorem dX12_advance_0 : decode cX12_advance 0 = .ok (.aload_n 0, 1) := by decide +kernel
theorem dX12_advance_1 : decode cX12_advance 1 = .ok (.aload_n 0, 1) := by decide +kernel
theorem dX12_advance_2 : decode cX12_advance 2 = .ok (.getfield 102, 3) := by decide +kernel
theorem dX12_advance_5 : decode cX12_advance 5 = .ok (.invokevirtual 105, 3) := by decide +kernel
theorem dX12_advance_8 : decode cX12_advance 8 = .ok (.bipush 32, 2) := by decide +kernel
theorem dX12_advance_10 : decode cX12_advance 10 = .ok (.if_icmp .eq 16, 3) := by decide +kernel
theorem dX12_advance_13 : decode cX12_advance 13 = .ok (.aload_n 0, 1) := by decide +kernel
theorem dX12_advance_14 : decode cX12_advance 14 = .ok (.aload_n 0, 1) := by decide +kernel
theorem dX12_advance_15 : decode cX12_advance 15 = .ok (.getfield 102, 3) := by decide +kernel
theorem dX12_advance_18 : decode cX12_advance 18 = .ok (.invokevirtual 105, 3) := by decide +kernel
theorem dX12_advance_21 : decode cX12_advance 21 = .ok (.bipush 10, 2) := by decide +kernel
theorem dX12_advance_23 : decode cX12_advance 23 = .ok (.if_icmp .ne 16, 3) := by decide +kernel
theorem dX12_advance_39 : decode cX12_advance 39 = .ok (.aload_n 0, 1) := by decide +kernel
theorem dX12_advance_40 : decode cX12_advance 40 = .ok (.aload_n 0, 1) := by decide +kernel
theorem dX12_advance_41 : decode cX12_advance 41 = .ok (.getfield 102, 3) := by decide +kernel
theorem dX12_advance_44 : decode cX12_advance 44 = .ok (.putfield 109, 3) := by decide +kernel
theorem dX12_advance_47 : decode cX12_advance 47 = .ok (.aload_n 0, 1) := by decide +kernel
theorem dX12_advance_48 : decode cX12_advance 48 = .ok (.aload_n 0, 1) := by decide +kernel
theorem dX12_advance_49 : decode cX12_advance 49 = .ok (.getfield 102, 3) := by decide +kernel
theorem dX12_advance_52 : decode cX12_advance 52 = .ok (.invokevirtual 105, 3) := by decide +kernel
theorem dX12_advance_55 : decode cX12_advance 55 = .ok (.istore_n 1, 1) := by decide +kernel
theorem dX12_advance_56 : decode cX12_advance 56 = .ok (.iload_n 1, 1) := by decide +kernel
theorem dX12_advance_57 : decode cX12_advance 57 = .ok (.iconst (-1), 1) := by decide +kernel
theorem dX12_advance_58 : decode cX12_advance 58 = .ok (.if_icmp .ne 11, 3) := by decide +kernel
theorem dX12_advance_61 : decode cX12_advance 61 = .ok (.aload_n 0, 1) := by decide +kernel
theorem dX12_advance_62 : decode cX12_advance 62 = .ok (.iconst 0, 1) := by decide +kernel
theorem dX12_advance_63 : decode cX12_advance 63 = .ok (.putfield 112, 3) := by decide +kernel
theorem dX12_advance_66 : decode cX12_advance 66 = .ok (.goto 173, 3) := by decide +kernel
theorem dX12_advance_239 : decode cX12_advance 239 = .ok (.return_, 1) := by decide +kernel
theorem dX12_areMeanings_0 : decode cX12_areMeanings 0 = .ok (.aload_n 0, 1) := by decide +kernel
theorem dX12_areMeanings_1 : decode cX12_areMeanings 1 = .ok (.invokevirtual 347, 3) := by decide +kernel
theorem dX12_areMeanings_4 : decode cX12_areMeanings 4 = .ok (.ifCond .eq 27, 3) := by decide +kernel
theorem dX12_areMeanings_31 : decode cX12_areMeanings 31 = .ok (.iconst 0, 1) := by decide +kernel
theorem dX12_areMeanings_32 : decode cX12_areMeanings 32 = .ok (.ireturn, 1) := by decide +kernel
theorem dX12_areParties_0 : decode cX12_areParties 0 = .ok (.aload_n 0, 1) := by decide +kernel
theorem dX12_areParties_1 : decode cX12_areParties 1 = .ok (.invokevirtual 347, 3) := by decide +kernel
theorem dX12_areParties_4 : decode cX12_areParties 4 = .ok (.ifCond .eq 19, 3) := by decide +kernel
theorem dX12_areParties_23 : decode cX12_areParties 23 = .ok (.iconst 0, 1) := by decide +kernel
theorem dX12_areParties_24 : decode cX12_areParties 24 = .ok (.ireturn, 1) := by decide +kernel
theorem dX12_asksSpeech_0 : decode cX12_asksSpeech 0 = .ok (.iload_n 1, 1) := by decide +kernel
theorem dX12_asksSpeech_1 : decode cX12_asksSpeech 1 = .ok (.invokestatic 439, 3) := by decide +kernel
theorem dX12_asksSpeech_4 : decode cX12_asksSpeech 4 = .ok (.ifCond .eq 14, 3) := by decide +kernel
theorem dX12_asksSpeech_7 : decode cX12_asksSpeech 7 = .ok (.aload_n 0, 1) := by decide +kernel
theorem dX12_asksSpeech_8 : decode cX12_asksSpeech 8 = .ok (.invokevirtual 347, 3) := by decide +kernel
theorem dX12_asksSpeech_11 : decode cX12_asksSpeech 11 = .ok (.ifCond .eq 7, 3) := by decide +kernel
theorem dX12_asksSpeech_18 : decode cX12_asksSpeech 18 = .ok (.bipush (-2), 2) := by decide +kernel
theorem dX12_asksSpeech_20 : decode cX12_asksSpeech 20 = .ok (.ireturn, 1) := by decide +kernel
theorem dX12_back_0 : decode cX12_back 0 = .ok (.iload_n 1, 1) := by decide +kernel
theorem dX12_back_1 : decode cX12_back 1 = .ok (.i2l, 1) := by decide +kernel
theorem dX12_back_2 : decode cX12_back 2 = .ok (.lconst 0, 1) := by decide +kernel
theorem dX12_back_3 : decode cX12_back 3 = .ok (.ldc2_w 80, 3) := by decide +kernel
theorem dX12_back_6 : decode cX12_back 6 = .ok (.invokestatic 82, 3) := by decide +kernel
theorem dX12_back_9 : decode cX12_back 9 = .ok (.ifCond .ne 6, 3) := by decide +kernel
theorem dX12_back_12 : decode cX12_back 12 = .ok (.bipush (-2), 2) := by decide +kernel
theorem dX12_back_14 : decode cX12_back 14 = .ok (.ireturn, 1) := by decide +kernel
theorem dX12_back_15 : decode cX12_back 15 = .ok (.aload_n 0, 1) := by decide +kernel
theorem dX12_back_16 : decode cX12_back 16 = .ok (.getfield 16, 3) := by decide +kernel
theorem dX12_back_19 : decode cX12_back 19 = .ok (.iload_n 1, 1) := by decide +kernel
theorem dX12_back_20 : decode cX12_back 20 = .ok (.baload, 1) := by decide +kernel
theorem dX12_back_21 : decode cX12_back 21 = .ok (.ifCond .ne 6, 3) := by decide +kernel
theorem dX12_back_24 : decode cX12_back 24 = .ok (.bipush (-6), 2) := by decide +kernel
theorem dX12_back_26 : decode cX12_back 26 = .ok (.ireturn, 1) := by decide +kernel
theorem dX12_beats_0 : decode cX12_beats 0 = .ok (.aload_n 0, 1) := by decide +kernel
theorem dX12_beats_1 : decode cX12_beats 1 = .ok (.iload_n 1, 1) := by decide +kernel
theorem dX12_beats_2 : decode cX12_beats 2 = .ok (.i2l, 1) := by decide +kernel
theorem dX12_beats_3 : decode cX12_beats 3 = .ok (.invokevirtual 322, 3) := by decide +kernel
theorem dX12_beats_6 : decode cX12_beats 6 = .ok (.ifCond .eq 48, 3) := by decide +kernel
theorem dX12_beats_54 : decode cX12_beats 54 = .ok (.bipush (-2), 2) := by decide +kernel
theorem dX12_beats_56 : decode cX12_beats 56 = .ok (.ireturn, 1) := by decide +kernel
theorem dX12_best_0 : decode cX12_best 0 = .ok (.aload_n 0, 1) := by decide +kernel
theorem dX12_best_1 : decode cX12_best 1 = .ok (.iload_n 1, 1) := by decide +kernel
theorem dX12_best_2 : decode cX12_best 2 = .ok (.invokevirtual 332, 3) := by decide +kernel
theorem dX12_best_5 : decode cX12_best 5 = .ok (.ifCond .ne 6, 3) := by decide +kernel
theorem dX12_best_8 : decode cX12_best 8 = .ok (.bipush (-2), 2) := by decide +kernel
theorem dX12_best_10 : decode cX12_best 10 = .ok (.ireturn, 1) := by decide +kernel
theorem dX12_bill_0 : decode cX12_bill 0 = .ok (.aload_n 0, 1) := by decide +kernel
theorem dX12_bill_1 : decode cX12_bill 1 = .ok (.invokevirtual 347, 3) := by decide +kernel
theorem dX12_bill_4 : decode cX12_bill 4 = .ok (.ifCond .eq 57, 3) := by decide +kernel
theorem dX12_bill_61 : decode cX12_bill 61 = .ok (.bipush (-2), 2) := by decide +kernel
theorem dX12_bill_63 : decode cX12_bill 63 = .ok (.ireturn, 1) := by decide +kernel
theorem dX12_breaks_0 : decode cX12_breaks 0 = .ok (.aload_n 0, 1) := by decide +kernel
theorem dX12_breaks_1 : decode cX12_breaks 1 = .ok (.iload_n 1, 1) := by decide +kernel
theorem dX12_breaks_2 : decode cX12_breaks 2 = .ok (.invokevirtual 416, 3) := by decide +kernel
theorem dX12_breaks_5 : decode cX12_breaks 5 = .ok (.ifCond .ne 6, 3) := by decide +kernel
theorem dX12_breaks_8 : decode cX12_breaks 8 = .ok (.bipush (-2), 2) := by decide +kernel
theorem dX12_breaks_10 : decode cX12_breaks 10 = .ok (.ireturn, 1) := by decide +kernel
theorem dX12_by_0 : decode cX12_by 0 = .ok (.aload_n 0, 1) := by decide +kernel
theorem dX12_by_1 : decode cX12_by 1 = .ok (.invokevirtual 347, 3) := by decide +kernel
theorem dX12_by_4 : decode cX12_by 4 = .ok (.ifCond .eq 25, 3) := by decide +kernel
theorem dX12_by_29 : decode cX12_by 29 = .ok (.bipush (-2), 2) := by decide +kernel
theorem dX12_by_31 : decode cX12_by 31 = .ok (.ireturn, 1) := by decide +kernel
theorem dX12_chamber_0 : decode cX12_chamber 0 = .ok (.aload_n 0, 1) := by decide +kernel
theorem dX12_chamber_1 : decode cX12_chamber 1 = .ok (.aload_n 0, 1) := by decide +kernel
theorem dX12_chamber_2 : decode cX12_chamber 2 = .ok (.getfield 96, 3) := by decide +kernel
theorem dX12_chamber_5 : decode cX12_chamber 5 = .ok (.putfield 99, 3) := by decide +kernel
theorem dX12_chamber_8 : decode cX12_chamber 8 = .ok (.aload_n 0, 1) := by decide +kernel
theorem dX12_chamber_9 : decode cX12_chamber 9 = .ok (.iconst 0, 1) := by decide +kernel
theorem dX12_chamber_10 : decode cX12_chamber 10 = .ok (.putfield 96, 3) := by decide +kernel
theorem dX12_chamber_13 : decode cX12_chamber 13 = .ok (.aload_n 0, 1) := by decide +kernel
theorem dX12_chamber_14 : decode cX12_chamber 14 = .ok (.iconst 0, 1) := by decide +kernel
theorem dX12_chamber_15 : decode cX12_chamber 15 = .ok (.putfield 102, 3) := by decide +kernel
theorem dX12_chamber_18 : decode cX12_chamber 18 = .ok (.aload_n 0, 1) := by decide +kernel
theorem dX12_chamber_19 : decode cX12_chamber 19 = .ok (.iconst 0, 1) := by decide +kernel
theorem dX12_chamber_20 : decode cX12_chamber 20 = .ok (.putfield 132, 3) := by decide +kernel
theorem dX12_chamber_23 : decode cX12_chamber 23 = .ok (.aload_n 0, 1) := by decide +kernel
theorem dX12_chamber_24 : decode cX12_chamber 24 = .ok (.iconst (-1), 1) := by decide +kernel
theorem dX12_chamber_25 : decode cX12_chamber 25 = .ok (.putfield 27, 3) := by decide +kernel
theorem dX12_chamber_28 : decode cX12_chamber 28 = .ok (.iconst 0, 1) := by decide +kernel
theorem dX12_chamber_29 : decode cX12_chamber 29 = .ok (.istore_n 1, 1) := by decide +kernel
theorem dX12_chamber_30 : decode cX12_chamber 30 = .ok (.iload_n 1, 1) := by decide +kernel
theorem dX12_chamber_31 : decode cX12_chamber 31 = .ok (.sipush 841, 3) := by decide +kernel
theorem dX12_chamber_34 : decode cX12_chamber 34 = .ok (.if_icmp .ge 16, 3) := by decide +kernel
