theorem dX12_init_144 : decode cX12_init 144 = .ok (.iconst (-1), 1) := by decide +kernel
theorem dX12_init_145 : decode cX12_init 145 = .ok (.iastore, 1) := by decide +kernel
theorem dX12_init_146 : decode cX12_init 146 = .ok (.dup, 1) := by decide +kernel
theorem dX12_init_147 : decode cX12_init 147 = .ok (.iconst 2, 1) := by decide +kernel
theorem dX12_init_148 : decode cX12_init 148 = .ok (.iconst (-1), 1) := by decide +kernel
theorem dX12_init_149 : decode cX12_init 149 = .ok (.iastore, 1) := by decide +kernel
theorem dX12_init_150 : decode cX12_init 150 = .ok (.dup, 1) := by decide +kernel
theorem dX12_init_151 : decode cX12_init 151 = .ok (.iconst 3, 1) := by decide +kernel
theorem dX12_init_152 : decode cX12_init 152 = .ok (.iconst (-1), 1) := by decide +kernel
theorem dX12_init_153 : decode cX12_init 153 = .ok (.iastore, 1) := by decide +kernel
theorem dX12_init_154 : decode cX12_init 154 = .ok (.putfield 64, 3) := by decide +kernel
theorem dX12_init_157 : decode cX12_init 157 = .ok (.aload_n 0, 1) := by decide +kernel
theorem dX12_init_158 : decode cX12_init 158 = .ok (.iconst 4, 1) := by decide +kernel
theorem dX12_init_159 : decode cX12_init 159 = .ok (.newarray .int, 2) := by decide +kernel
theorem dX12_init_161 : decode cX12_init 161 = .ok (.putfield 67, 3) := by decide +kernel
theorem dX12_init_164 : decode cX12_init 164 = .ok (.aload_n 0, 1) := by decide +kernel
theorem dX12_init_165 : decode cX12_init 165 = .ok (.sipush 240, 3) := by decide +kernel
theorem dX12_init_168 : decode cX12_init 168 = .ok (.newarray .long, 2) := by decide +kernel
theorem dX12_init_170 : decode cX12_init 170 = .ok (.putfield 70, 3) := by decide +kernel
theorem dX12_init_173 : decode cX12_init 173 = .ok (.aload_n 0, 1) := by decide +kernel
theorem dX12_init_174 : decode cX12_init 174 = .ok (.bipush 60, 2) := by decide +kernel
theorem dX12_init_176 : decode cX12_init 176 = .ok (.newarray .long, 2) := by decide +kernel
theorem dX12_init_178 : decode cX12_init 178 = .ok (.putfield 74, 3) := by decide +kernel
theorem dX12_init_181 : decode cX12_init 181 = .ok (.return_, 1) := by decide +kernel
theorem dX12_isChamber_0 : decode cX12_isChamber 0 = .ok (.aload_n 0, 1) := by decide +kernel
theorem dX12_isChamber_1 : decode cX12_isChamber 1 = .ok (.getfield 9, 3) := by decide +kernel
theorem dX12_isChamber_4 : decode cX12_isChamber 4 = .ok (.bipush 9, 2) := by decide +kernel
theorem dX12_isChamber_6 : decode cX12_isChamber 6 = .ok (.iaload, 1) := by decide +kernel
theorem dX12_isChamber_7 : decode cX12_isChamber 7 = .ok (.ifCond .le 7, 3) := by decide +kernel
theorem dX12_isChamber_14 : decode cX12_isChamber 14 = .ok (.iconst 0, 1) := by decide +kernel
theorem dX12_isChamber_15 : decode cX12_isChamber 15 = .ok (.ireturn, 1) := by decide +kernel
theorem dX12_isDistrict_0 : decode cX12_isDistrict 0 = .ok (.iload_n 1, 1) := by decide +kernel
theorem dX12_isDistrict_1 : decode cX12_isDistrict 1 = .ok (.i2l, 1) := by decide +kernel
theorem dX12_isDistrict_2 : decode cX12_isDistrict 2 = .ok (.lconst 0, 1) := by decide +kernel
theorem dX12_isDistrict_3 : decode cX12_isDistrict 3 = .ok (.aload_n 0, 1) := by decide +kernel
theorem dX12_isDistrict_4 : decode cX12_isDistrict 4 = .ok (.getfield 9, 3) := by decide +kernel
theorem dX12_isDistrict_7 : decode cX12_isDistrict 7 = .ok (.iconst 4, 1) := by decide +kernel
theorem dX12_isDistrict_8 : decode cX12_isDistrict 8 = .ok (.iaload, 1) := by decide +kernel
theorem dX12_isDistrict_9 : decode cX12_isDistrict 9 = .ok (.iconst 1, 1) := by decide +kernel
theorem dX12_isDistrict_10 : decode cX12_isDistrict 10 = .ok (.isub, 1) := by decide +kernel
theorem dX12_isDistrict_11 : decode cX12_isDistrict 11 = .ok (.i2l, 1) := by decide +kernel
theorem dX12_isDistrict_12 : decode cX12_isDistrict 12 = .ok (.invokestatic 82, 3) := by decide +kernel
theorem dX12_isDistrict_15 : decode cX12_isDistrict 15 = .ok (.ireturn, 1) := by decide +kernel
theorem dX12_isLaw_0 : decode cX12_isLaw 0 = .ok (.iload_n 0, 1) := by decide +kernel
theorem dX12_isLaw_1 : decode cX12_isLaw 1 = .ok (.i2l, 1) := by decide +kernel
theorem dX12_isLaw_2 : decode cX12_isLaw 2 = .ok (.lconst 0, 1) := by decide +kernel
theorem dX12_isLaw_3 : decode cX12_isLaw 3 = .ok (.ldc2_w 86, 3) := by decide +kernel
theorem dX12_isLaw_6 : decode cX12_isLaw 6 = .ok (.invokestatic 82, 3) := by decide +kernel
theorem dX12_isLaw_9 : decode cX12_isLaw 9 = .ok (.ireturn, 1) := by decide +kernel
theorem dX12_isMeaning_0 : decode cX12_isMeaning 0 = .ok (.lload_n 1, 1) := by decide +kernel
theorem dX12_isMeaning_1 : decode cX12_isMeaning 1 = .ok (.lconst 0, 1) := by decide +kernel
theorem dX12_isMeaning_2 : decode cX12_isMeaning 2 = .ok (.aload_n 0, 1) := by decide +kernel
theorem dX12_isMeaning_3 : decode cX12_isMeaning 3 = .ok (.getfield 9, 3) := by decide +kernel
theorem dX12_isMeaning_6 : decode cX12_isMeaning 6 = .ok (.iconst 0, 1) := by decide +kernel
theorem dX12_isMeaning_7 : decode cX12_isMeaning 7 = .ok (.iaload, 1) := by decide +kernel
theorem dX12_isMeaning_8 : decode cX12_isMeaning 8 = .ok (.iconst 1, 1) := by decide +kernel
theorem dX12_isMeaning_9 : decode cX12_isMeaning 9 = .ok (.isub, 1) := by decide +kernel
theorem dX12_isMeaning_10 : decode cX12_isMeaning 10 = .ok (.i2l, 1) := by decide +kernel
theorem dX12_isMeaning_11 : decode cX12_isMeaning 11 = .ok (.invokestatic 82, 3) := by decide +kernel
theorem dX12_isMeaning_14 : decode cX12_isMeaning 14 = .ok (.ireturn, 1) := by decide +kernel
theorem dX12_isParty_0 : decode cX12_isParty 0 = .ok (.iload_n 0, 1) := by decide +kernel
theorem dX12_isParty_1 : decode cX12_isParty 1 = .ok (.i2l, 1) := by decide +kernel
theorem dX12_isParty_2 : decode cX12_isParty 2 = .ok (.lconst 0, 1) := by decide +kernel
theorem dX12_isParty_3 : decode cX12_isParty 3 = .ok (.ldc2_w 86, 3) := by decide +kernel
theorem dX12_isParty_6 : decode cX12_isParty 6 = .ok (.invokestatic 82, 3) := by decide +kernel
theorem dX12_isParty_9 : decode cX12_isParty 9 = .ok (.ireturn, 1) := by decide +kernel
theorem dX12_isSeed_0 : decode cX12_isSeed 0 = .ok (.iload_n 0, 1) := by decide +kernel
theorem dX12_isSeed_1 : decode cX12_isSeed 1 = .ok (.i2l, 1) := by decide +kernel
theorem dX12_isSeed_2 : decode cX12_isSeed 2 = .ok (.lconst 0, 1) := by decide +kernel
theorem dX12_isSeed_3 : decode cX12_isSeed 3 = .ok (.ldc2_w 474, 3) := by decide +kernel
theorem dX12_isSeed_6 : decode cX12_isSeed 6 = .ok (.invokestatic 82, 3) := by decide +kernel
theorem dX12_isSeed_9 : decode cX12_isSeed 9 = .ok (.ireturn, 1) := by decide +kernel
theorem dX12_isSlot_0 : decode cX12_isSlot 0 = .ok (.iload_n 0, 1) := by decide +kernel
theorem dX12_isSlot_1 : decode cX12_isSlot 1 = .ok (.i2l, 1) := by decide +kernel
theorem dX12_isSlot_2 : decode cX12_isSlot 2 = .ok (.lconst 0, 1) := by decide +kernel
theorem dX12_isSlot_3 : decode cX12_isSlot 3 = .ok (.ldc2_w 86, 3) := by decide +kernel
theorem dX12_isSlot_6 : decode cX12_isSlot 6 = .ok (.invokestatic 82, 3) := by decide +kernel
theorem dX12_isSlot_9 : decode cX12_isSlot 9 = .ok (.ireturn, 1) := by decide +kernel
theorem dX12_isSpeaker_0 : decode cX12_isSpeaker 0 = .ok (.iload_n 1, 1) := by decide +kernel
theorem dX12_isSpeaker_1 : decode cX12_isSpeaker 1 = .ok (.i2l, 1) := by decide +kernel
theorem dX12_isSpeaker_2 : decode cX12_isSpeaker 2 = .ok (.lconst 0, 1) := by decide +kernel
theorem dX12_isSpeaker_3 : decode cX12_isSpeaker 3 = .ok (.aload_n 0, 1) := by decide +kernel
theorem dX12_isSpeaker_4 : decode cX12_isSpeaker 4 = .ok (.getfield 9, 3) := by decide +kernel
theorem dX12_isSpeaker_7 : decode cX12_isSpeaker 7 = .ok (.bipush 6, 2) := by decide +kernel
theorem dX12_isSpeaker_9 : decode cX12_isSpeaker 9 = .ok (.iaload, 1) := by decide +kernel
theorem dX12_isSpeaker_10 : decode cX12_isSpeaker 10 = .ok (.iconst 1, 1) := by decide +kernel
theorem dX12_isSpeaker_11 : decode cX12_isSpeaker 11 = .ok (.isub, 1) := by decide +kernel
theorem dX12_isSpeaker_12 : decode cX12_isSpeaker 12 = .ok (.i2l, 1) := by decide +kernel
theorem dX12_isSpeaker_13 : decode cX12_isSpeaker 13 = .ok (.invokestatic 82, 3) := by decide +kernel
theorem dX12_isSpeaker_16 : decode cX12_isSpeaker 16 = .ok (.ireturn, 1) := by decide +kernel
theorem dX12_isWord_0 : decode cX12_isWord 0 = .ok (.lload_n 1, 1) := by decide +kernel
theorem dX12_isWord_1 : decode cX12_isWord 1 = .ok (.lconst 0, 1) := by decide +kernel
theorem dX12_isWord_2 : decode cX12_isWord 2 = .ok (.aload_n 0, 1) := by decide +kernel
theorem dX12_isWord_3 : decode cX12_isWord 3 = .ok (.getfield 9, 3) := by decide +kernel
theorem dX12_isWord_6 : decode cX12_isWord 6 = .ok (.iconst 5, 1) := by decide +kernel
theorem dX12_isWord_7 : decode cX12_isWord 7 = .ok (.iaload, 1) := by decide +kernel
theorem dX12_isWord_8 : decode cX12_isWord 8 = .ok (.iconst 1, 1) := by decide +kernel
theorem dX12_isWord_9 : decode cX12_isWord 9 = .ok (.isub, 1) := by decide +kernel
theorem dX12_isWord_10 : decode cX12_isWord 10 = .ok (.i2l, 1) := by decide +kernel
theorem dX12_isWord_11 : decode cX12_isWord 11 = .ok (.invokestatic 82, 3) := by decide +kernel
theorem dX12_isWord_14 : decode cX12_isWord 14 = .ok (.ireturn, 1) := by decide +kernel
theorem dX12_least_0 : decode cX12_least 0 = .ok (.aload_n 0, 1) := by decide +kernel
theorem dX12_least_1 : decode cX12_least 1 = .ok (.iload_n 1, 1) := by decide +kernel
theorem dX12_least_2 : decode cX12_least 2 = .ok (.i2l, 1) := by decide +kernel
theorem dX12_least_3 : decode cX12_least 3 = .ok (.invokevirtual 363, 3) := by decide +kernel
theorem dX12_least_6 : decode cX12_least 6 = .ok (.ifCond .ne 6, 3) := by decide +kernel
theorem dX12_least_9 : decode cX12_least 9 = .ok (.bipush (-2), 2) := by decide +kernel
theorem dX12_least_11 : decode cX12_least 11 = .ok (.ireturn, 1) := by decide +kernel
theorem dX12_led_0 : decode cX12_led 0 = .ok (.aload_n 0, 1) := by decide +kernel
theorem dX12_led_1 : decode cX12_led 1 = .ok (.invokevirtual 347, 3) := by decide +kernel
theorem dX12_led_4 : decode cX12_led 4 = .ok (.ifCond .ne 8, 3) := by decide +kernel
theorem dX12_led_7 : decode cX12_led 7 = .ok (.bipush (-2), 2) := by decide +kernel
theorem dX12_led_9 : decode cX12_led 9 = .ok (.goto 38, 3) := by decide +kernel
theorem dX12_led_47 : decode cX12_led 47 = .ok (.ireturn, 1) := by decide +kernel
theorem dX12_likes_0 : decode cX12_likes 0 = .ok (.aload_n 0, 1) := by decide +kernel
theorem dX12_likes_1 : decode cX12_likes 1 = .ok (.iload_n 1, 1) := by decide +kernel
theorem dX12_likes_2 : decode cX12_likes 2 = .ok (.invokevirtual 328, 3) := by decide +kernel
theorem dX12_likes_5 : decode cX12_likes 5 = .ok (.ifCond .eq 21, 3) := by decide +kernel
theorem dX12_likes_26 : decode cX12_likes 26 = .ok (.bipush (-2), 2) := by decide +kernel
theorem dX12_likes_28 : decode cX12_likes 28 = .ok (.ireturn, 1) := by decide +kernel
theorem dX12_lists_0 : decode cX12_lists 0 = .ok (.aload_n 0, 1) := by decide +kernel
theorem dX12_lists_1 : decode cX12_lists 1 = .ok (.invokevirtual 347, 3) := by decide +kernel
theorem dX12_lists_4 : decode cX12_lists 4 = .ok (.ifCond .eq 22, 3) := by decide +kernel
theorem dX12_lists_26 : decode cX12_lists 26 = .ok (.bipush (-2), 2) := by decide +kernel
theorem dX12_lists_28 : decode cX12_lists 28 = .ok (.ireturn, 1) := by decide +kernel
theorem dX12_majority_0 : decode cX12_majority 0 = .ok (.aload_n 0, 1) := by decide +kernel
theorem dX12_majority_1 : decode cX12_majority 1 = .ok (.iload_n 1, 1) := by decide +kernel
theorem dX12_majority_2 : decode cX12_majority 2 = .ok (.invokevirtual 416, 3) := by decide +kernel
theorem dX12_majority_5 : decode cX12_majority 5 = .ok (.ifCond .eq 19, 3) := by decide +kernel
theorem dX12_majority_24 : decode cX12_majority 24 = .ok (.bipush (-2), 2) := by decide +kernel
theorem dX12_majority_26 : decode cX12_majority 26 = .ok (.ireturn, 1) := by decide +kernel
theorem dX12_need_0 : decode cX12_need 0 = .ok (.aload_n 0, 1) := by decide +kernel
theorem dX12_need_1 : decode cX12_need 1 = .ok (.iload_n 1, 1) := by decide +kernel
theorem dX12_need_2 : decode cX12_need 2 = .ok (.invokevirtual 328, 3) := by decide +kernel
theorem dX12_need_5 : decode cX12_need 5 = .ok (.ifCond .eq 15, 3) := by decide +kernel
theorem dX12_need_20 : decode cX12_need 20 = .ok (.bipush (-2), 2) := by decide +kernel
theorem dX12_need_22 : decode cX12_need 22 = .ok (.ireturn, 1) := by decide +kernel
theorem dX12_order_0 : decode cX12_order 0 = .ok (.aload_n 0, 1) := by decide +kernel
theorem dX12_order_1 : decode cX12_order 1 = .ok (.iload_n 1, 1) := by decide +kernel
theorem dX12_order_2 : decode cX12_order 2 = .ok (.invokevirtual 328, 3) := by decide +kernel
theorem dX12_order_5 : decode cX12_order 5 = .ok (.ifCond .ne 6, 3) := by decide +kernel
theorem dX12_order_8 : decode cX12_order 8 = .ok (.bipush (-2), 2) := by decide +kernel
theorem dX12_order_10 : decode cX12_order 10 = .ok (.ireturn, 1) := by decide +kernel
theorem dX12_paste_0 : decode cX12_paste 0 = .ok (.iload_n 1, 1) := by decide +kernel
theorem dX12_paste_1 : decode cX12_paste 1 = .ok (.invokestatic 439, 3) := by decide +kernel
theorem dX12_paste_4 : decode cX12_paste 4 = .ok (.ifCond .eq 10, 3) := by decide +kernel
theorem dX12_paste_7 : decode cX12_paste 7 = .ok (.iload_n 3, 1) := by decide +kernel
theorem dX12_paste_8 : decode cX12_paste 8 = .ok (.invokestatic 439, 3) := by decide +kernel
theorem dX12_paste_11 : decode cX12_paste 11 = .ok (.ifCond .ne 6, 3) := by decide +kernel
theorem dX12_paste_14 : decode cX12_paste 14 = .ok (.bipush (-2), 2) := by decide +kernel
theorem dX12_paste_16 : decode cX12_paste 16 = .ok (.ireturn, 1) := by decide +kernel
theorem dX12_paste_17 : decode cX12_paste 17 = .ok (.aload_n 0, 1) := by decide +kernel
theorem dX12_paste_18 : decode cX12_paste 18 = .ok (.getfield 64, 3) := by decide +kernel
theorem dX12_paste_21 : decode cX12_paste 21 = .ok (.iload_n 1, 1) := by decide +kernel
theorem dX12_paste_22 : decode cX12_paste 22 = .ok (.iaload, 1) := by decide +kernel
theorem dX12_paste_23 : decode cX12_paste 23 = .ok (.iconst (-1), 1) := by decide +kernel
theorem dX12_paste_24 : decode cX12_paste 24 = .ok (.if_icmp .eq 13, 3) := by decide +kernel
theorem dX12_paste_37 : decode cX12_paste 37 = .ok (.bipush (-6), 2) := by decide +kernel
theorem dX12_paste_39 : decode cX12_paste 39 = .ok (.ireturn, 1) := by decide +kernel
theorem dX12_put_0 : decode cX12_put 0 = .ok (.iload_n 1, 1) := by decide +kernel
theorem dX12_put_1 : decode cX12_put 1 = .ok (.invokestatic 413, 3) := by decide +kernel
theorem dX12_put_4 : decode cX12_put 4 = .ok (.ifCond .eq 20, 3) := by decide +kernel
theorem dX12_put_7 : decode cX12_put 7 = .ok (.aload_n 0, 1) := by decide +kernel
theorem dX12_put_8 : decode cX12_put 8 = .ok (.getfield 9, 3) := by decide +kernel
theorem dX12_put_11 : decode cX12_put 11 = .ok (.iconst 4, 1) := by decide +kernel
theorem dX12_put_12 : decode cX12_put 12 = .ok (.iaload, 1) := by decide +kernel
theorem dX12_put_13 : decode cX12_put 13 = .ok (.ifCond .eq 11, 3) := by decide +kernel
theorem dX12_put_24 : decode cX12_put 24 = .ok (.bipush (-2), 2) := by decide +kernel
theorem dX12_put_26 : decode cX12_put 26 = .ok (.ireturn, 1) := by decide +kernel
theorem dX12_restless_0 : decode cX12_restless 0 = .ok (.aload_n 0, 1) := by decide +kernel
theorem dX12_restless_1 : decode cX12_restless 1 = .ok (.invokevirtual 347, 3) := by decide +kernel
theorem dX12_restless_4 : decode cX12_restless 4 = .ok (.ifCond .ne 6, 3) := by decide +kernel
theorem dX12_restless_7 : decode cX12_restless 7 = .ok (.bipush (-2), 2) := by decide +kernel
theorem dX12_restless_9 : decode cX12_restless 9 = .ok (.ireturn, 1) := by decide +kernel
theorem dX12_rigged_0 : decode cX12_rigged 0 = .ok (.iload_n 1, 1) := by decide +kernel
theorem dX12_rigged_1 : decode cX12_rigged 1 = .ok (.invokestatic 413, 3) := by decide +kernel
theorem dX12_rigged_4 : decode cX12_rigged 4 = .ok (.ifCond .eq 12, 3) := by decide +kernel
theorem dX12_rigged_7 : decode cX12_rigged 7 = .ok (.aload_n 0, 1) := by decide +kernel
theorem dX12_rigged_8 : decode cX12_rigged 8 = .ok (.getfield 9, 3) := by decide +kernel
theorem dX12_rigged_11 : decode cX12_rigged 11 = .ok (.iconst 4, 1) := by decide +kernel
theorem dX12_rigged_12 : decode cX12_rigged 12 = .ok (.iaload, 1) := by decide +kernel
theorem dX12_rigged_13 : decode cX12_rigged 13 = .ok (.ifCond .ne 6, 3) := by decide +kernel
theorem dX12_rigged_16 : decode cX12_rigged 16 = .ok (.bipush (-2), 2) := by decide +kernel
theorem dX12_rigged_18 : decode cX12_rigged 18 = .ok (.ireturn, 1) := by decide +kernel
theorem dX12_round_0 : decode cX12_round 0 = .ok (.aload_n 0, 1) := by decide +kernel
theorem dX12_round_1 : decode cX12_round 1 = .ok (.iload_n 1, 1) := by decide +kernel
theorem dX12_round_2 : decode cX12_round 2 = .ok (.i2l, 1) := by decide +kernel
theorem dX12_round_3 : decode cX12_round 3 = .ok (.invokevirtual 363, 3) := by decide +kernel
theorem dX12_round_6 : decode cX12_round 6 = .ok (.ifCond .ne 6, 3) := by decide +kernel
theorem dX12_round_9 : decode cX12_round 9 = .ok (.bipush (-2), 2) := by decide +kernel
theorem dX12_round_11 : decode cX12_round 11 = .ok (.ireturn, 1) := by decide +kernel
theorem dX12_row_0 : decode cX12_row 0 = .ok (.iload_n 1, 1) := by decide +kernel
theorem dX12_row_1 : decode cX12_row 1 = .ok (.invokestatic 439, 3) := by decide +kernel
theorem dX12_row_4 : decode cX12_row 4 = .ok (.ifCond .eq 21, 3) := by decide +kernel
theorem dX12_row_7 : decode cX12_row 7 = .ok (.iload_n 2, 1) := by decide +kernel
theorem dX12_row_8 : decode cX12_row 8 = .ok (.i2l, 1) := by decide +kernel
theorem dX12_row_9 : decode cX12_row 9 = .ok (.lconst 0, 1) := by decide +kernel
theorem dX12_row_10 : decode cX12_row 10 = .ok (.ldc2_w 86, 3) := by decide +kernel
theorem dX12_row_13 : decode cX12_row 13 = .ok (.invokestatic 82, 3) := by decide +kernel
theorem dX12_row_16 : decode cX12_row 16 = .ok (.ifCond .eq 9, 3) := by decide +kernel
theorem dX12_row_19 : decode cX12_row 19 = .ok (.iload_n 3, 1) := by decide +kernel
theorem dX12_row_20 : decode cX12_row 20 = .ok (.bipush 60, 2) := by decide +kernel
theorem dX12_row_22 : decode cX12_row 22 = .ok (.if_icmp .le 6, 3) := by decide +kernel
theorem dX12_row_25 : decode cX12_row 25 = .ok (.bipush (-2), 2) := by decide +kernel
theorem dX12_row_27 : decode cX12_row 27 = .ok (.ireturn, 1) := by decide +kernel
theorem dX12_row_28 : decode cX12_row 28 = .ok (.iload_n 3, 1) := by decide +kernel
theorem dX12_row_29 : decode cX12_row 29 = .ok (.ifCond .ge 6, 3) := by decide +kernel
theorem dX12_row_32 : decode cX12_row 32 = .ok (.bipush (-3), 2) := by decide +kernel
theorem dX12_row_34 : decode cX12_row 34 = .ok (.ireturn, 1) := by decide +kernel
theorem dX12_row_35 : decode cX12_row 35 = .ok (.aload_n 0, 1) := by decide +kernel
theorem dX12_row_36 : decode cX12_row 36 = .ok (.getfield 64, 3) := by decide +kernel
theorem dX12_row_39 : decode cX12_row 39 = .ok (.iload_n 1, 1) := by decide +kernel
theorem dX12_row_40 : decode cX12_row 40 = .ok (.iload_n 3, 1) := by decide +kernel
theorem dX12_row_41 : decode cX12_row 41 = .ok (.iastore, 1) := by decide +kernel
theorem dX12_row_42 : decode cX12_row 42 = .ok (.aload_n 0, 1) := by decide +kernel
theorem dX12_row_43 : decode cX12_row 43 = .ok (.getfield 67, 3) := by decide +kernel
theorem dX12_row_46 : decode cX12_row 46 = .ok (.iload_n 1, 1) := by decide +kernel
theorem dX12_row_47 : decode cX12_row 47 = .ok (.iload_n 2, 1) := by decide +kernel
theorem dX12_row_48 : decode cX12_row 48 = .ok (.iastore, 1) := by decide +kernel
theorem dX12_row_49 : decode cX12_row 49 = .ok (.iconst 0, 1) := by decide +kernel
theorem dX12_row_50 : decode cX12_row 50 = .ok (.istore 4, 2) := by decide +kernel
theorem dX12_row_52 : decode cX12_row 52 = .ok (.iload 4, 2) := by decide +kernel
theorem dX12_row_54 : decode cX12_row 54 = .ok (.bipush 60, 2) := by decide +kernel
theorem dX12_row_56 : decode cX12_row 56 = .ok (.if_icmp .ge 22, 3) := by decide +kernel
theorem dX12_row_59 : decode cX12_row 59 = .ok (.aload_n 0, 1) := by decide +kernel
theorem dX12_row_60 : decode cX12_row 60 = .ok (.getfield 70, 3) := by decide +kernel
theorem dX12_row_63 : decode cX12_row 63 = .ok (.bipush 60, 2) := by decide +kernel
theorem dX12_row_65 : decode cX12_row 65 = .ok (.iload_n 1, 1) := by decide +kernel
theorem dX12_row_66 : decode cX12_row 66 = .ok (.imul, 1) := by decide +kernel
theorem dX12_row_67 : decode cX12_row 67 = .ok (.iload 4, 2) := by decide +kernel
theorem dX12_row_69 : decode cX12_row 69 = .ok (.iadd, 1) := by decide +kernel
theorem dX12_row_70 : decode cX12_row 70 = .ok (.lconst 0, 1) := by decide +kernel
theorem dX12_row_71 : decode cX12_row 71 = .ok (.lastore, 1) := by decide +kernel
theorem dX12_row_72 : decode cX12_row 72 = .ok (.iinc 4 1, 3) := by decide +kernel
theorem dX12_row_75 : decode cX12_row 75 = .ok (.goto (-23), 3) := by decide +kernel
theorem dX12_row_78 : decode cX12_row 78 = .ok (.iconst 0, 1) := by decide +kernel
theorem dX12_row_79 : decode cX12_row 79 = .ok (.ireturn, 1) := by decide +kernel
theorem dX12_said_0 : decode cX12_said 0 = .ok (.aload_n 0, 1) := by decide +kernel
theorem dX12_said_1 : decode cX12_said 1 = .ok (.iload_n 1, 1) := by decide +kernel
theorem dX12_said_2 : decode cX12_said 2 = .ok (.i2l, 1) := by decide +kernel
theorem dX12_said_3 : decode cX12_said 3 = .ok (.invokevirtual 363, 3) := by decide +kernel
theorem dX12_said_6 : decode cX12_said 6 = .ok (.ifCond .ne 6, 3) := by decide +kernel
theorem dX12_said_9 : decode cX12_said 9 = .ok (.bipush (-2), 2) := by decide +kernel
theorem dX12_said_11 : decode cX12_said 11 = .ok (.ireturn, 1) := by decide +kernel
theorem dX12_seats_0 : decode cX12_seats 0 = .ok (.aload_n 0, 1) := by decide +kernel
theorem dX12_seats_1 : decode cX12_seats 1 = .ok (.invokevirtual 347, 3) := by decide +kernel
theorem dX12_seats_4 : decode cX12_seats 4 = .ok (.ifCond .eq 20, 3) := by decide +kernel
theorem dX12_seats_24 : decode cX12_seats 24 = .ok (.bipush (-2), 2) := by decide +kernel
theorem dX12_seats_26 : decode cX12_seats 26 = .ok (.ireturn, 1) := by decide +kernel
theorem dX12_see_0 : decode cX12_see 0 = .ok (.iload_n 1, 1) := by decide +kernel
theorem dX12_see_1 : decode cX12_see 1 = .ok (.aload_n 0, 1) := by decide +kernel
theorem dX12_see_2 : decode cX12_see 2 = .ok (.getfield 99, 3) := by decide +kernel
theorem dX12_see_5 : decode cX12_see 5 = .ok (.if_icmp .ge 16, 3) := by decide +kernel
theorem dX12_see_21 : decode cX12_see 21 = .ok (.iconst (-1), 1) := by decide +kernel
theorem dX12_see_22 : decode cX12_see 22 = .ok (.ireturn, 1) := by decide +kernel
theorem dX12_share_0 : decode cX12_share 0 = .ok (.aload_n 0, 1) := by decide +kernel
theorem dX12_share_1 : decode cX12_share 1 = .ok (.invokevirtual 347, 3) := by decide +kernel
theorem dX12_share_4 : decode cX12_share 4 = .ok (.ifCond .eq 20, 3) := by decide +kernel
theorem dX12_share_24 : decode cX12_share 24 = .ok (.bipush (-2), 2) := by decide +kernel
theorem dX12_share_26 : decode cX12_share 26 = .ok (.ireturn, 1) := by decide +kernel
theorem dX12_sits_0 : decode cX12_sits 0 = .ok (.aload_n 0, 1) := by decide +kernel
theorem dX12_sits_1 : decode cX12_sits 1 = .ok (.iload_n 1, 1) := by decide +kernel
theorem dX12_sits_2 : decode cX12_sits 2 = .ok (.invokevirtual 332, 3) := by decide +kernel
theorem dX12_sits_5 : decode cX12_sits 5 = .ok (.ifCond .eq 10, 3) := by decide +kernel
theorem dX12_sits_15 : decode cX12_sits 15 = .ok (.bipush (-2), 2) := by decide +kernel
theorem dX12_sits_17 : decode cX12_sits 17 = .ok (.ireturn, 1) := by decide +kernel
theorem dX12_sitting_0 : decode cX12_sitting 0 = .ok (.aload_n 0, 1) := by decide +kernel
theorem dX12_sitting_1 : decode cX12_sitting 1 = .ok (.invokevirtual 347, 3) := by decide +kernel
theorem dX12_sitting_4 : decode cX12_sitting 4 = .ok (.ifCond .eq 13, 3) := by decide +kernel
theorem dX12_sitting_17 : decode cX12_sitting 17 = .ok (.bipush (-2), 2) := by decide +kernel
theorem dX12_sitting_19 : decode cX12_sitting 19 = .ok (.ireturn, 1) := by decide +kernel
theorem dX12_speaker_0 : decode cX12_speaker 0 = .ok (.aload_n 0, 1) := by decide +kernel
theorem dX12_speaker_1 : decode cX12_speaker 1 = .ok (.iload_n 1, 1) := by decide +kernel
theorem dX12_speaker_2 : decode cX12_speaker 2 = .ok (.invokevirtual 328, 3) := by decide +kernel
theorem dX12_speaker_5 : decode cX12_speaker 5 = .ok (.ifCond .eq 24, 3) := by decide +kernel
theorem dX12_speaker_29 : decode cX12_speaker 29 = .ok (.bipush (-2), 2) := by decide +kernel
theorem dX12_speaker_31 : decode cX12_speaker 31 = .ok (.ireturn, 1) := by decide +kernel
theorem dX12_speech_0 : decode cX12_speech 0 = .ok (.aload_n 0, 1) := by decide +kernel
theorem dX12_speech_1 : decode cX12_speech 1 = .ok (.iload_n 1, 1) := by decide +kernel
theorem dX12_speech_2 : decode cX12_speech 2 = .ok (.iconst 1, 1) := by decide +kernel
theorem dX12_speech_3 : decode cX12_speech 3 = .ok (.invokevirtual 448, 3) := by decide +kernel
theorem dX12_speech_6 : decode cX12_speech 6 = .ok (.istore_n 2, 1) := by decide +kernel
theorem dX12_speech_7 : decode cX12_speech 7 = .ok (.iload_n 2, 1) := by decide +kernel
theorem dX12_speech_8 : decode cX12_speech 8 = .ok (.ifCond .ge 7, 3) := by decide +kernel
theorem dX12_speech_11 : decode cX12_speech 11 = .ok (.iload_n 2, 1) := by decide +kernel
theorem dX12_speech_12 : decode cX12_speech 12 = .ok (.goto 15, 3) := by decide +kernel
theorem dX12_speech_27 : decode cX12_speech 27 = .ok (.ireturn, 1) := by decide +kernel
theorem dX12_spoilers_0 : decode cX12_spoilers 0 = .ok (.aload_n 0, 1) := by decide +kernel
theorem dX12_spoilers_1 : decode cX12_spoilers 1 = .ok (.invokevirtual 347, 3) := by decide +kernel
theorem dX12_spoilers_4 : decode cX12_spoilers 4 = .ok (.ifCond .ne 6, 3) := by decide +kernel
theorem dX12_spoilers_7 : decode cX12_spoilers 7 = .ok (.bipush (-2), 2) := by decide +kernel
theorem dX12_spoilers_9 : decode cX12_spoilers 9 = .ok (.ireturn, 1) := by decide +kernel
theorem dX12_spoils_0 : decode cX12_spoils 0 = .ok (.aload_n 0, 1) := by decide +kernel
theorem dX12_spoils_1 : decode cX12_spoils 1 = .ok (.iload_n 1, 1) := by decide +kernel
theorem dX12_spoils_2 : decode cX12_spoils 2 = .ok (.i2l, 1) := by decide +kernel
theorem dX12_spoils_3 : decode cX12_spoils 3 = .ok (.invokevirtual 322, 3) := by decide +kernel
theorem dX12_spoils_6 : decode cX12_spoils 6 = .ok (.ifCond .eq 11, 3) := by decide +kernel
theorem dX12_spoils_17 : decode cX12_spoils 17 = .ok (.bipush (-2), 2) := by decide +kernel
theorem dX12_spoils_19 : decode cX12_spoils 19 = .ok (.ireturn, 1) := by decide +kernel
theorem dX12_stand_0 : decode cX12_stand 0 = .ok (.aload_n 0, 1) := by decide +kernel
theorem dX12_stand_1 : decode cX12_stand 1 = .ok (.iload_n 1, 1) := by decide +kernel
theorem dX12_stand_2 : decode cX12_stand 2 = .ok (.i2l, 1) := by decide +kernel
theorem dX12_stand_3 : decode cX12_stand 3 = .ok (.invokevirtual 322, 3) := by decide +kernel
theorem dX12_stand_6 : decode cX12_stand 6 = .ok (.ifCond .eq 11, 3) := by decide +kernel
theorem dX12_stand_17 : decode cX12_stand 17 = .ok (.bipush (-2), 2) := by decide +kernel
theorem dX12_stand_19 : decode cX12_stand 19 = .ok (.ireturn, 1) := by decide +kernel
theorem dX12_struck_0 : decode cX12_struck 0 = .ok (.aload_n 0, 1) := by decide +kernel
theorem dX12_struck_1 : decode cX12_struck 1 = .ok (.iload_n 1, 1) := by decide +kernel
theorem dX12_struck_2 : decode cX12_struck 2 = .ok (.invokevirtual 332, 3) := by decide +kernel
theorem dX12_struck_5 : decode cX12_struck 5 = .ok (.ifCond .ne 6, 3) := by decide +kernel
theorem dX12_struck_8 : decode cX12_struck 8 = .ok (.bipush (-2), 2) := by decide +kernel
theorem dX12_struck_10 : decode cX12_struck 10 = .ok (.ireturn, 1) := by decide +kernel
theorem dX12_sure_0 : decode cX12_sure 0 = .ok (.aload_n 0, 1) := by decide +kernel
theorem dX12_sure_1 : decode cX12_sure 1 = .ok (.iload_n 1, 1) := by decide +kernel
theorem dX12_sure_2 : decode cX12_sure 2 = .ok (.iload_n 2, 1) := by decide +kernel
theorem dX12_sure_3 : decode cX12_sure 3 = .ok (.i2l, 1) := by decide +kernel
theorem dX12_sure_4 : decode cX12_sure 4 = .ok (.lconst 0, 1) := by decide +kernel
theorem dX12_sure_5 : decode cX12_sure 5 = .ok (.lconst 1, 1) := by decide +kernel
theorem dX12_sure_6 : decode cX12_sure 6 = .ok (.invokestatic 82, 3) := by decide +kernel
theorem dX12_sure_9 : decode cX12_sure 9 = .ok (.invokevirtual 448, 3) := by decide +kernel
theorem dX12_sure_12 : decode cX12_sure 12 = .ok (.istore_n 3, 1) := by decide +kernel
theorem dX12_sure_13 : decode cX12_sure 13 = .ok (.iload_n 3, 1) := by decide +kernel
theorem dX12_sure_14 : decode cX12_sure 14 = .ok (.ifCond .ge 5, 3) := by decide +kernel
theorem dX12_sure_17 : decode cX12_sure 17 = .ok (.iload_n 3, 1) := by decide +kernel
theorem dX12_sure_18 : decode cX12_sure 18 = .ok (.ireturn, 1) := by decide +kernel
theorem dX12_synonyms_0 : decode cX12_synonyms 0 = .ok (.aload_n 0, 1) := by decide +kernel
theorem dX12_synonyms_1 : decode cX12_synonyms 1 = .ok (.iload_n 1, 1) := by decide +kernel
theorem dX12_synonyms_2 : decode cX12_synonyms 2 = .ok (.i2l, 1) := by decide +kernel
theorem dX12_synonyms_3 : decode cX12_synonyms 3 = .ok (.invokevirtual 322, 3) := by decide +kernel
theorem dX12_synonyms_6 : decode cX12_synonyms 6 = .ok (.ifCond .ne 6, 3) := by decide +kernel
theorem dX12_synonyms_9 : decode cX12_synonyms 9 = .ok (.bipush (-2), 2) := by decide +kernel
theorem dX12_synonyms_11 : decode cX12_synonyms 11 = .ok (.ireturn, 1) := by decide +kernel
theorem dX12_term_0 : decode cX12_term 0 = .ok (.aload_n 0, 1) := by decide +kernel
theorem dX12_term_1 : decode cX12_term 1 = .ok (.invokevirtual 347, 3) := by decide +kernel
theorem dX12_term_4 : decode cX12_term 4 = .ok (.ifCond .ne 6, 3) := by decide +kernel
theorem dX12_term_7 : decode cX12_term 7 = .ok (.bipush (-2), 2) := by decide +kernel
theorem dX12_term_9 : decode cX12_term 9 = .ok (.ireturn, 1) := by decide +kernel
theorem dX12_undo_0 : decode cX12_undo 0 = .ok (.aload_n 0, 1) := by decide +kernel
theorem dX12_undo_1 : decode cX12_undo 1 = .ok (.invokevirtual 347, 3) := by decide +kernel
theorem dX12_undo_4 : decode cX12_undo 4 = .ok (.ifCond .ne 6, 3) := by decide +kernel
theorem dX12_undo_7 : decode cX12_undo 7 = .ok (.bipush (-2), 2) := by decide +kernel
theorem dX12_undo_9 : decode cX12_undo 9 = .ok (.ireturn, 1) := by decide +kernel
theorem dX12_unlike__0 : decode cX12_unlike_ 0 = .ok (.aload_n 0, 1) := by decide +kernel
theorem dX12_unlike__1 : decode cX12_unlike_ 1 = .ok (.invokevirtual 347, 3) := by decide +kernel
theorem dX12_unlike__4 : decode cX12_unlike_ 4 = .ok (.ifCond .eq 17, 3) := by decide +kernel
theorem dX12_unlike__21 : decode cX12_unlike_ 21 = .ok (.bipush (-2), 2) := by decide +kernel
theorem dX12_unlike__23 : decode cX12_unlike_ 23 = .ok (.ireturn, 1) := by decide +kernel
theorem dX12_votes_0 : decode cX12_votes 0 = .ok (.aload_n 0, 1) := by decide +kernel
theorem dX12_votes_1 : decode cX12_votes 1 = .ok (.iload_n 1, 1) := by decide +kernel
theorem dX12_votes_2 : decode cX12_votes 2 = .ok (.i2l, 1) := by decide +kernel
theorem dX12_votes_3 : decode cX12_votes 3 = .ok (.invokevirtual 322, 3) := by decide +kernel
theorem dX12_votes_6 : decode cX12_votes 6 = .ok (.ifCond .ne 6, 3) := by decide +kernel
theorem dX12_votes_9 : decode cX12_votes 9 = .ok (.bipush (-2), 2) := by decide +kernel
theorem dX12_votes_11 : decode cX12_votes 11 = .ok (.ireturn, 1) := by decide +kernel
theorem dX12_wins_0 : decode cX12_wins 0 = .ok (.aload_n 0, 1) := by decide +kernel
theorem dX12_wins_1 : decode cX12_wins 1 = .ok (.iload_n 1, 1) := by decide +kernel
theorem dX12_wins_2 : decode cX12_wins 2 = .ok (.invokevirtual 332, 3) := by decide +kernel
theorem dX12_wins_5 : decode cX12_wins 5 = .ok (.ifCond .eq 10, 3) := by decide +kernel
theorem dX12_wins_15 : decode cX12_wins 15 = .ok (.bipush (-2), 2) := by decide +kernel
theorem dX12_wins_17 : decode cX12_wins 17 = .ok (.ireturn, 1) := by decide +kernel
theorem dX12_with_0 : decode cX12_with 0 = .ok (.aload_n 0, 1) := by decide +kernel
theorem dX12_with_1 : decode cX12_with 1 = .ok (.iload_n 1, 1) := by decide +kernel
theorem dX12_with_2 : decode cX12_with 2 = .ok (.invokevirtual 332, 3) := by decide +kernel
theorem dX12_with_5 : decode cX12_with 5 = .ok (.ifCond .eq 10, 3) := by decide +kernel
theorem dX12_with_15 : decode cX12_with 15 = .ok (.bipush (-2), 2) := by decide +kernel
theorem dX12_with_17 : decode cX12_with 17 = .ok (.ireturn, 1) := by decide +kernel
theorem dX12_word_0 : decode cX12_word 0 = .ok (.aload_n 0, 1) := by decide +kernel
theorem dX12_word_1 : decode cX12_word 1 = .ok (.iload_n 1, 1) := by decide +kernel
theorem dX12_word_2 : decode cX12_word 2 = .ok (.i2l, 1) := by decide +kernel
theorem dX12_word_3 : decode cX12_word 3 = .ok (.invokevirtual 322, 3) := by decide +kernel
theorem dX12_word_6 : decode cX12_word 6 = .ok (.ifCond .eq 15, 3) := by decide +kernel
theorem dX12_word_21 : decode cX12_word 21 = .ok (.bipush (-2), 2) := by decide +kernel
theorem dX12_word_23 : decode cX12_word 23 = .ok (.ireturn, 1) := by decide +kernel
theorem dX12_write_0 : decode cX12_write 0 = .ok (.iload_n 1, 1) := by decide +kernel
theorem dX12_write_1 : decode cX12_write 1 = .ok (.invokestatic 439, 3) := by decide +kernel
theorem dX12_write_4 : decode cX12_write 4 = .ok (.ifCond .ne 6, 3) := by decide +kernel
theorem dX12_write_7 : decode cX12_write 7 = .ok (.bipush (-2), 2) := by decide +kernel
theorem dX12_write_9 : decode cX12_write 9 = .ok (.ireturn, 1) := by decide +kernel
theorem dX12_write_10 : decode cX12_write 10 = .ok (.aload_n 0, 1) := by decide +kernel
theorem dX12_write_11 : decode cX12_write 11 = .ok (.getfield 64, 3) := by decide +kernel
theorem dX12_write_14 : decode cX12_write 14 = .ok (.iload_n 1, 1) := by decide +kernel
theorem dX12_write_15 : decode cX12_write 15 = .ok (.iaload, 1) := by decide +kernel
theorem dX12_write_16 : decode cX12_write 16 = .ok (.iconst (-1), 1) := by decide +kernel
theorem dX12_write_17 : decode cX12_write 17 = .ok (.if_icmp .ne 6, 3) := by decide +kernel
theorem dX12_write_20 : decode cX12_write 20 = .ok (.bipush (-6), 2) := by decide +kernel
theorem dX12_write_22 : decode cX12_write 22 = .ok (.ireturn, 1) := by decide +kernel
theorem dX12_years_0 : decode cX12_years 0 = .ok (.iload_n 1, 1) := by decide +kernel
theorem dX12_years_1 : decode cX12_years 1 = .ok (.invokestatic 476, 3) := by decide +kernel
theorem dX12_years_4 : decode cX12_years 4 = .ok (.ifCond .eq 24, 3) := by decide +kernel
theorem dX12_years_7 : decode cX12_years 7 = .ok (.iload_n 2, 1) := by decide +kernel
theorem dX12_years_8 : decode cX12_years 8 = .ok (.i2l, 1) := by decide +kernel
theorem dX12_years_9 : decode cX12_years 9 = .ok (.lconst 1, 1) := by decide +kernel
theorem dX12_years_10 : decode cX12_years 10 = .ok (.ldc2_w 428, 3) := by decide +kernel
theorem dX12_years_13 : decode cX12_years 13 = .ok (.invokestatic 82, 3) := by decide +kernel
theorem dX12_years_16 : decode cX12_years 16 = .ok (.ifCond .eq 12, 3) := by decide +kernel
theorem dX12_years_19 : decode cX12_years 19 = .ok (.aload_n 0, 1) := by decide +kernel
theorem dX12_years_20 : decode cX12_years 20 = .ok (.iload_n 3, 1) := by decide +kernel
theorem dX12_years_21 : decode cX12_years 21 = .ok (.i2l, 1) := by decide +kernel
theorem dX12_years_22 : decode cX12_years 22 = .ok (.invokevirtual 322, 3) := by decide +kernel
theorem dX12_years_25 : decode cX12_years 25 = .ok (.ifCond .ne 6, 3) := by decide +kernel
