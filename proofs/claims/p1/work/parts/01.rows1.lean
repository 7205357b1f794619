theorem dX11_count_80 : decode cX11_count 80 = .ok (.aload_n 0, 1) := by decide +kernel
theorem dX11_count_81 : decode cX11_count 81 = .ok (.getfield 32, 3) := by decide +kernel
theorem dX11_count_84 : decode cX11_count 84 = .ok (.getfield 392, 3) := by decide +kernel
theorem dX11_count_87 : decode cX11_count 87 = .ok (.ireturn, 1) := by decide +kernel
theorem dX11_count_88 : decode cX11_count 88 = .ok (.aload_n 0, 1) := by decide +kernel
theorem dX11_count_89 : decode cX11_count 89 = .ok (.getfield 32, 3) := by decide +kernel
theorem dX11_count_92 : decode cX11_count 92 = .ok (.getfield 251, 3) := by decide +kernel
theorem dX11_count_95 : decode cX11_count 95 = .ok (.ireturn, 1) := by decide +kernel
theorem dX11_count_96 : decode cX11_count 96 = .ok (.aload_n 0, 1) := by decide +kernel
theorem dX11_count_97 : decode cX11_count 97 = .ok (.getfield 32, 3) := by decide +kernel
theorem dX11_count_100 : decode cX11_count 100 = .ok (.getfield 230, 3) := by decide +kernel
theorem dX11_count_103 : decode cX11_count 103 = .ok (.ireturn, 1) := by decide +kernel
theorem dX11_count_104 : decode cX11_count 104 = .ok (.aload_n 0, 1) := by decide +kernel
theorem dX11_count_105 : decode cX11_count 105 = .ok (.getfield 32, 3) := by decide +kernel
theorem dX11_count_108 : decode cX11_count 108 = .ok (.getfield 233, 3) := by decide +kernel
theorem dX11_count_111 : decode cX11_count 111 = .ok (.ireturn, 1) := by decide +kernel
theorem dX11_count_112 : decode cX11_count 112 = .ok (.aload_n 0, 1) := by decide +kernel
theorem dX11_count_113 : decode cX11_count 113 = .ok (.getfield 32, 3) := by decide +kernel
theorem dX11_count_116 : decode cX11_count 116 = .ok (.getfield 323, 3) := by decide +kernel
theorem dX11_count_119 : decode cX11_count 119 = .ok (.ireturn, 1) := by decide +kernel
theorem dX11_count_120 : decode cX11_count 120 = .ok (.aload_n 0, 1) := by decide +kernel
theorem dX11_count_121 : decode cX11_count 121 = .ok (.getfield 32, 3) := by decide +kernel
theorem dX11_count_124 : decode cX11_count 124 = .ok (.getfield 401, 3) := by decide +kernel
theorem dX11_count_127 : decode cX11_count 127 = .ok (.getfield 405, 3) := by decide +kernel
theorem dX11_count_130 : decode cX11_count 130 = .ok (.ireturn, 1) := by decide +kernel
theorem dX11_count_131 : decode cX11_count 131 = .ok (.aload_n 0, 1) := by decide +kernel
theorem dX11_count_132 : decode cX11_count 132 = .ok (.getfield 32, 3) := by decide +kernel
theorem dX11_count_135 : decode cX11_count 135 = .ok (.getfield 131, 3) := by decide +kernel
theorem dX11_count_138 : decode cX11_count 138 = .ok (.getfield 248, 3) := by decide +kernel
theorem dX11_count_141 : decode cX11_count 141 = .ok (.ireturn, 1) := by decide +kernel
theorem dX11_count_142 : decode cX11_count 142 = .ok (.aload_n 0, 1) := by decide +kernel
theorem dX11_count_143 : decode cX11_count 143 = .ok (.getfield 32, 3) := by decide +kernel
theorem dX11_count_146 : decode cX11_count 146 = .ok (.getfield 108, 3) := by decide +kernel
theorem dX11_count_149 : decode cX11_count 149 = .ok (.ireturn, 1) := by decide +kernel
theorem dX11_count_150 : decode cX11_count 150 = .ok (.aload_n 0, 1) := by decide +kernel
theorem dX11_count_151 : decode cX11_count 151 = .ok (.getfield 10, 3) := by decide +kernel
theorem dX11_count_154 : decode cX11_count 154 = .ok (.getfield 95, 3) := by decide +kernel
theorem dX11_count_157 : decode cX11_count 157 = .ok (.ireturn, 1) := by decide +kernel
theorem dX11_count_158 : decode cX11_count 158 = .ok (.aload_n 0, 1) := by decide +kernel
theorem dX11_count_159 : decode cX11_count 159 = .ok (.invokevirtual 410, 3) := by decide +kernel
theorem dX11_count_162 : decode cX11_count 162 = .ok (.ireturn, 1) := by decide +kernel
theorem dX11_count_163 : decode cX11_count 163 = .ok (.iconst (-1), 1) := by decide +kernel
theorem dX11_count_164 : decode cX11_count 164 = .ok (.ireturn, 1) := by decide +kernel
theorem dX11_cover_0 : decode cX11_cover 0 = .ok (.aload_n 0, 1) := by decide +kernel
theorem dX11_cover_1 : decode cX11_cover 1 = .ok (.getfield 32, 3) := by decide +kernel
theorem dX11_cover_4 : decode cX11_cover 4 = .ok (.invokevirtual 227, 3) := by decide +kernel
theorem dX11_cover_7 : decode cX11_cover 7 = .ok (.ifCond .ne 17, 3) := by decide +kernel
theorem dX11_cover_24 : decode cX11_cover 24 = .ok (.bipush (-2), 2) := by decide +kernel
theorem dX11_cover_26 : decode cX11_cover 26 = .ok (.ireturn, 1) := by decide +kernel
theorem dX11_covers_0 : decode cX11_covers 0 = .ok (.aload_n 0, 1) := by decide +kernel
theorem dX11_covers_1 : decode cX11_covers 1 = .ok (.getfield 32, 3) := by decide +kernel
theorem dX11_covers_4 : decode cX11_covers 4 = .ok (.invokevirtual 227, 3) := by decide +kernel
theorem dX11_covers_7 : decode cX11_covers 7 = .ok (.ifCond .ne 17, 3) := by decide +kernel
theorem dX11_covers_24 : decode cX11_covers 24 = .ok (.bipush (-2), 2) := by decide +kernel
theorem dX11_covers_26 : decode cX11_covers 26 = .ok (.goto 11, 3) := by decide +kernel
theorem dX11_covers_37 : decode cX11_covers 37 = .ok (.ireturn, 1) := by decide +kernel
theorem dX11_dies_0 : decode cX11_dies 0 = .ok (.aload_n 0, 1) := by decide +kernel
theorem dX11_dies_1 : decode cX11_dies 1 = .ok (.getfield 32, 3) := by decide +kernel
theorem dX11_dies_4 : decode cX11_dies 4 = .ok (.invokevirtual 227, 3) := by decide +kernel
theorem dX11_dies_7 : decode cX11_dies 7 = .ok (.ifCond .eq 6, 3) := by decide +kernel
theorem dX11_dies_10 : decode cX11_dies 10 = .ok (.bipush (-2), 2) := by decide +kernel
theorem dX11_dies_12 : decode cX11_dies 12 = .ok (.ireturn, 1) := by decide +kernel
theorem dX11_district_0 : decode cX11_district 0 = .ok (.aload_n 0, 1) := by decide +kernel
theorem dX11_district_1 : decode cX11_district 1 = .ok (.getfield 32, 3) := by decide +kernel
theorem dX11_district_4 : decode cX11_district 4 = .ok (.iload_n 1, 1) := by decide +kernel
theorem dX11_district_5 : decode cX11_district 5 = .ok (.invokevirtual 161, 3) := by decide +kernel
theorem dX11_district_8 : decode cX11_district 8 = .ok (.ifCond .ne 6, 3) := by decide +kernel
theorem dX11_district_11 : decode cX11_district 11 = .ok (.bipush (-2), 2) := by decide +kernel
theorem dX11_district_13 : decode cX11_district 13 = .ok (.ireturn, 1) := by decide +kernel
theorem dX11_drawn_0 : decode cX11_drawn 0 = .ok (.iload_n 1, 1) := by decide +kernel
theorem dX11_drawn_1 : decode cX11_drawn 1 = .ok (.invokestatic 395, 3) := by decide +kernel
theorem dX11_drawn_4 : decode cX11_drawn 4 = .ok (.ifCond .eq 14, 3) := by decide +kernel
theorem dX11_drawn_7 : decode cX11_drawn 7 = .ok (.aload_n 0, 1) := by decide +kernel
theorem dX11_drawn_8 : decode cX11_drawn 8 = .ok (.getfield 32, 3) := by decide +kernel
theorem dX11_drawn_11 : decode cX11_drawn 11 = .ok (.iload_n 2, 1) := by decide +kernel
theorem dX11_drawn_12 : decode cX11_drawn 12 = .ok (.invokevirtual 161, 3) := by decide +kernel
theorem dX11_drawn_15 : decode cX11_drawn 15 = .ok (.ifCond .ne 6, 3) := by decide +kernel
theorem dX11_drawn_18 : decode cX11_drawn 18 = .ok (.bipush (-2), 2) := by decide +kernel
theorem dX11_drawn_20 : decode cX11_drawn 20 = .ok (.ireturn, 1) := by decide +kernel
theorem dX11_dumb_0 : decode cX11_dumb 0 = .ok (.aload_n 0, 1) := by decide +kernel
theorem dX11_dumb_1 : decode cX11_dumb 1 = .ok (.getfield 32, 3) := by decide +kernel
theorem dX11_dumb_4 : decode cX11_dumb 4 = .ok (.invokevirtual 227, 3) := by decide +kernel
theorem dX11_dumb_7 : decode cX11_dumb 7 = .ok (.ifCond .eq 6, 3) := by decide +kernel
theorem dX11_dumb_10 : decode cX11_dumb 10 = .ok (.bipush (-2), 2) := by decide +kernel
theorem dX11_dumb_12 : decode cX11_dumb 12 = .ok (.ireturn, 1) := by decide +kernel
theorem dX11_elected_0 : decode cX11_elected 0 = .ok (.aload_n 0, 1) := by decide +kernel
theorem dX11_elected_1 : decode cX11_elected 1 = .ok (.getfield 32, 3) := by decide +kernel
theorem dX11_elected_4 : decode cX11_elected 4 = .ok (.invokevirtual 227, 3) := by decide +kernel
theorem dX11_elected_7 : decode cX11_elected 7 = .ok (.ifCond .eq 8, 3) := by decide +kernel
theorem dX11_elected_10 : decode cX11_elected 10 = .ok (.bipush (-2), 2) := by decide +kernel
theorem dX11_elected_12 : decode cX11_elected 12 = .ok (.goto 10, 3) := by decide +kernel
theorem dX11_elected_22 : decode cX11_elected 22 = .ok (.ireturn, 1) := by decide +kernel
theorem dX11_end_0 : decode cX11_end 0 = .ok (.iload_n 1, 1) := by decide +kernel
theorem dX11_end_1 : decode cX11_end 1 = .ok (.ifCond .lt 14, 3) := by decide +kernel
theorem dX11_end_4 : decode cX11_end 4 = .ok (.iload_n 1, 1) := by decide +kernel
theorem dX11_end_5 : decode cX11_end 5 = .ok (.aload_n 0, 1) := by decide +kernel
theorem dX11_end_6 : decode cX11_end 6 = .ok (.getfield 10, 3) := by decide +kernel
theorem dX11_end_9 : decode cX11_end 9 = .ok (.getfield 95, 3) := by decide +kernel
theorem dX11_end_12 : decode cX11_end 12 = .ok (.if_icmp .le 5, 3) := by decide +kernel
theorem dX11_end_15 : decode cX11_end 15 = .ok (.iconst (-1), 1) := by decide +kernel
theorem dX11_end_16 : decode cX11_end 16 = .ok (.ireturn, 1) := by decide +kernel
theorem dX11_end_17 : decode cX11_end 17 = .ok (.aload_n 0, 1) := by decide +kernel
theorem dX11_end_18 : decode cX11_end 18 = .ok (.getfield 10, 3) := by decide +kernel
theorem dX11_end_21 : decode cX11_end 21 = .ok (.iload_n 1, 1) := by decide +kernel
theorem dX11_end_22 : decode cX11_end 22 = .ok (.putfield 95, 3) := by decide +kernel
theorem dX11_end_25 : decode cX11_end 25 = .ok (.iload_n 1, 1) := by decide +kernel
theorem dX11_end_26 : decode cX11_end 26 = .ok (.ireturn, 1) := by decide +kernel
theorem dX11_fault_0 : decode cX11_fault 0 = .ok (.iload_n 1, 1) := by decide +kernel
theorem dX11_fault_1 : decode cX11_fault 1 = .ok (.lookupswitch 43 #[(0, 27), (1, 35)], 27) := by decide +kernel
theorem dX11_fault_28 : decode cX11_fault 28 = .ok (.aload_n 0, 1) := by decide +kernel
theorem dX11_fault_29 : decode cX11_fault 29 = .ok (.getfield 28, 3) := by decide +kernel
theorem dX11_fault_32 : decode cX11_fault 32 = .ok (.getfield 102, 3) := by decide +kernel
theorem dX11_fault_35 : decode cX11_fault 35 = .ok (.ireturn, 1) := by decide +kernel
theorem dX11_fault_36 : decode cX11_fault 36 = .ok (.aload_n 0, 1) := by decide +kernel
theorem dX11_fault_37 : decode cX11_fault 37 = .ok (.getfield 28, 3) := by decide +kernel
theorem dX11_fault_40 : decode cX11_fault 40 = .ok (.getfield 111, 3) := by decide +kernel
theorem dX11_fault_43 : decode cX11_fault 43 = .ok (.ireturn, 1) := by decide +kernel
theorem dX11_fault_44 : decode cX11_fault 44 = .ok (.iconst (-1), 1) := by decide +kernel
theorem dX11_fault_45 : decode cX11_fault 45 = .ok (.ireturn, 1) := by decide +kernel
theorem dX11_feed_0 : decode cX11_feed 0 = .ok (.aload_n 0, 1) := by decide +kernel
theorem dX11_feed_1 : decode cX11_feed 1 = .ok (.getfield 10, 3) := by decide +kernel
theorem dX11_feed_4 : decode cX11_feed 4 = .ok (.invokevirtual 87, 3) := by decide +kernel
theorem dX11_feed_7 : decode cX11_feed 7 = .ok (.ifCond .ne 5, 3) := by decide +kernel
theorem dX11_feed_12 : decode cX11_feed 12 = .ok (.aload_n 0, 1) := by decide +kernel
theorem dX11_feed_13 : decode cX11_feed 13 = .ok (.getfield 10, 3) := by decide +kernel
theorem dX11_feed_16 : decode cX11_feed 16 = .ok (.iload_n 1, 1) := by decide +kernel
theorem dX11_feed_17 : decode cX11_feed 17 = .ok (.invokevirtual 91, 3) := by decide +kernel
theorem dX11_feed_20 : decode cX11_feed 20 = .ok (.aload_n 0, 1) := by decide +kernel
theorem dX11_feed_21 : decode cX11_feed 21 = .ok (.getfield 10, 3) := by decide +kernel
theorem dX11_feed_24 : decode cX11_feed 24 = .ok (.iload_n 2, 1) := by decide +kernel
theorem dX11_feed_25 : decode cX11_feed 25 = .ok (.invokevirtual 91, 3) := by decide +kernel
theorem dX11_feed_28 : decode cX11_feed 28 = .ok (.aload_n 0, 1) := by decide +kernel
theorem dX11_feed_29 : decode cX11_feed 29 = .ok (.getfield 10, 3) := by decide +kernel
theorem dX11_feed_32 : decode cX11_feed 32 = .ok (.iload_n 3, 1) := by decide +kernel
theorem dX11_feed_33 : decode cX11_feed 33 = .ok (.invokevirtual 91, 3) := by decide +kernel
theorem dX11_feed_36 : decode cX11_feed 36 = .ok (.aload_n 0, 1) := by decide +kernel
theorem dX11_feed_37 : decode cX11_feed 37 = .ok (.getfield 10, 3) := by decide +kernel
theorem dX11_feed_40 : decode cX11_feed 40 = .ok (.iload 4, 2) := by decide +kernel
theorem dX11_feed_42 : decode cX11_feed 42 = .ok (.invokevirtual 91, 3) := by decide +kernel
theorem dX11_feed_45 : decode cX11_feed 45 = .ok (.aload_n 0, 1) := by decide +kernel
theorem dX11_feed_46 : decode cX11_feed 46 = .ok (.getfield 10, 3) := by decide +kernel
theorem dX11_feed_49 : decode cX11_feed 49 = .ok (.iload 5, 2) := by decide +kernel
theorem dX11_feed_51 : decode cX11_feed 51 = .ok (.invokevirtual 91, 3) := by decide +kernel
theorem dX11_feed_54 : decode cX11_feed 54 = .ok (.aload_n 0, 1) := by decide +kernel
theorem dX11_feed_55 : decode cX11_feed 55 = .ok (.getfield 10, 3) := by decide +kernel
theorem dX11_feed_58 : decode cX11_feed 58 = .ok (.getfield 95, 3) := by decide +kernel
theorem dX11_feed_61 : decode cX11_feed 61 = .ok (.ireturn, 1) := by decide +kernel
theorem dX11_feint_0 : decode cX11_feint 0 = .ok (.aload_n 0, 1) := by decide +kernel
theorem dX11_feint_1 : decode cX11_feint 1 = .ok (.getfield 32, 3) := by decide +kernel
theorem dX11_feint_4 : decode cX11_feint 4 = .ok (.iload_n 1, 1) := by decide +kernel
theorem dX11_feint_5 : decode cX11_feint 5 = .ok (.invokevirtual 147, 3) := by decide +kernel
theorem dX11_feint_8 : decode cX11_feint 8 = .ok (.ifCond .ne 6, 3) := by decide +kernel
theorem dX11_feint_11 : decode cX11_feint 11 = .ok (.bipush (-2), 2) := by decide +kernel
theorem dX11_feint_13 : decode cX11_feint 13 = .ok (.ireturn, 1) := by decide +kernel
theorem dX11_filledSlots_0 : decode cX11_filledSlots 0 = .ok (.iconst 0, 1) := by decide +kernel
theorem dX11_filledSlots_1 : decode cX11_filledSlots 1 = .ok (.istore_n 1, 1) := by decide +kernel
theorem dX11_filledSlots_2 : decode cX11_filledSlots 2 = .ok (.iconst 0, 1) := by decide +kernel
theorem dX11_filledSlots_3 : decode cX11_filledSlots 3 = .ok (.istore_n 2, 1) := by decide +kernel
theorem dX11_filledSlots_4 : decode cX11_filledSlots 4 = .ok (.iload_n 2, 1) := by decide +kernel
theorem dX11_filledSlots_5 : decode cX11_filledSlots 5 = .ok (.iconst 4, 1) := by decide +kernel
theorem dX11_filledSlots_6 : decode cX11_filledSlots 6 = .ok (.if_icmp .ge 24, 3) := by decide +kernel
theorem dX11_filledSlots_9 : decode cX11_filledSlots 9 = .ok (.aload_n 0, 1) := by decide +kernel
theorem dX11_filledSlots_10 : decode cX11_filledSlots 10 = .ok (.getfield 41, 3) := by decide +kernel
theorem dX11_filledSlots_13 : decode cX11_filledSlots 13 = .ok (.iload_n 2, 1) := by decide +kernel
theorem dX11_filledSlots_14 : decode cX11_filledSlots 14 = .ok (.aaload, 1) := by decide +kernel
theorem dX11_filledSlots_15 : decode cX11_filledSlots 15 = .ok (.invokevirtual 423, 3) := by decide +kernel
theorem dX11_filledSlots_18 : decode cX11_filledSlots 18 = .ok (.ifCond .ne 6, 3) := by decide +kernel
theorem dX11_filledSlots_24 : decode cX11_filledSlots 24 = .ok (.iinc 2 1, 3) := by decide +kernel
theorem dX11_filledSlots_27 : decode cX11_filledSlots 27 = .ok (.goto (-23), 3) := by decide +kernel
theorem dX11_filledSlots_30 : decode cX11_filledSlots 30 = .ok (.iload_n 1, 1) := by decide +kernel
theorem dX11_filledSlots_31 : decode cX11_filledSlots 31 = .ok (.ireturn, 1) := by decide +kernel
theorem dX11_fits_0 : decode cX11_fits 0 = .ok (.aload_n 0, 1) := by decide +kernel
theorem dX11_fits_1 : decode cX11_fits 1 = .ok (.iload_n 1, 1) := by decide +kernel
theorem dX11_fits_2 : decode cX11_fits 2 = .ok (.invokevirtual 369, 3) := by decide +kernel
theorem dX11_fits_5 : decode cX11_fits 5 = .ok (.istore_n 2, 1) := by decide +kernel
theorem dX11_fits_6 : decode cX11_fits 6 = .ok (.iload_n 2, 1) := by decide +kernel
theorem dX11_fits_7 : decode cX11_fits 7 = .ok (.ifCond .eq 5, 3) := by decide +kernel
theorem dX11_fits_10 : decode cX11_fits 10 = .ok (.iload_n 2, 1) := by decide +kernel
theorem dX11_fits_11 : decode cX11_fits 11 = .ok (.ireturn, 1) := by decide +kernel
theorem dX11_gains_0 : decode cX11_gains 0 = .ok (.aload_n 0, 1) := by decide +kernel
theorem dX11_gains_1 : decode cX11_gains 1 = .ok (.getfield 32, 3) := by decide +kernel
theorem dX11_gains_4 : decode cX11_gains 4 = .ok (.iload_n 1, 1) := by decide +kernel
theorem dX11_gains_5 : decode cX11_gains 5 = .ok (.invokevirtual 147, 3) := by decide +kernel
theorem dX11_gains_8 : decode cX11_gains 8 = .ok (.ifCond .ne 6, 3) := by decide +kernel
theorem dX11_gains_11 : decode cX11_gains 11 = .ok (.bipush (-2), 2) := by decide +kernel
theorem dX11_gains_13 : decode cX11_gains 13 = .ok (.ireturn, 1) := by decide +kernel
theorem dX11_holds_0 : decode cX11_holds 0 = .ok (.iload_n 0, 1) := by decide +kernel
theorem dX11_holds_1 : decode cX11_holds 1 = .ok (.iload_n 1, 1) := by decide +kernel
theorem dX11_holds_2 : decode cX11_holds 2 = .ok (.ishr, 1) := by decide +kernel
theorem dX11_holds_3 : decode cX11_holds 3 = .ok (.iconst 1, 1) := by decide +kernel
theorem dX11_holds_4 : decode cX11_holds 4 = .ok (.iand, 1) := by decide +kernel
theorem dX11_holds_5 : decode cX11_holds 5 = .ok (.iconst 1, 1) := by decide +kernel
theorem dX11_holds_6 : decode cX11_holds 6 = .ok (.if_icmp .ne 7, 3) := by decide +kernel
theorem dX11_holds_13 : decode cX11_holds 13 = .ok (.iconst 0, 1) := by decide +kernel
theorem dX11_holds_14 : decode cX11_holds 14 = .ok (.ireturn, 1) := by decide +kernel
theorem dX11_house_0 : decode cX11_house 0 = .ok (.aload_n 0, 1) := by decide +kernel
theorem dX11_house_1 : decode cX11_house 1 = .ok (.getfield 32, 3) := by decide +kernel
theorem dX11_house_4 : decode cX11_house 4 = .ok (.invokevirtual 227, 3) := by decide +kernel
theorem dX11_house_7 : decode cX11_house 7 = .ok (.ifCond .eq 8, 3) := by decide +kernel
theorem dX11_house_10 : decode cX11_house 10 = .ok (.bipush (-2), 2) := by decide +kernel
theorem dX11_house_12 : decode cX11_house 12 = .ok (.goto 17, 3) := by decide +kernel
theorem dX11_house_29 : decode cX11_house 29 = .ok (.ireturn, 1) := by decide +kernel
theorem dX11_housed_0 : decode cX11_housed 0 = .ok (.aload_n 0, 1) := by decide +kernel
theorem dX11_housed_1 : decode cX11_housed 1 = .ok (.getfield 32, 3) := by decide +kernel
theorem dX11_housed_4 : decode cX11_housed 4 = .ok (.invokevirtual 227, 3) := by decide +kernel
theorem dX11_housed_7 : decode cX11_housed 7 = .ok (.ifCond .eq 8, 3) := by decide +kernel
theorem dX11_housed_10 : decode cX11_housed 10 = .ok (.bipush (-2), 2) := by decide +kernel
theorem dX11_housed_12 : decode cX11_housed 12 = .ok (.goto 10, 3) := by decide +kernel
theorem dX11_housed_22 : decode cX11_housed 22 = .ok (.ireturn, 1) := by decide +kernel
theorem dX11_image_0 : decode cX11_image 0 = .ok (.iload_n 1, 1) := by decide +kernel
theorem dX11_image_1 : decode cX11_image 1 = .ok (.ifCond .lt 8, 3) := by decide +kernel
theorem dX11_image_4 : decode cX11_image 4 = .ok (.iload_n 1, 1) := by decide +kernel
theorem dX11_image_5 : decode cX11_image 5 = .ok (.iconst 3, 1) := by decide +kernel
theorem dX11_image_6 : decode cX11_image 6 = .ok (.if_icmp .lt 6, 3) := by decide +kernel
theorem dX11_image_9 : decode cX11_image 9 = .ok (.bipush (-2), 2) := by decide +kernel
theorem dX11_image_11 : decode cX11_image 11 = .ok (.ireturn, 1) := by decide +kernel
theorem dX11_image_12 : decode cX11_image 12 = .ok (.aload_n 0, 1) := by decide +kernel
theorem dX11_image_13 : decode cX11_image 13 = .ok (.getfield 35, 3) := by decide +kernel
theorem dX11_image_16 : decode cX11_image 16 = .ok (.iload_n 1, 1) := by decide +kernel
theorem dX11_image_17 : decode cX11_image 17 = .ok (.aaload, 1) := by decide +kernel
theorem dX11_image_18 : decode cX11_image 18 = .ok (.aload_n 0, 1) := by decide +kernel
theorem dX11_image_19 : decode cX11_image 19 = .ok (.getfield 32, 3) := by decide +kernel
theorem dX11_image_22 : decode cX11_image 22 = .ok (.invokevirtual 105, 3) := by decide +kernel
theorem dX11_image_25 : decode cX11_image 25 = .ok (.aload_n 0, 1) := by decide +kernel
theorem dX11_image_26 : decode cX11_image 26 = .ok (.dup, 1) := by decide +kernel
theorem dX11_image_27 : decode cX11_image 27 = .ok (.getfield 413, 3) := by decide +kernel
theorem dX11_image_30 : decode cX11_image 30 = .ok (.iconst 1, 1) := by decide +kernel
theorem dX11_image_31 : decode cX11_image 31 = .ok (.iload_n 1, 1) := by decide +kernel
theorem dX11_image_32 : decode cX11_image 32 = .ok (.ishl, 1) := by decide +kernel
theorem dX11_image_33 : decode cX11_image 33 = .ok (.ior, 1) := by decide +kernel
theorem dX11_image_34 : decode cX11_image 34 = .ok (.putfield 413, 3) := by decide +kernel
theorem dX11_image_37 : decode cX11_image 37 = .ok (.iconst 0, 1) := by decide +kernel
theorem dX11_image_38 : decode cX11_image 38 = .ok (.ireturn, 1) := by decide +kernel
theorem dX11_init_0 : decode cX11_init 0 = .ok (.aload_n 0, 1) := by decide +kernel
theorem dX11_init_1 : decode cX11_init 1 = .ok (.invokespecial 1, 3) := by decide +kernel
theorem dX11_init_4 : decode cX11_init 4 = .ok (.aload_n 0, 1) := by decide +kernel
theorem dX11_init_5 : decode cX11_init 5 = .ok (.new 7, 3) := by decide +kernel
theorem dX11_init_8 : decode cX11_init 8 = .ok (.dup, 1) := by decide +kernel
theorem dX11_init_9 : decode cX11_init 9 = .ok (.invokespecial 9, 3) := by decide +kernel
theorem dX11_init_12 : decode cX11_init 12 = .ok (.putfield 10, 3) := by decide +kernel
theorem dX11_init_15 : decode cX11_init 15 = .ok (.aload_n 0, 1) := by decide +kernel
theorem dX11_init_16 : decode cX11_init 16 = .ok (.new 16, 3) := by decide +kernel
theorem dX11_init_19 : decode cX11_init 19 = .ok (.dup, 1) := by decide +kernel
theorem dX11_init_20 : decode cX11_init 20 = .ok (.invokespecial 18, 3) := by decide +kernel
theorem dX11_init_23 : decode cX11_init 23 = .ok (.putfield 19, 3) := by decide +kernel
theorem dX11_init_26 : decode cX11_init 26 = .ok (.aload_n 0, 1) := by decide +kernel
theorem dX11_init_27 : decode cX11_init 27 = .ok (.new 23, 3) := by decide +kernel
theorem dX11_init_30 : decode cX11_init 30 = .ok (.dup, 1) := by decide +kernel
theorem dX11_init_31 : decode cX11_init 31 = .ok (.aload_n 0, 1) := by decide +kernel
theorem dX11_init_32 : decode cX11_init 32 = .ok (.getfield 10, 3) := by decide +kernel
theorem dX11_init_35 : decode cX11_init 35 = .ok (.aload_n 0, 1) := by decide +kernel
theorem dX11_init_36 : decode cX11_init 36 = .ok (.getfield 19, 3) := by decide +kernel
theorem dX11_init_39 : decode cX11_init 39 = .ok (.invokespecial 25, 3) := by decide +kernel
theorem dX11_init_42 : decode cX11_init 42 = .ok (.putfield 28, 3) := by decide +kernel
theorem dX11_init_45 : decode cX11_init 45 = .ok (.aload_n 0, 1) := by decide +kernel
theorem dX11_init_46 : decode cX11_init 46 = .ok (.new 16, 3) := by decide +kernel
theorem dX11_init_49 : decode cX11_init 49 = .ok (.dup, 1) := by decide +kernel
theorem dX11_init_50 : decode cX11_init 50 = .ok (.invokespecial 18, 3) := by decide +kernel
theorem dX11_init_53 : decode cX11_init 53 = .ok (.putfield 32, 3) := by decide +kernel
theorem dX11_init_56 : decode cX11_init 56 = .ok (.aload_n 0, 1) := by decide +kernel
theorem dX11_init_57 : decode cX11_init 57 = .ok (.iconst 3, 1) := by decide +kernel
theorem dX11_init_58 : decode cX11_init 58 = .ok (.anewarray 16, 3) := by decide +kernel
theorem dX11_init_61 : decode cX11_init 61 = .ok (.putfield 35, 3) := by decide +kernel
theorem dX11_init_64 : decode cX11_init 64 = .ok (.aload_n 0, 1) := by decide +kernel
theorem dX11_init_65 : decode cX11_init 65 = .ok (.iconst 4, 1) := by decide +kernel
theorem dX11_init_66 : decode cX11_init 66 = .ok (.anewarray 39, 3) := by decide +kernel
theorem dX11_init_69 : decode cX11_init 69 = .ok (.putfield 41, 3) := by decide +kernel
theorem dX11_init_72 : decode cX11_init 72 = .ok (.aload_n 0, 1) := by decide +kernel
theorem dX11_init_73 : decode cX11_init 73 = .ok (.new 45, 3) := by decide +kernel
theorem dX11_init_76 : decode cX11_init 76 = .ok (.dup, 1) := by decide +kernel
theorem dX11_init_77 : decode cX11_init 77 = .ok (.aload_n 0, 1) := by decide +kernel
theorem dX11_init_78 : decode cX11_init 78 = .ok (.getfield 32, 3) := by decide +kernel
theorem dX11_init_81 : decode cX11_init 81 = .ok (.invokespecial 47, 3) := by decide +kernel
theorem dX11_init_84 : decode cX11_init 84 = .ok (.putfield 50, 3) := by decide +kernel
theorem dX11_init_87 : decode cX11_init 87 = .ok (.aload_n 0, 1) := by decide +kernel
theorem dX11_init_88 : decode cX11_init 88 = .ok (.new 54, 3) := by decide +kernel
theorem dX11_init_91 : decode cX11_init 91 = .ok (.dup, 1) := by decide +kernel
theorem dX11_init_92 : decode cX11_init 92 = .ok (.aload_n 0, 1) := by decide +kernel
theorem dX11_init_93 : decode cX11_init 93 = .ok (.getfield 32, 3) := by decide +kernel
theorem dX11_init_96 : decode cX11_init 96 = .ok (.invokespecial 56, 3) := by decide +kernel
theorem dX11_init_99 : decode cX11_init 99 = .ok (.putfield 57, 3) := by decide +kernel
theorem dX11_init_102 : decode cX11_init 102 = .ok (.aload_n 0, 1) := by decide +kernel
theorem dX11_init_103 : decode cX11_init 103 = .ok (.new 61, 3) := by decide +kernel
theorem dX11_init_106 : decode cX11_init 106 = .ok (.dup, 1) := by decide +kernel
theorem dX11_init_107 : decode cX11_init 107 = .ok (.aload_n 0, 1) := by decide +kernel
theorem dX11_init_108 : decode cX11_init 108 = .ok (.getfield 32, 3) := by decide +kernel
theorem dX11_init_111 : decode cX11_init 111 = .ok (.invokespecial 63, 3) := by decide +kernel
theorem dX11_init_114 : decode cX11_init 114 = .ok (.putfield 64, 3) := by decide +kernel
theorem dX11_init_117 : decode cX11_init 117 = .ok (.aload_n 0, 1) := by decide +kernel
theorem dX11_init_118 : decode cX11_init 118 = .ok (.new 68, 3) := by decide +kernel
theorem dX11_init_121 : decode cX11_init 121 = .ok (.dup, 1) := by decide +kernel
theorem dX11_init_122 : decode cX11_init 122 = .ok (.aload_n 0, 1) := by decide +kernel
theorem dX11_init_123 : decode cX11_init 123 = .ok (.getfield 32, 3) := by decide +kernel
theorem dX11_init_126 : decode cX11_init 126 = .ok (.aload_n 0, 1) := by decide +kernel
theorem dX11_init_127 : decode cX11_init 127 = .ok (.getfield 50, 3) := by decide +kernel
theorem dX11_init_130 : decode cX11_init 130 = .ok (.invokespecial 70, 3) := by decide +kernel
theorem dX11_init_133 : decode cX11_init 133 = .ok (.putfield 73, 3) := by decide +kernel
theorem dX11_init_136 : decode cX11_init 136 = .ok (.aload_n 0, 1) := by decide +kernel
theorem dX11_init_137 : decode cX11_init 137 = .ok (.new 77, 3) := by decide +kernel
theorem dX11_init_140 : decode cX11_init 140 = .ok (.dup, 1) := by decide +kernel
theorem dX11_init_141 : decode cX11_init 141 = .ok (.aload_n 0, 1) := by decide +kernel
theorem dX11_init_142 : decode cX11_init 142 = .ok (.getfield 32, 3) := by decide +kernel
theorem dX11_init_145 : decode cX11_init 145 = .ok (.aload_n 0, 1) := by decide +kernel
theorem dX11_init_146 : decode cX11_init 146 = .ok (.getfield 57, 3) := by decide +kernel
theorem dX11_init_149 : decode cX11_init 149 = .ok (.invokespecial 79, 3) := by decide +kernel
theorem dX11_init_152 : decode cX11_init 152 = .ok (.putfield 82, 3) := by decide +kernel
theorem dX11_init_155 : decode cX11_init 155 = .ok (.iconst 0, 1) := by decide +kernel
theorem dX11_init_156 : decode cX11_init 156 = .ok (.istore_n 1, 1) := by decide +kernel
theorem dX11_init_157 : decode cX11_init 157 = .ok (.iload_n 1, 1) := by decide +kernel
theorem dX11_init_158 : decode cX11_init 158 = .ok (.iconst 3, 1) := by decide +kernel
theorem dX11_init_159 : decode cX11_init 159 = .ok (.if_icmp .ge 22, 3) := by decide +kernel
theorem dX11_init_162 : decode cX11_init 162 = .ok (.aload_n 0, 1) := by decide +kernel
theorem dX11_init_163 : decode cX11_init 163 = .ok (.getfield 35, 3) := by decide +kernel
theorem dX11_init_166 : decode cX11_init 166 = .ok (.iload_n 1, 1) := by decide +kernel
theorem dX11_init_167 : decode cX11_init 167 = .ok (.new 16, 3) := by decide +kernel
theorem dX11_init_170 : decode cX11_init 170 = .ok (.dup, 1) := by decide +kernel
theorem dX11_init_171 : decode cX11_init 171 = .ok (.invokespecial 18, 3) := by decide +kernel
theorem dX11_init_174 : decode cX11_init 174 = .ok (.aastore, 1) := by decide +kernel
theorem dX11_init_175 : decode cX11_init 175 = .ok (.iinc 1 1, 3) := by decide +kernel
theorem dX11_init_178 : decode cX11_init 178 = .ok (.goto (-21), 3) := by decide +kernel
theorem dX11_init_181 : decode cX11_init 181 = .ok (.iconst 0, 1) := by decide +kernel
theorem dX11_init_182 : decode cX11_init 182 = .ok (.istore_n 1, 1) := by decide +kernel
theorem dX11_init_183 : decode cX11_init 183 = .ok (.iload_n 1, 1) := by decide +kernel
theorem dX11_init_184 : decode cX11_init 184 = .ok (.iconst 4, 1) := by decide +kernel
theorem dX11_init_185 : decode cX11_init 185 = .ok (.if_icmp .ge 22, 3) := by decide +kernel
theorem dX11_init_188 : decode cX11_init 188 = .ok (.aload_n 0, 1) := by decide +kernel
theorem dX11_init_189 : decode cX11_init 189 = .ok (.getfield 41, 3) := by decide +kernel
theorem dX11_init_192 : decode cX11_init 192 = .ok (.iload_n 1, 1) := by decide +kernel
theorem dX11_init_193 : decode cX11_init 193 = .ok (.new 39, 3) := by decide +kernel
theorem dX11_init_196 : decode cX11_init 196 = .ok (.dup, 1) := by decide +kernel
theorem dX11_init_197 : decode cX11_init 197 = .ok (.invokespecial 86, 3) := by decide +kernel
theorem dX11_init_200 : decode cX11_init 200 = .ok (.aastore, 1) := by decide +kernel
theorem dX11_init_201 : decode cX11_init 201 = .ok (.iinc 1 1, 3) := by decide +kernel
theorem dX11_init_204 : decode cX11_init 204 = .ok (.goto (-21), 3) := by decide +kernel
theorem dX11_init_207 : decode cX11_init 207 = .ok (.return_, 1) := by decide +kernel
theorem dX11_isLaw_0 : decode cX11_isLaw 0 = .ok (.iload_n 0, 1) := by decide +kernel
theorem dX11_isLaw_1 : decode cX11_isLaw 1 = .ok (.ifCond .lt 12, 3) := by decide +kernel
theorem dX11_isLaw_4 : decode cX11_isLaw 4 = .ok (.iload_n 0, 1) := by decide +kernel
theorem dX11_isLaw_5 : decode cX11_isLaw 5 = .ok (.iconst 4, 1) := by decide +kernel
theorem dX11_isLaw_6 : decode cX11_isLaw 6 = .ok (.if_icmp .ge 7, 3) := by decide +kernel
theorem dX11_isLaw_9 : decode cX11_isLaw 9 = .ok (.iconst 1, 1) := by decide +kernel
theorem dX11_isLaw_10 : decode cX11_isLaw 10 = .ok (.goto 4, 3) := by decide +kernel
theorem dX11_isLaw_13 : decode cX11_isLaw 13 = .ok (.iconst 0, 1) := by decide +kernel
theorem dX11_isLaw_14 : decode cX11_isLaw 14 = .ok (.ireturn, 1) := by decide +kernel
theorem dX11_isParty_0 : decode cX11_isParty 0 = .ok (.iload_n 0, 1) := by decide +kernel
theorem dX11_isParty_1 : decode cX11_isParty 1 = .ok (.ifCond .lt 12, 3) := by decide +kernel
theorem dX11_isParty_4 : decode cX11_isParty 4 = .ok (.iload_n 0, 1) := by decide +kernel
theorem dX11_isParty_5 : decode cX11_isParty 5 = .ok (.iconst 4, 1) := by decide +kernel
theorem dX11_isParty_6 : decode cX11_isParty 6 = .ok (.if_icmp .ge 7, 3) := by decide +kernel
theorem dX11_isParty_9 : decode cX11_isParty 9 = .ok (.iconst 1, 1) := by decide +kernel
theorem dX11_isParty_10 : decode cX11_isParty 10 = .ok (.goto 4, 3) := by decide +kernel
theorem dX11_isParty_13 : decode cX11_isParty 13 = .ok (.iconst 0, 1) := by decide +kernel
theorem dX11_isParty_14 : decode cX11_isParty 14 = .ok (.ireturn, 1) := by decide +kernel
theorem dX11_isSeed_0 : decode cX11_isSeed 0 = .ok (.iload_n 0, 1) := by decide +kernel
theorem dX11_isSeed_1 : decode cX11_isSeed 1 = .ok (.ifCond .lt 14, 3) := by decide +kernel
theorem dX11_isSeed_4 : decode cX11_isSeed 4 = .ok (.iload_n 0, 1) := by decide +kernel
theorem dX11_isSeed_5 : decode cX11_isSeed 5 = .ok (.ldc_w 451, 3) := by decide +kernel
theorem dX11_isSeed_8 : decode cX11_isSeed 8 = .ok (.if_icmp .gt 7, 3) := by decide +kernel
theorem dX11_isSeed_11 : decode cX11_isSeed 11 = .ok (.iconst 1, 1) := by decide +kernel
theorem dX11_isSeed_12 : decode cX11_isSeed 12 = .ok (.goto 4, 3) := by decide +kernel
theorem dX11_isSeed_15 : decode cX11_isSeed 15 = .ok (.iconst 0, 1) := by decide +kernel
theorem dX11_isSeed_16 : decode cX11_isSeed 16 = .ok (.ireturn, 1) := by decide +kernel
theorem dX11_isSlot_0 : decode cX11_isSlot 0 = .ok (.iload_n 0, 1) := by decide +kernel
theorem dX11_isSlot_1 : decode cX11_isSlot 1 = .ok (.ifCond .lt 12, 3) := by decide +kernel
theorem dX11_isSlot_4 : decode cX11_isSlot 4 = .ok (.iload_n 0, 1) := by decide +kernel
theorem dX11_isSlot_5 : decode cX11_isSlot 5 = .ok (.iconst 4, 1) := by decide +kernel
theorem dX11_isSlot_6 : decode cX11_isSlot 6 = .ok (.if_icmp .ge 7, 3) := by decide +kernel
theorem dX11_isSlot_9 : decode cX11_isSlot 9 = .ok (.iconst 1, 1) := by decide +kernel
theorem dX11_isSlot_10 : decode cX11_isSlot 10 = .ok (.goto 4, 3) := by decide +kernel
theorem dX11_isSlot_13 : decode cX11_isSlot 13 = .ok (.iconst 0, 1) := by decide +kernel
theorem dX11_isSlot_14 : decode cX11_isSlot 14 = .ok (.ireturn, 1) := by decide +kernel
theorem dX11_least_0 : decode cX11_least 0 = .ok (.aload_n 0, 1) := by decide +kernel
theorem dX11_least_1 : decode cX11_least 1 = .ok (.getfield 32, 3) := by decide +kernel
theorem dX11_least_4 : decode cX11_least 4 = .ok (.iload_n 1, 1) := by decide +kernel
theorem dX11_least_5 : decode cX11_least 5 = .ok (.invokevirtual 272, 3) := by decide +kernel
theorem dX11_least_8 : decode cX11_least 8 = .ok (.ifCond .ne 6, 3) := by decide +kernel
theorem dX11_least_11 : decode cX11_least 11 = .ok (.bipush (-2), 2) := by decide +kernel
theorem dX11_least_13 : decode cX11_least 13 = .ok (.ireturn, 1) := by decide +kernel
theorem dX11_led_0 : decode cX11_led 0 = .ok (.aload_n 0, 1) := by decide +kernel
theorem dX11_led_1 : decode cX11_led 1 = .ok (.getfield 32, 3) := by decide +kernel
theorem dX11_led_4 : decode cX11_led 4 = .ok (.invokevirtual 227, 3) := by decide +kernel
theorem dX11_led_7 : decode cX11_led 7 = .ok (.ifCond .eq 6, 3) := by decide +kernel
theorem dX11_led_10 : decode cX11_led 10 = .ok (.bipush (-2), 2) := by decide +kernel
theorem dX11_led_12 : decode cX11_led 12 = .ok (.ireturn, 1) := by decide +kernel
theorem dX11_likes_0 : decode cX11_likes 0 = .ok (.aload_n 0, 1) := by decide +kernel
theorem dX11_likes_1 : decode cX11_likes 1 = .ok (.getfield 32, 3) := by decide +kernel
theorem dX11_likes_4 : decode cX11_likes 4 = .ok (.iload_n 1, 1) := by decide +kernel
theorem dX11_likes_5 : decode cX11_likes 5 = .ok (.invokevirtual 147, 3) := by decide +kernel
theorem dX11_likes_8 : decode cX11_likes 8 = .ok (.ifCond .eq 14, 3) := by decide +kernel
theorem dX11_likes_22 : decode cX11_likes 22 = .ok (.bipush (-2), 2) := by decide +kernel
theorem dX11_likes_24 : decode cX11_likes 24 = .ok (.ireturn, 1) := by decide +kernel
theorem dX11_lists_0 : decode cX11_lists 0 = .ok (.aload_n 0, 1) := by decide +kernel
theorem dX11_lists_1 : decode cX11_lists 1 = .ok (.getfield 32, 3) := by decide +kernel
theorem dX11_lists_4 : decode cX11_lists 4 = .ok (.invokevirtual 227, 3) := by decide +kernel
theorem dX11_lists_7 : decode cX11_lists 7 = .ok (.ifCond .ne 20, 3) := by decide +kernel
theorem dX11_lists_27 : decode cX11_lists 27 = .ok (.bipush (-2), 2) := by decide +kernel
theorem dX11_lists_29 : decode cX11_lists 29 = .ok (.ireturn, 1) := by decide +kernel
theorem dX11_majority_0 : decode cX11_majority 0 = .ok (.aload_n 0, 1) := by decide +kernel
theorem dX11_majority_1 : decode cX11_majority 1 = .ok (.getfield 32, 3) := by decide +kernel
theorem dX11_majority_4 : decode cX11_majority 4 = .ok (.invokevirtual 227, 3) := by decide +kernel
