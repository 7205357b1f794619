theorem dX12_chamber_37 : decode cX12_chamber 37 = .ok (.aload_n 0, 1) := by decide +kernel
theorem dX12_chamber_38 : decode cX12_chamber 38 = .ok (.getfield 31, 3) := by decide +kernel
theorem dX12_chamber_41 : decode cX12_chamber 41 = .ok (.iload_n 1, 1) := by decide +kernel
theorem dX12_chamber_42 : decode cX12_chamber 42 = .ok (.iconst 0, 1) := by decide +kernel
theorem dX12_chamber_43 : decode cX12_chamber 43 = .ok (.iastore, 1) := by decide +kernel
theorem dX12_chamber_44 : decode cX12_chamber 44 = .ok (.iinc 1 1, 3) := by decide +kernel
theorem dX12_chamber_47 : decode cX12_chamber 47 = .ok (.goto (-17), 3) := by decide +kernel
theorem dX12_chamber_50 : decode cX12_chamber 50 = .ok (.aload_n 0, 1) := by decide +kernel
theorem dX12_chamber_51 : decode cX12_chamber 51 = .ok (.invokevirtual 152, 3) := by decide +kernel
theorem dX12_chamber_54 : decode cX12_chamber 54 = .ok (.aload_n 0, 1) := by decide +kernel
theorem dX12_chamber_55 : decode cX12_chamber 55 = .ok (.invokevirtual 135, 3) := by decide +kernel
theorem dX12_chamber_58 : decode cX12_chamber 58 = .ok (.ifCond .eq 17, 3) := by decide +kernel
theorem dX12_chamber_61 : decode cX12_chamber 61 = .ok (.aload_n 0, 1) := by decide +kernel
theorem dX12_chamber_62 : decode cX12_chamber 62 = .ok (.getfield 112, 3) := by decide +kernel
theorem dX12_chamber_65 : decode cX12_chamber 65 = .ok (.ifCond .eq 10, 3) := by decide +kernel
theorem dX12_chamber_75 : decode cX12_chamber 75 = .ok (.aload_n 0, 1) := by decide +kernel
theorem dX12_chamber_76 : decode cX12_chamber 76 = .ok (.invokevirtual 135, 3) := by decide +kernel
theorem dX12_chamber_79 : decode cX12_chamber 79 = .ok (.ifCond .ne 6, 3) := by decide +kernel
theorem dX12_chamber_85 : decode cX12_chamber 85 = .ok (.iconst 0, 1) := by decide +kernel
theorem dX12_chamber_86 : decode cX12_chamber 86 = .ok (.istore_n 1, 1) := by decide +kernel
theorem dX12_chamber_87 : decode cX12_chamber 87 = .ok (.iload_n 1, 1) := by decide +kernel
theorem dX12_chamber_88 : decode cX12_chamber 88 = .ok (.sipush 841, 3) := by decide +kernel
theorem dX12_chamber_91 : decode cX12_chamber 91 = .ok (.if_icmp .ge 21, 3) := by decide +kernel
theorem dX12_chamber_94 : decode cX12_chamber 94 = .ok (.aload_n 0, 1) := by decide +kernel
theorem dX12_chamber_95 : decode cX12_chamber 95 = .ok (.getfield 9, 3) := by decide +kernel
theorem dX12_chamber_98 : decode cX12_chamber 98 = .ok (.iload_n 1, 1) := by decide +kernel
theorem dX12_chamber_99 : decode cX12_chamber 99 = .ok (.aload_n 0, 1) := by decide +kernel
theorem dX12_chamber_100 : decode cX12_chamber 100 = .ok (.getfield 31, 3) := by decide +kernel
theorem dX12_chamber_103 : decode cX12_chamber 103 = .ok (.iload_n 1, 1) := by decide +kernel
theorem dX12_chamber_104 : decode cX12_chamber 104 = .ok (.iaload, 1) := by decide +kernel
theorem dX12_chamber_105 : decode cX12_chamber 105 = .ok (.iastore, 1) := by decide +kernel
theorem dX12_chamber_106 : decode cX12_chamber 106 = .ok (.iinc 1 1, 3) := by decide +kernel
theorem dX12_chamber_109 : decode cX12_chamber 109 = .ok (.goto (-22), 3) := by decide +kernel
theorem dX12_chamber_112 : decode cX12_chamber 112 = .ok (.aload_n 0, 1) := by decide +kernel
theorem dX12_chamber_113 : decode cX12_chamber 113 = .ok (.getfield 9, 3) := by decide +kernel
theorem dX12_chamber_116 : decode cX12_chamber 116 = .ok (.bipush 9, 2) := by decide +kernel
theorem dX12_chamber_118 : decode cX12_chamber 118 = .ok (.iaload, 1) := by decide +kernel
theorem dX12_chamber_119 : decode cX12_chamber 119 = .ok (.ireturn, 1) := by decide +kernel
theorem dX12_cheapest_0 : decode cX12_cheapest 0 = .ok (.aload_n 0, 1) := by decide +kernel
theorem dX12_cheapest_1 : decode cX12_cheapest 1 = .ok (.iload_n 1, 1) := by decide +kernel
theorem dX12_cheapest_2 : decode cX12_cheapest 2 = .ok (.invokevirtual 332, 3) := by decide +kernel
theorem dX12_cheapest_5 : decode cX12_cheapest 5 = .ok (.ifCond .ne 6, 3) := by decide +kernel
theorem dX12_cheapest_8 : decode cX12_cheapest 8 = .ok (.bipush (-2), 2) := by decide +kernel
theorem dX12_cheapest_10 : decode cX12_cheapest 10 = .ok (.ireturn, 1) := by decide +kernel
theorem dX12_coalition_0 : decode cX12_coalition 0 = .ok (.aload_n 0, 1) := by decide +kernel
theorem dX12_coalition_1 : decode cX12_coalition 1 = .ok (.invokevirtual 347, 3) := by decide +kernel
theorem dX12_coalition_4 : decode cX12_coalition 4 = .ok (.ifCond .ne 6, 3) := by decide +kernel
theorem dX12_coalition_7 : decode cX12_coalition 7 = .ok (.bipush (-2), 2) := by decide +kernel
theorem dX12_coalition_9 : decode cX12_coalition 9 = .ok (.ireturn, 1) := by decide +kernel
theorem dX12_cost_0 : decode cX12_cost 0 = .ok (.aload_n 0, 1) := by decide +kernel
theorem dX12_cost_1 : decode cX12_cost 1 = .ok (.iload_n 1, 1) := by decide +kernel
theorem dX12_cost_2 : decode cX12_cost 2 = .ok (.invokevirtual 328, 3) := by decide +kernel
theorem dX12_cost_5 : decode cX12_cost 5 = .ok (.ifCond .ne 6, 3) := by decide +kernel
theorem dX12_cost_8 : decode cX12_cost 8 = .ok (.bipush (-2), 2) := by decide +kernel
theorem dX12_cost_10 : decode cX12_cost 10 = .ok (.ireturn, 1) := by decide +kernel
theorem dX12_costs_0 : decode cX12_costs 0 = .ok (.aload_n 0, 1) := by decide +kernel
theorem dX12_costs_1 : decode cX12_costs 1 = .ok (.invokevirtual 347, 3) := by decide +kernel
theorem dX12_costs_4 : decode cX12_costs 4 = .ok (.ifCond .eq 17, 3) := by decide +kernel
theorem dX12_costs_21 : decode cX12_costs 21 = .ok (.bipush (-2), 2) := by decide +kernel
theorem dX12_costs_23 : decode cX12_costs 23 = .ok (.ireturn, 1) := by decide +kernel
theorem dX12_count__0 : decode cX12_count_ 0 = .ok (.iconst 0, 1) := by decide +kernel
theorem dX12_count__1 : decode cX12_count_ 1 = .ok (.istore_n 2, 1) := by decide +kernel
theorem dX12_count__2 : decode cX12_count_ 2 = .ok (.iload_n 1, 1) := by decide +kernel
theorem dX12_count__3 : decode cX12_count_ 3 = .ok (.lookupswitch 63 #[(10, 25), (11, 30)], 25) := by decide +kernel
theorem dX12_count__28 : decode cX12_count_ 28 = .ok (.aload_n 0, 1) := by decide +kernel
theorem dX12_count__29 : decode cX12_count_ 29 = .ok (.getfield 96, 3) := by decide +kernel
theorem dX12_count__32 : decode cX12_count_ 32 = .ok (.ireturn, 1) := by decide +kernel
theorem dX12_count__33 : decode cX12_count_ 33 = .ok (.iconst 0, 1) := by decide +kernel
theorem dX12_count__34 : decode cX12_count_ 34 = .ok (.istore_n 3, 1) := by decide +kernel
theorem dX12_count__35 : decode cX12_count_ 35 = .ok (.iload_n 3, 1) := by decide +kernel
theorem dX12_count__36 : decode cX12_count_ 36 = .ok (.iconst 4, 1) := by decide +kernel
theorem dX12_count__37 : decode cX12_count_ 37 = .ok (.if_icmp .ge 27, 3) := by decide +kernel
theorem dX12_count__40 : decode cX12_count_ 40 = .ok (.iload_n 2, 1) := by decide +kernel
theorem dX12_count__41 : decode cX12_count_ 41 = .ok (.aload_n 0, 1) := by decide +kernel
theorem dX12_count__42 : decode cX12_count_ 42 = .ok (.getfield 64, 3) := by decide +kernel
theorem dX12_count__45 : decode cX12_count_ 45 = .ok (.iload_n 3, 1) := by decide +kernel
theorem dX12_count__46 : decode cX12_count_ 46 = .ok (.iaload, 1) := by decide +kernel
theorem dX12_count__47 : decode cX12_count_ 47 = .ok (.iconst (-1), 1) := by decide +kernel
theorem dX12_count__48 : decode cX12_count_ 48 = .ok (.if_icmp .ne 7, 3) := by decide +kernel
theorem dX12_count__51 : decode cX12_count_ 51 = .ok (.iconst 0, 1) := by decide +kernel
theorem dX12_count__52 : decode cX12_count_ 52 = .ok (.goto 4, 3) := by decide +kernel
theorem dX12_count__56 : decode cX12_count_ 56 = .ok (.iadd, 1) := by decide +kernel
theorem dX12_count__57 : decode cX12_count_ 57 = .ok (.istore_n 2, 1) := by decide +kernel
theorem dX12_count__58 : decode cX12_count_ 58 = .ok (.iinc 3 1, 3) := by decide +kernel
theorem dX12_count__61 : decode cX12_count_ 61 = .ok (.goto (-26), 3) := by decide +kernel
theorem dX12_count__64 : decode cX12_count_ 64 = .ok (.iload_n 2, 1) := by decide +kernel
theorem dX12_count__65 : decode cX12_count_ 65 = .ok (.ireturn, 1) := by decide +kernel
theorem dX12_count__66 : decode cX12_count_ 66 = .ok (.iload_n 1, 1) := by decide +kernel
theorem dX12_count__67 : decode cX12_count_ 67 = .ok (.i2l, 1) := by decide +kernel
theorem dX12_count__68 : decode cX12_count_ 68 = .ok (.lconst 0, 1) := by decide +kernel
theorem dX12_count__69 : decode cX12_count_ 69 = .ok (.ldc2_w 446, 3) := by decide +kernel
theorem dX12_count__72 : decode cX12_count_ 72 = .ok (.invokestatic 82, 3) := by decide +kernel
theorem dX12_count__75 : decode cX12_count_ 75 = .ok (.ifCond .eq 12, 3) := by decide +kernel
theorem dX12_count__78 : decode cX12_count_ 78 = .ok (.aload_n 0, 1) := by decide +kernel
theorem dX12_count__79 : decode cX12_count_ 79 = .ok (.getfield 9, 3) := by decide +kernel
theorem dX12_count__82 : decode cX12_count_ 82 = .ok (.iload_n 1, 1) := by decide +kernel
theorem dX12_count__83 : decode cX12_count_ 83 = .ok (.iaload, 1) := by decide +kernel
theorem dX12_count__84 : decode cX12_count_ 84 = .ok (.goto 4, 3) := by decide +kernel
theorem dX12_count__87 : decode cX12_count_ 87 = .ok (.iconst (-1), 1) := by decide +kernel
theorem dX12_count__88 : decode cX12_count_ 88 = .ok (.ireturn, 1) := by decide +kernel
theorem dX12_cover_0 : decode cX12_cover 0 = .ok (.aload_n 0, 1) := by decide +kernel
theorem dX12_cover_1 : decode cX12_cover 1 = .ok (.iload_n 1, 1) := by decide +kernel
theorem dX12_cover_2 : decode cX12_cover 2 = .ok (.invokevirtual 381, 3) := by decide +kernel
theorem dX12_cover_5 : decode cX12_cover 5 = .ok (.ifCond .ne 6, 3) := by decide +kernel
theorem dX12_cover_8 : decode cX12_cover 8 = .ok (.bipush (-2), 2) := by decide +kernel
theorem dX12_cover_10 : decode cX12_cover 10 = .ok (.ireturn, 1) := by decide +kernel
theorem dX12_covers_0 : decode cX12_covers 0 = .ok (.aload_n 0, 1) := by decide +kernel
theorem dX12_covers_1 : decode cX12_covers 1 = .ok (.iload_n 1, 1) := by decide +kernel
theorem dX12_covers_2 : decode cX12_covers 2 = .ok (.invokevirtual 381, 3) := by decide +kernel
theorem dX12_covers_5 : decode cX12_covers 5 = .ok (.ifCond .eq 11, 3) := by decide +kernel
theorem dX12_covers_16 : decode cX12_covers 16 = .ok (.bipush (-2), 2) := by decide +kernel
theorem dX12_covers_18 : decode cX12_covers 18 = .ok (.ireturn, 1) := by decide +kernel
theorem dX12_dies_0 : decode cX12_dies 0 = .ok (.aload_n 0, 1) := by decide +kernel
theorem dX12_dies_1 : decode cX12_dies 1 = .ok (.invokevirtual 347, 3) := by decide +kernel
theorem dX12_dies_4 : decode cX12_dies 4 = .ok (.ifCond .ne 6, 3) := by decide +kernel
theorem dX12_dies_7 : decode cX12_dies 7 = .ok (.bipush (-2), 2) := by decide +kernel
theorem dX12_dies_9 : decode cX12_dies 9 = .ok (.ireturn, 1) := by decide +kernel
theorem dX12_district_0 : decode cX12_district 0 = .ok (.aload_n 0, 1) := by decide +kernel
theorem dX12_district_1 : decode cX12_district 1 = .ok (.iload_n 1, 1) := by decide +kernel
theorem dX12_district_2 : decode cX12_district 2 = .ok (.invokevirtual 332, 3) := by decide +kernel
theorem dX12_district_5 : decode cX12_district 5 = .ok (.ifCond .eq 15, 3) := by decide +kernel
theorem dX12_district_20 : decode cX12_district 20 = .ok (.bipush (-2), 2) := by decide +kernel
theorem dX12_district_22 : decode cX12_district 22 = .ok (.ireturn, 1) := by decide +kernel
theorem dX12_drawn_0 : decode cX12_drawn 0 = .ok (.iload_n 1, 1) := by decide +kernel
theorem dX12_drawn_1 : decode cX12_drawn 1 = .ok (.invokestatic 476, 3) := by decide +kernel
theorem dX12_drawn_4 : decode cX12_drawn 4 = .ok (.ifCond .eq 21, 3) := by decide +kernel
theorem dX12_drawn_7 : decode cX12_drawn 7 = .ok (.aload_n 0, 1) := by decide +kernel
theorem dX12_drawn_8 : decode cX12_drawn 8 = .ok (.iload_n 2, 1) := by decide +kernel
theorem dX12_drawn_9 : decode cX12_drawn 9 = .ok (.invokevirtual 332, 3) := by decide +kernel
theorem dX12_drawn_12 : decode cX12_drawn 12 = .ok (.ifCond .eq 13, 3) := by decide +kernel
theorem dX12_drawn_25 : decode cX12_drawn 25 = .ok (.bipush (-2), 2) := by decide +kernel
theorem dX12_drawn_27 : decode cX12_drawn 27 = .ok (.ireturn, 1) := by decide +kernel
theorem dX12_dumb_0 : decode cX12_dumb 0 = .ok (.aload_n 0, 1) := by decide +kernel
theorem dX12_dumb_1 : decode cX12_dumb 1 = .ok (.invokevirtual 347, 3) := by decide +kernel
theorem dX12_dumb_4 : decode cX12_dumb 4 = .ok (.ifCond .ne 6, 3) := by decide +kernel
theorem dX12_dumb_7 : decode cX12_dumb 7 = .ok (.bipush (-2), 2) := by decide +kernel
theorem dX12_dumb_9 : decode cX12_dumb 9 = .ok (.ireturn, 1) := by decide +kernel
theorem dX12_elected_0 : decode cX12_elected 0 = .ok (.aload_n 0, 1) := by decide +kernel
theorem dX12_elected_1 : decode cX12_elected 1 = .ok (.invokevirtual 347, 3) := by decide +kernel
theorem dX12_elected_4 : decode cX12_elected 4 = .ok (.ifCond .ne 6, 3) := by decide +kernel
theorem dX12_elected_7 : decode cX12_elected 7 = .ok (.bipush (-2), 2) := by decide +kernel
theorem dX12_elected_9 : decode cX12_elected 9 = .ok (.ireturn, 1) := by decide +kernel
theorem dX12_end_0 : decode cX12_end 0 = .ok (.iload_n 1, 1) := by decide +kernel
theorem dX12_end_1 : decode cX12_end 1 = .ok (.i2l, 1) := by decide +kernel
theorem dX12_end_2 : decode cX12_end 2 = .ok (.lconst 0, 1) := by decide +kernel
theorem dX12_end_3 : decode cX12_end 3 = .ok (.aload_n 0, 1) := by decide +kernel
theorem dX12_end_4 : decode cX12_end 4 = .ok (.getfield 96, 3) := by decide +kernel
theorem dX12_end_7 : decode cX12_end 7 = .ok (.i2l, 1) := by decide +kernel
theorem dX12_end_8 : decode cX12_end 8 = .ok (.invokestatic 82, 3) := by decide +kernel
theorem dX12_end_11 : decode cX12_end 11 = .ok (.ifCond .ne 5, 3) := by decide +kernel
theorem dX12_end_14 : decode cX12_end 14 = .ok (.iconst (-1), 1) := by decide +kernel
theorem dX12_end_15 : decode cX12_end 15 = .ok (.ireturn, 1) := by decide +kernel
theorem dX12_end_16 : decode cX12_end 16 = .ok (.aload_n 0, 1) := by decide +kernel
theorem dX12_end_17 : decode cX12_end 17 = .ok (.iload_n 1, 1) := by decide +kernel
theorem dX12_end_18 : decode cX12_end 18 = .ok (.putfield 96, 3) := by decide +kernel
theorem dX12_end_21 : decode cX12_end 21 = .ok (.iload_n 1, 1) := by decide +kernel
theorem dX12_end_22 : decode cX12_end 22 = .ok (.ireturn, 1) := by decide +kernel
theorem dX12_fault_0 : decode cX12_fault 0 = .ok (.iload_n 1, 1) := by decide +kernel
theorem dX12_fault_1 : decode cX12_fault 1 = .ok (.ifCond .ne 10, 3) := by decide +kernel
theorem dX12_fault_4 : decode cX12_fault 4 = .ok (.aload_n 0, 1) := by decide +kernel
theorem dX12_fault_5 : decode cX12_fault 5 = .ok (.getfield 132, 3) := by decide +kernel
theorem dX12_fault_8 : decode cX12_fault 8 = .ok (.goto 16, 3) := by decide +kernel
theorem dX12_fault_11 : decode cX12_fault 11 = .ok (.iload_n 1, 1) := by decide +kernel
theorem dX12_fault_12 : decode cX12_fault 12 = .ok (.iconst 1, 1) := by decide +kernel
theorem dX12_fault_13 : decode cX12_fault 13 = .ok (.if_icmp .ne 10, 3) := by decide +kernel
theorem dX12_fault_16 : decode cX12_fault 16 = .ok (.aload_n 0, 1) := by decide +kernel
theorem dX12_fault_17 : decode cX12_fault 17 = .ok (.getfield 27, 3) := by decide +kernel
theorem dX12_fault_20 : decode cX12_fault 20 = .ok (.goto 4, 3) := by decide +kernel
theorem dX12_fault_23 : decode cX12_fault 23 = .ok (.iconst (-1), 1) := by decide +kernel
theorem dX12_fault_24 : decode cX12_fault 24 = .ok (.ireturn, 1) := by decide +kernel
theorem dX12_feed_0 : decode cX12_feed 0 = .ok (.aload_n 0, 1) := by decide +kernel
theorem dX12_feed_1 : decode cX12_feed 1 = .ok (.getfield 96, 3) := by decide +kernel
theorem dX12_feed_4 : decode cX12_feed 4 = .ok (.bipush 20, 2) := by decide +kernel
theorem dX12_feed_6 : decode cX12_feed 6 = .ok (.iadd, 1) := by decide +kernel
theorem dX12_feed_7 : decode cX12_feed 7 = .ok (.sipush 1600, 3) := by decide +kernel
theorem dX12_feed_10 : decode cX12_feed 10 = .ok (.if_icmp .le 5, 3) := by decide +kernel
theorem dX12_feed_15 : decode cX12_feed 15 = .ok (.aload_n 0, 1) := by decide +kernel
theorem dX12_feed_16 : decode cX12_feed 16 = .ok (.getfield 24, 3) := by decide +kernel
theorem dX12_feed_19 : decode cX12_feed 19 = .ok (.iconst 0, 1) := by decide +kernel
theorem dX12_feed_20 : decode cX12_feed 20 = .ok (.iload_n 1, 1) := by decide +kernel
theorem dX12_feed_21 : decode cX12_feed 21 = .ok (.iastore, 1) := by decide +kernel
theorem dX12_feed_22 : decode cX12_feed 22 = .ok (.aload_n 0, 1) := by decide +kernel
theorem dX12_feed_23 : decode cX12_feed 23 = .ok (.getfield 24, 3) := by decide +kernel
theorem dX12_feed_26 : decode cX12_feed 26 = .ok (.iconst 1, 1) := by decide +kernel
theorem dX12_feed_27 : decode cX12_feed 27 = .ok (.iload_n 2, 1) := by decide +kernel
theorem dX12_feed_28 : decode cX12_feed 28 = .ok (.iastore, 1) := by decide +kernel
theorem dX12_feed_29 : decode cX12_feed 29 = .ok (.aload_n 0, 1) := by decide +kernel
theorem dX12_feed_30 : decode cX12_feed 30 = .ok (.getfield 24, 3) := by decide +kernel
theorem dX12_feed_33 : decode cX12_feed 33 = .ok (.iconst 2, 1) := by decide +kernel
theorem dX12_feed_34 : decode cX12_feed 34 = .ok (.iload_n 3, 1) := by decide +kernel
theorem dX12_feed_35 : decode cX12_feed 35 = .ok (.iastore, 1) := by decide +kernel
theorem dX12_feed_36 : decode cX12_feed 36 = .ok (.aload_n 0, 1) := by decide +kernel
theorem dX12_feed_37 : decode cX12_feed 37 = .ok (.getfield 24, 3) := by decide +kernel
theorem dX12_feed_40 : decode cX12_feed 40 = .ok (.iconst 3, 1) := by decide +kernel
theorem dX12_feed_41 : decode cX12_feed 41 = .ok (.iload 4, 2) := by decide +kernel
theorem dX12_feed_43 : decode cX12_feed 43 = .ok (.iastore, 1) := by decide +kernel
theorem dX12_feed_44 : decode cX12_feed 44 = .ok (.aload_n 0, 1) := by decide +kernel
theorem dX12_feed_45 : decode cX12_feed 45 = .ok (.getfield 24, 3) := by decide +kernel
theorem dX12_feed_48 : decode cX12_feed 48 = .ok (.iconst 4, 1) := by decide +kernel
theorem dX12_feed_49 : decode cX12_feed 49 = .ok (.iload 5, 2) := by decide +kernel
theorem dX12_feed_51 : decode cX12_feed 51 = .ok (.iastore, 1) := by decide +kernel
theorem dX12_feed_52 : decode cX12_feed 52 = .ok (.iconst 0, 1) := by decide +kernel
theorem dX12_feed_53 : decode cX12_feed 53 = .ok (.istore 6, 2) := by decide +kernel
theorem dX12_feed_55 : decode cX12_feed 55 = .ok (.iload 6, 2) := by decide +kernel
theorem dX12_feed_57 : decode cX12_feed 57 = .ok (.bipush 20, 2) := by decide +kernel
theorem dX12_feed_59 : decode cX12_feed 59 = .ok (.if_icmp .ge 42, 3) := by decide +kernel
theorem dX12_feed_62 : decode cX12_feed 62 = .ok (.aload_n 0, 1) := by decide +kernel
theorem dX12_feed_63 : decode cX12_feed 63 = .ok (.getfield 20, 3) := by decide +kernel
theorem dX12_feed_66 : decode cX12_feed 66 = .ok (.aload_n 0, 1) := by decide +kernel
theorem dX12_feed_67 : decode cX12_feed 67 = .ok (.getfield 96, 3) := by decide +kernel
theorem dX12_feed_70 : decode cX12_feed 70 = .ok (.iload 6, 2) := by decide +kernel
theorem dX12_feed_72 : decode cX12_feed 72 = .ok (.iadd, 1) := by decide +kernel
theorem dX12_feed_73 : decode cX12_feed 73 = .ok (.aload_n 0, 1) := by decide +kernel
theorem dX12_feed_74 : decode cX12_feed 74 = .ok (.getfield 24, 3) := by decide +kernel
theorem dX12_feed_77 : decode cX12_feed 77 = .ok (.iload 6, 2) := by decide +kernel
theorem dX12_feed_79 : decode cX12_feed 79 = .ok (.iconst 4, 1) := by decide +kernel
theorem dX12_feed_80 : decode cX12_feed 80 = .ok (.idiv, 1) := by decide +kernel
theorem dX12_feed_81 : decode cX12_feed 81 = .ok (.iaload, 1) := by decide +kernel
theorem dX12_feed_82 : decode cX12_feed 82 = .ok (.bipush 24, 2) := by decide +kernel
theorem dX12_feed_84 : decode cX12_feed 84 = .ok (.bipush 8, 2) := by decide +kernel
theorem dX12_feed_86 : decode cX12_feed 86 = .ok (.iload 6, 2) := by decide +kernel
theorem dX12_feed_88 : decode cX12_feed 88 = .ok (.iconst 4, 1) := by decide +kernel
theorem dX12_feed_89 : decode cX12_feed 89 = .ok (.irem, 1) := by decide +kernel
theorem dX12_feed_90 : decode cX12_feed 90 = .ok (.imul, 1) := by decide +kernel
theorem dX12_feed_91 : decode cX12_feed 91 = .ok (.isub, 1) := by decide +kernel
theorem dX12_feed_92 : decode cX12_feed 92 = .ok (.ishr, 1) := by decide +kernel
theorem dX12_feed_93 : decode cX12_feed 93 = .ok (.i2b, 1) := by decide +kernel
theorem dX12_feed_94 : decode cX12_feed 94 = .ok (.bastore, 1) := by decide +kernel
theorem dX12_feed_95 : decode cX12_feed 95 = .ok (.iinc 6 1, 3) := by decide +kernel
theorem dX12_feed_98 : decode cX12_feed 98 = .ok (.goto (-43), 3) := by decide +kernel
theorem dX12_feed_101 : decode cX12_feed 101 = .ok (.aload_n 0, 1) := by decide +kernel
theorem dX12_feed_102 : decode cX12_feed 102 = .ok (.dup, 1) := by decide +kernel
theorem dX12_feed_103 : decode cX12_feed 103 = .ok (.getfield 96, 3) := by decide +kernel
theorem dX12_feed_106 : decode cX12_feed 106 = .ok (.bipush 20, 2) := by decide +kernel
theorem dX12_feed_108 : decode cX12_feed 108 = .ok (.iadd, 1) := by decide +kernel
theorem dX12_feed_109 : decode cX12_feed 109 = .ok (.putfield 96, 3) := by decide +kernel
theorem dX12_feed_112 : decode cX12_feed 112 = .ok (.aload_n 0, 1) := by decide +kernel
theorem dX12_feed_113 : decode cX12_feed 113 = .ok (.getfield 96, 3) := by decide +kernel
theorem dX12_feed_116 : decode cX12_feed 116 = .ok (.ireturn, 1) := by decide +kernel
theorem dX12_feint_0 : decode cX12_feint 0 = .ok (.aload_n 0, 1) := by decide +kernel
theorem dX12_feint_1 : decode cX12_feint 1 = .ok (.iload_n 1, 1) := by decide +kernel
theorem dX12_feint_2 : decode cX12_feint 2 = .ok (.invokevirtual 328, 3) := by decide +kernel
theorem dX12_feint_5 : decode cX12_feint 5 = .ok (.ifCond .ne 6, 3) := by decide +kernel
theorem dX12_feint_8 : decode cX12_feint 8 = .ok (.bipush (-2), 2) := by decide +kernel
theorem dX12_feint_10 : decode cX12_feint 10 = .ok (.ireturn, 1) := by decide +kernel
theorem dX12_fits_0 : decode cX12_fits 0 = .ok (.aload_n 0, 1) := by decide +kernel
theorem dX12_fits_1 : decode cX12_fits 1 = .ok (.iload_n 1, 1) := by decide +kernel
theorem dX12_fits_2 : decode cX12_fits 2 = .ok (.iconst 1, 1) := by decide +kernel
theorem dX12_fits_3 : decode cX12_fits 3 = .ok (.invokevirtual 448, 3) := by decide +kernel
theorem dX12_fits_6 : decode cX12_fits 6 = .ok (.istore_n 2, 1) := by decide +kernel
theorem dX12_fits_7 : decode cX12_fits 7 = .ok (.iload_n 2, 1) := by decide +kernel
theorem dX12_fits_8 : decode cX12_fits 8 = .ok (.ifCond .ge 7, 3) := by decide +kernel
theorem dX12_fits_11 : decode cX12_fits 11 = .ok (.iload_n 2, 1) := by decide +kernel
theorem dX12_fits_12 : decode cX12_fits 12 = .ok (.goto 8, 3) := by decide +kernel
theorem dX12_fits_20 : decode cX12_fits 20 = .ok (.ireturn, 1) := by decide +kernel
theorem dX12_gains_0 : decode cX12_gains 0 = .ok (.aload_n 0, 1) := by decide +kernel
theorem dX12_gains_1 : decode cX12_gains 1 = .ok (.iload_n 1, 1) := by decide +kernel
theorem dX12_gains_2 : decode cX12_gains 2 = .ok (.invokevirtual 328, 3) := by decide +kernel
theorem dX12_gains_5 : decode cX12_gains 5 = .ok (.ifCond .ne 6, 3) := by decide +kernel
theorem dX12_gains_8 : decode cX12_gains 8 = .ok (.bipush (-2), 2) := by decide +kernel
theorem dX12_gains_10 : decode cX12_gains 10 = .ok (.ireturn, 1) := by decide +kernel
theorem dX12_good_0 : decode cX12_good 0 = .ok (.aload_n 0, 1) := by decide +kernel
theorem dX12_good_1 : decode cX12_good 1 = .ok (.getfield 132, 3) := by decide +kernel
theorem dX12_good_4 : decode cX12_good 4 = .ok (.ifCond .ne 7, 3) := by decide +kernel
theorem dX12_good_7 : decode cX12_good 7 = .ok (.iconst 1, 1) := by decide +kernel
theorem dX12_good_8 : decode cX12_good 8 = .ok (.goto 4, 3) := by decide +kernel
theorem dX12_good_12 : decode cX12_good 12 = .ok (.ireturn, 1) := by decide +kernel
theorem dX12_house_0 : decode cX12_house 0 = .ok (.aload_n 0, 1) := by decide +kernel
theorem dX12_house_1 : decode cX12_house 1 = .ok (.invokevirtual 347, 3) := by decide +kernel
theorem dX12_house_4 : decode cX12_house 4 = .ok (.ifCond .eq 10, 3) := by decide +kernel
theorem dX12_house_14 : decode cX12_house 14 = .ok (.bipush (-2), 2) := by decide +kernel
theorem dX12_house_16 : decode cX12_house 16 = .ok (.ireturn, 1) := by decide +kernel
theorem dX12_housed_0 : decode cX12_housed 0 = .ok (.aload_n 0, 1) := by decide +kernel
theorem dX12_housed_1 : decode cX12_housed 1 = .ok (.invokevirtual 347, 3) := by decide +kernel
theorem dX12_housed_4 : decode cX12_housed 4 = .ok (.ifCond .ne 6, 3) := by decide +kernel
theorem dX12_housed_7 : decode cX12_housed 7 = .ok (.bipush (-2), 2) := by decide +kernel
theorem dX12_housed_9 : decode cX12_housed 9 = .ok (.ireturn, 1) := by decide +kernel
theorem dX12_image_0 : decode cX12_image 0 = .ok (.iload_n 1, 1) := by decide +kernel
theorem dX12_image_1 : decode cX12_image 1 = .ok (.i2l, 1) := by decide +kernel
theorem dX12_image_2 : decode cX12_image 2 = .ok (.lconst 0, 1) := by decide +kernel
theorem dX12_image_3 : decode cX12_image 3 = .ok (.ldc2_w 80, 3) := by decide +kernel
theorem dX12_image_6 : decode cX12_image 6 = .ok (.invokestatic 82, 3) := by decide +kernel
theorem dX12_image_9 : decode cX12_image 9 = .ok (.ifCond .ne 6, 3) := by decide +kernel
theorem dX12_image_12 : decode cX12_image 12 = .ok (.bipush (-2), 2) := by decide +kernel
theorem dX12_image_14 : decode cX12_image 14 = .ok (.ireturn, 1) := by decide +kernel
theorem dX12_image_15 : decode cX12_image 15 = .ok (.iconst 0, 1) := by decide +kernel
theorem dX12_image_16 : decode cX12_image 16 = .ok (.istore_n 2, 1) := by decide +kernel
theorem dX12_image_17 : decode cX12_image 17 = .ok (.iload_n 2, 1) := by decide +kernel
theorem dX12_image_18 : decode cX12_image 18 = .ok (.sipush 841, 3) := by decide +kernel
theorem dX12_image_21 : decode cX12_image 21 = .ok (.if_icmp .ge 27, 3) := by decide +kernel
theorem dX12_image_24 : decode cX12_image 24 = .ok (.aload_n 0, 1) := by decide +kernel
theorem dX12_image_25 : decode cX12_image 25 = .ok (.getfield 13, 3) := by decide +kernel
theorem dX12_image_28 : decode cX12_image 28 = .ok (.sipush 841, 3) := by decide +kernel
theorem dX12_image_31 : decode cX12_image 31 = .ok (.iload_n 1, 1) := by decide +kernel
theorem dX12_image_32 : decode cX12_image 32 = .ok (.imul, 1) := by decide +kernel
theorem dX12_image_33 : decode cX12_image 33 = .ok (.iload_n 2, 1) := by decide +kernel
theorem dX12_image_34 : decode cX12_image 34 = .ok (.iadd, 1) := by decide +kernel
theorem dX12_image_35 : decode cX12_image 35 = .ok (.aload_n 0, 1) := by decide +kernel
theorem dX12_image_36 : decode cX12_image 36 = .ok (.getfield 9, 3) := by decide +kernel
theorem dX12_image_39 : decode cX12_image 39 = .ok (.iload_n 2, 1) := by decide +kernel
theorem dX12_image_40 : decode cX12_image 40 = .ok (.iaload, 1) := by decide +kernel
theorem dX12_image_41 : decode cX12_image 41 = .ok (.iastore, 1) := by decide +kernel
theorem dX12_image_42 : decode cX12_image 42 = .ok (.iinc 2 1, 3) := by decide +kernel
theorem dX12_image_45 : decode cX12_image 45 = .ok (.goto (-28), 3) := by decide +kernel
theorem dX12_image_48 : decode cX12_image 48 = .ok (.aload_n 0, 1) := by decide +kernel
theorem dX12_image_49 : decode cX12_image 49 = .ok (.getfield 16, 3) := by decide +kernel
theorem dX12_image_52 : decode cX12_image 52 = .ok (.iload_n 1, 1) := by decide +kernel
theorem dX12_image_53 : decode cX12_image 53 = .ok (.iconst 1, 1) := by decide +kernel
theorem dX12_image_54 : decode cX12_image 54 = .ok (.bastore, 1) := by decide +kernel
theorem dX12_image_55 : decode cX12_image 55 = .ok (.iconst 0, 1) := by decide +kernel
theorem dX12_image_56 : decode cX12_image 56 = .ok (.ireturn, 1) := by decide +kernel
theorem dX12_in_0 : decode cX12_in 0 = .ok (.lload_n 0, 1) := by decide +kernel
theorem dX12_in_1 : decode cX12_in 1 = .ok (.lload_n 2, 1) := by decide +kernel
theorem dX12_in_2 : decode cX12_in 2 = .ok (.lcmp, 1) := by decide +kernel
theorem dX12_in_3 : decode cX12_in 3 = .ok (.ifCond .lt 14, 3) := by decide +kernel
theorem dX12_in_6 : decode cX12_in 6 = .ok (.lload_n 0, 1) := by decide +kernel
theorem dX12_in_7 : decode cX12_in 7 = .ok (.lload 4, 2) := by decide +kernel
theorem dX12_in_9 : decode cX12_in 9 = .ok (.lcmp, 1) := by decide +kernel
theorem dX12_in_10 : decode cX12_in 10 = .ok (.ifCond .gt 7, 3) := by decide +kernel
theorem dX12_in_13 : decode cX12_in 13 = .ok (.iconst 1, 1) := by decide +kernel
theorem dX12_in_14 : decode cX12_in 14 = .ok (.goto 4, 3) := by decide +kernel
theorem dX12_in_17 : decode cX12_in 17 = .ok (.iconst 0, 1) := by decide +kernel
theorem dX12_in_18 : decode cX12_in 18 = .ok (.ireturn, 1) := by decide +kernel
theorem dX12_init_0 : decode cX12_init 0 = .ok (.aload_n 0, 1) := by decide +kernel
theorem dX12_init_1 : decode cX12_init 1 = .ok (.invokespecial 3, 3) := by decide +kernel
theorem dX12_init_4 : decode cX12_init 4 = .ok (.aload_n 0, 1) := by decide +kernel
theorem dX12_init_5 : decode cX12_init 5 = .ok (.sipush 841, 3) := by decide +kernel
theorem dX12_init_8 : decode cX12_init 8 = .ok (.newarray .int, 2) := by decide +kernel
theorem dX12_init_10 : decode cX12_init 10 = .ok (.putfield 9, 3) := by decide +kernel
theorem dX12_init_13 : decode cX12_init 13 = .ok (.aload_n 0, 1) := by decide +kernel
theorem dX12_init_14 : decode cX12_init 14 = .ok (.sipush 2523, 3) := by decide +kernel
theorem dX12_init_17 : decode cX12_init 17 = .ok (.newarray .int, 2) := by decide +kernel
theorem dX12_init_19 : decode cX12_init 19 = .ok (.putfield 13, 3) := by decide +kernel
theorem dX12_init_22 : decode cX12_init 22 = .ok (.aload_n 0, 1) := by decide +kernel
theorem dX12_init_23 : decode cX12_init 23 = .ok (.iconst 3, 1) := by decide +kernel
theorem dX12_init_24 : decode cX12_init 24 = .ok (.newarray .boolean, 2) := by decide +kernel
theorem dX12_init_26 : decode cX12_init 26 = .ok (.putfield 16, 3) := by decide +kernel
theorem dX12_init_29 : decode cX12_init 29 = .ok (.aload_n 0, 1) := by decide +kernel
theorem dX12_init_30 : decode cX12_init 30 = .ok (.sipush 1600, 3) := by decide +kernel
theorem dX12_init_33 : decode cX12_init 33 = .ok (.newarray .byte, 2) := by decide +kernel
theorem dX12_init_35 : decode cX12_init 35 = .ok (.putfield 20, 3) := by decide +kernel
theorem dX12_init_38 : decode cX12_init 38 = .ok (.aload_n 0, 1) := by decide +kernel
theorem dX12_init_39 : decode cX12_init 39 = .ok (.iconst 5, 1) := by decide +kernel
theorem dX12_init_40 : decode cX12_init 40 = .ok (.newarray .int, 2) := by decide +kernel
theorem dX12_init_42 : decode cX12_init 42 = .ok (.putfield 24, 3) := by decide +kernel
theorem dX12_init_45 : decode cX12_init 45 = .ok (.aload_n 0, 1) := by decide +kernel
theorem dX12_init_46 : decode cX12_init 46 = .ok (.iconst (-1), 1) := by decide +kernel
theorem dX12_init_47 : decode cX12_init 47 = .ok (.putfield 27, 3) := by decide +kernel
theorem dX12_init_50 : decode cX12_init 50 = .ok (.aload_n 0, 1) := by decide +kernel
theorem dX12_init_51 : decode cX12_init 51 = .ok (.sipush 841, 3) := by decide +kernel
theorem dX12_init_54 : decode cX12_init 54 = .ok (.newarray .int, 2) := by decide +kernel
theorem dX12_init_56 : decode cX12_init 56 = .ok (.putfield 31, 3) := by decide +kernel
theorem dX12_init_59 : decode cX12_init 59 = .ok (.aload_n 0, 1) := by decide +kernel
theorem dX12_init_60 : decode cX12_init 60 = .ok (.bipush 9, 2) := by decide +kernel
theorem dX12_init_62 : decode cX12_init 62 = .ok (.newarray .int, 2) := by decide +kernel
theorem dX12_init_64 : decode cX12_init 64 = .ok (.putfield 34, 3) := by decide +kernel
theorem dX12_init_67 : decode cX12_init 67 = .ok (.aload_n 0, 1) := by decide +kernel
theorem dX12_init_68 : decode cX12_init 68 = .ok (.iconst (-1), 1) := by decide +kernel
theorem dX12_init_69 : decode cX12_init 69 = .ok (.putfield 37, 3) := by decide +kernel
theorem dX12_init_72 : decode cX12_init 72 = .ok (.aload_n 0, 1) := by decide +kernel
theorem dX12_init_73 : decode cX12_init 73 = .ok (.bipush 9, 2) := by decide +kernel
theorem dX12_init_75 : decode cX12_init 75 = .ok (.newarray .int, 2) := by decide +kernel
theorem dX12_init_77 : decode cX12_init 77 = .ok (.putfield 40, 3) := by decide +kernel
theorem dX12_init_80 : decode cX12_init 80 = .ok (.aload_n 0, 1) := by decide +kernel
theorem dX12_init_81 : decode cX12_init 81 = .ok (.bipush 9, 2) := by decide +kernel
theorem dX12_init_83 : decode cX12_init 83 = .ok (.newarray .int, 2) := by decide +kernel
theorem dX12_init_85 : decode cX12_init 85 = .ok (.putfield 43, 3) := by decide +kernel
theorem dX12_init_88 : decode cX12_init 88 = .ok (.aload_n 0, 1) := by decide +kernel
theorem dX12_init_89 : decode cX12_init 89 = .ok (.bipush 9, 2) := by decide +kernel
theorem dX12_init_91 : decode cX12_init 91 = .ok (.newarray .int, 2) := by decide +kernel
theorem dX12_init_93 : decode cX12_init 93 = .ok (.putfield 46, 3) := by decide +kernel
theorem dX12_init_96 : decode cX12_init 96 = .ok (.aload_n 0, 1) := by decide +kernel
theorem dX12_init_97 : decode cX12_init 97 = .ok (.bipush 8, 2) := by decide +kernel
theorem dX12_init_99 : decode cX12_init 99 = .ok (.newarray .int, 2) := by decide +kernel
theorem dX12_init_101 : decode cX12_init 101 = .ok (.putfield 49, 3) := by decide +kernel
theorem dX12_init_104 : decode cX12_init 104 = .ok (.aload_n 0, 1) := by decide +kernel
theorem dX12_init_105 : decode cX12_init 105 = .ok (.bipush 8, 2) := by decide +kernel
theorem dX12_init_107 : decode cX12_init 107 = .ok (.newarray .int, 2) := by decide +kernel
theorem dX12_init_109 : decode cX12_init 109 = .ok (.putfield 52, 3) := by decide +kernel
theorem dX12_init_112 : decode cX12_init 112 = .ok (.aload_n 0, 1) := by decide +kernel
theorem dX12_init_113 : decode cX12_init 113 = .ok (.iconst 4, 1) := by decide +kernel
theorem dX12_init_114 : decode cX12_init 114 = .ok (.newarray .int, 2) := by decide +kernel
theorem dX12_init_116 : decode cX12_init 116 = .ok (.putfield 55, 3) := by decide +kernel
theorem dX12_init_119 : decode cX12_init 119 = .ok (.aload_n 0, 1) := by decide +kernel
theorem dX12_init_120 : decode cX12_init 120 = .ok (.iconst 4, 1) := by decide +kernel
theorem dX12_init_121 : decode cX12_init 121 = .ok (.newarray .int, 2) := by decide +kernel
theorem dX12_init_123 : decode cX12_init 123 = .ok (.putfield 58, 3) := by decide +kernel
theorem dX12_init_126 : decode cX12_init 126 = .ok (.aload_n 0, 1) := by decide +kernel
theorem dX12_init_127 : decode cX12_init 127 = .ok (.bipush 9, 2) := by decide +kernel
theorem dX12_init_129 : decode cX12_init 129 = .ok (.newarray .int, 2) := by decide +kernel
theorem dX12_init_131 : decode cX12_init 131 = .ok (.putfield 61, 3) := by decide +kernel
theorem dX12_init_134 : decode cX12_init 134 = .ok (.aload_n 0, 1) := by decide +kernel
theorem dX12_init_135 : decode cX12_init 135 = .ok (.iconst 4, 1) := by decide +kernel
theorem dX12_init_136 : decode cX12_init 136 = .ok (.newarray .int, 2) := by decide +kernel
theorem dX12_init_138 : decode cX12_init 138 = .ok (.dup, 1) := by decide +kernel
theorem dX12_init_139 : decode cX12_init 139 = .ok (.iconst 0, 1) := by decide +kernel
theorem dX12_init_140 : decode cX12_init 140 = .ok (.iconst (-1), 1) := by decide +kernel
theorem dX12_init_141 : decode cX12_init 141 = .ok (.iastore, 1) := by decide +kernel
theorem dX12_init_142 : decode cX12_init 142 = .ok (.dup, 1) := by decide +kernel
theorem dX12_init_143 : decode cX12_init 143 = .ok (.iconst 1, 1) := by decide +kernel
