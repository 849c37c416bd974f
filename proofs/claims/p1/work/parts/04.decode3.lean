theorem dX11_weight_0 : decode cX11_weight 0 = .ok (.aload_n 0, 1) := by decide +kernel
theorem dX11_weight_1 : decode cX11_weight 1 = .ok (.iload_n 1, 1) := by decide +kernel
theorem dX11_weight_2 : decode cX11_weight 2 = .ok (.invokevirtual 204, 3) := by decide +kernel
theorem dX11_weight_5 : decode cX11_weight 5 = .ok (.ifCond .ne 7, 3) := by decide +kernel
theorem dX11_weight_8 : decode cX11_weight 8 = .ok (.ldc2_w 228, 3) := by decide +kernel
theorem dX11_weight_11 : decode cX11_weight 11 = .ok (.lreturn, 1) := by decide +kernel
theorem dX11_wheel_0 : decode cX11_wheel 0 = .ok (.aload_n 0, 1) := by decide +kernel
theorem dX11_wheel_1 : decode cX11_wheel 1 = .ok (.getfield 28, 3) := by decide +kernel
theorem dX11_wheel_4 : decode cX11_wheel 4 = .ok (.invokevirtual 128, 3) := by decide +kernel
theorem dX11_wheel_7 : decode cX11_wheel 7 = .ok (.istore_n 1, 1) := by decide +kernel
theorem dX11_wheel_8 : decode cX11_wheel 8 = .ok (.aload_n 0, 1) := by decide +kernel
theorem dX11_wheel_9 : decode cX11_wheel 9 = .ok (.getfield 12, 3) := by decide +kernel
theorem dX11_wheel_12 : decode cX11_wheel 12 = .ok (.iconst 0, 1) := by decide +kernel
theorem dX11_wheel_13 : decode cX11_wheel 13 = .ok (.putfield 113, 3) := by decide +kernel
theorem dX11_wheel_16 : decode cX11_wheel 16 = .ok (.iload_n 1, 1) := by decide +kernel
theorem dX11_wheel_17 : decode cX11_wheel 17 = .ok (.iconst (-1), 1) := by decide +kernel
theorem dX11_wheel_18 : decode cX11_wheel 18 = .ok (.if_icmp .ne 9, 3) := by decide +kernel
theorem dX11_wheel_21 : decode cX11_wheel 21 = .ok (.aload_n 0, 1) := by decide +kernel
theorem dX11_wheel_22 : decode cX11_wheel 22 = .ok (.iconst 1, 1) := by decide +kernel
theorem dX11_wheel_23 : decode cX11_wheel 23 = .ok (.invokevirtual 116, 3) := by decide +kernel
theorem dX11_wheel_26 : decode cX11_wheel 26 = .ok (.ireturn, 1) := by decide +kernel
theorem dX11_why_0 : decode cX11_why 0 = .ok (.iload_n 1, 1) := by decide +kernel
theorem dX11_why_1 : decode cX11_why 1 = .ok (.ifCond .ne 8, 3) := by decide +kernel
theorem dX11_why_4 : decode cX11_why 4 = .ok (.aload_n 0, 1) := by decide +kernel
theorem dX11_why_5 : decode cX11_why 5 = .ok (.getfield 405, 3) := by decide +kernel
theorem dX11_why_8 : decode cX11_why 8 = .ok (.ireturn, 1) := by decide +kernel
theorem dX11_why_9 : decode cX11_why 9 = .ok (.iload_n 1, 1) := by decide +kernel
theorem dX11_why_10 : decode cX11_why 10 = .ok (.iconst 1, 1) := by decide +kernel
theorem dX11_why_11 : decode cX11_why 11 = .ok (.if_icmp .ne 10, 3) := by decide +kernel
theorem dX11_why_14 : decode cX11_why 14 = .ok (.aload_n 0, 1) := by decide +kernel
theorem dX11_why_15 : decode cX11_why 15 = .ok (.getfield 408, 3) := by decide +kernel
theorem dX11_why_18 : decode cX11_why 18 = .ok (.goto 4, 3) := by decide +kernel
theorem dX11_why_21 : decode cX11_why 21 = .ok (.iconst (-1), 1) := by decide +kernel
theorem dX11_why_22 : decode cX11_why 22 = .ok (.ireturn, 1) := by decide +kernel
theorem dX11_would_0 : decode cX11_would 0 = .ok (.aload_n 0, 1) := by decide +kernel
theorem dX11_would_1 : decode cX11_would 1 = .ok (.iload_n 1, 1) := by decide +kernel
theorem dX11_would_2 : decode cX11_would 2 = .ok (.invokevirtual 204, 3) := by decide +kernel
theorem dX11_would_5 : decode cX11_would 5 = .ok (.ifCond .eq 18, 3) := by decide +kernel
theorem dX11_would_23 : decode cX11_would 23 = .ok (.iconst (-1), 1) := by decide +kernel
theorem dX11_would_24 : decode cX11_would 24 = .ok (.ireturn, 1) := by decide +kernel
theorem dX12_band_0 : decode cX12_band 0 = .ok (.aload_n 0, 1) := by decide +kernel
theorem dX12_band_1 : decode cX12_band 1 = .ok (.iload_n 1, 1) := by decide +kernel
theorem dX12_band_2 : decode cX12_band 2 = .ok (.invokevirtual 335, 3) := by decide +kernel
theorem dX12_band_5 : decode cX12_band 5 = .ok (.ifCond .eq 24, 3) := by decide +kernel
theorem dX12_band_29 : decode cX12_band 29 = .ok (.iconst (-1), 1) := by decide +kernel
theorem dX12_band_30 : decode cX12_band 30 = .ok (.ireturn, 1) := by decide +kernel
theorem dX12_byteAt_0 : decode cX12_byteAt 0 = .ok (.iload_n 1, 1) := by decide +kernel
theorem dX12_byteAt_1 : decode cX12_byteAt 1 = .ok (.ifCond .lt 20, 3) := by decide +kernel
theorem dX12_byteAt_4 : decode cX12_byteAt 4 = .ok (.iload_n 1, 1) := by decide +kernel
theorem dX12_byteAt_5 : decode cX12_byteAt 5 = .ok (.aload_n 0, 1) := by decide +kernel
theorem dX12_byteAt_6 : decode cX12_byteAt 6 = .ok (.getfield 66, 3) := by decide +kernel
theorem dX12_byteAt_9 : decode cX12_byteAt 9 = .ok (.if_icmp .ge 12, 3) := by decide +kernel
theorem dX12_byteAt_21 : decode cX12_byteAt 21 = .ok (.iconst (-1), 1) := by decide +kernel
theorem dX12_byteAt_22 : decode cX12_byteAt 22 = .ok (.ireturn, 1) := by decide +kernel
theorem dX12_called_0 : decode cX12_called 0 = .ok (.aload_n 0, 1) := by decide +kernel
theorem dX12_called_1 : decode cX12_called 1 = .ok (.iload_n 1, 1) := by decide +kernel
theorem dX12_called_2 : decode cX12_called 2 = .ok (.invokevirtual 369, 3) := by decide +kernel
theorem dX12_called_5 : decode cX12_called 5 = .ok (.ifCond .eq 26, 3) := by decide +kernel
theorem dX12_called_31 : decode cX12_called 31 = .ok (.iconst (-1), 1) := by decide +kernel
theorem dX12_called_32 : decode cX12_called 32 = .ok (.ireturn, 1) := by decide +kernel
theorem dX12_chance_0 : decode cX12_chance 0 = .ok (.aload_n 0, 1) := by decide +kernel
theorem dX12_chance_1 : decode cX12_chance 1 = .ok (.invokevirtual 348, 3) := by decide +kernel
theorem dX12_chance_4 : decode cX12_chance 4 = .ok (.ifCond .eq 21, 3) := by decide +kernel
theorem dX12_chance_25 : decode cX12_chance 25 = .ok (.aload_n 0, 1) := by decide +kernel
theorem dX12_chance_26 : decode cX12_chance 26 = .ok (.iconst 2, 1) := by decide +kernel
theorem dX12_chance_27 : decode cX12_chance 27 = .ok (.invokevirtual 158, 3) := by decide +kernel
theorem dX12_chance_30 : decode cX12_chance 30 = .ok (.ireturn, 1) := by decide +kernel
theorem dX12_column_0 : decode cX12_column 0 = .ok (.aload_n 0, 1) := by decide +kernel
theorem dX12_column_1 : decode cX12_column 1 = .ok (.iload_n 1, 1) := by decide +kernel
theorem dX12_column_2 : decode cX12_column 2 = .ok (.invokevirtual 335, 3) := by decide +kernel
theorem dX12_column_5 : decode cX12_column 5 = .ok (.ifCond .eq 11, 3) := by decide +kernel
theorem dX12_column_16 : decode cX12_column 16 = .ok (.iconst (-1), 1) := by decide +kernel
theorem dX12_column_17 : decode cX12_column 17 = .ok (.ireturn, 1) := by decide +kernel
theorem dX12_creditor_0 : decode cX12_creditor 0 = .ok (.aload_n 0, 1) := by decide +kernel
theorem dX12_creditor_1 : decode cX12_creditor 1 = .ok (.invokevirtual 348, 3) := by decide +kernel
theorem dX12_creditor_4 : decode cX12_creditor 4 = .ok (.ifCond .eq 12, 3) := by decide +kernel
theorem dX12_creditor_16 : decode cX12_creditor 16 = .ok (.iconst (-1), 1) := by decide +kernel
theorem dX12_creditor_17 : decode cX12_creditor 17 = .ok (.ireturn, 1) := by decide +kernel
theorem dX12_deals_0 : decode cX12_deals 0 = .ok (.aload_n 0, 1) := by decide +kernel
theorem dX12_deals_1 : decode cX12_deals 1 = .ok (.invokevirtual 241, 3) := by decide +kernel
theorem dX12_deals_4 : decode cX12_deals 4 = .ok (.istore_n 2, 1) := by decide +kernel
theorem dX12_deals_5 : decode cX12_deals 5 = .ok (.aload_n 0, 1) := by decide +kernel
theorem dX12_deals_6 : decode cX12_deals 6 = .ok (.invokevirtual 348, 3) := by decide +kernel
theorem dX12_deals_9 : decode cX12_deals 9 = .ok (.ifCond .eq 13, 3) := by decide +kernel
theorem dX12_deals_22 : decode cX12_deals 22 = .ok (.iconst (-1), 1) := by decide +kernel
theorem dX12_deals_23 : decode cX12_deals 23 = .ok (.ireturn, 1) := by decide +kernel
theorem dX12_end_0 : decode cX12_end 0 = .ok (.iload_n 1, 1) := by decide +kernel
theorem dX12_end_1 : decode cX12_end 1 = .ok (.ifCond .lt 11, 3) := by decide +kernel
theorem dX12_end_4 : decode cX12_end 4 = .ok (.iload_n 1, 1) := by decide +kernel
theorem dX12_end_5 : decode cX12_end 5 = .ok (.aload_n 0, 1) := by decide +kernel
theorem dX12_end_6 : decode cX12_end 6 = .ok (.getfield 54, 3) := by decide +kernel
theorem dX12_end_9 : decode cX12_end 9 = .ok (.if_icmp .le 9, 3) := by decide +kernel
theorem dX12_end_12 : decode cX12_end 12 = .ok (.aload_n 0, 1) := by decide +kernel
theorem dX12_end_13 : decode cX12_end 13 = .ok (.iconst 0, 1) := by decide +kernel
theorem dX12_end_14 : decode cX12_end 14 = .ok (.invokevirtual 166, 3) := by decide +kernel
theorem dX12_end_17 : decode cX12_end 17 = .ok (.ireturn, 1) := by decide +kernel
theorem dX12_end_18 : decode cX12_end 18 = .ok (.aload_n 0, 1) := by decide +kernel
theorem dX12_end_19 : decode cX12_end 19 = .ok (.iload_n 1, 1) := by decide +kernel
theorem dX12_end_20 : decode cX12_end 20 = .ok (.putfield 54, 3) := by decide +kernel
theorem dX12_end_23 : decode cX12_end 23 = .ok (.iconst 1, 1) := by decide +kernel
theorem dX12_end_24 : decode cX12_end 24 = .ok (.ireturn, 1) := by decide +kernel
theorem dX12_endsWell_0 : decode cX12_endsWell 0 = .ok (.aload_n 0, 1) := by decide +kernel
theorem dX12_endsWell_1 : decode cX12_endsWell 1 = .ok (.invokevirtual 173, 3) := by decide +kernel
theorem dX12_endsWell_4 : decode cX12_endsWell 4 = .ok (.ifCond .ne 4, 3) := by decide +kernel
theorem dX12_endsWell_7 : decode cX12_endsWell 7 = .ok (.return_, 1) := by decide +kernel
theorem dX12_fails_0 : decode cX12_fails 0 = .ok (.aload_n 0, 1) := by decide +kernel
theorem dX12_fails_1 : decode cX12_fails 1 = .ok (.getfield 75, 3) := by decide +kernel
theorem dX12_fails_4 : decode cX12_fails 4 = .ok (.ifCond .eq 4, 3) := by decide +kernel
theorem dX12_fails_8 : decode cX12_fails 8 = .ok (.aload_n 0, 1) := by decide +kernel
theorem dX12_fails_9 : decode cX12_fails 9 = .ok (.iload_n 1, 1) := by decide +kernel
theorem dX12_fails_10 : decode cX12_fails 10 = .ok (.putfield 75, 3) := by decide +kernel
theorem dX12_fails_13 : decode cX12_fails 13 = .ok (.aload_n 0, 1) := by decide +kernel
theorem dX12_fails_14 : decode cX12_fails 14 = .ok (.iload_n 2, 1) := by decide +kernel
theorem dX12_fails_15 : decode cX12_fails 15 = .ok (.putfield 78, 3) := by decide +kernel
theorem dX12_fails_18 : decode cX12_fails 18 = .ok (.return_, 1) := by decide +kernel
theorem dX12_fault_0 : decode cX12_fault 0 = .ok (.iload_n 1, 1) := by decide +kernel
theorem dX12_fault_1 : decode cX12_fault 1 = .ok (.ifCond .ne 10, 3) := by decide +kernel
theorem dX12_fault_4 : decode cX12_fault 4 = .ok (.aload_n 0, 1) := by decide +kernel
theorem dX12_fault_5 : decode cX12_fault 5 = .ok (.getfield 60, 3) := by decide +kernel
theorem dX12_fault_8 : decode cX12_fault 8 = .ok (.goto 16, 3) := by decide +kernel
theorem dX12_fault_11 : decode cX12_fault 11 = .ok (.iload_n 1, 1) := by decide +kernel
theorem dX12_fault_12 : decode cX12_fault 12 = .ok (.iconst 1, 1) := by decide +kernel
theorem dX12_fault_13 : decode cX12_fault 13 = .ok (.if_icmp .ne 10, 3) := by decide +kernel
theorem dX12_fault_16 : decode cX12_fault 16 = .ok (.aload_n 0, 1) := by decide +kernel
theorem dX12_fault_17 : decode cX12_fault 17 = .ok (.getfield 63, 3) := by decide +kernel
theorem dX12_fault_20 : decode cX12_fault 20 = .ok (.goto 4, 3) := by decide +kernel
theorem dX12_fault_23 : decode cX12_fault 23 = .ok (.iconst (-1), 1) := by decide +kernel
theorem dX12_fault_24 : decode cX12_fault 24 = .ok (.ireturn, 1) := by decide +kernel
theorem dX12_feed_0 : decode cX12_feed 0 = .ok (.aload_n 0, 1) := by decide +kernel
theorem dX12_feed_1 : decode cX12_feed 1 = .ok (.getfield 54, 3) := by decide +kernel
theorem dX12_feed_4 : decode cX12_feed 4 = .ok (.bipush 20, 2) := by decide +kernel
theorem dX12_feed_6 : decode cX12_feed 6 = .ok (.iadd, 1) := by decide +kernel
theorem dX12_feed_7 : decode cX12_feed 7 = .ok (.sipush 1200, 3) := by decide +kernel
theorem dX12_feed_10 : decode cX12_feed 10 = .ok (.if_icmp .le 9, 3) := by decide +kernel
theorem dX12_feed_19 : decode cX12_feed 19 = .ok (.aload_n 0, 1) := by decide +kernel
theorem dX12_feed_20 : decode cX12_feed 20 = .ok (.iload_n 1, 1) := by decide +kernel
theorem dX12_feed_21 : decode cX12_feed 21 = .ok (.invokevirtual 162, 3) := by decide +kernel
theorem dX12_feed_24 : decode cX12_feed 24 = .ok (.aload_n 0, 1) := by decide +kernel
theorem dX12_feed_25 : decode cX12_feed 25 = .ok (.iload_n 2, 1) := by decide +kernel
theorem dX12_feed_26 : decode cX12_feed 26 = .ok (.invokevirtual 162, 3) := by decide +kernel
theorem dX12_feed_29 : decode cX12_feed 29 = .ok (.aload_n 0, 1) := by decide +kernel
theorem dX12_feed_30 : decode cX12_feed 30 = .ok (.iload_n 3, 1) := by decide +kernel
theorem dX12_feed_31 : decode cX12_feed 31 = .ok (.invokevirtual 162, 3) := by decide +kernel
theorem dX12_feed_34 : decode cX12_feed 34 = .ok (.aload_n 0, 1) := by decide +kernel
theorem dX12_feed_35 : decode cX12_feed 35 = .ok (.iload 4, 2) := by decide +kernel
theorem dX12_feed_37 : decode cX12_feed 37 = .ok (.invokevirtual 162, 3) := by decide +kernel
theorem dX12_feed_40 : decode cX12_feed 40 = .ok (.aload_n 0, 1) := by decide +kernel
theorem dX12_feed_41 : decode cX12_feed 41 = .ok (.iload 5, 2) := by decide +kernel
theorem dX12_feed_43 : decode cX12_feed 43 = .ok (.invokevirtual 162, 3) := by decide +kernel
theorem dX12_feed_46 : decode cX12_feed 46 = .ok (.aload_n 0, 1) := by decide +kernel
theorem dX12_feed_47 : decode cX12_feed 47 = .ok (.getfield 54, 3) := by decide +kernel
theorem dX12_feed_50 : decode cX12_feed 50 = .ok (.ireturn, 1) := by decide +kernel
theorem dX12_fewest_0 : decode cX12_fewest 0 = .ok (.aload_n 0, 1) := by decide +kernel
theorem dX12_fewest_1 : decode cX12_fewest 1 = .ok (.invokevirtual 348, 3) := by decide +kernel
theorem dX12_fewest_4 : decode cX12_fewest 4 = .ok (.ifCond .eq 28, 3) := by decide +kernel
theorem dX12_fewest_32 : decode cX12_fewest 32 = .ok (.iconst (-1), 1) := by decide +kernel
theorem dX12_fewest_33 : decode cX12_fewest 33 = .ok (.ireturn, 1) := by decide +kernel
theorem dX12_fits_0 : decode cX12_fits 0 = .ok (.aload_n 0, 1) := by decide +kernel
theorem dX12_fits_1 : decode cX12_fits 1 = .ok (.getfield 125, 3) := by decide +kernel
theorem dX12_fits_4 : decode cX12_fits 4 = .ok (.ifCond .eq 8, 3) := by decide +kernel
theorem dX12_fits_12 : decode cX12_fits 12 = .ok (.iconst (-1), 1) := by decide +kernel
theorem dX12_fits_13 : decode cX12_fits 13 = .ok (.ireturn, 1) := by decide +kernel
theorem dX12_goes_0 : decode cX12_goes 0 = .ok (.aload_n 0, 1) := by decide +kernel
theorem dX12_goes_1 : decode cX12_goes 1 = .ok (.invokevirtual 348, 3) := by decide +kernel
theorem dX12_goes_4 : decode cX12_goes 4 = .ok (.ifCond .eq 38, 3) := by decide +kernel
theorem dX12_goes_42 : decode cX12_goes 42 = .ok (.iconst (-1), 1) := by decide +kernel
theorem dX12_goes_43 : decode cX12_goes 43 = .ok (.ireturn, 1) := by decide +kernel
theorem dX12_goesWell_0 : decode cX12_goesWell 0 = .ok (.aload_n 0, 1) := by decide +kernel
theorem dX12_goesWell_1 : decode cX12_goesWell 1 = .ok (.getfield 75, 3) := by decide +kernel
theorem dX12_goesWell_4 : decode cX12_goesWell 4 = .ok (.ifCond .ne 7, 3) := by decide +kernel
theorem dX12_goesWell_7 : decode cX12_goesWell 7 = .ok (.iconst 1, 1) := by decide +kernel
theorem dX12_goesWell_8 : decode cX12_goesWell 8 = .ok (.goto 4, 3) := by decide +kernel
theorem dX12_goesWell_11 : decode cX12_goesWell 11 = .ok (.iconst 0, 1) := by decide +kernel
theorem dX12_goesWell_12 : decode cX12_goesWell 12 = .ok (.ireturn, 1) := by decide +kernel
theorem dX12_has_0 : decode cX12_has 0 = .ok (.iload_n 1, 1) := by decide +kernel
theorem dX12_has_1 : decode cX12_has 1 = .ok (.bipush 14, 2) := by decide +kernel
theorem dX12_has_3 : decode cX12_has 3 = .ok (.if_icmp .ne 8, 3) := by decide +kernel
theorem dX12_has_6 : decode cX12_has 6 = .ok (.aload_n 0, 1) := by decide +kernel
theorem dX12_has_7 : decode cX12_has 7 = .ok (.getfield 149, 3) := by decide +kernel
theorem dX12_has_10 : decode cX12_has 10 = .ok (.ireturn, 1) := by decide +kernel
theorem dX12_has_11 : decode cX12_has 11 = .ok (.aload_n 0, 1) := by decide +kernel
theorem dX12_has_12 : decode cX12_has 12 = .ok (.getfield 7, 3) := by decide +kernel
theorem dX12_has_15 : decode cX12_has 15 = .ok (.ifCond .ne 19, 3) := by decide +kernel
theorem dX12_has_18 : decode cX12_has 18 = .ok (.iload_n 1, 1) := by decide +kernel
theorem dX12_has_19 : decode cX12_has 19 = .ok (.iconst 0, 1) := by decide +kernel
theorem dX12_has_20 : decode cX12_has 20 = .ok (.bipush 13, 2) := by decide +kernel
theorem dX12_has_22 : decode cX12_has 22 = .ok (.invokestatic 197, 3) := by decide +kernel
theorem dX12_has_25 : decode cX12_has 25 = .ok (.ifCond .eq 7, 3) := by decide +kernel
theorem dX12_has_28 : decode cX12_has 28 = .ok (.iconst 0, 1) := by decide +kernel
theorem dX12_has_29 : decode cX12_has 29 = .ok (.goto 4, 3) := by decide +kernel
theorem dX12_has_32 : decode cX12_has 32 = .ok (.iconst (-1), 1) := by decide +kernel
theorem dX12_has_33 : decode cX12_has 33 = .ok (.ireturn, 1) := by decide +kernel
theorem dX12_here_0 : decode cX12_here 0 = .ok (.aload_n 0, 1) := by decide +kernel
theorem dX12_here_1 : decode cX12_here 1 = .ok (.aload_n 0, 1) := by decide +kernel
theorem dX12_here_2 : decode cX12_here 2 = .ok (.getfield 69, 3) := by decide +kernel
theorem dX12_here_5 : decode cX12_here 5 = .ok (.invokevirtual 170, 3) := by decide +kernel
theorem dX12_here_8 : decode cX12_here 8 = .ok (.bipush 10, 2) := by decide +kernel
theorem dX12_here_10 : decode cX12_here 10 = .ok (.if_icmp .eq 16, 3) := by decide +kernel
theorem dX12_here_13 : decode cX12_here 13 = .ok (.aload_n 0, 1) := by decide +kernel
theorem dX12_here_14 : decode cX12_here 14 = .ok (.aload_n 0, 1) := by decide +kernel
theorem dX12_here_15 : decode cX12_here 15 = .ok (.getfield 69, 3) := by decide +kernel
theorem dX12_here_18 : decode cX12_here 18 = .ok (.invokevirtual 170, 3) := by decide +kernel
theorem dX12_here_21 : decode cX12_here 21 = .ok (.bipush 32, 2) := by decide +kernel
theorem dX12_here_23 : decode cX12_here 23 = .ok (.if_icmp .ne 16, 3) := by decide +kernel
theorem dX12_here_39 : decode cX12_here 39 = .ok (.aload_n 0, 1) := by decide +kernel
theorem dX12_here_40 : decode cX12_here 40 = .ok (.aload_n 0, 1) := by decide +kernel
theorem dX12_here_41 : decode cX12_here 41 = .ok (.getfield 69, 3) := by decide +kernel
theorem dX12_here_44 : decode cX12_here 44 = .ok (.invokevirtual 170, 3) := by decide +kernel
theorem dX12_here_47 : decode cX12_here 47 = .ok (.ireturn, 1) := by decide +kernel
theorem dX12_image_0 : decode cX12_image 0 = .ok (.aload_n 0, 1) := by decide +kernel
theorem dX12_image_1 : decode cX12_image 1 = .ok (.iconst 0, 1) := by decide +kernel
theorem dX12_image_2 : decode cX12_image 2 = .ok (.putfield 155, 3) := by decide +kernel
theorem dX12_image_5 : decode cX12_image 5 = .ok (.aload_n 0, 1) := by decide +kernel
theorem dX12_image_6 : decode cX12_image 6 = .ok (.aload_n 0, 1) := by decide +kernel
theorem dX12_image_7 : decode cX12_image 7 = .ok (.getfield 84, 3) := by decide +kernel
theorem dX12_image_10 : decode cX12_image 10 = .ok (.iconst 0, 1) := by decide +kernel
theorem dX12_image_11 : decode cX12_image 11 = .ok (.iaload, 1) := by decide +kernel
theorem dX12_image_12 : decode cX12_image 12 = .ok (.invokevirtual 436, 3) := by decide +kernel
theorem dX12_image_15 : decode cX12_image 15 = .ok (.iconst 0, 1) := by decide +kernel
theorem dX12_image_16 : decode cX12_image 16 = .ok (.istore_n 1, 1) := by decide +kernel
theorem dX12_image_17 : decode cX12_image 17 = .ok (.iload_n 1, 1) := by decide +kernel
theorem dX12_image_18 : decode cX12_image 18 = .ok (.aload_n 0, 1) := by decide +kernel
theorem dX12_image_19 : decode cX12_image 19 = .ok (.getfield 13, 3) := by decide +kernel
theorem dX12_image_22 : decode cX12_image 22 = .ok (.if_icmp .ge 34, 3) := by decide +kernel
theorem dX12_image_56 : decode cX12_image 56 = .ok (.sipush 179, 3) := by decide +kernel
theorem dX12_image_59 : decode cX12_image 59 = .ok (.istore_n 1, 1) := by decide +kernel
theorem dX12_image_60 : decode cX12_image 60 = .ok (.iconst 0, 1) := by decide +kernel
theorem dX12_image_61 : decode cX12_image 61 = .ok (.istore_n 2, 1) := by decide +kernel
theorem dX12_image_62 : decode cX12_image 62 = .ok (.iload_n 2, 1) := by decide +kernel
theorem dX12_image_63 : decode cX12_image 63 = .ok (.aload_n 0, 1) := by decide +kernel
theorem dX12_image_64 : decode cX12_image 64 = .ok (.getfield 155, 3) := by decide +kernel
theorem dX12_image_67 : decode cX12_image 67 = .ok (.if_icmp .ge 24, 3) := by decide +kernel
theorem dX12_image_70 : decode cX12_image 70 = .ok (.iconst 3, 1) := by decide +kernel
theorem dX12_image_71 : decode cX12_image 71 = .ok (.iload_n 1, 1) := by decide +kernel
theorem dX12_image_72 : decode cX12_image 72 = .ok (.imul, 1) := by decide +kernel
theorem dX12_image_73 : decode cX12_image 73 = .ok (.aload_n 0, 1) := by decide +kernel
theorem dX12_image_74 : decode cX12_image 74 = .ok (.getfield 152, 3) := by decide +kernel
theorem dX12_image_77 : decode cX12_image 77 = .ok (.iload_n 2, 1) := by decide +kernel
theorem dX12_image_78 : decode cX12_image 78 = .ok (.iaload, 1) := by decide +kernel
theorem dX12_image_79 : decode cX12_image 79 = .ok (.iadd, 1) := by decide +kernel
theorem dX12_image_80 : decode cX12_image 80 = .ok (.sipush 251, 3) := by decide +kernel
theorem dX12_image_83 : decode cX12_image 83 = .ok (.irem, 1) := by decide +kernel
theorem dX12_image_84 : decode cX12_image 84 = .ok (.istore_n 1, 1) := by decide +kernel
theorem dX12_image_85 : decode cX12_image 85 = .ok (.iinc 2 1, 3) := by decide +kernel
theorem dX12_image_88 : decode cX12_image 88 = .ok (.goto (-26), 3) := by decide +kernel
theorem dX12_image_91 : decode cX12_image 91 = .ok (.aload_n 0, 1) := by decide +kernel
theorem dX12_image_92 : decode cX12_image 92 = .ok (.iload_n 1, 1) := by decide +kernel
theorem dX12_image_93 : decode cX12_image 93 = .ok (.invokevirtual 436, 3) := by decide +kernel
theorem dX12_image_96 : decode cX12_image 96 = .ok (.aload_n 0, 1) := by decide +kernel
theorem dX12_image_97 : decode cX12_image 97 = .ok (.getfield 155, 3) := by decide +kernel
theorem dX12_image_100 : decode cX12_image 100 = .ok (.ireturn, 1) := by decide +kernel
theorem dX12_init_0 : decode cX12_init 0 = .ok (.aload_n 0, 1) := by decide +kernel
theorem dX12_init_1 : decode cX12_init 1 = .ok (.invokespecial 1, 3) := by decide +kernel
theorem dX12_init_4 : decode cX12_init 4 = .ok (.aload_n 0, 1) := by decide +kernel
theorem dX12_init_5 : decode cX12_init 5 = .ok (.iconst 0, 1) := by decide +kernel
theorem dX12_init_6 : decode cX12_init 6 = .ok (.putfield 7, 3) := by decide +kernel
theorem dX12_init_9 : decode cX12_init 9 = .ok (.aload_n 0, 1) := by decide +kernel
theorem dX12_init_10 : decode cX12_init 10 = .ok (.iconst 0, 1) := by decide +kernel
theorem dX12_init_11 : decode cX12_init 11 = .ok (.putfield 13, 3) := by decide +kernel
theorem dX12_init_14 : decode cX12_init 14 = .ok (.aload_n 0, 1) := by decide +kernel
theorem dX12_init_15 : decode cX12_init 15 = .ok (.bipush 96, 2) := by decide +kernel
theorem dX12_init_17 : decode cX12_init 17 = .ok (.newarray .int, 2) := by decide +kernel
theorem dX12_init_19 : decode cX12_init 19 = .ok (.putfield 17, 3) := by decide +kernel
theorem dX12_init_22 : decode cX12_init 22 = .ok (.aload_n 0, 1) := by decide +kernel
theorem dX12_init_23 : decode cX12_init 23 = .ok (.iconst 0, 1) := by decide +kernel
theorem dX12_init_24 : decode cX12_init 24 = .ok (.putfield 21, 3) := by decide +kernel
theorem dX12_init_27 : decode cX12_init 27 = .ok (.aload_n 0, 1) := by decide +kernel
theorem dX12_init_28 : decode cX12_init 28 = .ok (.iconst 0, 1) := by decide +kernel
theorem dX12_init_29 : decode cX12_init 29 = .ok (.putfield 24, 3) := by decide +kernel
theorem dX12_init_32 : decode cX12_init 32 = .ok (.aload_n 0, 1) := by decide +kernel
theorem dX12_init_33 : decode cX12_init 33 = .ok (.bipush 16, 2) := by decide +kernel
theorem dX12_init_35 : decode cX12_init 35 = .ok (.newarray .int, 2) := by decide +kernel
theorem dX12_init_37 : decode cX12_init 37 = .ok (.putfield 27, 3) := by decide +kernel
theorem dX12_init_40 : decode cX12_init 40 = .ok (.aload_n 0, 1) := by decide +kernel
theorem dX12_init_41 : decode cX12_init 41 = .ok (.bipush 96, 2) := by decide +kernel
theorem dX12_init_43 : decode cX12_init 43 = .ok (.newarray .int, 2) := by decide +kernel
theorem dX12_init_45 : decode cX12_init 45 = .ok (.putfield 30, 3) := by decide +kernel
theorem dX12_init_48 : decode cX12_init 48 = .ok (.aload_n 0, 1) := by decide +kernel
theorem dX12_init_49 : decode cX12_init 49 = .ok (.iconst 0, 1) := by decide +kernel
theorem dX12_init_50 : decode cX12_init 50 = .ok (.putfield 33, 3) := by decide +kernel
theorem dX12_init_53 : decode cX12_init 53 = .ok (.aload_n 0, 1) := by decide +kernel
theorem dX12_init_54 : decode cX12_init 54 = .ok (.iconst 4, 1) := by decide +kernel
theorem dX12_init_55 : decode cX12_init 55 = .ok (.newarray .int, 2) := by decide +kernel
theorem dX12_init_57 : decode cX12_init 57 = .ok (.putfield 36, 3) := by decide +kernel
theorem dX12_init_60 : decode cX12_init 60 = .ok (.aload_n 0, 1) := by decide +kernel
theorem dX12_init_61 : decode cX12_init 61 = .ok (.bipush 24, 2) := by decide +kernel
theorem dX12_init_63 : decode cX12_init 63 = .ok (.newarray .int, 2) := by decide +kernel
theorem dX12_init_65 : decode cX12_init 65 = .ok (.putfield 39, 3) := by decide +kernel
theorem dX12_init_68 : decode cX12_init 68 = .ok (.aload_n 0, 1) := by decide +kernel
theorem dX12_init_69 : decode cX12_init 69 = .ok (.iconst 0, 1) := by decide +kernel
theorem dX12_init_70 : decode cX12_init 70 = .ok (.putfield 42, 3) := by decide +kernel
theorem dX12_init_73 : decode cX12_init 73 = .ok (.aload_n 0, 1) := by decide +kernel
theorem dX12_init_74 : decode cX12_init 74 = .ok (.iconst 4, 1) := by decide +kernel
theorem dX12_init_75 : decode cX12_init 75 = .ok (.newarray .int, 2) := by decide +kernel
theorem dX12_init_77 : decode cX12_init 77 = .ok (.putfield 45, 3) := by decide +kernel
theorem dX12_init_80 : decode cX12_init 80 = .ok (.aload_n 0, 1) := by decide +kernel
theorem dX12_init_81 : decode cX12_init 81 = .ok (.bipush 24, 2) := by decide +kernel
theorem dX12_init_83 : decode cX12_init 83 = .ok (.newarray .int, 2) := by decide +kernel
theorem dX12_init_85 : decode cX12_init 85 = .ok (.putfield 48, 3) := by decide +kernel
theorem dX12_init_88 : decode cX12_init 88 = .ok (.aload_n 0, 1) := by decide +kernel
theorem dX12_init_89 : decode cX12_init 89 = .ok (.sipush 1200, 3) := by decide +kernel
theorem dX12_init_92 : decode cX12_init 92 = .ok (.newarray .int, 2) := by decide +kernel
theorem dX12_init_94 : decode cX12_init 94 = .ok (.putfield 51, 3) := by decide +kernel
theorem dX12_init_97 : decode cX12_init 97 = .ok (.aload_n 0, 1) := by decide +kernel
theorem dX12_init_98 : decode cX12_init 98 = .ok (.iconst 0, 1) := by decide +kernel
theorem dX12_init_99 : decode cX12_init 99 = .ok (.putfield 54, 3) := by decide +kernel
theorem dX12_init_102 : decode cX12_init 102 = .ok (.aload_n 0, 1) := by decide +kernel
theorem dX12_init_103 : decode cX12_init 103 = .ok (.bipush 6, 2) := by decide +kernel
theorem dX12_init_105 : decode cX12_init 105 = .ok (.newarray .int, 2) := by decide +kernel
theorem dX12_init_107 : decode cX12_init 107 = .ok (.putfield 57, 3) := by decide +kernel
theorem dX12_init_110 : decode cX12_init 110 = .ok (.aload_n 0, 1) := by decide +kernel
theorem dX12_init_111 : decode cX12_init 111 = .ok (.iconst 0, 1) := by decide +kernel
theorem dX12_init_112 : decode cX12_init 112 = .ok (.putfield 60, 3) := by decide +kernel
theorem dX12_init_115 : decode cX12_init 115 = .ok (.aload_n 0, 1) := by decide +kernel
theorem dX12_init_116 : decode cX12_init 116 = .ok (.iconst (-1), 1) := by decide +kernel
theorem dX12_init_117 : decode cX12_init 117 = .ok (.putfield 63, 3) := by decide +kernel
theorem dX12_init_120 : decode cX12_init 120 = .ok (.aload_n 0, 1) := by decide +kernel
theorem dX12_init_121 : decode cX12_init 121 = .ok (.iconst 0, 1) := by decide +kernel
theorem dX12_init_122 : decode cX12_init 122 = .ok (.putfield 66, 3) := by decide +kernel
theorem dX12_init_125 : decode cX12_init 125 = .ok (.aload_n 0, 1) := by decide +kernel
theorem dX12_init_126 : decode cX12_init 126 = .ok (.iconst 0, 1) := by decide +kernel
theorem dX12_init_127 : decode cX12_init 127 = .ok (.putfield 69, 3) := by decide +kernel
theorem dX12_init_130 : decode cX12_init 130 = .ok (.aload_n 0, 1) := by decide +kernel
theorem dX12_init_131 : decode cX12_init 131 = .ok (.iconst 0, 1) := by decide +kernel
theorem dX12_init_132 : decode cX12_init 132 = .ok (.putfield 72, 3) := by decide +kernel
theorem dX12_init_135 : decode cX12_init 135 = .ok (.aload_n 0, 1) := by decide +kernel
theorem dX12_init_136 : decode cX12_init 136 = .ok (.iconst 0, 1) := by decide +kernel
theorem dX12_init_137 : decode cX12_init 137 = .ok (.putfield 75, 3) := by decide +kernel
theorem dX12_init_140 : decode cX12_init 140 = .ok (.aload_n 0, 1) := by decide +kernel
theorem dX12_init_141 : decode cX12_init 141 = .ok (.iconst (-1), 1) := by decide +kernel
theorem dX12_init_142 : decode cX12_init 142 = .ok (.putfield 78, 3) := by decide +kernel
theorem dX12_init_145 : decode cX12_init 145 = .ok (.aload_n 0, 1) := by decide +kernel
theorem dX12_init_146 : decode cX12_init 146 = .ok (.bipush 36, 2) := by decide +kernel
theorem dX12_init_148 : decode cX12_init 148 = .ok (.newarray .int, 2) := by decide +kernel
theorem dX12_init_150 : decode cX12_init 150 = .ok (.dup, 1) := by decide +kernel
theorem dX12_init_151 : decode cX12_init 151 = .ok (.iconst 0, 1) := by decide +kernel
theorem dX12_init_152 : decode cX12_init 152 = .ok (.bipush 23, 2) := by decide +kernel
theorem dX12_init_154 : decode cX12_init 154 = .ok (.iastore, 1) := by decide +kernel
theorem dX12_init_155 : decode cX12_init 155 = .ok (.dup, 1) := by decide +kernel
theorem dX12_init_156 : decode cX12_init 156 = .ok (.iconst 1, 1) := by decide +kernel
theorem dX12_init_157 : decode cX12_init 157 = .ok (.bipush 8, 2) := by decide +kernel
theorem dX12_init_159 : decode cX12_init 159 = .ok (.iastore, 1) := by decide +kernel
theorem dX12_init_160 : decode cX12_init 160 = .ok (.dup, 1) := by decide +kernel
theorem dX12_init_161 : decode cX12_init 161 = .ok (.iconst 2, 1) := by decide +kernel
theorem dX12_init_162 : decode cX12_init 162 = .ok (.iconst 5, 1) := by decide +kernel
theorem dX12_init_163 : decode cX12_init 163 = .ok (.iastore, 1) := by decide +kernel
theorem dX12_init_164 : decode cX12_init 164 = .ok (.dup, 1) := by decide +kernel
theorem dX12_init_165 : decode cX12_init 165 = .ok (.iconst 3, 1) := by decide +kernel
theorem dX12_init_166 : decode cX12_init 166 = .ok (.iconst 5, 1) := by decide +kernel
theorem dX12_init_167 : decode cX12_init 167 = .ok (.iastore, 1) := by decide +kernel
theorem dX12_init_168 : decode cX12_init 168 = .ok (.dup, 1) := by decide +kernel
theorem dX12_init_169 : decode cX12_init 169 = .ok (.iconst 4, 1) := by decide +kernel
theorem dX12_init_170 : decode cX12_init 170 = .ok (.bipush 12, 2) := by decide +kernel
theorem dX12_init_172 : decode cX12_init 172 = .ok (.iastore, 1) := by decide +kernel
theorem dX12_init_173 : decode cX12_init 173 = .ok (.dup, 1) := by decide +kernel
theorem dX12_init_174 : decode cX12_init 174 = .ok (.iconst 5, 1) := by decide +kernel
theorem dX12_init_175 : decode cX12_init 175 = .ok (.iconst 0, 1) := by decide +kernel
theorem dX12_init_176 : decode cX12_init 176 = .ok (.iastore, 1) := by decide +kernel
theorem dX12_init_177 : decode cX12_init 177 = .ok (.dup, 1) := by decide +kernel
theorem dX12_init_178 : decode cX12_init 178 = .ok (.bipush 6, 2) := by decide +kernel
theorem dX12_init_180 : decode cX12_init 180 = .ok (.bipush 13, 2) := by decide +kernel
theorem dX12_init_182 : decode cX12_init 182 = .ok (.iastore, 1) := by decide +kernel
theorem dX12_init_183 : decode cX12_init 183 = .ok (.dup, 1) := by decide +kernel
theorem dX12_init_184 : decode cX12_init 184 = .ok (.bipush 7, 2) := by decide +kernel
theorem dX12_init_186 : decode cX12_init 186 = .ok (.iconst 5, 1) := by decide +kernel
theorem dX12_init_187 : decode cX12_init 187 = .ok (.iastore, 1) := by decide +kernel
theorem dX12_init_188 : decode cX12_init 188 = .ok (.dup, 1) := by decide +kernel
theorem dX12_init_189 : decode cX12_init 189 = .ok (.bipush 8, 2) := by decide +kernel
theorem dX12_init_191 : decode cX12_init 191 = .ok (.bipush 18, 2) := by decide +kernel
theorem dX12_init_193 : decode cX12_init 193 = .ok (.iastore, 1) := by decide +kernel
theorem dX12_init_194 : decode cX12_init 194 = .ok (.dup, 1) := by decide +kernel
theorem dX12_init_195 : decode cX12_init 195 = .ok (.bipush 9, 2) := by decide +kernel
theorem dX12_init_197 : decode cX12_init 197 = .ok (.bipush 7, 2) := by decide +kernel
theorem dX12_init_199 : decode cX12_init 199 = .ok (.iastore, 1) := by decide +kernel
theorem dX12_init_200 : decode cX12_init 200 = .ok (.dup, 1) := by decide +kernel
theorem dX12_init_201 : decode cX12_init 201 = .ok (.bipush 10, 2) := by decide +kernel
theorem dX12_init_203 : decode cX12_init 203 = .ok (.iconst 5, 1) := by decide +kernel
theorem dX12_init_204 : decode cX12_init 204 = .ok (.iastore, 1) := by decide +kernel
theorem dX12_init_205 : decode cX12_init 205 = .ok (.dup, 1) := by decide +kernel
theorem dX12_init_206 : decode cX12_init 206 = .ok (.bipush 11, 2) := by decide +kernel
theorem dX12_init_208 : decode cX12_init 208 = .ok (.iconst 0, 1) := by decide +kernel
theorem dX12_init_209 : decode cX12_init 209 = .ok (.iastore, 1) := by decide +kernel
theorem dX12_init_210 : decode cX12_init 210 = .ok (.dup, 1) := by decide +kernel
theorem dX12_init_211 : decode cX12_init 211 = .ok (.bipush 12, 2) := by decide +kernel
theorem dX12_init_213 : decode cX12_init 213 = .ok (.bipush 20, 2) := by decide +kernel
theorem dX12_init_215 : decode cX12_init 215 = .ok (.iastore, 1) := by decide +kernel
theorem dX12_init_216 : decode cX12_init 216 = .ok (.dup, 1) := by decide +kernel
theorem dX12_init_217 : decode cX12_init 217 = .ok (.bipush 13, 2) := by decide +kernel
theorem dX12_init_219 : decode cX12_init 219 = .ok (.bipush 8, 2) := by decide +kernel
theorem dX12_init_221 : decode cX12_init 221 = .ok (.iastore, 1) := by decide +kernel
theorem dX12_init_222 : decode cX12_init 222 = .ok (.dup, 1) := by decide +kernel
theorem dX12_init_223 : decode cX12_init 223 = .ok (.bipush 14, 2) := by decide +kernel
theorem dX12_init_225 : decode cX12_init 225 = .ok (.bipush 9, 2) := by decide +kernel
theorem dX12_init_227 : decode cX12_init 227 = .ok (.iastore, 1) := by decide +kernel
theorem dX12_init_228 : decode cX12_init 228 = .ok (.dup, 1) := by decide +kernel
theorem dX12_init_229 : decode cX12_init 229 = .ok (.bipush 15, 2) := by decide +kernel
theorem dX12_init_231 : decode cX12_init 231 = .ok (.bipush 14, 2) := by decide +kernel
theorem dX12_init_233 : decode cX12_init 233 = .ok (.iastore, 1) := by decide +kernel
theorem dX12_init_234 : decode cX12_init 234 = .ok (.dup, 1) := by decide +kernel
theorem dX12_init_235 : decode cX12_init 235 = .ok (.bipush 16, 2) := by decide +kernel
theorem dX12_init_237 : decode cX12_init 237 = .ok (.bipush 7, 2) := by decide +kernel
theorem dX12_init_239 : decode cX12_init 239 = .ok (.iastore, 1) := by decide +kernel
theorem dX12_init_240 : decode cX12_init 240 = .ok (.dup, 1) := by decide +kernel
theorem dX12_init_241 : decode cX12_init 241 = .ok (.bipush 17, 2) := by decide +kernel
theorem dX12_init_243 : decode cX12_init 243 = .ok (.iconst 0, 1) := by decide +kernel
theorem dX12_init_244 : decode cX12_init 244 = .ok (.iastore, 1) := by decide +kernel
theorem dX12_init_245 : decode cX12_init 245 = .ok (.dup, 1) := by decide +kernel
theorem dX12_init_246 : decode cX12_init 246 = .ok (.bipush 18, 2) := by decide +kernel
theorem dX12_init_248 : decode cX12_init 248 = .ok (.bipush 23, 2) := by decide +kernel
theorem dX12_init_250 : decode cX12_init 250 = .ok (.iastore, 1) := by decide +kernel
theorem dX12_init_251 : decode cX12_init 251 = .ok (.dup, 1) := by decide +kernel
theorem dX12_init_252 : decode cX12_init 252 = .ok (.bipush 19, 2) := by decide +kernel
theorem dX12_init_254 : decode cX12_init 254 = .ok (.iconst 5, 1) := by decide +kernel
theorem dX12_init_255 : decode cX12_init 255 = .ok (.iastore, 1) := by decide +kernel
theorem dX12_init_256 : decode cX12_init 256 = .ok (.dup, 1) := by decide +kernel
theorem dX12_init_257 : decode cX12_init 257 = .ok (.bipush 20, 2) := by decide +kernel
theorem dX12_init_259 : decode cX12_init 259 = .ok (.bipush 9, 2) := by decide +kernel
theorem dX12_init_261 : decode cX12_init 261 = .ok (.iastore, 1) := by decide +kernel
theorem dX12_init_262 : decode cX12_init 262 = .ok (.dup, 1) := by decide +kernel
theorem dX12_init_263 : decode cX12_init 263 = .ok (.bipush 21, 2) := by decide +kernel
theorem dX12_init_265 : decode cX12_init 265 = .ok (.bipush 7, 2) := by decide +kernel
theorem dX12_init_267 : decode cX12_init 267 = .ok (.iastore, 1) := by decide +kernel
theorem dX12_init_268 : decode cX12_init 268 = .ok (.dup, 1) := by decide +kernel
theorem dX12_init_269 : decode cX12_init 269 = .ok (.bipush 22, 2) := by decide +kernel
theorem dX12_init_271 : decode cX12_init 271 = .ok (.bipush 8, 2) := by decide +kernel
theorem dX12_init_273 : decode cX12_init 273 = .ok (.iastore, 1) := by decide +kernel
theorem dX12_init_274 : decode cX12_init 274 = .ok (.dup, 1) := by decide +kernel
theorem dX12_init_275 : decode cX12_init 275 = .ok (.bipush 23, 2) := by decide +kernel
theorem dX12_init_277 : decode cX12_init 277 = .ok (.bipush 19, 2) := by decide +kernel
theorem dX12_init_279 : decode cX12_init 279 = .ok (.iastore, 1) := by decide +kernel
theorem dX12_init_280 : decode cX12_init 280 = .ok (.dup, 1) := by decide +kernel
theorem dX12_init_281 : decode cX12_init 281 = .ok (.bipush 24, 2) := by decide +kernel
theorem dX12_init_283 : decode cX12_init 283 = .ok (.iconst 0, 1) := by decide +kernel
theorem dX12_init_284 : decode cX12_init 284 = .ok (.iastore, 1) := by decide +kernel
theorem dX12_init_285 : decode cX12_init 285 = .ok (.dup, 1) := by decide +kernel
theorem dX12_init_286 : decode cX12_init 286 = .ok (.bipush 25, 2) := by decide +kernel
theorem dX12_init_288 : decode cX12_init 288 = .ok (.iconst 2, 1) := by decide +kernel
theorem dX12_init_289 : decode cX12_init 289 = .ok (.iastore, 1) := by decide +kernel
theorem dX12_init_290 : decode cX12_init 290 = .ok (.dup, 1) := by decide +kernel
theorem dX12_init_291 : decode cX12_init 291 = .ok (.bipush 26, 2) := by decide +kernel
theorem dX12_init_293 : decode cX12_init 293 = .ok (.bipush 25, 2) := by decide +kernel
theorem dX12_init_295 : decode cX12_init 295 = .ok (.iastore, 1) := by decide +kernel
theorem dX12_init_296 : decode cX12_init 296 = .ok (.dup, 1) := by decide +kernel
theorem dX12_init_297 : decode cX12_init 297 = .ok (.bipush 27, 2) := by decide +kernel
theorem dX12_init_299 : decode cX12_init 299 = .ok (.iconst 0, 1) := by decide +kernel
theorem dX12_init_300 : decode cX12_init 300 = .ok (.iastore, 1) := by decide +kernel
theorem dX12_init_301 : decode cX12_init 301 = .ok (.dup, 1) := by decide +kernel
theorem dX12_init_302 : decode cX12_init 302 = .ok (.bipush 28, 2) := by decide +kernel
theorem dX12_init_304 : decode cX12_init 304 = .ok (.bipush 20, 2) := by decide +kernel
theorem dX12_init_306 : decode cX12_init 306 = .ok (.iastore, 1) := by decide +kernel
theorem dX12_init_307 : decode cX12_init 307 = .ok (.dup, 1) := by decide +kernel
theorem dX12_init_308 : decode cX12_init 308 = .ok (.bipush 29, 2) := by decide +kernel
theorem dX12_init_310 : decode cX12_init 310 = .ok (.iconst 5, 1) := by decide +kernel
theorem dX12_init_311 : decode cX12_init 311 = .ok (.iastore, 1) := by decide +kernel
theorem dX12_init_312 : decode cX12_init 312 = .ok (.dup, 1) := by decide +kernel
theorem dX12_init_313 : decode cX12_init 313 = .ok (.bipush 30, 2) := by decide +kernel
theorem dX12_init_315 : decode cX12_init 315 = .ok (.iconst 1, 1) := by decide +kernel
theorem dX12_init_316 : decode cX12_init 316 = .ok (.iastore, 1) := by decide +kernel
theorem dX12_init_317 : decode cX12_init 317 = .ok (.dup, 1) := by decide +kernel
theorem dX12_init_318 : decode cX12_init 318 = .ok (.bipush 31, 2) := by decide +kernel
theorem dX12_init_320 : decode cX12_init 320 = .ok (.bipush 13, 2) := by decide +kernel
theorem dX12_init_322 : decode cX12_init 322 = .ok (.iastore, 1) := by decide +kernel
theorem dX12_init_323 : decode cX12_init 323 = .ok (.dup, 1) := by decide +kernel
theorem dX12_init_324 : decode cX12_init 324 = .ok (.bipush 32, 2) := by decide +kernel
theorem dX12_init_326 : decode cX12_init 326 = .ok (.iconst 0, 1) := by decide +kernel
theorem dX12_init_327 : decode cX12_init 327 = .ok (.iastore, 1) := by decide +kernel
theorem dX12_init_328 : decode cX12_init 328 = .ok (.dup, 1) := by decide +kernel
theorem dX12_init_329 : decode cX12_init 329 = .ok (.bipush 33, 2) := by decide +kernel
theorem dX12_init_331 : decode cX12_init 331 = .ok (.bipush 15, 2) := by decide +kernel
theorem dX12_init_333 : decode cX12_init 333 = .ok (.iastore, 1) := by decide +kernel
theorem dX12_init_334 : decode cX12_init 334 = .ok (.dup, 1) := by decide +kernel
theorem dX12_init_335 : decode cX12_init 335 = .ok (.bipush 34, 2) := by decide +kernel
theorem dX12_init_337 : decode cX12_init 337 = .ok (.bipush 6, 2) := by decide +kernel
theorem dX12_init_339 : decode cX12_init 339 = .ok (.iastore, 1) := by decide +kernel
theorem dX12_init_340 : decode cX12_init 340 = .ok (.dup, 1) := by decide +kernel
theorem dX12_init_341 : decode cX12_init 341 = .ok (.bipush 35, 2) := by decide +kernel
theorem dX12_init_343 : decode cX12_init 343 = .ok (.iconst 0, 1) := by decide +kernel
theorem dX12_init_344 : decode cX12_init 344 = .ok (.iastore, 1) := by decide +kernel
theorem dX12_init_345 : decode cX12_init 345 = .ok (.putfield 81, 3) := by decide +kernel
theorem dX12_init_348 : decode cX12_init 348 = .ok (.aload_n 0, 1) := by decide +kernel
theorem dX12_init_349 : decode cX12_init 349 = .ok (.sipush 3252, 3) := by decide +kernel
theorem dX12_init_352 : decode cX12_init 352 = .ok (.newarray .int, 2) := by decide +kernel
theorem dX12_init_354 : decode cX12_init 354 = .ok (.putfield 84, 3) := by decide +kernel
theorem dX12_init_357 : decode cX12_init 357 = .ok (.aload_n 0, 1) := by decide +kernel
theorem dX12_init_358 : decode cX12_init 358 = .ok (.ldc 87, 2) := by decide +kernel
theorem dX12_init_360 : decode cX12_init 360 = .ok (.newarray .int, 2) := by decide +kernel
theorem dX12_init_362 : decode cX12_init 362 = .ok (.putfield 88, 3) := by decide +kernel
theorem dX12_init_365 : decode cX12_init 365 = .ok (.aload_n 0, 1) := by decide +kernel
theorem dX12_init_366 : decode cX12_init 366 = .ok (.iconst 0, 1) := by decide +kernel
theorem dX12_init_367 : decode cX12_init 367 = .ok (.putfield 91, 3) := by decide +kernel
theorem dX12_init_370 : decode cX12_init 370 = .ok (.aload_n 0, 1) := by decide +kernel
theorem dX12_init_371 : decode cX12_init 371 = .ok (.bipush 16, 2) := by decide +kernel
theorem dX12_init_373 : decode cX12_init 373 = .ok (.newarray .int, 2) := by decide +kernel
theorem dX12_init_375 : decode cX12_init 375 = .ok (.putfield 94, 3) := by decide +kernel
theorem dX12_init_378 : decode cX12_init 378 = .ok (.aload_n 0, 1) := by decide +kernel
theorem dX12_init_379 : decode cX12_init 379 = .ok (.bipush 16, 2) := by decide +kernel
theorem dX12_init_381 : decode cX12_init 381 = .ok (.newarray .int, 2) := by decide +kernel
theorem dX12_init_383 : decode cX12_init 383 = .ok (.putfield 97, 3) := by decide +kernel
theorem dX12_init_386 : decode cX12_init 386 = .ok (.aload_n 0, 1) := by decide +kernel
theorem dX12_init_387 : decode cX12_init 387 = .ok (.bipush 16, 2) := by decide +kernel
theorem dX12_init_389 : decode cX12_init 389 = .ok (.newarray .long, 2) := by decide +kernel
theorem dX12_init_391 : decode cX12_init 391 = .ok (.putfield 100, 3) := by decide +kernel
theorem dX12_init_394 : decode cX12_init 394 = .ok (.aload_n 0, 1) := by decide +kernel
theorem dX12_init_395 : decode cX12_init 395 = .ok (.bipush 16, 2) := by decide +kernel
theorem dX12_init_397 : decode cX12_init 397 = .ok (.newarray .int, 2) := by decide +kernel
theorem dX12_init_399 : decode cX12_init 399 = .ok (.putfield 104, 3) := by decide +kernel
theorem dX12_init_402 : decode cX12_init 402 = .ok (.aload_n 0, 1) := by decide +kernel
theorem dX12_init_403 : decode cX12_init 403 = .ok (.iconst 0, 1) := by decide +kernel
theorem dX12_init_404 : decode cX12_init 404 = .ok (.putfield 107, 3) := by decide +kernel
theorem dX12_init_407 : decode cX12_init 407 = .ok (.aload_n 0, 1) := by decide +kernel
theorem dX12_init_408 : decode cX12_init 408 = .ok (.iconst 0, 1) := by decide +kernel
theorem dX12_init_409 : decode cX12_init 409 = .ok (.putfield 110, 3) := by decide +kernel
theorem dX12_init_412 : decode cX12_init 412 = .ok (.aload_n 0, 1) := by decide +kernel
theorem dX12_init_413 : decode cX12_init 413 = .ok (.iconst 0, 1) := by decide +kernel
theorem dX12_init_414 : decode cX12_init 414 = .ok (.putfield 113, 3) := by decide +kernel
theorem dX12_init_417 : decode cX12_init 417 = .ok (.aload_n 0, 1) := by decide +kernel
theorem dX12_init_418 : decode cX12_init 418 = .ok (.iconst 0, 1) := by decide +kernel
theorem dX12_init_419 : decode cX12_init 419 = .ok (.putfield 116, 3) := by decide +kernel
theorem dX12_init_422 : decode cX12_init 422 = .ok (.aload_n 0, 1) := by decide +kernel
theorem dX12_init_423 : decode cX12_init 423 = .ok (.iconst 0, 1) := by decide +kernel
theorem dX12_init_424 : decode cX12_init 424 = .ok (.putfield 119, 3) := by decide +kernel
theorem dX12_init_427 : decode cX12_init 427 = .ok (.aload_n 0, 1) := by decide +kernel
theorem dX12_init_428 : decode cX12_init 428 = .ok (.iconst 0, 1) := by decide +kernel
theorem dX12_init_429 : decode cX12_init 429 = .ok (.putfield 122, 3) := by decide +kernel
theorem dX12_init_432 : decode cX12_init 432 = .ok (.aload_n 0, 1) := by decide +kernel
theorem dX12_init_433 : decode cX12_init 433 = .ok (.iconst 0, 1) := by decide +kernel
theorem dX12_init_434 : decode cX12_init 434 = .ok (.putfield 125, 3) := by decide +kernel
theorem dX12_init_437 : decode cX12_init 437 = .ok (.aload_n 0, 1) := by decide +kernel
theorem dX12_init_438 : decode cX12_init 438 = .ok (.iconst 0, 1) := by decide +kernel
theorem dX12_init_439 : decode cX12_init 439 = .ok (.putfield 128, 3) := by decide +kernel
theorem dX12_init_442 : decode cX12_init 442 = .ok (.aload_n 0, 1) := by decide +kernel
theorem dX12_init_443 : decode cX12_init 443 = .ok (.bipush 20, 2) := by decide +kernel
theorem dX12_init_445 : decode cX12_init 445 = .ok (.newarray .int, 2) := by decide +kernel
theorem dX12_init_447 : decode cX12_init 447 = .ok (.putfield 131, 3) := by decide +kernel
theorem dX12_init_450 : decode cX12_init 450 = .ok (.aload_n 0, 1) := by decide +kernel
theorem dX12_init_451 : decode cX12_init 451 = .ok (.bipush 20, 2) := by decide +kernel
theorem dX12_init_453 : decode cX12_init 453 = .ok (.newarray .int, 2) := by decide +kernel
theorem dX12_init_455 : decode cX12_init 455 = .ok (.putfield 134, 3) := by decide +kernel
theorem dX12_init_458 : decode cX12_init 458 = .ok (.aload_n 0, 1) := by decide +kernel
theorem dX12_init_459 : decode cX12_init 459 = .ok (.bipush 32, 2) := by decide +kernel
theorem dX12_init_461 : decode cX12_init 461 = .ok (.newarray .int, 2) := by decide +kernel
theorem dX12_init_463 : decode cX12_init 463 = .ok (.putfield 137, 3) := by decide +kernel
theorem dX12_init_466 : decode cX12_init 466 = .ok (.aload_n 0, 1) := by decide +kernel
theorem dX12_init_467 : decode cX12_init 467 = .ok (.bipush 18, 2) := by decide +kernel
theorem dX12_init_469 : decode cX12_init 469 = .ok (.newarray .int, 2) := by decide +kernel
theorem dX12_init_471 : decode cX12_init 471 = .ok (.putfield 140, 3) := by decide +kernel
theorem dX12_init_474 : decode cX12_init 474 = .ok (.aload_n 0, 1) := by decide +kernel
theorem dX12_init_475 : decode cX12_init 475 = .ok (.iconst 0, 1) := by decide +kernel
theorem dX12_init_476 : decode cX12_init 476 = .ok (.putfield 143, 3) := by decide +kernel
theorem dX12_init_479 : decode cX12_init 479 = .ok (.aload_n 0, 1) := by decide +kernel
theorem dX12_init_480 : decode cX12_init 480 = .ok (.iconst 0, 1) := by decide +kernel
theorem dX12_init_481 : decode cX12_init 481 = .ok (.putfield 146, 3) := by decide +kernel
theorem dX12_init_484 : decode cX12_init 484 = .ok (.aload_n 0, 1) := by decide +kernel
theorem dX12_init_485 : decode cX12_init 485 = .ok (.iconst 1, 1) := by decide +kernel
theorem dX12_init_486 : decode cX12_init 486 = .ok (.putfield 149, 3) := by decide +kernel
theorem dX12_init_489 : decode cX12_init 489 = .ok (.aload_n 0, 1) := by decide +kernel
theorem dX12_init_490 : decode cX12_init 490 = .ok (.sipush 130, 3) := by decide +kernel
theorem dX12_init_493 : decode cX12_init 493 = .ok (.newarray .int, 2) := by decide +kernel
theorem dX12_init_495 : decode cX12_init 495 = .ok (.putfield 152, 3) := by decide +kernel
theorem dX12_init_498 : decode cX12_init 498 = .ok (.aload_n 0, 1) := by decide +kernel
theorem dX12_init_499 : decode cX12_init 499 = .ok (.iconst 0, 1) := by decide +kernel
theorem dX12_init_500 : decode cX12_init 500 = .ok (.putfield 155, 3) := by decide +kernel
theorem dX12_init_503 : decode cX12_init 503 = .ok (.return_, 1) := by decide +kernel
theorem dX12_inside_0 : decode cX12_inside 0 = .ok (.aload_n 0, 1) := by decide +kernel
theorem dX12_inside_1 : decode cX12_inside 1 = .ok (.iload_n 1, 1) := by decide +kernel
theorem dX12_inside_2 : decode cX12_inside 2 = .ok (.invokevirtual 375, 3) := by decide +kernel
theorem dX12_inside_5 : decode cX12_inside 5 = .ok (.ifCond .eq 33, 3) := by decide +kernel
theorem dX12_inside_38 : decode cX12_inside 38 = .ok (.iconst (-1), 1) := by decide +kernel
theorem dX12_inside_39 : decode cX12_inside 39 = .ok (.ireturn, 1) := by decide +kernel
theorem dX12_isHeavy_0 : decode cX12_isHeavy 0 = .ok (.aload_n 0, 1) := by decide +kernel
theorem dX12_isHeavy_1 : decode cX12_isHeavy 1 = .ok (.iload_n 1, 1) := by decide +kernel
theorem dX12_isHeavy_2 : decode cX12_isHeavy 2 = .ok (.invokevirtual 369, 3) := by decide +kernel
theorem dX12_isHeavy_5 : decode cX12_isHeavy 5 = .ok (.ifCond .eq 22, 3) := by decide +kernel
theorem dX12_isHeavy_27 : decode cX12_isHeavy 27 = .ok (.iconst 0, 1) := by decide +kernel
theorem dX12_isHeavy_28 : decode cX12_isHeavy 28 = .ok (.ireturn, 1) := by decide +kernel
theorem dX12_isImage_0 : decode cX12_isImage 0 = .ok (.aload_n 0, 1) := by decide +kernel
theorem dX12_isImage_1 : decode cX12_isImage 1 = .ok (.getfield 7, 3) := by decide +kernel
theorem dX12_isImage_4 : decode cX12_isImage 4 = .ok (.ifCond .eq 16, 3) := by decide +kernel
theorem dX12_isImage_20 : decode cX12_isImage 20 = .ok (.iconst 0, 1) := by decide +kernel
theorem dX12_isImage_21 : decode cX12_isImage 21 = .ok (.ireturn, 1) := by decide +kernel
theorem dX12_isIn_0 : decode cX12_isIn 0 = .ok (.iload_n 0, 1) := by decide +kernel
theorem dX12_isIn_1 : decode cX12_isIn 1 = .ok (.iload_n 1, 1) := by decide +kernel
theorem dX12_isIn_2 : decode cX12_isIn 2 = .ok (.if_icmp .lt 12, 3) := by decide +kernel
theorem dX12_isIn_5 : decode cX12_isIn 5 = .ok (.iload_n 0, 1) := by decide +kernel
theorem dX12_isIn_6 : decode cX12_isIn 6 = .ok (.iload_n 2, 1) := by decide +kernel
theorem dX12_isIn_7 : decode cX12_isIn 7 = .ok (.if_icmp .gt 7, 3) := by decide +kernel
theorem dX12_isIn_10 : decode cX12_isIn 10 = .ok (.iconst 1, 1) := by decide +kernel
theorem dX12_isIn_11 : decode cX12_isIn 11 = .ok (.goto 4, 3) := by decide +kernel
theorem dX12_isIn_14 : decode cX12_isIn 14 = .ok (.iconst 0, 1) := by decide +kernel
theorem dX12_isIn_15 : decode cX12_isIn 15 = .ok (.ireturn, 1) := by decide +kernel
theorem dX12_isRefused_0 : decode cX12_isRefused 0 = .ok (.aload_n 0, 1) := by decide +kernel
theorem dX12_isRefused_1 : decode cX12_isRefused 1 = .ok (.getfield 57, 3) := by decide +kernel
theorem dX12_isRefused_4 : decode cX12_isRefused 4 = .ok (.iload_n 1, 1) := by decide +kernel
theorem dX12_isRefused_5 : decode cX12_isRefused 5 = .ok (.dup2, 1) := by decide +kernel
theorem dX12_isRefused_6 : decode cX12_isRefused 6 = .ok (.iaload, 1) := by decide +kernel
theorem dX12_isRefused_7 : decode cX12_isRefused 7 = .ok (.iconst 1, 1) := by decide +kernel
theorem dX12_isRefused_8 : decode cX12_isRefused 8 = .ok (.iadd, 1) := by decide +kernel
theorem dX12_isRefused_9 : decode cX12_isRefused 9 = .ok (.iastore, 1) := by decide +kernel
theorem dX12_isRefused_10 : decode cX12_isRefused 10 = .ok (.iconst 0, 1) := by decide +kernel
theorem dX12_isRefused_11 : decode cX12_isRefused 11 = .ok (.ireturn, 1) := by decide +kernel
