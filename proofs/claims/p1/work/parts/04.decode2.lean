theorem dX11_fault_8 : decode cX11_fault 8 = .ok (.getfield 152, 3) := by decide +kernel
theorem dX11_fault_11 : decode cX11_fault 11 = .ok (.ireturn, 1) := by decide +kernel
theorem dX11_fault_12 : decode cX11_fault 12 = .ok (.iload_n 1, 1) := by decide +kernel
theorem dX11_fault_13 : decode cX11_fault 13 = .ok (.iconst 1, 1) := by decide +kernel
theorem dX11_fault_14 : decode cX11_fault 14 = .ok (.if_icmp .ne 13, 3) := by decide +kernel
theorem dX11_fault_17 : decode cX11_fault 17 = .ok (.aload_n 0, 1) := by decide +kernel
theorem dX11_fault_18 : decode cX11_fault 18 = .ok (.getfield 28, 3) := by decide +kernel
theorem dX11_fault_21 : decode cX11_fault 21 = .ok (.getfield 155, 3) := by decide +kernel
theorem dX11_fault_24 : decode cX11_fault 24 = .ok (.goto 4, 3) := by decide +kernel
theorem dX11_fault_27 : decode cX11_fault 27 = .ok (.iconst (-1), 1) := by decide +kernel
theorem dX11_fault_28 : decode cX11_fault 28 = .ok (.ireturn, 1) := by decide +kernel
theorem dX11_feed_0 : decode cX11_feed 0 = .ok (.aload_n 0, 1) := by decide +kernel
theorem dX11_feed_1 : decode cX11_feed 1 = .ok (.getfield 12, 3) := by decide +kernel
theorem dX11_feed_4 : decode cX11_feed 4 = .ok (.getfield 113, 3) := by decide +kernel
theorem dX11_feed_7 : decode cX11_feed 7 = .ok (.bipush 20, 2) := by decide +kernel
theorem dX11_feed_9 : decode cX11_feed 9 = .ok (.iadd, 1) := by decide +kernel
theorem dX11_feed_10 : decode cX11_feed 10 = .ok (.sipush 1200, 3) := by decide +kernel
theorem dX11_feed_13 : decode cX11_feed 13 = .ok (.if_icmp .le 9, 3) := by decide +kernel
theorem dX11_feed_22 : decode cX11_feed 22 = .ok (.aload_n 0, 1) := by decide +kernel
theorem dX11_feed_23 : decode cX11_feed 23 = .ok (.getfield 12, 3) := by decide +kernel
theorem dX11_feed_26 : decode cX11_feed 26 = .ok (.iload_n 1, 1) := by decide +kernel
theorem dX11_feed_27 : decode cX11_feed 27 = .ok (.invokevirtual 120, 3) := by decide +kernel
theorem dX11_feed_30 : decode cX11_feed 30 = .ok (.aload_n 0, 1) := by decide +kernel
theorem dX11_feed_31 : decode cX11_feed 31 = .ok (.getfield 12, 3) := by decide +kernel
theorem dX11_feed_34 : decode cX11_feed 34 = .ok (.iload_n 2, 1) := by decide +kernel
theorem dX11_feed_35 : decode cX11_feed 35 = .ok (.invokevirtual 120, 3) := by decide +kernel
theorem dX11_feed_38 : decode cX11_feed 38 = .ok (.aload_n 0, 1) := by decide +kernel
theorem dX11_feed_39 : decode cX11_feed 39 = .ok (.getfield 12, 3) := by decide +kernel
theorem dX11_feed_42 : decode cX11_feed 42 = .ok (.iload_n 3, 1) := by decide +kernel
theorem dX11_feed_43 : decode cX11_feed 43 = .ok (.invokevirtual 120, 3) := by decide +kernel
theorem dX11_feed_46 : decode cX11_feed 46 = .ok (.aload_n 0, 1) := by decide +kernel
theorem dX11_feed_47 : decode cX11_feed 47 = .ok (.getfield 12, 3) := by decide +kernel
theorem dX11_feed_50 : decode cX11_feed 50 = .ok (.iload 4, 2) := by decide +kernel
theorem dX11_feed_52 : decode cX11_feed 52 = .ok (.invokevirtual 120, 3) := by decide +kernel
theorem dX11_feed_55 : decode cX11_feed 55 = .ok (.aload_n 0, 1) := by decide +kernel
theorem dX11_feed_56 : decode cX11_feed 56 = .ok (.getfield 12, 3) := by decide +kernel
theorem dX11_feed_59 : decode cX11_feed 59 = .ok (.iload 5, 2) := by decide +kernel
theorem dX11_feed_61 : decode cX11_feed 61 = .ok (.invokevirtual 120, 3) := by decide +kernel
theorem dX11_feed_64 : decode cX11_feed 64 = .ok (.aload_n 0, 1) := by decide +kernel
theorem dX11_feed_65 : decode cX11_feed 65 = .ok (.getfield 12, 3) := by decide +kernel
theorem dX11_feed_68 : decode cX11_feed 68 = .ok (.getfield 113, 3) := by decide +kernel
theorem dX11_feed_71 : decode cX11_feed 71 = .ok (.ireturn, 1) := by decide +kernel
theorem dX11_fewest_0 : decode cX11_fewest 0 = .ok (.aload_n 0, 1) := by decide +kernel
theorem dX11_fewest_1 : decode cX11_fewest 1 = .ok (.getfield 49, 3) := by decide +kernel
theorem dX11_fewest_4 : decode cX11_fewest 4 = .ok (.getfield 170, 3) := by decide +kernel
theorem dX11_fewest_7 : decode cX11_fewest 7 = .ok (.ifCond .le 27, 3) := by decide +kernel
theorem dX11_fewest_34 : decode cX11_fewest 34 = .ok (.iconst (-1), 1) := by decide +kernel
theorem dX11_fewest_35 : decode cX11_fewest 35 = .ok (.ireturn, 1) := by decide +kernel
theorem dX11_fits_0 : decode cX11_fits 0 = .ok (.aload_n 0, 1) := by decide +kernel
theorem dX11_fits_1 : decode cX11_fits 1 = .ok (.getfield 72, 3) := by decide +kernel
theorem dX11_fits_4 : decode cX11_fits 4 = .ok (.getfield 147, 3) := by decide +kernel
theorem dX11_fits_7 : decode cX11_fits 7 = .ok (.ifCond .ne 5, 3) := by decide +kernel
theorem dX11_fits_10 : decode cX11_fits 10 = .ok (.iconst (-1), 1) := by decide +kernel
theorem dX11_fits_11 : decode cX11_fits 11 = .ok (.ireturn, 1) := by decide +kernel
theorem dX11_goes_0 : decode cX11_goes 0 = .ok (.aload_n 0, 1) := by decide +kernel
theorem dX11_goes_1 : decode cX11_goes 1 = .ok (.getfield 49, 3) := by decide +kernel
theorem dX11_goes_4 : decode cX11_goes 4 = .ok (.getfield 173, 3) := by decide +kernel
theorem dX11_goes_7 : decode cX11_goes 7 = .ok (.aload_n 0, 1) := by decide +kernel
theorem dX11_goes_8 : decode cX11_goes 8 = .ok (.getfield 49, 3) := by decide +kernel
theorem dX11_goes_11 : decode cX11_goes 11 = .ok (.getfield 176, 3) := by decide +kernel
theorem dX11_goes_14 : decode cX11_goes 14 = .ok (.iadd, 1) := by decide +kernel
theorem dX11_goes_15 : decode cX11_goes 15 = .ok (.aload_n 0, 1) := by decide +kernel
theorem dX11_goes_16 : decode cX11_goes 16 = .ok (.getfield 49, 3) := by decide +kernel
theorem dX11_goes_19 : decode cX11_goes 19 = .ok (.getfield 170, 3) := by decide +kernel
theorem dX11_goes_22 : decode cX11_goes 22 = .ok (.iload_n 1, 1) := by decide +kernel
theorem dX11_goes_23 : decode cX11_goes 23 = .ok (.invokestatic 252, 3) := by decide +kernel
theorem dX11_goes_26 : decode cX11_goes 26 = .ok (.ireturn, 1) := by decide +kernel
theorem dX11_has_0 : decode cX11_has 0 = .ok (.iload_n 1, 1) := by decide +kernel
theorem dX11_has_1 : decode cX11_has 1 = .ok (.bipush 14, 2) := by decide +kernel
theorem dX11_has_3 : decode cX11_has 3 = .ok (.if_icmp .ne 11, 3) := by decide +kernel
theorem dX11_has_6 : decode cX11_has 6 = .ok (.aload_n 0, 1) := by decide +kernel
theorem dX11_has_7 : decode cX11_has 7 = .ok (.getfield 96, 3) := by decide +kernel
theorem dX11_has_10 : decode cX11_has 10 = .ok (.getfield 109, 3) := by decide +kernel
theorem dX11_has_13 : decode cX11_has 13 = .ok (.ireturn, 1) := by decide +kernel
theorem dX11_has_14 : decode cX11_has 14 = .ok (.iload_n 1, 1) := by decide +kernel
theorem dX11_has_15 : decode cX11_has 15 = .ok (.ifCond .lt 9, 3) := by decide +kernel
theorem dX11_has_18 : decode cX11_has 18 = .ok (.iload_n 1, 1) := by decide +kernel
theorem dX11_has_19 : decode cX11_has 19 = .ok (.bipush 14, 2) := by decide +kernel
theorem dX11_has_21 : decode cX11_has 21 = .ok (.if_icmp .le 5, 3) := by decide +kernel
theorem dX11_has_24 : decode cX11_has 24 = .ok (.iconst (-1), 1) := by decide +kernel
theorem dX11_has_25 : decode cX11_has 25 = .ok (.ireturn, 1) := by decide +kernel
theorem dX11_has_26 : decode cX11_has 26 = .ok (.aload_n 0, 1) := by decide +kernel
theorem dX11_has_27 : decode cX11_has 27 = .ok (.getfield 19, 3) := by decide +kernel
theorem dX11_has_30 : decode cX11_has 30 = .ok (.getfield 137, 3) := by decide +kernel
theorem dX11_has_33 : decode cX11_has 33 = .ok (.ifCond .ne 5, 3) := by decide +kernel
theorem dX11_has_36 : decode cX11_has 36 = .ok (.iconst 0, 1) := by decide +kernel
theorem dX11_has_37 : decode cX11_has 37 = .ok (.ireturn, 1) := by decide +kernel
theorem dX11_image_0 : decode cX11_image 0 = .ok (.aload_n 0, 1) := by decide +kernel
theorem dX11_image_1 : decode cX11_image 1 = .ok (.iconst 0, 1) := by decide +kernel
theorem dX11_image_2 : decode cX11_image 2 = .ok (.putfield 445, 3) := by decide +kernel
theorem dX11_image_5 : decode cX11_image 5 = .ok (.aload_n 0, 1) := by decide +kernel
theorem dX11_image_6 : decode cX11_image 6 = .ok (.aload_n 0, 1) := by decide +kernel
theorem dX11_image_7 : decode cX11_image 7 = .ok (.getfield 35, 3) := by decide +kernel
theorem dX11_image_10 : decode cX11_image 10 = .ok (.getfield 167, 3) := by decide +kernel
theorem dX11_image_13 : decode cX11_image 13 = .ok (.invokevirtual 448, 3) := by decide +kernel
theorem dX11_image_16 : decode cX11_image 16 = .ok (.iconst 0, 1) := by decide +kernel
theorem dX11_image_17 : decode cX11_image 17 = .ok (.istore_n 1, 1) := by decide +kernel
theorem dX11_image_18 : decode cX11_image 18 = .ok (.iload_n 1, 1) := by decide +kernel
theorem dX11_image_19 : decode cX11_image 19 = .ok (.aload_n 0, 1) := by decide +kernel
theorem dX11_image_20 : decode cX11_image 20 = .ok (.getfield 35, 3) := by decide +kernel
theorem dX11_image_23 : decode cX11_image 23 = .ok (.getfield 451, 3) := by decide +kernel
theorem dX11_image_26 : decode cX11_image 26 = .ok (.if_icmp .ge 35, 3) := by decide +kernel
theorem dX11_image_61 : decode cX11_image 61 = .ok (.sipush 179, 3) := by decide +kernel
theorem dX11_image_64 : decode cX11_image 64 = .ok (.istore_n 1, 1) := by decide +kernel
theorem dX11_image_65 : decode cX11_image 65 = .ok (.iconst 0, 1) := by decide +kernel
theorem dX11_image_66 : decode cX11_image 66 = .ok (.istore_n 2, 1) := by decide +kernel
theorem dX11_image_67 : decode cX11_image 67 = .ok (.iload_n 2, 1) := by decide +kernel
theorem dX11_image_68 : decode cX11_image 68 = .ok (.aload_n 0, 1) := by decide +kernel
theorem dX11_image_69 : decode cX11_image 69 = .ok (.getfield 445, 3) := by decide +kernel
theorem dX11_image_72 : decode cX11_image 72 = .ok (.if_icmp .ge 27, 3) := by decide +kernel
theorem dX11_image_75 : decode cX11_image 75 = .ok (.iload_n 2, 1) := by decide +kernel
theorem dX11_image_76 : decode cX11_image 76 = .ok (.sipush 130, 3) := by decide +kernel
theorem dX11_image_79 : decode cX11_image 79 = .ok (.if_icmp .ge 20, 3) := by decide +kernel
theorem dX11_image_82 : decode cX11_image 82 = .ok (.iload_n 1, 1) := by decide +kernel
theorem dX11_image_83 : decode cX11_image 83 = .ok (.aload_n 0, 1) := by decide +kernel
theorem dX11_image_84 : decode cX11_image 84 = .ok (.getfield 106, 3) := by decide +kernel
theorem dX11_image_87 : decode cX11_image 87 = .ok (.iload_n 2, 1) := by decide +kernel
theorem dX11_image_88 : decode cX11_image 88 = .ok (.iaload, 1) := by decide +kernel
theorem dX11_image_89 : decode cX11_image 89 = .ok (.invokestatic 455, 3) := by decide +kernel
theorem dX11_image_92 : decode cX11_image 92 = .ok (.istore_n 1, 1) := by decide +kernel
theorem dX11_image_93 : decode cX11_image 93 = .ok (.iinc 2 1, 3) := by decide +kernel
theorem dX11_image_96 : decode cX11_image 96 = .ok (.goto (-29), 3) := by decide +kernel
theorem dX11_image_99 : decode cX11_image 99 = .ok (.aload_n 0, 1) := by decide +kernel
theorem dX11_image_100 : decode cX11_image 100 = .ok (.iload_n 1, 1) := by decide +kernel
theorem dX11_image_101 : decode cX11_image 101 = .ok (.invokevirtual 448, 3) := by decide +kernel
theorem dX11_image_104 : decode cX11_image 104 = .ok (.aload_n 0, 1) := by decide +kernel
theorem dX11_image_105 : decode cX11_image 105 = .ok (.getfield 445, 3) := by decide +kernel
theorem dX11_image_108 : decode cX11_image 108 = .ok (.ireturn, 1) := by decide +kernel
theorem dX11_init_0 : decode cX11_init 0 = .ok (.aload_n 0, 1) := by decide +kernel
theorem dX11_init_1 : decode cX11_init 1 = .ok (.invokespecial 3, 3) := by decide +kernel
theorem dX11_init_4 : decode cX11_init 4 = .ok (.aload_n 0, 1) := by decide +kernel
theorem dX11_init_5 : decode cX11_init 5 = .ok (.new 9, 3) := by decide +kernel
theorem dX11_init_8 : decode cX11_init 8 = .ok (.dup, 1) := by decide +kernel
theorem dX11_init_9 : decode cX11_init 9 = .ok (.invokespecial 11, 3) := by decide +kernel
theorem dX11_init_12 : decode cX11_init 12 = .ok (.putfield 12, 3) := by decide +kernel
theorem dX11_init_15 : decode cX11_init 15 = .ok (.aload_n 0, 1) := by decide +kernel
theorem dX11_init_16 : decode cX11_init 16 = .ok (.new 16, 3) := by decide +kernel
theorem dX11_init_19 : decode cX11_init 19 = .ok (.dup, 1) := by decide +kernel
theorem dX11_init_20 : decode cX11_init 20 = .ok (.invokespecial 18, 3) := by decide +kernel
theorem dX11_init_23 : decode cX11_init 23 = .ok (.putfield 19, 3) := by decide +kernel
theorem dX11_init_26 : decode cX11_init 26 = .ok (.aload_n 0, 1) := by decide +kernel
theorem dX11_init_27 : decode cX11_init 27 = .ok (.new 23, 3) := by decide +kernel
theorem dX11_init_30 : decode cX11_init 30 = .ok (.dup, 1) := by decide +kernel
theorem dX11_init_31 : decode cX11_init 31 = .ok (.aload_n 0, 1) := by decide +kernel
theorem dX11_init_32 : decode cX11_init 32 = .ok (.getfield 12, 3) := by decide +kernel
theorem dX11_init_35 : decode cX11_init 35 = .ok (.invokespecial 25, 3) := by decide +kernel
theorem dX11_init_38 : decode cX11_init 38 = .ok (.putfield 28, 3) := by decide +kernel
theorem dX11_init_41 : decode cX11_init 41 = .ok (.aload_n 0, 1) := by decide +kernel
theorem dX11_init_42 : decode cX11_init 42 = .ok (.new 32, 3) := by decide +kernel
theorem dX11_init_45 : decode cX11_init 45 = .ok (.dup, 1) := by decide +kernel
theorem dX11_init_46 : decode cX11_init 46 = .ok (.invokespecial 34, 3) := by decide +kernel
theorem dX11_init_49 : decode cX11_init 49 = .ok (.putfield 35, 3) := by decide +kernel
theorem dX11_init_52 : decode cX11_init 52 = .ok (.aload_n 0, 1) := by decide +kernel
theorem dX11_init_53 : decode cX11_init 53 = .ok (.new 39, 3) := by decide +kernel
theorem dX11_init_56 : decode cX11_init 56 = .ok (.dup, 1) := by decide +kernel
theorem dX11_init_57 : decode cX11_init 57 = .ok (.invokespecial 41, 3) := by decide +kernel
theorem dX11_init_60 : decode cX11_init 60 = .ok (.putfield 42, 3) := by decide +kernel
theorem dX11_init_63 : decode cX11_init 63 = .ok (.aload_n 0, 1) := by decide +kernel
theorem dX11_init_64 : decode cX11_init 64 = .ok (.new 46, 3) := by decide +kernel
theorem dX11_init_67 : decode cX11_init 67 = .ok (.dup, 1) := by decide +kernel
theorem dX11_init_68 : decode cX11_init 68 = .ok (.invokespecial 48, 3) := by decide +kernel
theorem dX11_init_71 : decode cX11_init 71 = .ok (.putfield 49, 3) := by decide +kernel
theorem dX11_init_74 : decode cX11_init 74 = .ok (.aload_n 0, 1) := by decide +kernel
theorem dX11_init_75 : decode cX11_init 75 = .ok (.new 53, 3) := by decide +kernel
theorem dX11_init_78 : decode cX11_init 78 = .ok (.dup, 1) := by decide +kernel
theorem dX11_init_79 : decode cX11_init 79 = .ok (.aload_n 0, 1) := by decide +kernel
theorem dX11_init_80 : decode cX11_init 80 = .ok (.getfield 49, 3) := by decide +kernel
theorem dX11_init_83 : decode cX11_init 83 = .ok (.invokespecial 55, 3) := by decide +kernel
theorem dX11_init_86 : decode cX11_init 86 = .ok (.putfield 58, 3) := by decide +kernel
theorem dX11_init_89 : decode cX11_init 89 = .ok (.aload_n 0, 1) := by decide +kernel
theorem dX11_init_90 : decode cX11_init 90 = .ok (.new 62, 3) := by decide +kernel
theorem dX11_init_93 : decode cX11_init 93 = .ok (.dup, 1) := by decide +kernel
theorem dX11_init_94 : decode cX11_init 94 = .ok (.invokespecial 64, 3) := by decide +kernel
theorem dX11_init_97 : decode cX11_init 97 = .ok (.putfield 65, 3) := by decide +kernel
theorem dX11_init_100 : decode cX11_init 100 = .ok (.aload_n 0, 1) := by decide +kernel
theorem dX11_init_101 : decode cX11_init 101 = .ok (.new 69, 3) := by decide +kernel
theorem dX11_init_104 : decode cX11_init 104 = .ok (.dup, 1) := by decide +kernel
theorem dX11_init_105 : decode cX11_init 105 = .ok (.invokespecial 71, 3) := by decide +kernel
theorem dX11_init_108 : decode cX11_init 108 = .ok (.putfield 72, 3) := by decide +kernel
theorem dX11_init_111 : decode cX11_init 111 = .ok (.aload_n 0, 1) := by decide +kernel
theorem dX11_init_112 : decode cX11_init 112 = .ok (.new 76, 3) := by decide +kernel
theorem dX11_init_115 : decode cX11_init 115 = .ok (.dup, 1) := by decide +kernel
theorem dX11_init_116 : decode cX11_init 116 = .ok (.aload_n 0, 1) := by decide +kernel
theorem dX11_init_117 : decode cX11_init 117 = .ok (.getfield 12, 3) := by decide +kernel
theorem dX11_init_120 : decode cX11_init 120 = .ok (.getfield 78, 3) := by decide +kernel
theorem dX11_init_123 : decode cX11_init 123 = .ok (.invokespecial 82, 3) := by decide +kernel
theorem dX11_init_126 : decode cX11_init 126 = .ok (.putfield 85, 3) := by decide +kernel
theorem dX11_init_129 : decode cX11_init 129 = .ok (.aload_n 0, 1) := by decide +kernel
theorem dX11_init_130 : decode cX11_init 130 = .ok (.new 76, 3) := by decide +kernel
theorem dX11_init_133 : decode cX11_init 133 = .ok (.dup, 1) := by decide +kernel
theorem dX11_init_134 : decode cX11_init 134 = .ok (.aload_n 0, 1) := by decide +kernel
theorem dX11_init_135 : decode cX11_init 135 = .ok (.getfield 35, 3) := by decide +kernel
theorem dX11_init_138 : decode cX11_init 138 = .ok (.getfield 89, 3) := by decide +kernel
theorem dX11_init_141 : decode cX11_init 141 = .ok (.invokespecial 82, 3) := by decide +kernel
theorem dX11_init_144 : decode cX11_init 144 = .ok (.putfield 90, 3) := by decide +kernel
theorem dX11_init_147 : decode cX11_init 147 = .ok (.aload_n 0, 1) := by decide +kernel
theorem dX11_init_148 : decode cX11_init 148 = .ok (.new 93, 3) := by decide +kernel
theorem dX11_init_151 : decode cX11_init 151 = .ok (.dup, 1) := by decide +kernel
theorem dX11_init_152 : decode cX11_init 152 = .ok (.invokespecial 95, 3) := by decide +kernel
theorem dX11_init_155 : decode cX11_init 155 = .ok (.putfield 96, 3) := by decide +kernel
theorem dX11_init_158 : decode cX11_init 158 = .ok (.aload_n 0, 1) := by decide +kernel
theorem dX11_init_159 : decode cX11_init 159 = .ok (.bipush 16, 2) := by decide +kernel
theorem dX11_init_161 : decode cX11_init 161 = .ok (.newarray .int, 2) := by decide +kernel
theorem dX11_init_163 : decode cX11_init 163 = .ok (.putfield 100, 3) := by decide +kernel
theorem dX11_init_166 : decode cX11_init 166 = .ok (.aload_n 0, 1) := by decide +kernel
theorem dX11_init_167 : decode cX11_init 167 = .ok (.bipush 6, 2) := by decide +kernel
theorem dX11_init_169 : decode cX11_init 169 = .ok (.newarray .int, 2) := by decide +kernel
theorem dX11_init_171 : decode cX11_init 171 = .ok (.putfield 103, 3) := by decide +kernel
theorem dX11_init_174 : decode cX11_init 174 = .ok (.aload_n 0, 1) := by decide +kernel
theorem dX11_init_175 : decode cX11_init 175 = .ok (.sipush 130, 3) := by decide +kernel
theorem dX11_init_178 : decode cX11_init 178 = .ok (.newarray .int, 2) := by decide +kernel
theorem dX11_init_180 : decode cX11_init 180 = .ok (.putfield 106, 3) := by decide +kernel
theorem dX11_init_183 : decode cX11_init 183 = .ok (.aload_n 0, 1) := by decide +kernel
theorem dX11_init_184 : decode cX11_init 184 = .ok (.getfield 96, 3) := by decide +kernel
theorem dX11_init_187 : decode cX11_init 187 = .ok (.iconst 1, 1) := by decide +kernel
theorem dX11_init_188 : decode cX11_init 188 = .ok (.putfield 109, 3) := by decide +kernel
theorem dX11_init_191 : decode cX11_init 191 = .ok (.return_, 1) := by decide +kernel
theorem dX11_inside_0 : decode cX11_inside 0 = .ok (.aload_n 0, 1) := by decide +kernel
theorem dX11_inside_1 : decode cX11_inside 1 = .ok (.iload_n 1, 1) := by decide +kernel
theorem dX11_inside_2 : decode cX11_inside 2 = .ok (.invokevirtual 281, 3) := by decide +kernel
theorem dX11_inside_5 : decode cX11_inside 5 = .ok (.ifCond .eq 27, 3) := by decide +kernel
theorem dX11_inside_32 : decode cX11_inside 32 = .ok (.iconst (-1), 1) := by decide +kernel
theorem dX11_inside_33 : decode cX11_inside 33 = .ok (.ireturn, 1) := by decide +kernel
theorem dX11_isTeam_0 : decode cX11_isTeam 0 = .ok (.iload_n 1, 1) := by decide +kernel
theorem dX11_isTeam_1 : decode cX11_isTeam 1 = .ok (.ifCond .lt 23, 3) := by decide +kernel
theorem dX11_isTeam_4 : decode cX11_isTeam 4 = .ok (.iload_n 1, 1) := by decide +kernel
theorem dX11_isTeam_5 : decode cX11_isTeam 5 = .ok (.aload_n 0, 1) := by decide +kernel
theorem dX11_isTeam_6 : decode cX11_isTeam 6 = .ok (.getfield 19, 3) := by decide +kernel
theorem dX11_isTeam_9 : decode cX11_isTeam 9 = .ok (.getfield 468, 3) := by decide +kernel
theorem dX11_isTeam_12 : decode cX11_isTeam 12 = .ok (.if_icmp .ge 12, 3) := by decide +kernel
theorem dX11_isTeam_24 : decode cX11_isTeam 24 = .ok (.iconst 0, 1) := by decide +kernel
theorem dX11_isTeam_25 : decode cX11_isTeam 25 = .ok (.ireturn, 1) := by decide +kernel
theorem dX11_isThing_0 : decode cX11_isThing 0 = .ok (.iload_n 1, 1) := by decide +kernel
theorem dX11_isThing_1 : decode cX11_isThing 1 = .ok (.ifCond .lt 24, 3) := by decide +kernel
theorem dX11_isThing_4 : decode cX11_isThing 4 = .ok (.iload_n 1, 1) := by decide +kernel
theorem dX11_isThing_5 : decode cX11_isThing 5 = .ok (.aload_n 0, 1) := by decide +kernel
theorem dX11_isThing_6 : decode cX11_isThing 6 = .ok (.getfield 49, 3) := by decide +kernel
theorem dX11_isThing_9 : decode cX11_isThing 9 = .ok (.getfield 164, 3) := by decide +kernel
theorem dX11_isThing_12 : decode cX11_isThing 12 = .ok (.if_icmp .ge 13, 3) := by decide +kernel
theorem dX11_isThing_25 : decode cX11_isThing 25 = .ok (.iconst 0, 1) := by decide +kernel
theorem dX11_isThing_26 : decode cX11_isThing 26 = .ok (.ireturn, 1) := by decide +kernel
theorem dX11_isWay_0 : decode cX11_isWay 0 = .ok (.iload_n 0, 1) := by decide +kernel
theorem dX11_isWay_1 : decode cX11_isWay 1 = .ok (.ifCond .lt 12, 3) := by decide +kernel
theorem dX11_isWay_4 : decode cX11_isWay 4 = .ok (.iload_n 0, 1) := by decide +kernel
theorem dX11_isWay_5 : decode cX11_isWay 5 = .ok (.iconst 2, 1) := by decide +kernel
theorem dX11_isWay_6 : decode cX11_isWay 6 = .ok (.if_icmp .gt 7, 3) := by decide +kernel
theorem dX11_isWay_9 : decode cX11_isWay 9 = .ok (.iconst 1, 1) := by decide +kernel
theorem dX11_isWay_10 : decode cX11_isWay 10 = .ok (.goto 4, 3) := by decide +kernel
theorem dX11_isWay_13 : decode cX11_isWay 13 = .ok (.iconst 0, 1) := by decide +kernel
theorem dX11_isWay_14 : decode cX11_isWay 14 = .ok (.ireturn, 1) := by decide +kernel
theorem dX11_judge_0 : decode cX11_judge 0 = .ok (.aload_n 0, 1) := by decide +kernel
theorem dX11_judge_1 : decode cX11_judge 1 = .ok (.iload_n 1, 1) := by decide +kernel
theorem dX11_judge_2 : decode cX11_judge 2 = .ok (.invokevirtual 204, 3) := by decide +kernel
theorem dX11_judge_5 : decode cX11_judge 5 = .ok (.ifCond .ne 10, 3) := by decide +kernel
theorem dX11_judge_8 : decode cX11_judge 8 = .ok (.aload_n 0, 1) := by decide +kernel
theorem dX11_judge_9 : decode cX11_judge 9 = .ok (.iconst 1, 1) := by decide +kernel
theorem dX11_judge_10 : decode cX11_judge 10 = .ok (.iconst 0, 1) := by decide +kernel
theorem dX11_judge_11 : decode cX11_judge 11 = .ok (.invokevirtual 391, 3) := by decide +kernel
theorem dX11_judge_14 : decode cX11_judge 14 = .ok (.ireturn, 1) := by decide +kernel
theorem dX11_letter_0 : decode cX11_letter 0 = .ok (.aload_n 0, 1) := by decide +kernel
theorem dX11_letter_1 : decode cX11_letter 1 = .ok (.iload_n 1, 1) := by decide +kernel
theorem dX11_letter_2 : decode cX11_letter 2 = .ok (.invokevirtual 204, 3) := by decide +kernel
theorem dX11_letter_5 : decode cX11_letter 5 = .ok (.ifCond .eq 19, 3) := by decide +kernel
theorem dX11_letter_24 : decode cX11_letter 24 = .ok (.iconst (-1), 1) := by decide +kernel
theorem dX11_letter_25 : decode cX11_letter 25 = .ok (.ireturn, 1) := by decide +kernel
theorem dX11_longest_0 : decode cX11_longest 0 = .ok (.aload_n 0, 1) := by decide +kernel
theorem dX11_longest_1 : decode cX11_longest 1 = .ok (.getfield 49, 3) := by decide +kernel
theorem dX11_longest_4 : decode cX11_longest 4 = .ok (.getfield 170, 3) := by decide +kernel
theorem dX11_longest_7 : decode cX11_longest 7 = .ok (.ifCond .le 26, 3) := by decide +kernel
theorem dX11_longest_33 : decode cX11_longest 33 = .ok (.iconst (-1), 1) := by decide +kernel
theorem dX11_longest_34 : decode cX11_longest 34 = .ok (.ireturn, 1) := by decide +kernel
theorem dX11_lowest_0 : decode cX11_lowest 0 = .ok (.iload_n 1, 1) := by decide +kernel
theorem dX11_lowest_1 : decode cX11_lowest 1 = .ok (.ifCond .le 12, 3) := by decide +kernel
theorem dX11_lowest_13 : decode cX11_lowest 13 = .ok (.iconst (-1), 1) := by decide +kernel
theorem dX11_lowest_14 : decode cX11_lowest 14 = .ok (.ireturn, 1) := by decide +kernel
theorem dX11_mass_0 : decode cX11_mass 0 = .ok (.aload_n 0, 1) := by decide +kernel
theorem dX11_mass_1 : decode cX11_mass 1 = .ok (.iload_n 1, 1) := by decide +kernel
theorem dX11_mass_2 : decode cX11_mass 2 = .ok (.invokevirtual 204, 3) := by decide +kernel
theorem dX11_mass_5 : decode cX11_mass 5 = .ok (.ifCond .eq 13, 3) := by decide +kernel
theorem dX11_mass_18 : decode cX11_mass 18 = .ok (.iconst (-1), 1) := by decide +kernel
theorem dX11_mass_19 : decode cX11_mass 19 = .ok (.ireturn, 1) := by decide +kernel
theorem dX11_merge_0 : decode cX11_merge 0 = .ok (.aload_n 0, 1) := by decide +kernel
theorem dX11_merge_1 : decode cX11_merge 1 = .ok (.getfield 19, 3) := by decide +kernel
theorem dX11_merge_4 : decode cX11_merge 4 = .ok (.getfield 137, 3) := by decide +kernel
theorem dX11_merge_7 : decode cX11_merge 7 = .ok (.ifCond .eq 24, 3) := by decide +kernel
theorem dX11_merge_31 : decode cX11_merge 31 = .ok (.aload_n 0, 1) := by decide +kernel
theorem dX11_merge_32 : decode cX11_merge 32 = .ok (.iconst 3, 1) := by decide +kernel
theorem dX11_merge_33 : decode cX11_merge 33 = .ok (.invokevirtual 124, 3) := by decide +kernel
theorem dX11_merge_36 : decode cX11_merge 36 = .ok (.ireturn, 1) := by decide +kernel
theorem dX11_merged_0 : decode cX11_merged 0 = .ok (.aload_n 0, 1) := by decide +kernel
theorem dX11_merged_1 : decode cX11_merged 1 = .ok (.getfield 49, 3) := by decide +kernel
theorem dX11_merged_4 : decode cX11_merged 4 = .ok (.getfield 185, 3) := by decide +kernel
theorem dX11_merged_7 : decode cX11_merged 7 = .ok (.ifCond .ne 9, 3) := by decide +kernel
theorem dX11_merged_10 : decode cX11_merged 10 = .ok (.aload_n 0, 1) := by decide +kernel
theorem dX11_merged_11 : decode cX11_merged 11 = .ok (.iconst 3, 1) := by decide +kernel
theorem dX11_merged_12 : decode cX11_merged 12 = .ok (.invokevirtual 124, 3) := by decide +kernel
theorem dX11_merged_15 : decode cX11_merged 15 = .ok (.ireturn, 1) := by decide +kernel
theorem dX11_merges_0 : decode cX11_merges 0 = .ok (.aload_n 0, 1) := by decide +kernel
theorem dX11_merges_1 : decode cX11_merges 1 = .ok (.iload_n 1, 1) := by decide +kernel
theorem dX11_merges_2 : decode cX11_merges 2 = .ok (.invokevirtual 204, 3) := by decide +kernel
theorem dX11_merges_5 : decode cX11_merges 5 = .ok (.ifCond .eq 10, 3) := by decide +kernel
theorem dX11_merges_15 : decode cX11_merges 15 = .ok (.iconst (-1), 1) := by decide +kernel
theorem dX11_merges_16 : decode cX11_merges 16 = .ok (.ireturn, 1) := by decide +kernel
theorem dX11_needs_0 : decode cX11_needs 0 = .ok (.aload_n 0, 1) := by decide +kernel
theorem dX11_needs_1 : decode cX11_needs 1 = .ok (.iload_n 1, 1) := by decide +kernel
theorem dX11_needs_2 : decode cX11_needs 2 = .ok (.invokevirtual 204, 3) := by decide +kernel
theorem dX11_needs_5 : decode cX11_needs 5 = .ok (.ifCond .eq 16, 3) := by decide +kernel
theorem dX11_needs_21 : decode cX11_needs 21 = .ok (.iconst (-1), 1) := by decide +kernel
theorem dX11_needs_22 : decode cX11_needs 22 = .ok (.ireturn, 1) := by decide +kernel
theorem dX11_nextCheck_0 : decode cX11_nextCheck 0 = .ok (.iconst 3, 1) := by decide +kernel
theorem dX11_nextCheck_1 : decode cX11_nextCheck 1 = .ok (.iload_n 0, 1) := by decide +kernel
theorem dX11_nextCheck_2 : decode cX11_nextCheck 2 = .ok (.imul, 1) := by decide +kernel
theorem dX11_nextCheck_3 : decode cX11_nextCheck 3 = .ok (.iload_n 1, 1) := by decide +kernel
theorem dX11_nextCheck_4 : decode cX11_nextCheck 4 = .ok (.iadd, 1) := by decide +kernel
theorem dX11_nextCheck_5 : decode cX11_nextCheck 5 = .ok (.sipush 251, 3) := by decide +kernel
theorem dX11_nextCheck_8 : decode cX11_nextCheck 8 = .ok (.irem, 1) := by decide +kernel
theorem dX11_nextCheck_9 : decode cX11_nextCheck 9 = .ok (.ireturn, 1) := by decide +kernel
theorem dX11_octet_0 : decode cX11_octet 0 = .ok (.iload_n 1, 1) := by decide +kernel
theorem dX11_octet_1 : decode cX11_octet 1 = .ok (.ifCond .lt 27, 3) := by decide +kernel
theorem dX11_octet_4 : decode cX11_octet 4 = .ok (.iload_n 1, 1) := by decide +kernel
theorem dX11_octet_5 : decode cX11_octet 5 = .ok (.aload_n 0, 1) := by decide +kernel
theorem dX11_octet_6 : decode cX11_octet 6 = .ok (.getfield 445, 3) := by decide +kernel
theorem dX11_octet_9 : decode cX11_octet 9 = .ok (.if_icmp .ge 19, 3) := by decide +kernel
theorem dX11_octet_28 : decode cX11_octet 28 = .ok (.iconst (-1), 1) := by decide +kernel
theorem dX11_octet_29 : decode cX11_octet 29 = .ok (.ireturn, 1) := by decide +kernel
theorem dX11_on_0 : decode cX11_on 0 = .ok (.aload_n 0, 1) := by decide +kernel
theorem dX11_on_1 : decode cX11_on 1 = .ok (.getfield 19, 3) := by decide +kernel
theorem dX11_on_4 : decode cX11_on 4 = .ok (.getfield 137, 3) := by decide +kernel
theorem dX11_on_7 : decode cX11_on 7 = .ok (.ifCond .eq 14, 3) := by decide +kernel
theorem dX11_on_21 : decode cX11_on 21 = .ok (.iconst 0, 1) := by decide +kernel
theorem dX11_on_22 : decode cX11_on 22 = .ok (.istore_n 1, 1) := by decide +kernel
theorem dX11_on_23 : decode cX11_on 23 = .ok (.iload_n 1, 1) := by decide +kernel
theorem dX11_on_24 : decode cX11_on 24 = .ok (.ifCond .eq 110, 3) := by decide +kernel
theorem dX11_on_134 : decode cX11_on 134 = .ok (.aload_n 0, 1) := by decide +kernel
theorem dX11_on_135 : decode cX11_on 135 = .ok (.getfield 12, 3) := by decide +kernel
theorem dX11_on_138 : decode cX11_on 138 = .ok (.iconst 0, 1) := by decide +kernel
theorem dX11_on_139 : decode cX11_on 139 = .ok (.putfield 113, 3) := by decide +kernel
theorem dX11_on_142 : decode cX11_on 142 = .ok (.iload_n 1, 1) := by decide +kernel
theorem dX11_on_143 : decode cX11_on 143 = .ok (.ifCond .ne 11, 3) := by decide +kernel
theorem dX11_on_146 : decode cX11_on 146 = .ok (.aload_n 0, 1) := by decide +kernel
theorem dX11_on_147 : decode cX11_on 147 = .ok (.iconst 5, 1) := by decide +kernel
theorem dX11_on_148 : decode cX11_on 148 = .ok (.invokevirtual 124, 3) := by decide +kernel
theorem dX11_on_151 : decode cX11_on 151 = .ok (.ifCond .eq 7, 3) := by decide +kernel
theorem dX11_on_158 : decode cX11_on 158 = .ok (.iconst 0, 1) := by decide +kernel
theorem dX11_on_159 : decode cX11_on 159 = .ok (.ireturn, 1) := by decide +kernel
theorem dX11_owed_0 : decode cX11_owed 0 = .ok (.aload_n 0, 1) := by decide +kernel
theorem dX11_owed_1 : decode cX11_owed 1 = .ok (.iload_n 1, 1) := by decide +kernel
theorem dX11_owed_2 : decode cX11_owed 2 = .ok (.invokevirtual 204, 3) := by decide +kernel
theorem dX11_owed_5 : decode cX11_owed 5 = .ok (.ifCond .eq 13, 3) := by decide +kernel
theorem dX11_owed_18 : decode cX11_owed 18 = .ok (.ldc_w 277, 3) := by decide +kernel
theorem dX11_owed_21 : decode cX11_owed 21 = .ok (.ireturn, 1) := by decide +kernel
theorem dX11_pairs_0 : decode cX11_pairs 0 = .ok (.aload_n 0, 1) := by decide +kernel
theorem dX11_pairs_1 : decode cX11_pairs 1 = .ok (.getfield 49, 3) := by decide +kernel
theorem dX11_pairs_4 : decode cX11_pairs 4 = .ok (.getfield 170, 3) := by decide +kernel
theorem dX11_pairs_7 : decode cX11_pairs 7 = .ok (.ifCond .le 26, 3) := by decide +kernel
theorem dX11_pairs_33 : decode cX11_pairs 33 = .ok (.iconst (-1), 1) := by decide +kernel
theorem dX11_pairs_34 : decode cX11_pairs 34 = .ok (.ireturn, 1) := by decide +kernel
theorem dX11_pick_0 : decode cX11_pick 0 = .ok (.aload_n 0, 1) := by decide +kernel
theorem dX11_pick_1 : decode cX11_pick 1 = .ok (.getfield 49, 3) := by decide +kernel
theorem dX11_pick_4 : decode cX11_pick 4 = .ok (.getfield 170, 3) := by decide +kernel
theorem dX11_pick_7 : decode cX11_pick 7 = .ok (.ifCond .le 10, 3) := by decide +kernel
theorem dX11_pick_17 : decode cX11_pick 17 = .ok (.aload_n 0, 1) := by decide +kernel
theorem dX11_pick_18 : decode cX11_pick 18 = .ok (.iconst 2, 1) := by decide +kernel
theorem dX11_pick_19 : decode cX11_pick 19 = .ok (.invokevirtual 116, 3) := by decide +kernel
theorem dX11_pick_22 : decode cX11_pick 22 = .ok (.ireturn, 1) := by decide +kernel
theorem dX11_putByte_0 : decode cX11_putByte 0 = .ok (.iload_n 1, 1) := by decide +kernel
theorem dX11_putByte_1 : decode cX11_putByte 1 = .ok (.iconst 2, 1) := by decide +kernel
theorem dX11_putByte_2 : decode cX11_putByte 2 = .ok (.ishr, 1) := by decide +kernel
theorem dX11_putByte_3 : decode cX11_putByte 3 = .ok (.istore_n 3, 1) := by decide +kernel
theorem dX11_putByte_4 : decode cX11_putByte 4 = .ok (.iload_n 3, 1) := by decide +kernel
theorem dX11_putByte_5 : decode cX11_putByte 5 = .ok (.ifCond .lt 44, 3) := by decide +kernel
theorem dX11_putByte_8 : decode cX11_putByte 8 = .ok (.iload_n 3, 1) := by decide +kernel
theorem dX11_putByte_9 : decode cX11_putByte 9 = .ok (.aload_n 0, 1) := by decide +kernel
theorem dX11_putByte_10 : decode cX11_putByte 10 = .ok (.arraylength, 1) := by decide +kernel
theorem dX11_putByte_11 : decode cX11_putByte 11 = .ok (.if_icmp .ge 38, 3) := by decide +kernel
theorem dX11_putByte_14 : decode cX11_putByte 14 = .ok (.bipush 24, 2) := by decide +kernel
theorem dX11_putByte_16 : decode cX11_putByte 16 = .ok (.bipush 8, 2) := by decide +kernel
theorem dX11_putByte_18 : decode cX11_putByte 18 = .ok (.iload_n 1, 1) := by decide +kernel
theorem dX11_putByte_19 : decode cX11_putByte 19 = .ok (.iconst 3, 1) := by decide +kernel
theorem dX11_putByte_20 : decode cX11_putByte 20 = .ok (.iand, 1) := by decide +kernel
theorem dX11_putByte_21 : decode cX11_putByte 21 = .ok (.imul, 1) := by decide +kernel
theorem dX11_putByte_22 : decode cX11_putByte 22 = .ok (.isub, 1) := by decide +kernel
theorem dX11_putByte_23 : decode cX11_putByte 23 = .ok (.istore 4, 2) := by decide +kernel
theorem dX11_putByte_25 : decode cX11_putByte 25 = .ok (.aload_n 0, 1) := by decide +kernel
theorem dX11_putByte_26 : decode cX11_putByte 26 = .ok (.iload_n 3, 1) := by decide +kernel
theorem dX11_putByte_27 : decode cX11_putByte 27 = .ok (.aload_n 0, 1) := by decide +kernel
theorem dX11_putByte_28 : decode cX11_putByte 28 = .ok (.iload_n 3, 1) := by decide +kernel
theorem dX11_putByte_29 : decode cX11_putByte 29 = .ok (.iaload, 1) := by decide +kernel
theorem dX11_putByte_30 : decode cX11_putByte 30 = .ok (.sipush 255, 3) := by decide +kernel
theorem dX11_putByte_33 : decode cX11_putByte 33 = .ok (.iload 4, 2) := by decide +kernel
theorem dX11_putByte_35 : decode cX11_putByte 35 = .ok (.ishl, 1) := by decide +kernel
theorem dX11_putByte_36 : decode cX11_putByte 36 = .ok (.iconst (-1), 1) := by decide +kernel
theorem dX11_putByte_37 : decode cX11_putByte 37 = .ok (.ixor, 1) := by decide +kernel
theorem dX11_putByte_38 : decode cX11_putByte 38 = .ok (.iand, 1) := by decide +kernel
theorem dX11_putByte_39 : decode cX11_putByte 39 = .ok (.iload_n 2, 1) := by decide +kernel
theorem dX11_putByte_40 : decode cX11_putByte 40 = .ok (.sipush 255, 3) := by decide +kernel
theorem dX11_putByte_43 : decode cX11_putByte 43 = .ok (.iand, 1) := by decide +kernel
theorem dX11_putByte_44 : decode cX11_putByte 44 = .ok (.iload 4, 2) := by decide +kernel
theorem dX11_putByte_46 : decode cX11_putByte 46 = .ok (.ishl, 1) := by decide +kernel
theorem dX11_putByte_47 : decode cX11_putByte 47 = .ok (.ior, 1) := by decide +kernel
theorem dX11_putByte_48 : decode cX11_putByte 48 = .ok (.iastore, 1) := by decide +kernel
theorem dX11_putByte_49 : decode cX11_putByte 49 = .ok (.return_, 1) := by decide +kernel
theorem dX11_quorum_0 : decode cX11_quorum 0 = .ok (.aload_n 0, 1) := by decide +kernel
theorem dX11_quorum_1 : decode cX11_quorum 1 = .ok (.getfield 49, 3) := by decide +kernel
theorem dX11_quorum_4 : decode cX11_quorum 4 = .ok (.getfield 170, 3) := by decide +kernel
theorem dX11_quorum_7 : decode cX11_quorum 7 = .ok (.ifCond .le 20, 3) := by decide +kernel
theorem dX11_quorum_27 : decode cX11_quorum 27 = .ok (.iconst (-1), 1) := by decide +kernel
theorem dX11_quorum_28 : decode cX11_quorum 28 = .ok (.ireturn, 1) := by decide +kernel
theorem dX11_rank_0 : decode cX11_rank 0 = .ok (.aload_n 0, 1) := by decide +kernel
theorem dX11_rank_1 : decode cX11_rank 1 = .ok (.getfield 49, 3) := by decide +kernel
theorem dX11_rank_4 : decode cX11_rank 4 = .ok (.iload_n 1, 1) := by decide +kernel
theorem dX11_rank_5 : decode cX11_rank 5 = .ok (.invokevirtual 249, 3) := by decide +kernel
theorem dX11_rank_8 : decode cX11_rank 8 = .ok (.ireturn, 1) := by decide +kernel
theorem dX11_refuse_0 : decode cX11_refuse 0 = .ok (.iload_n 1, 1) := by decide +kernel
theorem dX11_refuse_1 : decode cX11_refuse 1 = .ok (.ifCond .lt 22, 3) := by decide +kernel
theorem dX11_refuse_4 : decode cX11_refuse 4 = .ok (.iload_n 1, 1) := by decide +kernel
theorem dX11_refuse_5 : decode cX11_refuse 5 = .ok (.aload_n 0, 1) := by decide +kernel
theorem dX11_refuse_6 : decode cX11_refuse 6 = .ok (.getfield 103, 3) := by decide +kernel
theorem dX11_refuse_9 : decode cX11_refuse 9 = .ok (.arraylength, 1) := by decide +kernel
theorem dX11_refuse_10 : decode cX11_refuse 10 = .ok (.if_icmp .ge 13, 3) := by decide +kernel
theorem dX11_refuse_13 : decode cX11_refuse 13 = .ok (.aload_n 0, 1) := by decide +kernel
theorem dX11_refuse_14 : decode cX11_refuse 14 = .ok (.getfield 103, 3) := by decide +kernel
theorem dX11_refuse_17 : decode cX11_refuse 17 = .ok (.iload_n 1, 1) := by decide +kernel
theorem dX11_refuse_18 : decode cX11_refuse 18 = .ok (.dup2, 1) := by decide +kernel
theorem dX11_refuse_19 : decode cX11_refuse 19 = .ok (.iaload, 1) := by decide +kernel
theorem dX11_refuse_20 : decode cX11_refuse 20 = .ok (.iconst 1, 1) := by decide +kernel
theorem dX11_refuse_21 : decode cX11_refuse 21 = .ok (.iadd, 1) := by decide +kernel
theorem dX11_refuse_22 : decode cX11_refuse 22 = .ok (.iastore, 1) := by decide +kernel
theorem dX11_refuse_23 : decode cX11_refuse 23 = .ok (.iconst (-1), 1) := by decide +kernel
theorem dX11_refuse_24 : decode cX11_refuse 24 = .ok (.ireturn, 1) := by decide +kernel
theorem dX11_rows_0 : decode cX11_rows 0 = .ok (.aload_n 0, 1) := by decide +kernel
theorem dX11_rows_1 : decode cX11_rows 1 = .ok (.getfield 49, 3) := by decide +kernel
theorem dX11_rows_4 : decode cX11_rows 4 = .ok (.getfield 170, 3) := by decide +kernel
theorem dX11_rows_7 : decode cX11_rows 7 = .ok (.ifCond .le 30, 3) := by decide +kernel
theorem dX11_rows_37 : decode cX11_rows 37 = .ok (.iconst (-1), 1) := by decide +kernel
theorem dX11_rows_38 : decode cX11_rows 38 = .ok (.ireturn, 1) := by decide +kernel
theorem dX11_rowsIn_0 : decode cX11_rowsIn 0 = .ok (.aload_n 0, 1) := by decide +kernel
theorem dX11_rowsIn_1 : decode cX11_rowsIn 1 = .ok (.iload_n 1, 1) := by decide +kernel
theorem dX11_rowsIn_2 : decode cX11_rowsIn 2 = .ok (.invokevirtual 281, 3) := by decide +kernel
theorem dX11_rowsIn_5 : decode cX11_rowsIn 5 = .ok (.ifCond .eq 22, 3) := by decide +kernel
theorem dX11_rowsIn_27 : decode cX11_rowsIn 27 = .ok (.iconst (-1), 1) := by decide +kernel
theorem dX11_rowsIn_28 : decode cX11_rowsIn 28 = .ok (.ireturn, 1) := by decide +kernel
theorem dX11_see_0 : decode cX11_see 0 = .ok (.aload_n 0, 1) := by decide +kernel
theorem dX11_see_1 : decode cX11_see 1 = .ok (.iload_n 1, 1) := by decide +kernel
theorem dX11_see_2 : decode cX11_see 2 = .ok (.invokevirtual 204, 3) := by decide +kernel
theorem dX11_see_5 : decode cX11_see 5 = .ok (.ifCond .eq 28, 3) := by decide +kernel
theorem dX11_see_33 : decode cX11_see 33 = .ok (.iconst 0, 1) := by decide +kernel
theorem dX11_see_34 : decode cX11_see 34 = .ok (.istore_n 2, 1) := by decide +kernel
theorem dX11_see_35 : decode cX11_see 35 = .ok (.iload_n 2, 1) := by decide +kernel
theorem dX11_see_36 : decode cX11_see 36 = .ok (.ifCond .eq 15, 3) := by decide +kernel
theorem dX11_see_51 : decode cX11_see 51 = .ok (.aload_n 0, 1) := by decide +kernel
theorem dX11_see_52 : decode cX11_see 52 = .ok (.getfield 12, 3) := by decide +kernel
theorem dX11_see_55 : decode cX11_see 55 = .ok (.iconst 0, 1) := by decide +kernel
theorem dX11_see_56 : decode cX11_see 56 = .ok (.putfield 113, 3) := by decide +kernel
theorem dX11_see_59 : decode cX11_see 59 = .ok (.iload_n 2, 1) := by decide +kernel
theorem dX11_see_60 : decode cX11_see 60 = .ok (.ifCond .eq 13, 3) := by decide +kernel
theorem dX11_see_73 : decode cX11_see 73 = .ok (.aload_n 0, 1) := by decide +kernel
theorem dX11_see_74 : decode cX11_see 74 = .ok (.iconst 5, 1) := by decide +kernel
theorem dX11_see_75 : decode cX11_see 75 = .ok (.invokevirtual 116, 3) := by decide +kernel
theorem dX11_see_78 : decode cX11_see 78 = .ok (.ireturn, 1) := by decide +kernel
theorem dX11_seed_0 : decode cX11_seed 0 = .ok (.iload_n 1, 1) := by decide +kernel
theorem dX11_seed_1 : decode cX11_seed 1 = .ok (.ifCond .ge 9, 3) := by decide +kernel
theorem dX11_seed_4 : decode cX11_seed 4 = .ok (.aload_n 0, 1) := by decide +kernel
theorem dX11_seed_5 : decode cX11_seed 5 = .ok (.iconst 5, 1) := by decide +kernel
theorem dX11_seed_6 : decode cX11_seed 6 = .ok (.invokevirtual 124, 3) := by decide +kernel
theorem dX11_seed_9 : decode cX11_seed 9 = .ok (.ireturn, 1) := by decide +kernel
theorem dX11_seed_10 : decode cX11_seed 10 = .ok (.aload_n 0, 1) := by decide +kernel
theorem dX11_seed_11 : decode cX11_seed 11 = .ok (.getfield 96, 3) := by decide +kernel
theorem dX11_seed_14 : decode cX11_seed 14 = .ok (.iload_n 1, 1) := by decide +kernel
theorem dX11_seed_15 : decode cX11_seed 15 = .ok (.putfield 109, 3) := by decide +kernel
theorem dX11_seed_18 : decode cX11_seed 18 = .ok (.iconst 1, 1) := by decide +kernel
theorem dX11_seed_19 : decode cX11_seed 19 = .ok (.ireturn, 1) := by decide +kernel
theorem dX11_set_0 : decode cX11_set 0 = .ok (.aload_n 0, 1) := by decide +kernel
theorem dX11_set_1 : decode cX11_set 1 = .ok (.iload_n 1, 1) := by decide +kernel
theorem dX11_set_2 : decode cX11_set 2 = .ok (.iload_n 2, 1) := by decide +kernel
theorem dX11_set_3 : decode cX11_set 3 = .ok (.iload_n 3, 1) := by decide +kernel
theorem dX11_set_4 : decode cX11_set 4 = .ok (.invokevirtual 381, 3) := by decide +kernel
theorem dX11_set_7 : decode cX11_set 7 = .ok (.istore 4, 2) := by decide +kernel
theorem dX11_set_9 : decode cX11_set 9 = .ok (.iload 4, 2) := by decide +kernel
theorem dX11_set_11 : decode cX11_set 11 = .ok (.ifCond .ge 9, 3) := by decide +kernel
theorem dX11_set_14 : decode cX11_set 14 = .ok (.aload_n 0, 1) := by decide +kernel
theorem dX11_set_15 : decode cX11_set 15 = .ok (.iconst 2, 1) := by decide +kernel
theorem dX11_set_16 : decode cX11_set 16 = .ok (.invokevirtual 116, 3) := by decide +kernel
theorem dX11_set_19 : decode cX11_set 19 = .ok (.ireturn, 1) := by decide +kernel
theorem dX11_share_0 : decode cX11_share 0 = .ok (.aload_n 0, 1) := by decide +kernel
theorem dX11_share_1 : decode cX11_share 1 = .ok (.iload_n 1, 1) := by decide +kernel
theorem dX11_share_2 : decode cX11_share 2 = .ok (.invokevirtual 204, 3) := by decide +kernel
theorem dX11_share_5 : decode cX11_share 5 = .ok (.ifCond .eq 26, 3) := by decide +kernel
theorem dX11_share_31 : decode cX11_share 31 = .ok (.iconst (-1), 1) := by decide +kernel
theorem dX11_share_32 : decode cX11_share 32 = .ok (.ireturn, 1) := by decide +kernel
theorem dX11_status_0 : decode cX11_status 0 = .ok (.iload_n 1, 1) := by decide +kernel
theorem dX11_status_1 : decode cX11_status 1 = .ok (.ifCond .lt 21, 3) := by decide +kernel
theorem dX11_status_4 : decode cX11_status 4 = .ok (.iload_n 1, 1) := by decide +kernel
theorem dX11_status_5 : decode cX11_status 5 = .ok (.aload_n 0, 1) := by decide +kernel
theorem dX11_status_6 : decode cX11_status 6 = .ok (.getfield 103, 3) := by decide +kernel
theorem dX11_status_9 : decode cX11_status 9 = .ok (.arraylength, 1) := by decide +kernel
theorem dX11_status_10 : decode cX11_status 10 = .ok (.if_icmp .ge 12, 3) := by decide +kernel
theorem dX11_status_13 : decode cX11_status 13 = .ok (.aload_n 0, 1) := by decide +kernel
theorem dX11_status_14 : decode cX11_status 14 = .ok (.getfield 103, 3) := by decide +kernel
theorem dX11_status_17 : decode cX11_status 17 = .ok (.iload_n 1, 1) := by decide +kernel
theorem dX11_status_18 : decode cX11_status 18 = .ok (.iaload, 1) := by decide +kernel
theorem dX11_status_19 : decode cX11_status 19 = .ok (.goto 4, 3) := by decide +kernel
theorem dX11_status_22 : decode cX11_status 22 = .ok (.iconst (-1), 1) := by decide +kernel
theorem dX11_status_23 : decode cX11_status 23 = .ok (.ireturn, 1) := by decide +kernel
theorem dX11_store_0 : decode cX11_store 0 = .ok (.aload_n 0, 1) := by decide +kernel
theorem dX11_store_1 : decode cX11_store 1 = .ok (.getfield 12, 3) := by decide +kernel
theorem dX11_store_4 : decode cX11_store 4 = .ok (.getfield 113, 3) := by decide +kernel
theorem dX11_store_7 : decode cX11_store 7 = .ok (.istore_n 1, 1) := by decide +kernel
theorem dX11_store_8 : decode cX11_store 8 = .ok (.aload_n 0, 1) := by decide +kernel
theorem dX11_store_9 : decode cX11_store 9 = .ok (.getfield 12, 3) := by decide +kernel
theorem dX11_store_12 : decode cX11_store 12 = .ok (.iconst 0, 1) := by decide +kernel
theorem dX11_store_13 : decode cX11_store 13 = .ok (.putfield 113, 3) := by decide +kernel
theorem dX11_store_16 : decode cX11_store 16 = .ok (.aload_n 0, 1) := by decide +kernel
theorem dX11_store_17 : decode cX11_store 17 = .ok (.getfield 19, 3) := by decide +kernel
theorem dX11_store_20 : decode cX11_store 20 = .ok (.getfield 137, 3) := by decide +kernel
theorem dX11_store_23 : decode cX11_store 23 = .ok (.ifCond .eq 33, 3) := by decide +kernel
theorem dX11_store_56 : decode cX11_store 56 = .ok (.aload_n 0, 1) := by decide +kernel
theorem dX11_store_57 : decode cX11_store 57 = .ok (.iconst 3, 1) := by decide +kernel
theorem dX11_store_58 : decode cX11_store 58 = .ok (.invokevirtual 116, 3) := by decide +kernel
theorem dX11_store_61 : decode cX11_store 61 = .ok (.ireturn, 1) := by decide +kernel
theorem dX11_swings_0 : decode cX11_swings 0 = .ok (.aload_n 0, 1) := by decide +kernel
theorem dX11_swings_1 : decode cX11_swings 1 = .ok (.getfield 49, 3) := by decide +kernel
theorem dX11_swings_4 : decode cX11_swings 4 = .ok (.getfield 170, 3) := by decide +kernel
theorem dX11_swings_7 : decode cX11_swings 7 = .ok (.ifCond .le 19, 3) := by decide +kernel
theorem dX11_swings_26 : decode cX11_swings 26 = .ok (.iconst (-1), 1) := by decide +kernel
theorem dX11_swings_27 : decode cX11_swings 27 = .ok (.ireturn, 1) := by decide +kernel
theorem dX11_team_0 : decode cX11_team 0 = .ok (.aload_n 0, 1) := by decide +kernel
theorem dX11_team_1 : decode cX11_team 1 = .ok (.iload_n 1, 1) := by decide +kernel
theorem dX11_team_2 : decode cX11_team 2 = .ok (.invokevirtual 281, 3) := by decide +kernel
theorem dX11_team_5 : decode cX11_team 5 = .ok (.ifCond .ne 5, 3) := by decide +kernel
theorem dX11_team_8 : decode cX11_team 8 = .ok (.iconst (-1), 1) := by decide +kernel
theorem dX11_team_9 : decode cX11_team 9 = .ok (.ireturn, 1) := by decide +kernel
theorem dX11_tells_0 : decode cX11_tells 0 = .ok (.aload_n 0, 1) := by decide +kernel
theorem dX11_tells_1 : decode cX11_tells 1 = .ok (.getfield 72, 3) := by decide +kernel
theorem dX11_tells_4 : decode cX11_tells 4 = .ok (.getfield 147, 3) := by decide +kernel
theorem dX11_tells_7 : decode cX11_tells 7 = .ok (.ifCond .eq 12, 3) := by decide +kernel
theorem dX11_tells_19 : decode cX11_tells 19 = .ok (.iconst (-1), 1) := by decide +kernel
theorem dX11_tells_20 : decode cX11_tells 20 = .ok (.ireturn, 1) := by decide +kernel
theorem dX11_thing_0 : decode cX11_thing 0 = .ok (.aload_n 0, 1) := by decide +kernel
theorem dX11_thing_1 : decode cX11_thing 1 = .ok (.iload_n 1, 1) := by decide +kernel
theorem dX11_thing_2 : decode cX11_thing 2 = .ok (.invokevirtual 204, 3) := by decide +kernel
theorem dX11_thing_5 : decode cX11_thing 5 = .ok (.ifCond .ne 5, 3) := by decide +kernel
theorem dX11_thing_8 : decode cX11_thing 8 = .ok (.iconst (-1), 1) := by decide +kernel
theorem dX11_thing_9 : decode cX11_thing 9 = .ok (.ireturn, 1) := by decide +kernel
theorem dX11_triedOnTape_0 : decode cX11_triedOnTape 0 = .ok (.aload_n 0, 1) := by decide +kernel
theorem dX11_triedOnTape_1 : decode cX11_triedOnTape 1 = .ok (.getfield 12, 3) := by decide +kernel
theorem dX11_triedOnTape_4 : decode cX11_triedOnTape 4 = .ok (.getfield 113, 3) := by decide +kernel
theorem dX11_triedOnTape_7 : decode cX11_triedOnTape 7 = .ok (.istore 4, 2) := by decide +kernel
theorem dX11_triedOnTape_9 : decode cX11_triedOnTape 9 = .ok (.aload_n 0, 1) := by decide +kernel
theorem dX11_triedOnTape_10 : decode cX11_triedOnTape 10 = .ok (.getfield 12, 3) := by decide +kernel
theorem dX11_triedOnTape_13 : decode cX11_triedOnTape 13 = .ok (.iconst 0, 1) := by decide +kernel
theorem dX11_triedOnTape_14 : decode cX11_triedOnTape 14 = .ok (.putfield 113, 3) := by decide +kernel
theorem dX11_triedOnTape_17 : decode cX11_triedOnTape 17 = .ok (.aload_n 0, 1) := by decide +kernel
theorem dX11_triedOnTape_18 : decode cX11_triedOnTape 18 = .ok (.getfield 49, 3) := by decide +kernel
theorem dX11_triedOnTape_21 : decode cX11_triedOnTape 21 = .ok (.iload_n 2, 1) := by decide +kernel
theorem dX11_triedOnTape_22 : decode cX11_triedOnTape 22 = .ok (.invokevirtual 287, 3) := by decide +kernel
theorem dX11_triedOnTape_25 : decode cX11_triedOnTape 25 = .ok (.ifCond .eq 19, 3) := by decide +kernel
theorem dX11_triedOnTape_44 : decode cX11_triedOnTape 44 = .ok (.iconst (-1), 1) := by decide +kernel
theorem dX11_triedOnTape_45 : decode cX11_triedOnTape 45 = .ok (.ireturn, 1) := by decide +kernel
theorem dX11_tries_0 : decode cX11_tries 0 = .ok (.aload_n 0, 1) := by decide +kernel
theorem dX11_tries_1 : decode cX11_tries 1 = .ok (.iload_n 1, 1) := by decide +kernel
theorem dX11_tries_2 : decode cX11_tries 2 = .ok (.iload_n 1, 1) := by decide +kernel
theorem dX11_tries_3 : decode cX11_tries 3 = .ok (.invokestatic 312, 3) := by decide +kernel
theorem dX11_tries_6 : decode cX11_tries 6 = .ok (.ifCond .eq 8, 3) := by decide +kernel
theorem dX11_tries_9 : decode cX11_tries 9 = .ok (.ldc 197, 2) := by decide +kernel
theorem dX11_tries_11 : decode cX11_tries 11 = .ok (.goto 4, 3) := by decide +kernel
theorem dX11_tries_14 : decode cX11_tries 14 = .ok (.iconst 0, 1) := by decide +kernel
theorem dX11_tries_15 : decode cX11_tries 15 = .ok (.iload_n 2, 1) := by decide +kernel
theorem dX11_tries_16 : decode cX11_tries 16 = .ok (.invokevirtual 296, 3) := by decide +kernel
theorem dX11_tries_19 : decode cX11_tries 19 = .ok (.ireturn, 1) := by decide +kernel
theorem dX11_triesIn_0 : decode cX11_triesIn 0 = .ok (.aload_n 0, 1) := by decide +kernel
theorem dX11_triesIn_1 : decode cX11_triesIn 1 = .ok (.iload_n 1, 1) := by decide +kernel
theorem dX11_triesIn_2 : decode cX11_triesIn 2 = .ok (.invokevirtual 281, 3) := by decide +kernel
theorem dX11_triesIn_5 : decode cX11_triesIn 5 = .ok (.ifCond .eq 15, 3) := by decide +kernel
theorem dX11_triesIn_20 : decode cX11_triesIn 20 = .ok (.iconst 0, 1) := by decide +kernel
theorem dX11_triesIn_21 : decode cX11_triesIn 21 = .ok (.istore_n 3, 1) := by decide +kernel
theorem dX11_triesIn_22 : decode cX11_triesIn 22 = .ok (.aload_n 0, 1) := by decide +kernel
theorem dX11_triesIn_23 : decode cX11_triesIn 23 = .ok (.iconst 1, 1) := by decide +kernel
theorem dX11_triesIn_24 : decode cX11_triesIn 24 = .ok (.iload_n 3, 1) := by decide +kernel
theorem dX11_triesIn_25 : decode cX11_triesIn 25 = .ok (.iload_n 2, 1) := by decide +kernel
theorem dX11_triesIn_26 : decode cX11_triesIn 26 = .ok (.invokevirtual 296, 3) := by decide +kernel
theorem dX11_triesIn_29 : decode cX11_triesIn 29 = .ok (.ireturn, 1) := by decide +kernel
theorem dX11_turnDown_0 : decode cX11_turnDown 0 = .ok (.aload_n 0, 1) := by decide +kernel
theorem dX11_turnDown_1 : decode cX11_turnDown 1 = .ok (.iload_n 1, 1) := by decide +kernel
theorem dX11_turnDown_2 : decode cX11_turnDown 2 = .ok (.putfield 405, 3) := by decide +kernel
theorem dX11_turnDown_5 : decode cX11_turnDown 5 = .ok (.aload_n 0, 1) := by decide +kernel
theorem dX11_turnDown_6 : decode cX11_turnDown 6 = .ok (.iload_n 2, 1) := by decide +kernel
theorem dX11_turnDown_7 : decode cX11_turnDown 7 = .ok (.putfield 408, 3) := by decide +kernel
theorem dX11_turnDown_10 : decode cX11_turnDown 10 = .ok (.iconst (-1), 1) := by decide +kernel
theorem dX11_turnDown_11 : decode cX11_turnDown 11 = .ok (.ireturn, 1) := by decide +kernel
theorem dX11_undo_0 : decode cX11_undo 0 = .ok (.aload_n 0, 1) := by decide +kernel
theorem dX11_undo_1 : decode cX11_undo 1 = .ok (.getfield 42, 3) := by decide +kernel
theorem dX11_undo_4 : decode cX11_undo 4 = .ok (.aload_n 0, 1) := by decide +kernel
theorem dX11_undo_5 : decode cX11_undo 5 = .ok (.getfield 35, 3) := by decide +kernel
theorem dX11_undo_8 : decode cX11_undo 8 = .ok (.invokevirtual 441, 3) := by decide +kernel
theorem dX11_undo_11 : decode cX11_undo 11 = .ok (.ifCond .ne 9, 3) := by decide +kernel
theorem dX11_undo_14 : decode cX11_undo 14 = .ok (.aload_n 0, 1) := by decide +kernel
theorem dX11_undo_15 : decode cX11_undo 15 = .ok (.iconst 4, 1) := by decide +kernel
theorem dX11_undo_16 : decode cX11_undo 16 = .ok (.invokevirtual 124, 3) := by decide +kernel
theorem dX11_undo_19 : decode cX11_undo 19 = .ok (.ireturn, 1) := by decide +kernel
