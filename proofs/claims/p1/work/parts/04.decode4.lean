theorem dX12_isSmall_0 : decode cX12_isSmall 0 = .ok (.aload_n 0, 1) := by decide +kernel
theorem dX12_isSmall_1 : decode cX12_isSmall 1 = .ok (.iload_n 1, 1) := by decide +kernel
theorem dX12_isSmall_2 : decode cX12_isSmall 2 = .ok (.invokevirtual 170, 3) := by decide +kernel
theorem dX12_isSmall_5 : decode cX12_isSmall 5 = .ok (.bipush 97, 2) := by decide +kernel
theorem dX12_isSmall_7 : decode cX12_isSmall 7 = .ok (.if_icmp .lt 17, 3) := by decide +kernel
theorem dX12_isSmall_24 : decode cX12_isSmall 24 = .ok (.iconst 0, 1) := by decide +kernel
theorem dX12_isSmall_25 : decode cX12_isSmall 25 = .ok (.ireturn, 1) := by decide +kernel
theorem dX12_isTeam_0 : decode cX12_isTeam 0 = .ok (.iload_n 1, 1) := by decide +kernel
theorem dX12_isTeam_1 : decode cX12_isTeam 1 = .ok (.iconst 0, 1) := by decide +kernel
theorem dX12_isTeam_2 : decode cX12_isTeam 2 = .ok (.aload_n 0, 1) := by decide +kernel
theorem dX12_isTeam_3 : decode cX12_isTeam 3 = .ok (.getfield 33, 3) := by decide +kernel
theorem dX12_isTeam_6 : decode cX12_isTeam 6 = .ok (.iconst 1, 1) := by decide +kernel
theorem dX12_isTeam_7 : decode cX12_isTeam 7 = .ok (.isub, 1) := by decide +kernel
theorem dX12_isTeam_8 : decode cX12_isTeam 8 = .ok (.invokestatic 197, 3) := by decide +kernel
theorem dX12_isTeam_11 : decode cX12_isTeam 11 = .ok (.ireturn, 1) := by decide +kernel
theorem dX12_isThing_0 : decode cX12_isThing 0 = .ok (.iload_n 1, 1) := by decide +kernel
theorem dX12_isThing_1 : decode cX12_isThing 1 = .ok (.iconst 0, 1) := by decide +kernel
theorem dX12_isThing_2 : decode cX12_isThing 2 = .ok (.aload_n 0, 1) := by decide +kernel
theorem dX12_isThing_3 : decode cX12_isThing 3 = .ok (.getfield 13, 3) := by decide +kernel
theorem dX12_isThing_6 : decode cX12_isThing 6 = .ok (.iconst 1, 1) := by decide +kernel
theorem dX12_isThing_7 : decode cX12_isThing 7 = .ok (.isub, 1) := by decide +kernel
theorem dX12_isThing_8 : decode cX12_isThing 8 = .ok (.invokestatic 197, 3) := by decide +kernel
theorem dX12_isThing_11 : decode cX12_isThing 11 = .ok (.ireturn, 1) := by decide +kernel
theorem dX12_isTotal_0 : decode cX12_isTotal 0 = .ok (.aload_n 0, 1) := by decide +kernel
theorem dX12_isTotal_1 : decode cX12_isTotal 1 = .ok (.bipush 20, 2) := by decide +kernel
theorem dX12_isTotal_3 : decode cX12_isTotal 3 = .ok (.invokevirtual 269, 3) := by decide +kernel
theorem dX12_isTotal_6 : decode cX12_isTotal 6 = .ok (.ifCond .le 7, 3) := by decide +kernel
theorem dX12_isTotal_13 : decode cX12_isTotal 13 = .ok (.iconst 0, 1) := by decide +kernel
theorem dX12_isTotal_14 : decode cX12_isTotal 14 = .ok (.ireturn, 1) := by decide +kernel
theorem dX12_lays_0 : decode cX12_lays 0 = .ok (.iconst 0, 1) := by decide +kernel
theorem dX12_lays_1 : decode cX12_lays 1 = .ok (.istore_n 2, 1) := by decide +kernel
theorem dX12_lays_2 : decode cX12_lays 2 = .ok (.iload_n 2, 1) := by decide +kernel
theorem dX12_lays_3 : decode cX12_lays 3 = .ok (.iconst 4, 1) := by decide +kernel
theorem dX12_lays_4 : decode cX12_lays 4 = .ok (.if_icmp .ge 33, 3) := by decide +kernel
theorem dX12_lays_7 : decode cX12_lays 7 = .ok (.aload_n 0, 1) := by decide +kernel
theorem dX12_lays_8 : decode cX12_lays 8 = .ok (.getfield 51, 3) := by decide +kernel
theorem dX12_lays_11 : decode cX12_lays 11 = .ok (.aload_n 0, 1) := by decide +kernel
theorem dX12_lays_12 : decode cX12_lays 12 = .ok (.getfield 54, 3) := by decide +kernel
theorem dX12_lays_15 : decode cX12_lays 15 = .ok (.iload_n 2, 1) := by decide +kernel
theorem dX12_lays_16 : decode cX12_lays 16 = .ok (.iadd, 1) := by decide +kernel
theorem dX12_lays_17 : decode cX12_lays 17 = .ok (.iload_n 1, 1) := by decide +kernel
theorem dX12_lays_18 : decode cX12_lays 18 = .ok (.bipush 24, 2) := by decide +kernel
theorem dX12_lays_20 : decode cX12_lays 20 = .ok (.bipush 8, 2) := by decide +kernel
theorem dX12_lays_22 : decode cX12_lays 22 = .ok (.iload_n 2, 1) := by decide +kernel
theorem dX12_lays_23 : decode cX12_lays 23 = .ok (.imul, 1) := by decide +kernel
theorem dX12_lays_24 : decode cX12_lays 24 = .ok (.isub, 1) := by decide +kernel
theorem dX12_lays_25 : decode cX12_lays 25 = .ok (.ishr, 1) := by decide +kernel
theorem dX12_lays_26 : decode cX12_lays 26 = .ok (.sipush 255, 3) := by decide +kernel
theorem dX12_lays_29 : decode cX12_lays 29 = .ok (.iand, 1) := by decide +kernel
theorem dX12_lays_30 : decode cX12_lays 30 = .ok (.iastore, 1) := by decide +kernel
theorem dX12_lays_31 : decode cX12_lays 31 = .ok (.iinc 2 1, 3) := by decide +kernel
theorem dX12_lays_34 : decode cX12_lays 34 = .ok (.goto (-32), 3) := by decide +kernel
theorem dX12_lays_37 : decode cX12_lays 37 = .ok (.aload_n 0, 1) := by decide +kernel
theorem dX12_lays_38 : decode cX12_lays 38 = .ok (.dup, 1) := by decide +kernel
theorem dX12_lays_39 : decode cX12_lays 39 = .ok (.getfield 54, 3) := by decide +kernel
theorem dX12_lays_42 : decode cX12_lays 42 = .ok (.iconst 4, 1) := by decide +kernel
theorem dX12_lays_43 : decode cX12_lays 43 = .ok (.iadd, 1) := by decide +kernel
theorem dX12_lays_44 : decode cX12_lays 44 = .ok (.putfield 54, 3) := by decide +kernel
theorem dX12_lays_47 : decode cX12_lays 47 = .ok (.return_, 1) := by decide +kernel
theorem dX12_letter_0 : decode cX12_letter 0 = .ok (.aload_n 0, 1) := by decide +kernel
theorem dX12_letter_1 : decode cX12_letter 1 = .ok (.iload_n 1, 1) := by decide +kernel
theorem dX12_letter_2 : decode cX12_letter 2 = .ok (.invokevirtual 335, 3) := by decide +kernel
theorem dX12_letter_5 : decode cX12_letter 5 = .ok (.ifCond .eq 26, 3) := by decide +kernel
theorem dX12_letter_31 : decode cX12_letter 31 = .ok (.iconst (-1), 1) := by decide +kernel
theorem dX12_letter_32 : decode cX12_letter 32 = .ok (.ireturn, 1) := by decide +kernel
theorem dX12_longest_0 : decode cX12_longest 0 = .ok (.aload_n 0, 1) := by decide +kernel
theorem dX12_longest_1 : decode cX12_longest 1 = .ok (.invokevirtual 348, 3) := by decide +kernel
theorem dX12_longest_4 : decode cX12_longest 4 = .ok (.ifCond .eq 30, 3) := by decide +kernel
theorem dX12_longest_34 : decode cX12_longest 34 = .ok (.iconst (-1), 1) := by decide +kernel
theorem dX12_longest_35 : decode cX12_longest 35 = .ok (.ireturn, 1) := by decide +kernel
theorem dX12_mass_0 : decode cX12_mass 0 = .ok (.aload_n 0, 1) := by decide +kernel
theorem dX12_mass_1 : decode cX12_mass 1 = .ok (.iload_n 1, 1) := by decide +kernel
theorem dX12_mass_2 : decode cX12_mass 2 = .ok (.invokevirtual 335, 3) := by decide +kernel
theorem dX12_mass_5 : decode cX12_mass 5 = .ok (.ifCond .eq 11, 3) := by decide +kernel
theorem dX12_mass_16 : decode cX12_mass 16 = .ok (.iconst (-1), 1) := by decide +kernel
theorem dX12_mass_17 : decode cX12_mass 17 = .ok (.ireturn, 1) := by decide +kernel
theorem dX12_merge_0 : decode cX12_merge 0 = .ok (.aload_n 0, 1) := by decide +kernel
theorem dX12_merge_1 : decode cX12_merge 1 = .ok (.getfield 7, 3) := by decide +kernel
theorem dX12_merge_4 : decode cX12_merge 4 = .ok (.ifCond .eq 23, 3) := by decide +kernel
theorem dX12_merge_27 : decode cX12_merge 27 = .ok (.aload_n 0, 1) := by decide +kernel
theorem dX12_merge_28 : decode cX12_merge 28 = .ok (.iconst 3, 1) := by decide +kernel
theorem dX12_merge_29 : decode cX12_merge 29 = .ok (.invokevirtual 166, 3) := by decide +kernel
theorem dX12_merge_32 : decode cX12_merge 32 = .ok (.ireturn, 1) := by decide +kernel
theorem dX12_merged_0 : decode cX12_merged 0 = .ok (.aload_n 0, 1) := by decide +kernel
theorem dX12_merged_1 : decode cX12_merged 1 = .ok (.invokevirtual 261, 3) := by decide +kernel
theorem dX12_merged_4 : decode cX12_merged 4 = .ok (.ifCond .ne 9, 3) := by decide +kernel
theorem dX12_merged_7 : decode cX12_merged 7 = .ok (.aload_n 0, 1) := by decide +kernel
theorem dX12_merged_8 : decode cX12_merged 8 = .ok (.iconst 3, 1) := by decide +kernel
theorem dX12_merged_9 : decode cX12_merged 9 = .ok (.invokevirtual 166, 3) := by decide +kernel
theorem dX12_merged_12 : decode cX12_merged 12 = .ok (.ireturn, 1) := by decide +kernel
theorem dX12_merges_0 : decode cX12_merges 0 = .ok (.aload_n 0, 1) := by decide +kernel
theorem dX12_merges_1 : decode cX12_merges 1 = .ok (.iload_n 1, 1) := by decide +kernel
theorem dX12_merges_2 : decode cX12_merges 2 = .ok (.invokevirtual 335, 3) := by decide +kernel
theorem dX12_merges_5 : decode cX12_merges 5 = .ok (.ifCond .eq 14, 3) := by decide +kernel
theorem dX12_merges_19 : decode cX12_merges 19 = .ok (.iconst (-1), 1) := by decide +kernel
theorem dX12_merges_20 : decode cX12_merges 20 = .ok (.ireturn, 1) := by decide +kernel
theorem dX12_must_0 : decode cX12_must 0 = .ok (.aload_n 0, 1) := by decide +kernel
theorem dX12_must_1 : decode cX12_must 1 = .ok (.invokevirtual 191, 3) := by decide +kernel
theorem dX12_must_4 : decode cX12_must 4 = .ok (.aload_n 0, 1) := by decide +kernel
theorem dX12_must_5 : decode cX12_must 5 = .ok (.invokevirtual 173, 3) := by decide +kernel
theorem dX12_must_8 : decode cX12_must 8 = .ok (.ifCond .eq 20, 3) := by decide +kernel
theorem dX12_must_28 : decode cX12_must 28 = .ok (.return_, 1) := by decide +kernel
theorem dX12_needs_0 : decode cX12_needs 0 = .ok (.aload_n 0, 1) := by decide +kernel
theorem dX12_needs_1 : decode cX12_needs 1 = .ok (.iload_n 1, 1) := by decide +kernel
theorem dX12_needs_2 : decode cX12_needs 2 = .ok (.invokevirtual 335, 3) := by decide +kernel
theorem dX12_needs_5 : decode cX12_needs 5 = .ok (.ifCond .eq 25, 3) := by decide +kernel
theorem dX12_needs_30 : decode cX12_needs 30 = .ok (.iconst (-1), 1) := by decide +kernel
theorem dX12_needs_31 : decode cX12_needs 31 = .ok (.ireturn, 1) := by decide +kernel
theorem dX12_number_0 : decode cX12_number 0 = .ok (.aload_n 0, 1) := by decide +kernel
theorem dX12_number_1 : decode cX12_number 1 = .ok (.invokevirtual 173, 3) := by decide +kernel
theorem dX12_number_4 : decode cX12_number 4 = .ok (.ifCond .ne 5, 3) := by decide +kernel
theorem dX12_number_7 : decode cX12_number 7 = .ok (.iconst 0, 1) := by decide +kernel
theorem dX12_number_8 : decode cX12_number 8 = .ok (.ireturn, 1) := by decide +kernel
theorem dX12_octet_0 : decode cX12_octet 0 = .ok (.iload_n 1, 1) := by decide +kernel
theorem dX12_octet_1 : decode cX12_octet 1 = .ok (.iconst 0, 1) := by decide +kernel
theorem dX12_octet_2 : decode cX12_octet 2 = .ok (.aload_n 0, 1) := by decide +kernel
theorem dX12_octet_3 : decode cX12_octet 3 = .ok (.getfield 155, 3) := by decide +kernel
theorem dX12_octet_6 : decode cX12_octet 6 = .ok (.iconst 1, 1) := by decide +kernel
theorem dX12_octet_7 : decode cX12_octet 7 = .ok (.isub, 1) := by decide +kernel
theorem dX12_octet_8 : decode cX12_octet 8 = .ok (.invokestatic 197, 3) := by decide +kernel
theorem dX12_octet_11 : decode cX12_octet 11 = .ok (.ifCond .eq 12, 3) := by decide +kernel
theorem dX12_octet_23 : decode cX12_octet 23 = .ok (.iconst (-1), 1) := by decide +kernel
theorem dX12_octet_24 : decode cX12_octet 24 = .ok (.ireturn, 1) := by decide +kernel
theorem dX12_on_0 : decode cX12_on 0 = .ok (.aload_n 0, 1) := by decide +kernel
theorem dX12_on_1 : decode cX12_on 1 = .ok (.invokevirtual 241, 3) := by decide +kernel
theorem dX12_on_4 : decode cX12_on 4 = .ok (.istore_n 1, 1) := by decide +kernel
theorem dX12_on_5 : decode cX12_on 5 = .ok (.aload_n 0, 1) := by decide +kernel
theorem dX12_on_6 : decode cX12_on 6 = .ok (.iload_n 1, 1) := by decide +kernel
theorem dX12_on_7 : decode cX12_on 7 = .ok (.invokevirtual 445, 3) := by decide +kernel
theorem dX12_on_10 : decode cX12_on 10 = .ok (.ifCond .ne 9, 3) := by decide +kernel
theorem dX12_on_13 : decode cX12_on 13 = .ok (.aload_n 0, 1) := by decide +kernel
theorem dX12_on_14 : decode cX12_on 14 = .ok (.iconst 5, 1) := by decide +kernel
theorem dX12_on_15 : decode cX12_on 15 = .ok (.invokevirtual 166, 3) := by decide +kernel
theorem dX12_on_18 : decode cX12_on 18 = .ok (.ireturn, 1) := by decide +kernel
theorem dX12_owed_0 : decode cX12_owed 0 = .ok (.aload_n 0, 1) := by decide +kernel
theorem dX12_owed_1 : decode cX12_owed 1 = .ok (.iload_n 1, 1) := by decide +kernel
theorem dX12_owed_2 : decode cX12_owed 2 = .ok (.invokevirtual 335, 3) := by decide +kernel
theorem dX12_owed_5 : decode cX12_owed 5 = .ok (.ifCond .eq 18, 3) := by decide +kernel
theorem dX12_owed_23 : decode cX12_owed 23 = .ok (.ldc_w 368, 3) := by decide +kernel
theorem dX12_owed_26 : decode cX12_owed 26 = .ok (.ireturn, 1) := by decide +kernel
theorem dX12_pairs_0 : decode cX12_pairs 0 = .ok (.aload_n 0, 1) := by decide +kernel
theorem dX12_pairs_1 : decode cX12_pairs 1 = .ok (.invokevirtual 348, 3) := by decide +kernel
theorem dX12_pairs_4 : decode cX12_pairs 4 = .ok (.ifCond .eq 29, 3) := by decide +kernel
theorem dX12_pairs_33 : decode cX12_pairs 33 = .ok (.iconst (-1), 1) := by decide +kernel
theorem dX12_pairs_34 : decode cX12_pairs 34 = .ok (.ireturn, 1) := by decide +kernel
theorem dX12_pick_0 : decode cX12_pick 0 = .ok (.aload_n 0, 1) := by decide +kernel
theorem dX12_pick_1 : decode cX12_pick 1 = .ok (.invokevirtual 348, 3) := by decide +kernel
theorem dX12_pick_4 : decode cX12_pick 4 = .ok (.ifCond .eq 11, 3) := by decide +kernel
theorem dX12_pick_15 : decode cX12_pick 15 = .ok (.aload_n 0, 1) := by decide +kernel
theorem dX12_pick_16 : decode cX12_pick 16 = .ok (.iconst 2, 1) := by decide +kernel
theorem dX12_pick_17 : decode cX12_pick 17 = .ok (.invokevirtual 158, 3) := by decide +kernel
theorem dX12_pick_20 : decode cX12_pick 20 = .ok (.ireturn, 1) := by decide +kernel
theorem dX12_quorum_0 : decode cX12_quorum 0 = .ok (.aload_n 0, 1) := by decide +kernel
theorem dX12_quorum_1 : decode cX12_quorum 1 = .ok (.invokevirtual 348, 3) := by decide +kernel
theorem dX12_quorum_4 : decode cX12_quorum 4 = .ok (.ifCond .eq 20, 3) := by decide +kernel
theorem dX12_quorum_24 : decode cX12_quorum 24 = .ok (.iconst (-1), 1) := by decide +kernel
theorem dX12_quorum_25 : decode cX12_quorum 25 = .ok (.ireturn, 1) := by decide +kernel
theorem dX12_rank_0 : decode cX12_rank 0 = .ok (.iconst 0, 1) := by decide +kernel
theorem dX12_rank_1 : decode cX12_rank 1 = .ok (.istore_n 2, 1) := by decide +kernel
theorem dX12_rank_2 : decode cX12_rank 2 = .ok (.iload_n 2, 1) := by decide +kernel
theorem dX12_rank_3 : decode cX12_rank 3 = .ok (.aload_n 0, 1) := by decide +kernel
theorem dX12_rank_4 : decode cX12_rank 4 = .ok (.getfield 13, 3) := by decide +kernel
theorem dX12_rank_7 : decode cX12_rank 7 = .ok (.if_icmp .ge 94, 3) := by decide +kernel
theorem dX12_rank_101 : decode cX12_rank 101 = .ok (.iconst (-1), 1) := by decide +kernel
theorem dX12_rank_102 : decode cX12_rank 102 = .ok (.ireturn, 1) := by decide +kernel
theorem dX12_readsAll_0 : decode cX12_readsAll 0 = .ok (.aload_n 0, 1) := by decide +kernel
theorem dX12_readsAll_1 : decode cX12_readsAll 1 = .ok (.iconst 0, 1) := by decide +kernel
theorem dX12_readsAll_2 : decode cX12_readsAll 2 = .ok (.putfield 21, 3) := by decide +kernel
theorem dX12_readsAll_5 : decode cX12_readsAll 5 = .ok (.aload_n 0, 1) := by decide +kernel
theorem dX12_readsAll_6 : decode cX12_readsAll 6 = .ok (.iconst 0, 1) := by decide +kernel
theorem dX12_readsAll_7 : decode cX12_readsAll 7 = .ok (.putfield 42, 3) := by decide +kernel
theorem dX12_readsAll_10 : decode cX12_readsAll 10 = .ok (.aload_n 0, 1) := by decide +kernel
theorem dX12_readsAll_11 : decode cX12_readsAll 11 = .ok (.iconst 0, 1) := by decide +kernel
theorem dX12_readsAll_12 : decode cX12_readsAll 12 = .ok (.invokevirtual 216, 3) := by decide +kernel
theorem dX12_readsAll_15 : decode cX12_readsAll 15 = .ok (.aload_n 0, 1) := by decide +kernel
theorem dX12_readsAll_16 : decode cX12_readsAll 16 = .ok (.iconst 1, 1) := by decide +kernel
theorem dX12_readsAll_17 : decode cX12_readsAll 17 = .ok (.invokevirtual 216, 3) := by decide +kernel
theorem dX12_readsAll_20 : decode cX12_readsAll 20 = .ok (.aload_n 0, 1) := by decide +kernel
theorem dX12_readsAll_21 : decode cX12_readsAll 21 = .ok (.aload_n 0, 1) := by decide +kernel
theorem dX12_readsAll_22 : decode cX12_readsAll 22 = .ok (.iconst 0, 1) := by decide +kernel
theorem dX12_readsAll_23 : decode cX12_readsAll 23 = .ok (.bipush 16, 2) := by decide +kernel
theorem dX12_readsAll_25 : decode cX12_readsAll 25 = .ok (.invokevirtual 219, 3) := by decide +kernel
theorem dX12_readsAll_28 : decode cX12_readsAll 28 = .ok (.putfield 24, 3) := by decide +kernel
theorem dX12_readsAll_31 : decode cX12_readsAll 31 = .ok (.aload_n 0, 1) := by decide +kernel
theorem dX12_readsAll_32 : decode cX12_readsAll 32 = .ok (.invokevirtual 235, 3) := by decide +kernel
theorem dX12_readsAll_35 : decode cX12_readsAll 35 = .ok (.iconst 1, 1) := by decide +kernel
theorem dX12_readsAll_36 : decode cX12_readsAll 36 = .ok (.istore_n 1, 1) := by decide +kernel
theorem dX12_readsAll_37 : decode cX12_readsAll 37 = .ok (.aload_n 0, 1) := by decide +kernel
theorem dX12_readsAll_38 : decode cX12_readsAll 38 = .ok (.invokevirtual 173, 3) := by decide +kernel
theorem dX12_readsAll_41 : decode cX12_readsAll 41 = .ok (.ifCond .eq 25, 3) := by decide +kernel
theorem dX12_readsAll_66 : decode cX12_readsAll 66 = .ok (.iload_n 1, 1) := by decide +kernel
theorem dX12_readsAll_67 : decode cX12_readsAll 67 = .ok (.ireturn, 1) := by decide +kernel
theorem dX12_refuses_0 : decode cX12_refuses 0 = .ok (.aload_n 0, 1) := by decide +kernel
theorem dX12_refuses_1 : decode cX12_refuses 1 = .ok (.getfield 57, 3) := by decide +kernel
theorem dX12_refuses_4 : decode cX12_refuses 4 = .ok (.iload_n 1, 1) := by decide +kernel
theorem dX12_refuses_5 : decode cX12_refuses 5 = .ok (.dup2, 1) := by decide +kernel
theorem dX12_refuses_6 : decode cX12_refuses 6 = .ok (.iaload, 1) := by decide +kernel
theorem dX12_refuses_7 : decode cX12_refuses 7 = .ok (.iconst 1, 1) := by decide +kernel
theorem dX12_refuses_8 : decode cX12_refuses 8 = .ok (.iadd, 1) := by decide +kernel
theorem dX12_refuses_9 : decode cX12_refuses 9 = .ok (.iastore, 1) := by decide +kernel
theorem dX12_refuses_10 : decode cX12_refuses 10 = .ok (.iconst (-1), 1) := by decide +kernel
theorem dX12_refuses_11 : decode cX12_refuses 11 = .ok (.ireturn, 1) := by decide +kernel
theorem dX12_refusesFor_0 : decode cX12_refusesFor 0 = .ok (.aload_n 0, 1) := by decide +kernel
theorem dX12_refusesFor_1 : decode cX12_refusesFor 1 = .ok (.iload_n 1, 1) := by decide +kernel
theorem dX12_refusesFor_2 : decode cX12_refusesFor 2 = .ok (.putfield 143, 3) := by decide +kernel
theorem dX12_refusesFor_5 : decode cX12_refusesFor 5 = .ok (.aload_n 0, 1) := by decide +kernel
theorem dX12_refusesFor_6 : decode cX12_refusesFor 6 = .ok (.iload_n 2, 1) := by decide +kernel
theorem dX12_refusesFor_7 : decode cX12_refusesFor 7 = .ok (.putfield 146, 3) := by decide +kernel
theorem dX12_refusesFor_10 : decode cX12_refusesFor 10 = .ok (.aload_n 0, 1) := by decide +kernel
theorem dX12_refusesFor_11 : decode cX12_refusesFor 11 = .ok (.iconst 2, 1) := by decide +kernel
theorem dX12_refusesFor_12 : decode cX12_refusesFor 12 = .ok (.invokevirtual 158, 3) := by decide +kernel
theorem dX12_refusesFor_15 : decode cX12_refusesFor 15 = .ok (.ireturn, 1) := by decide +kernel
theorem dX12_rows_0 : decode cX12_rows 0 = .ok (.aload_n 0, 1) := by decide +kernel
theorem dX12_rows_1 : decode cX12_rows 1 = .ok (.invokevirtual 348, 3) := by decide +kernel
theorem dX12_rows_4 : decode cX12_rows 4 = .ok (.ifCond .eq 34, 3) := by decide +kernel
theorem dX12_rows_38 : decode cX12_rows 38 = .ok (.iconst (-1), 1) := by decide +kernel
theorem dX12_rows_39 : decode cX12_rows 39 = .ok (.ireturn, 1) := by decide +kernel
theorem dX12_rowsIn_0 : decode cX12_rowsIn 0 = .ok (.aload_n 0, 1) := by decide +kernel
theorem dX12_rowsIn_1 : decode cX12_rowsIn 1 = .ok (.iload_n 1, 1) := by decide +kernel
theorem dX12_rowsIn_2 : decode cX12_rowsIn 2 = .ok (.invokevirtual 375, 3) := by decide +kernel
theorem dX12_rowsIn_5 : decode cX12_rowsIn 5 = .ok (.ifCond .eq 26, 3) := by decide +kernel
theorem dX12_rowsIn_31 : decode cX12_rowsIn 31 = .ok (.iconst (-1), 1) := by decide +kernel
theorem dX12_rowsIn_32 : decode cX12_rowsIn 32 = .ok (.ireturn, 1) := by decide +kernel
theorem dX12_says_0 : decode cX12_says 0 = .ok (.aload_n 0, 1) := by decide +kernel
theorem dX12_says_1 : decode cX12_says 1 = .ok (.getfield 152, 3) := by decide +kernel
theorem dX12_says_4 : decode cX12_says 4 = .ok (.aload_n 0, 1) := by decide +kernel
theorem dX12_says_5 : decode cX12_says 5 = .ok (.getfield 155, 3) := by decide +kernel
theorem dX12_says_8 : decode cX12_says 8 = .ok (.iload_n 1, 1) := by decide +kernel
theorem dX12_says_9 : decode cX12_says 9 = .ok (.sipush 255, 3) := by decide +kernel
theorem dX12_says_12 : decode cX12_says 12 = .ok (.iand, 1) := by decide +kernel
theorem dX12_says_13 : decode cX12_says 13 = .ok (.iastore, 1) := by decide +kernel
theorem dX12_says_14 : decode cX12_says 14 = .ok (.aload_n 0, 1) := by decide +kernel
theorem dX12_says_15 : decode cX12_says 15 = .ok (.dup, 1) := by decide +kernel
theorem dX12_says_16 : decode cX12_says 16 = .ok (.getfield 155, 3) := by decide +kernel
theorem dX12_says_19 : decode cX12_says 19 = .ok (.iconst 1, 1) := by decide +kernel
theorem dX12_says_20 : decode cX12_says 20 = .ok (.iadd, 1) := by decide +kernel
theorem dX12_says_21 : decode cX12_says 21 = .ok (.putfield 155, 3) := by decide +kernel
theorem dX12_says_24 : decode cX12_says 24 = .ok (.return_, 1) := by decide +kernel
theorem dX12_see_0 : decode cX12_see 0 = .ok (.aload_n 0, 1) := by decide +kernel
theorem dX12_see_1 : decode cX12_see 1 = .ok (.invokevirtual 241, 3) := by decide +kernel
theorem dX12_see_4 : decode cX12_see 4 = .ok (.istore_n 2, 1) := by decide +kernel
theorem dX12_see_5 : decode cX12_see 5 = .ok (.aload_n 0, 1) := by decide +kernel
theorem dX12_see_6 : decode cX12_see 6 = .ok (.iload_n 1, 1) := by decide +kernel
theorem dX12_see_7 : decode cX12_see 7 = .ok (.invokevirtual 335, 3) := by decide +kernel
theorem dX12_see_10 : decode cX12_see 10 = .ok (.ifCond .eq 23, 3) := by decide +kernel
theorem dX12_see_33 : decode cX12_see 33 = .ok (.iconst 0, 1) := by decide +kernel
theorem dX12_see_34 : decode cX12_see 34 = .ok (.istore_n 3, 1) := by decide +kernel
theorem dX12_see_35 : decode cX12_see 35 = .ok (.iconst 0, 1) := by decide +kernel
theorem dX12_see_36 : decode cX12_see 36 = .ok (.istore 4, 2) := by decide +kernel
theorem dX12_see_38 : decode cX12_see 38 = .ok (.iload_n 3, 1) := by decide +kernel
theorem dX12_see_39 : decode cX12_see 39 = .ok (.ifCond .eq 52, 3) := by decide +kernel
theorem dX12_see_91 : decode cX12_see 91 = .ok (.iload_n 3, 1) := by decide +kernel
theorem dX12_see_92 : decode cX12_see 92 = .ok (.ifCond .ne 9, 3) := by decide +kernel
theorem dX12_see_95 : decode cX12_see 95 = .ok (.aload_n 0, 1) := by decide +kernel
theorem dX12_see_96 : decode cX12_see 96 = .ok (.iconst 5, 1) := by decide +kernel
theorem dX12_see_97 : decode cX12_see 97 = .ok (.invokevirtual 158, 3) := by decide +kernel
theorem dX12_see_100 : decode cX12_see 100 = .ok (.ireturn, 1) := by decide +kernel
theorem dX12_seed_0 : decode cX12_seed 0 = .ok (.iload_n 1, 1) := by decide +kernel
theorem dX12_seed_1 : decode cX12_seed 1 = .ok (.ifCond .ge 9, 3) := by decide +kernel
theorem dX12_seed_4 : decode cX12_seed 4 = .ok (.aload_n 0, 1) := by decide +kernel
theorem dX12_seed_5 : decode cX12_seed 5 = .ok (.iconst 5, 1) := by decide +kernel
theorem dX12_seed_6 : decode cX12_seed 6 = .ok (.invokevirtual 166, 3) := by decide +kernel
theorem dX12_seed_9 : decode cX12_seed 9 = .ok (.ireturn, 1) := by decide +kernel
theorem dX12_seed_10 : decode cX12_seed 10 = .ok (.aload_n 0, 1) := by decide +kernel
theorem dX12_seed_11 : decode cX12_seed 11 = .ok (.iload_n 1, 1) := by decide +kernel
theorem dX12_seed_12 : decode cX12_seed 12 = .ok (.putfield 149, 3) := by decide +kernel
theorem dX12_seed_15 : decode cX12_seed 15 = .ok (.iconst 1, 1) := by decide +kernel
theorem dX12_seed_16 : decode cX12_seed 16 = .ok (.ireturn, 1) := by decide +kernel
theorem dX12_set_0 : decode cX12_set 0 = .ok (.aload_n 0, 1) := by decide +kernel
theorem dX12_set_1 : decode cX12_set 1 = .ok (.iload_n 1, 1) := by decide +kernel
theorem dX12_set_2 : decode cX12_set 2 = .ok (.invokevirtual 335, 3) := by decide +kernel
theorem dX12_set_5 : decode cX12_set 5 = .ok (.ifCond .ne 10, 3) := by decide +kernel
theorem dX12_set_8 : decode cX12_set 8 = .ok (.aload_n 0, 1) := by decide +kernel
theorem dX12_set_9 : decode cX12_set 9 = .ok (.iconst 1, 1) := by decide +kernel
theorem dX12_set_10 : decode cX12_set 10 = .ok (.iconst 0, 1) := by decide +kernel
theorem dX12_set_11 : decode cX12_set 11 = .ok (.invokevirtual 417, 3) := by decide +kernel
theorem dX12_set_14 : decode cX12_set 14 = .ok (.ireturn, 1) := by decide +kernel
theorem dX12_share_0 : decode cX12_share 0 = .ok (.aload_n 0, 1) := by decide +kernel
theorem dX12_share_1 : decode cX12_share 1 = .ok (.iload_n 1, 1) := by decide +kernel
theorem dX12_share_2 : decode cX12_share 2 = .ok (.invokevirtual 335, 3) := by decide +kernel
theorem dX12_share_5 : decode cX12_share 5 = .ok (.ifCond .eq 43, 3) := by decide +kernel
theorem dX12_share_48 : decode cX12_share 48 = .ok (.iconst (-1), 1) := by decide +kernel
theorem dX12_share_49 : decode cX12_share 49 = .ok (.ireturn, 1) := by decide +kernel
theorem dX12_status_0 : decode cX12_status 0 = .ok (.iload_n 1, 1) := by decide +kernel
theorem dX12_status_1 : decode cX12_status 1 = .ok (.iconst 0, 1) := by decide +kernel
theorem dX12_status_2 : decode cX12_status 2 = .ok (.iconst 5, 1) := by decide +kernel
theorem dX12_status_3 : decode cX12_status 3 = .ok (.invokestatic 197, 3) := by decide +kernel
theorem dX12_status_6 : decode cX12_status 6 = .ok (.ifCond .eq 12, 3) := by decide +kernel
theorem dX12_status_9 : decode cX12_status 9 = .ok (.aload_n 0, 1) := by decide +kernel
theorem dX12_status_10 : decode cX12_status 10 = .ok (.getfield 57, 3) := by decide +kernel
theorem dX12_status_13 : decode cX12_status 13 = .ok (.iload_n 1, 1) := by decide +kernel
theorem dX12_status_14 : decode cX12_status 14 = .ok (.iaload, 1) := by decide +kernel
theorem dX12_status_15 : decode cX12_status 15 = .ok (.goto 4, 3) := by decide +kernel
theorem dX12_status_18 : decode cX12_status 18 = .ok (.iconst (-1), 1) := by decide +kernel
theorem dX12_status_19 : decode cX12_status 19 = .ok (.ireturn, 1) := by decide +kernel
theorem dX12_store_0 : decode cX12_store 0 = .ok (.aload_n 0, 1) := by decide +kernel
theorem dX12_store_1 : decode cX12_store 1 = .ok (.invokevirtual 241, 3) := by decide +kernel
theorem dX12_store_4 : decode cX12_store 4 = .ok (.istore_n 1, 1) := by decide +kernel
theorem dX12_store_5 : decode cX12_store 5 = .ok (.aload_n 0, 1) := by decide +kernel
theorem dX12_store_6 : decode cX12_store 6 = .ok (.getfield 7, 3) := by decide +kernel
theorem dX12_store_9 : decode cX12_store 9 = .ok (.ifCond .eq 24, 3) := by decide +kernel
theorem dX12_store_33 : decode cX12_store 33 = .ok (.aload_n 0, 1) := by decide +kernel
theorem dX12_store_34 : decode cX12_store 34 = .ok (.iconst 3, 1) := by decide +kernel
theorem dX12_store_35 : decode cX12_store 35 = .ok (.invokevirtual 158, 3) := by decide +kernel
theorem dX12_store_38 : decode cX12_store 38 = .ok (.ireturn, 1) := by decide +kernel
theorem dX12_sum_0 : decode cX12_sum 0 = .ok (.iconst 0, 1) := by decide +kernel
theorem dX12_sum_1 : decode cX12_sum 1 = .ok (.istore_n 2, 1) := by decide +kernel
theorem dX12_sum_2 : decode cX12_sum 2 = .ok (.iconst 0, 1) := by decide +kernel
theorem dX12_sum_3 : decode cX12_sum 3 = .ok (.istore_n 3, 1) := by decide +kernel
theorem dX12_sum_4 : decode cX12_sum 4 = .ok (.iload_n 3, 1) := by decide +kernel
theorem dX12_sum_5 : decode cX12_sum 5 = .ok (.aload_n 0, 1) := by decide +kernel
theorem dX12_sum_6 : decode cX12_sum 6 = .ok (.getfield 13, 3) := by decide +kernel
theorem dX12_sum_9 : decode cX12_sum 9 = .ok (.if_icmp .ge 20, 3) := by decide +kernel
theorem dX12_sum_29 : decode cX12_sum 29 = .ok (.iload_n 2, 1) := by decide +kernel
theorem dX12_sum_30 : decode cX12_sum 30 = .ok (.ireturn, 1) := by decide +kernel
theorem dX12_swings_0 : decode cX12_swings 0 = .ok (.aload_n 0, 1) := by decide +kernel
theorem dX12_swings_1 : decode cX12_swings 1 = .ok (.invokevirtual 348, 3) := by decide +kernel
theorem dX12_swings_4 : decode cX12_swings 4 = .ok (.ifCond .eq 19, 3) := by decide +kernel
theorem dX12_swings_23 : decode cX12_swings 23 = .ok (.iconst (-1), 1) := by decide +kernel
theorem dX12_swings_24 : decode cX12_swings 24 = .ok (.ireturn, 1) := by decide +kernel
theorem dX12_taken_0 : decode cX12_taken 0 = .ok (.aload_n 0, 1) := by decide +kernel
theorem dX12_taken_1 : decode cX12_taken 1 = .ok (.getfield 54, 3) := by decide +kernel
theorem dX12_taken_4 : decode cX12_taken 4 = .ok (.istore_n 1, 1) := by decide +kernel
theorem dX12_taken_5 : decode cX12_taken 5 = .ok (.aload_n 0, 1) := by decide +kernel
theorem dX12_taken_6 : decode cX12_taken 6 = .ok (.iconst 0, 1) := by decide +kernel
theorem dX12_taken_7 : decode cX12_taken 7 = .ok (.putfield 54, 3) := by decide +kernel
theorem dX12_taken_10 : decode cX12_taken 10 = .ok (.iload_n 1, 1) := by decide +kernel
theorem dX12_taken_11 : decode cX12_taken 11 = .ok (.ireturn, 1) := by decide +kernel
theorem dX12_team_0 : decode cX12_team 0 = .ok (.aload_n 0, 1) := by decide +kernel
theorem dX12_team_1 : decode cX12_team 1 = .ok (.iload_n 1, 1) := by decide +kernel
theorem dX12_team_2 : decode cX12_team 2 = .ok (.invokevirtual 369, 3) := by decide +kernel
theorem dX12_team_5 : decode cX12_team 5 = .ok (.ifCond .eq 12, 3) := by decide +kernel
theorem dX12_team_17 : decode cX12_team 17 = .ok (.iconst (-1), 1) := by decide +kernel
theorem dX12_team_18 : decode cX12_team 18 = .ok (.ireturn, 1) := by decide +kernel
theorem dX12_tells_0 : decode cX12_tells 0 = .ok (.aload_n 0, 1) := by decide +kernel
theorem dX12_tells_1 : decode cX12_tells 1 = .ok (.getfield 125, 3) := by decide +kernel
theorem dX12_tells_4 : decode cX12_tells 4 = .ok (.ifCond .eq 19, 3) := by decide +kernel
theorem dX12_tells_23 : decode cX12_tells 23 = .ok (.iconst (-1), 1) := by decide +kernel
theorem dX12_tells_24 : decode cX12_tells 24 = .ok (.ireturn, 1) := by decide +kernel
theorem dX12_thing_0 : decode cX12_thing 0 = .ok (.aload_n 0, 1) := by decide +kernel
theorem dX12_thing_1 : decode cX12_thing 1 = .ok (.iload_n 1, 1) := by decide +kernel
theorem dX12_thing_2 : decode cX12_thing 2 = .ok (.invokevirtual 335, 3) := by decide +kernel
theorem dX12_thing_5 : decode cX12_thing 5 = .ok (.ifCond .ne 5, 3) := by decide +kernel
theorem dX12_thing_8 : decode cX12_thing 8 = .ok (.iconst (-1), 1) := by decide +kernel
theorem dX12_thing_9 : decode cX12_thing 9 = .ok (.ireturn, 1) := by decide +kernel
theorem dX12_tries_0 : decode cX12_tries 0 = .ok (.aload_n 0, 1) := by decide +kernel
theorem dX12_tries_1 : decode cX12_tries 1 = .ok (.invokevirtual 241, 3) := by decide +kernel
theorem dX12_tries_4 : decode cX12_tries 4 = .ok (.istore_n 3, 1) := by decide +kernel
theorem dX12_tries_5 : decode cX12_tries 5 = .ok (.aload_n 0, 1) := by decide +kernel
theorem dX12_tries_6 : decode cX12_tries 6 = .ok (.invokevirtual 348, 3) := by decide +kernel
theorem dX12_tries_9 : decode cX12_tries 9 = .ok (.ifCond .eq 26, 3) := by decide +kernel
theorem dX12_tries_35 : decode cX12_tries 35 = .ok (.iconst (-1), 1) := by decide +kernel
theorem dX12_tries_36 : decode cX12_tries 36 = .ok (.ireturn, 1) := by decide +kernel
theorem dX12_triesIn_0 : decode cX12_triesIn 0 = .ok (.aload_n 0, 1) := by decide +kernel
theorem dX12_triesIn_1 : decode cX12_triesIn 1 = .ok (.invokevirtual 241, 3) := by decide +kernel
theorem dX12_triesIn_4 : decode cX12_triesIn 4 = .ok (.istore_n 3, 1) := by decide +kernel
theorem dX12_triesIn_5 : decode cX12_triesIn 5 = .ok (.aload_n 0, 1) := by decide +kernel
theorem dX12_triesIn_6 : decode cX12_triesIn 6 = .ok (.iload_n 1, 1) := by decide +kernel
theorem dX12_triesIn_7 : decode cX12_triesIn 7 = .ok (.invokevirtual 375, 3) := by decide +kernel
theorem dX12_triesIn_10 : decode cX12_triesIn 10 = .ok (.ifCond .eq 18, 3) := by decide +kernel
theorem dX12_triesIn_28 : decode cX12_triesIn 28 = .ok (.iconst (-1), 1) := by decide +kernel
theorem dX12_triesIn_29 : decode cX12_triesIn 29 = .ok (.ireturn, 1) := by decide +kernel
theorem dX12_undo_0 : decode cX12_undo 0 = .ok (.aload_n 0, 1) := by decide +kernel
theorem dX12_undo_1 : decode cX12_undo 1 = .ok (.getfield 91, 3) := by decide +kernel
theorem dX12_undo_4 : decode cX12_undo 4 = .ok (.ifCond .ne 9, 3) := by decide +kernel
theorem dX12_undo_7 : decode cX12_undo 7 = .ok (.aload_n 0, 1) := by decide +kernel
theorem dX12_undo_8 : decode cX12_undo 8 = .ok (.iconst 4, 1) := by decide +kernel
theorem dX12_undo_9 : decode cX12_undo 9 = .ok (.invokevirtual 166, 3) := by decide +kernel
theorem dX12_undo_12 : decode cX12_undo 12 = .ok (.ireturn, 1) := by decide +kernel
theorem dX12_unlikes_0 : decode cX12_unlikes 0 = .ok (.iconst 0, 1) := by decide +kernel
theorem dX12_unlikes_1 : decode cX12_unlikes 1 = .ok (.istore_n 1, 1) := by decide +kernel
theorem dX12_unlikes_2 : decode cX12_unlikes 2 = .ok (.iconst 0, 1) := by decide +kernel
theorem dX12_unlikes_3 : decode cX12_unlikes 3 = .ok (.istore_n 2, 1) := by decide +kernel
theorem dX12_unlikes_4 : decode cX12_unlikes 4 = .ok (.iload_n 2, 1) := by decide +kernel
theorem dX12_unlikes_5 : decode cX12_unlikes 5 = .ok (.aload_n 0, 1) := by decide +kernel
theorem dX12_unlikes_6 : decode cX12_unlikes 6 = .ok (.getfield 13, 3) := by decide +kernel
theorem dX12_unlikes_9 : decode cX12_unlikes 9 = .ok (.if_icmp .ge 37, 3) := by decide +kernel
theorem dX12_unlikes_46 : decode cX12_unlikes 46 = .ok (.iload_n 1, 1) := by decide +kernel
theorem dX12_unlikes_47 : decode cX12_unlikes 47 = .ok (.ireturn, 1) := by decide +kernel
theorem dX12_weight_0 : decode cX12_weight 0 = .ok (.aload_n 0, 1) := by decide +kernel
theorem dX12_weight_1 : decode cX12_weight 1 = .ok (.iload_n 1, 1) := by decide +kernel
theorem dX12_weight_2 : decode cX12_weight 2 = .ok (.invokevirtual 335, 3) := by decide +kernel
theorem dX12_weight_5 : decode cX12_weight 5 = .ok (.ifCond .eq 23, 3) := by decide +kernel
theorem dX12_weight_28 : decode cX12_weight 28 = .ok (.ldc2_w 346, 3) := by decide +kernel
theorem dX12_weight_31 : decode cX12_weight 31 = .ok (.lreturn, 1) := by decide +kernel
theorem dX12_wheel_0 : decode cX12_wheel 0 = .ok (.aload_n 0, 1) := by decide +kernel
theorem dX12_wheel_1 : decode cX12_wheel 1 = .ok (.aload_n 0, 1) := by decide +kernel
theorem dX12_wheel_2 : decode cX12_wheel 2 = .ok (.invokevirtual 241, 3) := by decide +kernel
theorem dX12_wheel_5 : decode cX12_wheel 5 = .ok (.putfield 66, 3) := by decide +kernel
theorem dX12_wheel_8 : decode cX12_wheel 8 = .ok (.aload_n 0, 1) := by decide +kernel
theorem dX12_wheel_9 : decode cX12_wheel 9 = .ok (.iconst 0, 1) := by decide +kernel
theorem dX12_wheel_10 : decode cX12_wheel 10 = .ok (.putfield 69, 3) := by decide +kernel
theorem dX12_wheel_13 : decode cX12_wheel 13 = .ok (.aload_n 0, 1) := by decide +kernel
theorem dX12_wheel_14 : decode cX12_wheel 14 = .ok (.iconst 0, 1) := by decide +kernel
theorem dX12_wheel_15 : decode cX12_wheel 15 = .ok (.putfield 75, 3) := by decide +kernel
theorem dX12_wheel_18 : decode cX12_wheel 18 = .ok (.aload_n 0, 1) := by decide +kernel
theorem dX12_wheel_19 : decode cX12_wheel 19 = .ok (.iconst (-1), 1) := by decide +kernel
theorem dX12_wheel_20 : decode cX12_wheel 20 = .ok (.putfield 78, 3) := by decide +kernel
theorem dX12_wheel_23 : decode cX12_wheel 23 = .ok (.aload_n 0, 1) := by decide +kernel
theorem dX12_wheel_24 : decode cX12_wheel 24 = .ok (.invokevirtual 244, 3) := by decide +kernel
theorem dX12_wheel_27 : decode cX12_wheel 27 = .ok (.istore_n 1, 1) := by decide +kernel
theorem dX12_wheel_28 : decode cX12_wheel 28 = .ok (.aload_n 0, 1) := by decide +kernel
theorem dX12_wheel_29 : decode cX12_wheel 29 = .ok (.aload_n 0, 1) := by decide +kernel
theorem dX12_wheel_30 : decode cX12_wheel 30 = .ok (.getfield 75, 3) := by decide +kernel
theorem dX12_wheel_33 : decode cX12_wheel 33 = .ok (.putfield 60, 3) := by decide +kernel
theorem dX12_wheel_36 : decode cX12_wheel 36 = .ok (.aload_n 0, 1) := by decide +kernel
theorem dX12_wheel_37 : decode cX12_wheel 37 = .ok (.aload_n 0, 1) := by decide +kernel
theorem dX12_wheel_38 : decode cX12_wheel 38 = .ok (.getfield 78, 3) := by decide +kernel
theorem dX12_wheel_41 : decode cX12_wheel 41 = .ok (.putfield 63, 3) := by decide +kernel
theorem dX12_wheel_44 : decode cX12_wheel 44 = .ok (.aload_n 0, 1) := by decide +kernel
theorem dX12_wheel_45 : decode cX12_wheel 45 = .ok (.getfield 75, 3) := by decide +kernel
theorem dX12_wheel_48 : decode cX12_wheel 48 = .ok (.ifCond .eq 9, 3) := by decide +kernel
theorem dX12_wheel_51 : decode cX12_wheel 51 = .ok (.aload_n 0, 1) := by decide +kernel
theorem dX12_wheel_52 : decode cX12_wheel 52 = .ok (.iconst 1, 1) := by decide +kernel
theorem dX12_wheel_53 : decode cX12_wheel 53 = .ok (.invokevirtual 158, 3) := by decide +kernel
theorem dX12_wheel_56 : decode cX12_wheel 56 = .ok (.ireturn, 1) := by decide +kernel
theorem dX12_why_0 : decode cX12_why 0 = .ok (.iload_n 1, 1) := by decide +kernel
theorem dX12_why_1 : decode cX12_why 1 = .ok (.ifCond .ne 10, 3) := by decide +kernel
theorem dX12_why_4 : decode cX12_why 4 = .ok (.aload_n 0, 1) := by decide +kernel
theorem dX12_why_5 : decode cX12_why 5 = .ok (.getfield 143, 3) := by decide +kernel
theorem dX12_why_8 : decode cX12_why 8 = .ok (.goto 16, 3) := by decide +kernel
theorem dX12_why_11 : decode cX12_why 11 = .ok (.iload_n 1, 1) := by decide +kernel
theorem dX12_why_12 : decode cX12_why 12 = .ok (.iconst 1, 1) := by decide +kernel
theorem dX12_why_13 : decode cX12_why 13 = .ok (.if_icmp .ne 10, 3) := by decide +kernel
theorem dX12_why_16 : decode cX12_why 16 = .ok (.aload_n 0, 1) := by decide +kernel
theorem dX12_why_17 : decode cX12_why 17 = .ok (.getfield 146, 3) := by decide +kernel
theorem dX12_why_20 : decode cX12_why 20 = .ok (.goto 4, 3) := by decide +kernel
theorem dX12_why_23 : decode cX12_why 23 = .ok (.iconst (-1), 1) := by decide +kernel
theorem dX12_why_24 : decode cX12_why 24 = .ok (.ireturn, 1) := by decide +kernel
theorem dX12_word_0 : decode cX12_word 0 = .ok (.aload_n 0, 1) := by decide +kernel
theorem dX12_word_1 : decode cX12_word 1 = .ok (.invokevirtual 173, 3) := by decide +kernel
theorem dX12_word_4 : decode cX12_word 4 = .ok (.ifCond .ne 4, 3) := by decide +kernel
theorem dX12_word_7 : decode cX12_word 7 = .ok (.return_, 1) := by decide +kernel
theorem dX12_word_8 : decode cX12_word 8 = .ok (.aload_n 0, 1) := by decide +kernel
theorem dX12_word_9 : decode cX12_word 9 = .ok (.invokevirtual 177, 3) := by decide +kernel
theorem dX12_word_12 : decode cX12_word 12 = .ok (.pop, 1) := by decide +kernel
theorem dX12_word_13 : decode cX12_word 13 = .ok (.aload_n 0, 1) := by decide +kernel
theorem dX12_word_14 : decode cX12_word 14 = .ok (.aload_n 0, 1) := by decide +kernel
theorem dX12_word_15 : decode cX12_word 15 = .ok (.getfield 69, 3) := by decide +kernel
theorem dX12_word_18 : decode cX12_word 18 = .ok (.putfield 72, 3) := by decide +kernel
theorem dX12_word_21 : decode cX12_word 21 = .ok (.aload_n 0, 1) := by decide +kernel
theorem dX12_word_22 : decode cX12_word 22 = .ok (.aload_n 0, 1) := by decide +kernel
theorem dX12_word_23 : decode cX12_word 23 = .ok (.getfield 69, 3) := by decide +kernel
theorem dX12_word_26 : decode cX12_word 26 = .ok (.invokevirtual 181, 3) := by decide +kernel
theorem dX12_word_29 : decode cX12_word 29 = .ok (.ifCond .eq 29, 3) := by decide +kernel
theorem dX12_word_58 : decode cX12_word 58 = .ok (.aload_n 0, 1) := by decide +kernel
theorem dX12_word_59 : decode cX12_word 59 = .ok (.iconst 1, 1) := by decide +kernel
theorem dX12_word_60 : decode cX12_word 60 = .ok (.aload_n 0, 1) := by decide +kernel
theorem dX12_word_61 : decode cX12_word 61 = .ok (.getfield 69, 3) := by decide +kernel
theorem dX12_word_64 : decode cX12_word 64 = .ok (.invokevirtual 187, 3) := by decide +kernel
theorem dX12_word_67 : decode cX12_word 67 = .ok (.return_, 1) := by decide +kernel
theorem dX12_would_0 : decode cX12_would 0 = .ok (.aload_n 0, 1) := by decide +kernel
theorem dX12_would_1 : decode cX12_would 1 = .ok (.iload_n 1, 1) := by decide +kernel
theorem dX12_would_2 : decode cX12_would 2 = .ok (.invokevirtual 335, 3) := by decide +kernel
theorem dX12_would_5 : decode cX12_would 5 = .ok (.ifCond .eq 32, 3) := by decide +kernel
theorem dX12_would_37 : decode cX12_would 37 = .ok (.iconst (-1), 1) := by decide +kernel
theorem dX12_would_38 : decode cX12_would 38 = .ok (.ireturn, 1) := by decide +kernel
theorem dX1_goBack_0 : decode cX1_goBack 0 = .ok (.aload_n 0, 1) := by decide +kernel
theorem dX1_goBack_1 : decode cX1_goBack 1 = .ok (.getfield 17, 3) := by decide +kernel
theorem dX1_goBack_4 : decode cX1_goBack 4 = .ok (.bipush 20, 2) := by decide +kernel
theorem dX1_goBack_6 : decode cX1_goBack 6 = .ok (.iadd, 1) := by decide +kernel
theorem dX1_goBack_7 : decode cX1_goBack 7 = .ok (.iconst 1, 1) := by decide +kernel
theorem dX1_goBack_8 : decode cX1_goBack 8 = .ok (.isub, 1) := by decide +kernel
theorem dX1_goBack_9 : decode cX1_goBack 9 = .ok (.bipush 20, 2) := by decide +kernel
theorem dX1_goBack_11 : decode cX1_goBack 11 = .ok (.irem, 1) := by decide +kernel
theorem dX1_goBack_12 : decode cX1_goBack 12 = .ok (.istore_n 2, 1) := by decide +kernel
theorem dX1_goBack_13 : decode cX1_goBack 13 = .ok (.aload_n 0, 1) := by decide +kernel
theorem dX1_goBack_14 : decode cX1_goBack 14 = .ok (.getfield 26, 3) := by decide +kernel
theorem dX1_goBack_17 : decode cX1_goBack 17 = .ok (.ifCond .eq 16, 3) := by decide +kernel
theorem dX1_goBack_33 : decode cX1_goBack 33 = .ok (.iconst 0, 1) := by decide +kernel
theorem dX1_goBack_34 : decode cX1_goBack 34 = .ok (.ireturn, 1) := by decide +kernel
theorem dX1_init_0 : decode cX1_init 0 = .ok (.aload_n 0, 1) := by decide +kernel
theorem dX1_init_1 : decode cX1_init 1 = .ok (.invokespecial 3, 3) := by decide +kernel
theorem dX1_init_4 : decode cX1_init 4 = .ok (.aload_n 0, 1) := by decide +kernel
theorem dX1_init_5 : decode cX1_init 5 = .ok (.bipush 20, 2) := by decide +kernel
theorem dX1_init_7 : decode cX1_init 7 = .ok (.anewarray 9, 3) := by decide +kernel
theorem dX1_init_10 : decode cX1_init 10 = .ok (.putfield 11, 3) := by decide +kernel
theorem dX1_init_13 : decode cX1_init 13 = .ok (.return_, 1) := by decide +kernel
theorem dX2_init_0 : decode cX2_init 0 = .ok (.aload_n 0, 1) := by decide +kernel
theorem dX2_init_1 : decode cX2_init 1 = .ok (.invokespecial 3, 3) := by decide +kernel
theorem dX2_init_4 : decode cX2_init 4 = .ok (.aload_n 0, 1) := by decide +kernel
theorem dX2_init_5 : decode cX2_init 5 = .ok (.aload_n 1, 1) := by decide +kernel
theorem dX2_init_6 : decode cX2_init 6 = .ok (.putfield 9, 3) := by decide +kernel
theorem dX2_init_9 : decode cX2_init 9 = .ok (.return_, 1) := by decide +kernel
theorem dX3_init_0 : decode cX3_init 0 = .ok (.aload_n 0, 1) := by decide +kernel
theorem dX3_init_1 : decode cX3_init 1 = .ok (.invokespecial 3, 3) := by decide +kernel
theorem dX3_init_4 : decode cX3_init 4 = .ok (.aload_n 0, 1) := by decide +kernel
theorem dX3_init_5 : decode cX3_init 5 = .ok (.bipush 16, 2) := by decide +kernel
theorem dX3_init_7 : decode cX3_init 7 = .ok (.newarray .int, 2) := by decide +kernel
theorem dX3_init_9 : decode cX3_init 9 = .ok (.putfield 9, 3) := by decide +kernel
theorem dX3_init_12 : decode cX3_init 12 = .ok (.aload_n 0, 1) := by decide +kernel
theorem dX3_init_13 : decode cX3_init 13 = .ok (.bipush 16, 2) := by decide +kernel
theorem dX3_init_15 : decode cX3_init 15 = .ok (.newarray .int, 2) := by decide +kernel
theorem dX3_init_17 : decode cX3_init 17 = .ok (.putfield 15, 3) := by decide +kernel
theorem dX3_init_20 : decode cX3_init 20 = .ok (.aload_n 0, 1) := by decide +kernel
theorem dX3_init_21 : decode cX3_init 21 = .ok (.iconst 4, 1) := by decide +kernel
theorem dX3_init_22 : decode cX3_init 22 = .ok (.newarray .int, 2) := by decide +kernel
theorem dX3_init_24 : decode cX3_init 24 = .ok (.putfield 18, 3) := by decide +kernel
theorem dX3_init_27 : decode cX3_init 27 = .ok (.aload_n 0, 1) := by decide +kernel
theorem dX3_init_28 : decode cX3_init 28 = .ok (.iconst 4, 1) := by decide +kernel
theorem dX3_init_29 : decode cX3_init 29 = .ok (.newarray .int, 2) := by decide +kernel
theorem dX3_init_31 : decode cX3_init 31 = .ok (.putfield 21, 3) := by decide +kernel
theorem dX3_init_34 : decode cX3_init 34 = .ok (.return_, 1) := by decide +kernel
theorem dX4_fail_0 : decode cX4_fail 0 = .ok (.aload_n 0, 1) := by decide +kernel
theorem dX4_fail_1 : decode cX4_fail 1 = .ok (.iload_n 1, 1) := by decide +kernel
theorem dX4_fail_2 : decode cX4_fail 2 = .ok (.putfield 29, 3) := by decide +kernel
theorem dX4_fail_5 : decode cX4_fail 5 = .ok (.aload_n 0, 1) := by decide +kernel
theorem dX4_fail_6 : decode cX4_fail 6 = .ok (.iload_n 2, 1) := by decide +kernel
theorem dX4_fail_7 : decode cX4_fail 7 = .ok (.putfield 18, 3) := by decide +kernel
theorem dX4_fail_10 : decode cX4_fail 10 = .ok (.iconst 0, 1) := by decide +kernel
theorem dX4_fail_11 : decode cX4_fail 11 = .ok (.ireturn, 1) := by decide +kernel
theorem dX4_init_0 : decode cX4_init 0 = .ok (.aload_n 0, 1) := by decide +kernel
theorem dX4_init_1 : decode cX4_init 1 = .ok (.invokespecial 3, 3) := by decide +kernel
theorem dX4_init_4 : decode cX4_init 4 = .ok (.aload_n 0, 1) := by decide +kernel
theorem dX4_init_5 : decode cX4_init 5 = .ok (.new 9, 3) := by decide +kernel
theorem dX4_init_8 : decode cX4_init 8 = .ok (.dup, 1) := by decide +kernel
theorem dX4_init_9 : decode cX4_init 9 = .ok (.invokespecial 11, 3) := by decide +kernel
theorem dX4_init_12 : decode cX4_init 12 = .ok (.putfield 12, 3) := by decide +kernel
theorem dX4_init_15 : decode cX4_init 15 = .ok (.aload_n 0, 1) := by decide +kernel
theorem dX4_init_16 : decode cX4_init 16 = .ok (.iconst (-1), 1) := by decide +kernel
theorem dX4_init_17 : decode cX4_init 17 = .ok (.putfield 18, 3) := by decide +kernel
theorem dX4_init_20 : decode cX4_init 20 = .ok (.aload_n 0, 1) := by decide +kernel
theorem dX4_init_21 : decode cX4_init 21 = .ok (.aload_n 1, 1) := by decide +kernel
theorem dX4_init_22 : decode cX4_init 22 = .ok (.putfield 22, 3) := by decide +kernel
theorem dX4_init_25 : decode cX4_init 25 = .ok (.return_, 1) := by decide +kernel
theorem dX4_isWord_0 : decode cX4_isWord 0 = .ok (.aload_n 1, 1) := by decide +kernel
theorem dX4_isWord_1 : decode cX4_isWord 1 = .ok (.invokevirtual 147, 3) := by decide +kernel
theorem dX4_isWord_4 : decode cX4_isWord 4 = .ok (.aload_n 0, 1) := by decide +kernel
theorem dX4_isWord_5 : decode cX4_isWord 5 = .ok (.getfield 127, 3) := by decide +kernel
theorem dX4_isWord_8 : decode cX4_isWord 8 = .ok (.if_icmp .eq 5, 3) := by decide +kernel
theorem dX4_isWord_11 : decode cX4_isWord 11 = .ok (.iconst 0, 1) := by decide +kernel
theorem dX4_isWord_12 : decode cX4_isWord 12 = .ok (.ireturn, 1) := by decide +kernel
theorem dX4_readAll_0 : decode cX4_readAll 0 = .ok (.aload_n 0, 1) := by decide +kernel
theorem dX4_readAll_1 : decode cX4_readAll 1 = .ok (.iconst 0, 1) := by decide +kernel
theorem dX4_readAll_2 : decode cX4_readAll 2 = .ok (.putfield 26, 3) := by decide +kernel
theorem dX4_readAll_5 : decode cX4_readAll 5 = .ok (.aload_n 0, 1) := by decide +kernel
theorem dX4_readAll_6 : decode cX4_readAll 6 = .ok (.iconst 0, 1) := by decide +kernel
theorem dX4_readAll_7 : decode cX4_readAll 7 = .ok (.putfield 29, 3) := by decide +kernel
theorem dX4_readAll_10 : decode cX4_readAll 10 = .ok (.aload_n 0, 1) := by decide +kernel
theorem dX4_readAll_11 : decode cX4_readAll 11 = .ok (.iconst (-1), 1) := by decide +kernel
theorem dX4_readAll_12 : decode cX4_readAll 12 = .ok (.putfield 18, 3) := by decide +kernel
theorem dX4_readAll_15 : decode cX4_readAll 15 = .ok (.aload_n 0, 1) := by decide +kernel
theorem dX4_readAll_16 : decode cX4_readAll 16 = .ok (.getfield 12, 3) := by decide +kernel
theorem dX4_readAll_19 : decode cX4_readAll 19 = .ok (.iconst 0, 1) := by decide +kernel
theorem dX4_readAll_20 : decode cX4_readAll 20 = .ok (.putfield 32, 3) := by decide +kernel
theorem dX4_readAll_23 : decode cX4_readAll 23 = .ok (.aload_n 0, 1) := by decide +kernel
theorem dX4_readAll_24 : decode cX4_readAll 24 = .ok (.getfield 12, 3) := by decide +kernel
theorem dX4_readAll_27 : decode cX4_readAll 27 = .ok (.iconst 0, 1) := by decide +kernel
theorem dX4_readAll_28 : decode cX4_readAll 28 = .ok (.putfield 35, 3) := by decide +kernel
theorem dX4_readAll_31 : decode cX4_readAll 31 = .ok (.aload_n 0, 1) := by decide +kernel
theorem dX4_readAll_32 : decode cX4_readAll 32 = .ok (.invokevirtual 38, 3) := by decide +kernel
theorem dX4_readAll_35 : decode cX4_readAll 35 = .ok (.ifCond .ne 5, 3) := by decide +kernel
theorem dX4_readAll_38 : decode cX4_readAll 38 = .ok (.iconst (-1), 1) := by decide +kernel
theorem dX4_readAll_39 : decode cX4_readAll 39 = .ok (.ireturn, 1) := by decide +kernel
theorem dX4_readHead_0 : decode cX4_readHead 0 = .ok (.aload_n 0, 1) := by decide +kernel
theorem dX4_readHead_1 : decode cX4_readHead 1 = .ok (.ldc 74, 2) := by decide +kernel
theorem dX4_readHead_3 : decode cX4_readHead 3 = .ok (.invokevirtual 76, 3) := by decide +kernel
theorem dX4_readHead_6 : decode cX4_readHead 6 = .ok (.ifCond .eq 19, 3) := by decide +kernel
theorem dX4_readHead_25 : decode cX4_readHead 25 = .ok (.iconst 0, 1) := by decide +kernel
theorem dX4_readHead_26 : decode cX4_readHead 26 = .ok (.ireturn, 1) := by decide +kernel
theorem dX4_readKeyword_0 : decode cX4_readKeyword 0 = .ok (.aload_n 0, 1) := by decide +kernel
theorem dX4_readKeyword_1 : decode cX4_readKeyword 1 = .ok (.invokevirtual 50, 3) := by decide +kernel
theorem dX4_readKeyword_4 : decode cX4_readKeyword 4 = .ok (.aload_n 0, 1) := by decide +kernel
theorem dX4_readKeyword_5 : decode cX4_readKeyword 5 = .ok (.aload_n 1, 1) := by decide +kernel
theorem dX4_readKeyword_6 : decode cX4_readKeyword 6 = .ok (.invokevirtual 55, 3) := by decide +kernel
theorem dX4_readKeyword_9 : decode cX4_readKeyword 9 = .ok (.ifCond .ne 15, 3) := by decide +kernel
theorem dX4_readKeyword_12 : decode cX4_readKeyword 12 = .ok (.aload_n 0, 1) := by decide +kernel
theorem dX4_readKeyword_13 : decode cX4_readKeyword 13 = .ok (.iconst 1, 1) := by decide +kernel
theorem dX4_readKeyword_14 : decode cX4_readKeyword 14 = .ok (.aload_n 0, 1) := by decide +kernel
theorem dX4_readKeyword_15 : decode cX4_readKeyword 15 = .ok (.getfield 67, 3) := by decide +kernel
theorem dX4_readKeyword_18 : decode cX4_readKeyword 18 = .ok (.invokevirtual 70, 3) := by decide +kernel
theorem dX4_readKeyword_21 : decode cX4_readKeyword 21 = .ok (.ifCond .eq 7, 3) := by decide +kernel
theorem dX4_readKeyword_28 : decode cX4_readKeyword 28 = .ok (.iconst 0, 1) := by decide +kernel
theorem dX4_readKeyword_29 : decode cX4_readKeyword 29 = .ok (.ireturn, 1) := by decide +kernel
theorem dX4_readWord_0 : decode cX4_readWord 0 = .ok (.aload_n 0, 1) := by decide +kernel
theorem dX4_readWord_1 : decode cX4_readWord 1 = .ok (.invokevirtual 42, 3) := by decide +kernel
theorem dX4_readWord_4 : decode cX4_readWord 4 = .ok (.aload_n 0, 1) := by decide +kernel
theorem dX4_readWord_5 : decode cX4_readWord 5 = .ok (.aload_n 0, 1) := by decide +kernel
theorem dX4_readWord_6 : decode cX4_readWord 6 = .ok (.getfield 26, 3) := by decide +kernel
theorem dX4_readWord_9 : decode cX4_readWord 9 = .ok (.putfield 67, 3) := by decide +kernel
theorem dX4_readWord_12 : decode cX4_readWord 12 = .ok (.aload_n 0, 1) := by decide +kernel
theorem dX4_readWord_13 : decode cX4_readWord 13 = .ok (.getfield 26, 3) := by decide +kernel
theorem dX4_readWord_16 : decode cX4_readWord 16 = .ok (.aload_n 0, 1) := by decide +kernel
theorem dX4_readWord_17 : decode cX4_readWord 17 = .ok (.getfield 22, 3) := by decide +kernel
theorem dX4_readWord_20 : decode cX4_readWord 20 = .ok (.getfield 45, 3) := by decide +kernel
theorem dX4_readWord_23 : decode cX4_readWord 23 = .ok (.if_icmp .ge 26, 3) := by decide +kernel
theorem dX4_readWord_49 : decode cX4_readWord 49 = .ok (.aload_n 0, 1) := by decide +kernel
theorem dX4_readWord_50 : decode cX4_readWord 50 = .ok (.aload_n 0, 1) := by decide +kernel
theorem dX4_readWord_51 : decode cX4_readWord 51 = .ok (.getfield 26, 3) := by decide +kernel
theorem dX4_readWord_54 : decode cX4_readWord 54 = .ok (.aload_n 0, 1) := by decide +kernel
theorem dX4_readWord_55 : decode cX4_readWord 55 = .ok (.getfield 67, 3) := by decide +kernel
theorem dX4_readWord_58 : decode cX4_readWord 58 = .ok (.isub, 1) := by decide +kernel
theorem dX4_readWord_59 : decode cX4_readWord 59 = .ok (.putfield 127, 3) := by decide +kernel
theorem dX4_readWord_62 : decode cX4_readWord 62 = .ok (.return_, 1) := by decide +kernel
theorem dX4_skipBlanks_0 : decode cX4_skipBlanks 0 = .ok (.aload_n 0, 1) := by decide +kernel
theorem dX4_skipBlanks_1 : decode cX4_skipBlanks 1 = .ok (.getfield 26, 3) := by decide +kernel
theorem dX4_skipBlanks_4 : decode cX4_skipBlanks 4 = .ok (.istore_n 1, 1) := by decide +kernel
theorem dX4_skipBlanks_5 : decode cX4_skipBlanks 5 = .ok (.aload_n 0, 1) := by decide +kernel
theorem dX4_skipBlanks_6 : decode cX4_skipBlanks 6 = .ok (.getfield 26, 3) := by decide +kernel
theorem dX4_skipBlanks_9 : decode cX4_skipBlanks 9 = .ok (.aload_n 0, 1) := by decide +kernel
