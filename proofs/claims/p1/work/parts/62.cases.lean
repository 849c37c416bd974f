set_option maxHeartbeats 4000000 in
set_option maxRecDepth 100000 in
/-- owed: class and reference answer alike -/
theorem law_16 {p : Program} {l : Launch} {e : Env} {s : State} {m : MethodId} {below : List Frame} {meth : Method} {c : Code} {b : Nat} {xs : Nat → Int32} {D : va_G} {cI : ClassId} {qx qm : Nat} {ax am : Nat → Nat} {H : Heap} {locs : List Loc} {ls : Array Slot} (C : lw_C p s m meth c b xs D cI) (hP : va_P D vwCl (w_L cI qx ax qm am) H) (hD : va_D (fun q : Nat => s.heap.size ≤ q) (w_L cI qx ax qm am)) (hS : va_S (fun q : Nat => s.heap.size ≤ q) s.heap H locs) (hl : lv_has ls 4 [(3, .int 0), (2, .ref qm), (1, .ref qx), (0, .ref b)]) : W p l e room_1 s m #[Value.ref b] below meth c H locs 78 71288 (lw_Z below #[Value.ref b] s) (F0 m 739 ls []) := by
  have C0 := C
  obtain ⟨hx, hb, hr, hml, hown, hT, hX, hbl, hlocks, hK⟩ := C
  have hA : ∀ q : Nat, s.heap.size ≤ q → (fun q : Nat => s.heap.size ≤ q) q := fun _ h => h
  have hbA : ¬ (fun q : Nat => s.heap.size ≤ q) b := Nat.not_le.mpr hbl
  refine lv_aload_n hx hb dL_law_739 rfl (lv_at hl 2 rfl) ?_
  refine lv_aload_n hx hb dL_law_740 rfl (lv_at hl 3 rfl) ?_
  refine lv_iload_n hx hb dL_law_741 rfl (lv_at hl 0 rfl) ?_
  refine lv_iconst (v := 1) hx hb dL_law_742 (by decide) ?_
  refine lv_iadd hx hb dL_law_743 ?_
  refine ct_i (z := 1) (by decide) ?_
  refine va_sld hx hb hX hbl hbA hS (vi_c (by decide +kernel)) dL_law_744 ?_
  refine go_R (v := some (.int (-1000000))) (st1 := [.int (-1000000)]) (run_V (As := [.int (xs (1 : Int32).toNatClampNeg)]) (rest := []) ⟨hx, hb, hml, hown, hT⟩ (kX11_owed_0 l D cI qx ax (xs (1 : Int32).toNatClampNeg)) sw_911 lkv_X11_owed (p_R_V (ci := 11) (q0 := 0) (hP.sub (ws' := [(qx, .inr (11, (Value.ref (ax 0) :: Value.ref (ax 1) :: Value.ref (ax 2) :: Value.ref (ax 3) :: Value.ref (ax 4) :: Value.ref (ax 5) :: Value.ref (ax 6) :: Value.ref (ax 7) :: Value.ref (ax 8) :: Value.ref (ax 9) :: Value.ref (ax 10) :: Value.ref (ax 11) :: Value.ref (ax 12) :: Value.ref (ax 13) :: Value.ref (ax 14) :: Value.int 0 :: Value.int 0 :: Value.int 0 :: []))), ((ax 5), .inr (5, (Value.ref (ax 30) :: Value.ref (ax 31) :: Value.ref (ax 32) :: Value.ref (ax 33) :: Value.ref (ax 34) :: Value.ref (ax 35) :: Value.ref (ax 36) :: Value.ref (ax 37) :: Value.int 0 :: Value.int 0 :: Value.int 0 :: Value.int 0 :: Value.int 0 :: Value.int 0 :: Value.int 0 :: [])))]) [0, 8] rfl) hK rfl rfl) rfl hl.1 rfl (Nat.le_of_ble_eq_true rfl) dL_law_745 ⟨⟨Nat.le_of_ble_eq_true rfl, Nat.le_of_ble_eq_true rfl⟩, Nat.le_of_ble_eq_true rfl, Nat.le_of_ble_eq_true rfl⟩) rfl ?_
  refine lv_aload_n hx hb dL_law_748 rfl (lv_at hl 1 rfl) ?_
  refine lv_aload_n hx hb dL_law_749 rfl (lv_at hl 3 rfl) ?_
  refine lv_iload_n hx hb dL_law_750 rfl (lv_at hl 0 rfl) ?_
  refine lv_iconst (v := 1) hx hb dL_law_751 (by decide) ?_
  refine lv_iadd hx hb dL_law_752 ?_
  refine ct_i (z := 1) (by decide) ?_
  refine va_sld hx hb hX hbl hbA hS (vi_c (by decide +kernel)) dL_law_753 ?_
  refine go_R (v := some (.int (-1000000))) (st1 := [.int (-1000000), .int (-1000000)]) (run_V (As := [.int (xs (1 : Int32).toNatClampNeg)]) (rest := [.int (-1000000)]) ⟨hx, hb, hml, hown, hT⟩ (kX12_owed_0 l D cI qm am (xs (1 : Int32).toNatClampNeg)) sw_1683 lkv_X12_owed (p_R_V (ci := 12) (q0 := 0) (hP.sub (ws' := [(qm, .inr (12, (Value.int 0 :: Value.int 0 :: Value.ref (am 0) :: Value.int 0 :: Value.int 0 :: Value.ref (am 1) :: Value.ref (am 2) :: Value.int 0 :: Value.ref (am 3) :: Value.ref (am 4) :: Value.int 0 :: Value.ref (am 5) :: Value.ref (am 6) :: Value.ref (am 7) :: Value.int 0 :: Value.ref (am 8) :: Value.int 0 :: Value.int (-1) :: Value.int 0 :: Value.int 0 :: Value.int 0 :: Value.int 0 :: Value.int (-1) :: Value.ref (am 9) :: Value.ref (am 10) :: Value.ref (am 11) :: Value.int 0 :: Value.ref (am 12) :: Value.ref (am 13) :: Value.ref (am 14) :: Value.ref (am 15) :: Value.int 0 :: Value.int 0 :: Value.int 0 :: Value.int 0 :: Value.int 0 :: Value.int 0 :: Value.int 0 :: Value.int 0 :: Value.ref (am 16) :: Value.ref (am 17) :: Value.ref (am 18) :: Value.ref (am 19) :: Value.int 0 :: Value.int 0 :: Value.int 1 :: Value.ref (am 20) :: Value.int 0 :: [])))]) [13] rfl) hK rfl rfl) rfl hl.1 rfl (Nat.le_of_ble_eq_true rfl) dL_law_754 ⟨⟨Nat.le_of_ble_eq_true rfl, Nat.le_of_ble_eq_true rfl⟩, Nat.le_of_ble_eq_true rfl, Nat.le_of_ble_eq_true rfl⟩) rfl ?_
  refine lv_icmp_eq (tgt := 1665) hx hb dL_law_757 (by decide) (fun _ => ?_) (fun h9 => absurd rfl h9)
  exact law_back C0 hS hl
set_option maxHeartbeats 4000000 in
set_option maxRecDepth 100000 in
/-- creditor: class and reference answer alike -/
theorem law_17 {p : Program} {l : Launch} {e : Env} {s : State} {m : MethodId} {below : List Frame} {meth : Method} {c : Code} {b : Nat} {xs : Nat → Int32} {D : va_G} {cI : ClassId} {qx qm : Nat} {ax am : Nat → Nat} {H : Heap} {locs : List Loc} {ls : Array Slot} (C : lw_C p s m meth c b xs D cI) (hP : va_P D vwCl (w_L cI qx ax qm am) H) (hD : va_D (fun q : Nat => s.heap.size ≤ q) (w_L cI qx ax qm am)) (hS : va_S (fun q : Nat => s.heap.size ≤ q) s.heap H locs) (hl : lv_has ls 4 [(3, .int 0), (2, .ref qm), (1, .ref qx), (0, .ref b)]) : W p l e room_1 s m #[Value.ref b] below meth c H locs 78 71288 (lw_Z below #[Value.ref b] s) (F0 m 762 ls []) := by
  have C0 := C
  obtain ⟨hx, hb, hr, hml, hown, hT, hX, hbl, hlocks, hK⟩ := C
  have hA : ∀ q : Nat, s.heap.size ≤ q → (fun q : Nat => s.heap.size ≤ q) q := fun _ h => h
  have hbA : ¬ (fun q : Nat => s.heap.size ≤ q) b := Nat.not_le.mpr hbl
  refine lv_aload_n hx hb dL_law_762 rfl (lv_at hl 2 rfl) ?_
  refine lv_aload_n hx hb dL_law_763 rfl (lv_at hl 3 rfl) ?_
  refine lv_iload_n hx hb dL_law_764 rfl (lv_at hl 0 rfl) ?_
  refine lv_iconst (v := 1) hx hb dL_law_765 (by decide) ?_
  refine lv_iadd hx hb dL_law_766 ?_
  refine ct_i (z := 1) (by decide) ?_
  refine va_sld hx hb hX hbl hbA hS (vi_c (by decide +kernel)) dL_law_767 ?_
  refine go_R (v := some (.int (-1))) (st1 := [.int (-1)]) (run_V (As := [.int (xs (1 : Int32).toNatClampNeg)]) (rest := []) ⟨hx, hb, hml, hown, hT⟩ (kX11_creditor_0 l D cI qx ax (xs (1 : Int32).toNatClampNeg)) sw_920 lkv_X11_creditor (p_R_V (ci := 11) (q0 := 0) (hP.sub (ws' := [(qx, .inr (11, (Value.ref (ax 0) :: Value.ref (ax 1) :: Value.ref (ax 2) :: Value.ref (ax 3) :: Value.ref (ax 4) :: Value.ref (ax 5) :: Value.ref (ax 6) :: Value.ref (ax 7) :: Value.ref (ax 8) :: Value.ref (ax 9) :: Value.ref (ax 10) :: Value.ref (ax 11) :: Value.ref (ax 12) :: Value.ref (ax 13) :: Value.ref (ax 14) :: Value.int 0 :: Value.int 0 :: Value.int 0 :: []))), ((ax 5), .inr (5, (Value.ref (ax 30) :: Value.ref (ax 31) :: Value.ref (ax 32) :: Value.ref (ax 33) :: Value.ref (ax 34) :: Value.ref (ax 35) :: Value.ref (ax 36) :: Value.ref (ax 37) :: Value.int 0 :: Value.int 0 :: Value.int 0 :: Value.int 0 :: Value.int 0 :: Value.int 0 :: Value.int 0 :: [])))]) [0, 8] rfl) hK rfl rfl) rfl hl.1 rfl (Nat.le_of_ble_eq_true rfl) dL_law_768 ⟨⟨Nat.le_of_ble_eq_true rfl, Nat.le_of_ble_eq_true rfl⟩, Nat.le_of_ble_eq_true rfl, Nat.le_of_ble_eq_true rfl⟩) rfl ?_
  refine lv_aload_n hx hb dL_law_771 rfl (lv_at hl 1 rfl) ?_
  refine lv_aload_n hx hb dL_law_772 rfl (lv_at hl 3 rfl) ?_
  refine lv_iload_n hx hb dL_law_773 rfl (lv_at hl 0 rfl) ?_
  refine lv_iconst (v := 1) hx hb dL_law_774 (by decide) ?_
  refine lv_iadd hx hb dL_law_775 ?_
  refine ct_i (z := 1) (by decide) ?_
  refine va_sld hx hb hX hbl hbA hS (vi_c (by decide +kernel)) dL_law_776 ?_
  refine go_R (v := some (.int (-1))) (st1 := [.int (-1), .int (-1)]) (run_V (As := [.int (xs (1 : Int32).toNatClampNeg)]) (rest := [.int (-1)]) ⟨hx, hb, hml, hown, hT⟩ (kX12_creditor_0 l D cI qm am (xs (1 : Int32).toNatClampNeg)) sw_1692 lkv_X12_creditor (p_R_V (ci := 12) (q0 := 0) (hP.sub (ws' := [(qm, .inr (12, (Value.int 0 :: Value.int 0 :: Value.ref (am 0) :: Value.int 0 :: Value.int 0 :: Value.ref (am 1) :: Value.ref (am 2) :: Value.int 0 :: Value.ref (am 3) :: Value.ref (am 4) :: Value.int 0 :: Value.ref (am 5) :: Value.ref (am 6) :: Value.ref (am 7) :: Value.int 0 :: Value.ref (am 8) :: Value.int 0 :: Value.int (-1) :: Value.int 0 :: Value.int 0 :: Value.int 0 :: Value.int 0 :: Value.int (-1) :: Value.ref (am 9) :: Value.ref (am 10) :: Value.ref (am 11) :: Value.int 0 :: Value.ref (am 12) :: Value.ref (am 13) :: Value.ref (am 14) :: Value.ref (am 15) :: Value.int 0 :: Value.int 0 :: Value.int 0 :: Value.int 0 :: Value.int 0 :: Value.int 0 :: Value.int 0 :: Value.int 0 :: Value.ref (am 16) :: Value.ref (am 17) :: Value.ref (am 18) :: Value.ref (am 19) :: Value.int 0 :: Value.int 0 :: Value.int 1 :: Value.ref (am 20) :: Value.int 0 :: [])))]) [13] rfl) hK rfl rfl) rfl hl.1 rfl (Nat.le_of_ble_eq_true rfl) dL_law_777 ⟨⟨Nat.le_of_ble_eq_true rfl, Nat.le_of_ble_eq_true rfl⟩, Nat.le_of_ble_eq_true rfl, Nat.le_of_ble_eq_true rfl⟩) rfl ?_
  refine lv_icmp_eq (tgt := 1665) hx hb dL_law_780 (by decide) (fun _ => ?_) (fun h9 => absurd rfl h9)
  exact law_back C0 hS hl
set_option maxHeartbeats 4000000 in
set_option maxRecDepth 100000 in
/-- team: class and reference answer alike -/
theorem law_18 {p : Program} {l : Launch} {e : Env} {s : State} {m : MethodId} {below : List Frame} {meth : Method} {c : Code} {b : Nat} {xs : Nat → Int32} {D : va_G} {cI : ClassId} {qx qm : Nat} {ax am : Nat → Nat} {H : Heap} {locs : List Loc} {ls : Array Slot} (C : lw_C p s m meth c b xs D cI) (hP : va_P D vwCl (w_L cI qx ax qm am) H) (hD : va_D (fun q : Nat => s.heap.size ≤ q) (w_L cI qx ax qm am)) (hS : va_S (fun q : Nat => s.heap.size ≤ q) s.heap H locs) (hl : lv_has ls 4 [(3, .int 0), (2, .ref qm), (1, .ref qx), (0, .ref b)]) : W p l e room_1 s m #[Value.ref b] below meth c H locs 78 71288 (lw_Z below #[Value.ref b] s) (F0 m 785 ls []) := by
  have C0 := C
  obtain ⟨hx, hb, hr, hml, hown, hT, hX, hbl, hlocks, hK⟩ := C
  have hA : ∀ q : Nat, s.heap.size ≤ q → (fun q : Nat => s.heap.size ≤ q) q := fun _ h => h
  have hbA : ¬ (fun q : Nat => s.heap.size ≤ q) b := Nat.not_le.mpr hbl
  refine lv_aload_n hx hb dL_law_785 rfl (lv_at hl 2 rfl) ?_
  refine lv_aload_n hx hb dL_law_786 rfl (lv_at hl 3 rfl) ?_
  refine lv_iload_n hx hb dL_law_787 rfl (lv_at hl 0 rfl) ?_
  refine lv_iconst (v := 1) hx hb dL_law_788 (by decide) ?_
  refine lv_iadd hx hb dL_law_789 ?_
  refine ct_i (z := 1) (by decide) ?_
  refine va_sld hx hb hX hbl hbA hS (vi_c (by decide +kernel)) dL_law_790 ?_
  refine lv_aload_n hx hb dL_law_791 rfl (lv_at hl 3 rfl) ?_
  refine lv_iload_n hx hb dL_law_792 rfl (lv_at hl 0 rfl) ?_
  refine lv_iconst (v := 2) hx hb dL_law_793 (by decide) ?_
  refine lv_iadd hx hb dL_law_794 ?_
  refine ct_i (z := 2) (by decide) ?_
  refine va_sld hx hb hX hbl hbA hS (vi_c (by decide +kernel)) dL_law_795 ?_
  refine go_R (v := some (.int (-1))) (st1 := [.int (-1)]) (run_V (As := [.int (xs (1 : Int32).toNatClampNeg), .int (xs (2 : Int32).toNatClampNeg)]) (rest := []) ⟨hx, hb, hml, hown, hT⟩ (kX11_team_0 l D cI qx ax (xs (1 : Int32).toNatClampNeg) (xs (2 : Int32).toNatClampNeg)) sw_924 lkv_X11_team (p_R_V (ci := 11) (q0 := 0) (hP.sub (ws' := [(qx, .inr (11, (Value.ref (ax 0) :: Value.ref (ax 1) :: Value.ref (ax 2) :: Value.ref (ax 3) :: Value.ref (ax 4) :: Value.ref (ax 5) :: Value.ref (ax 6) :: Value.ref (ax 7) :: Value.ref (ax 8) :: Value.ref (ax 9) :: Value.ref (ax 10) :: Value.ref (ax 11) :: Value.ref (ax 12) :: Value.ref (ax 13) :: Value.ref (ax 14) :: Value.int 0 :: Value.int 0 :: Value.int 0 :: []))), ((ax 1), .inr (3, [.ref (ax 16), .ref (ax 17), .ref (ax 18), .ref (ax 19), .int 0, .int 0, .int 0, .int 0]))]) [0, 3] rfl) hK rfl rfl) rfl hl.1 rfl (Nat.le_of_ble_eq_true rfl) dL_law_796 ⟨⟨Nat.le_of_ble_eq_true rfl, Nat.le_of_ble_eq_true rfl⟩, Nat.le_of_ble_eq_true rfl, Nat.le_of_ble_eq_true rfl⟩) rfl ?_
  refine lv_aload_n hx hb dL_law_799 rfl (lv_at hl 1 rfl) ?_
  refine lv_aload_n hx hb dL_law_800 rfl (lv_at hl 3 rfl) ?_
  refine lv_iload_n hx hb dL_law_801 rfl (lv_at hl 0 rfl) ?_
  refine lv_iconst (v := 1) hx hb dL_law_802 (by decide) ?_
  refine lv_iadd hx hb dL_law_803 ?_
  refine ct_i (z := 1) (by decide) ?_
  refine va_sld hx hb hX hbl hbA hS (vi_c (by decide +kernel)) dL_law_804 ?_
  refine lv_aload_n hx hb dL_law_805 rfl (lv_at hl 3 rfl) ?_
  refine lv_iload_n hx hb dL_law_806 rfl (lv_at hl 0 rfl) ?_
  refine lv_iconst (v := 2) hx hb dL_law_807 (by decide) ?_
  refine lv_iadd hx hb dL_law_808 ?_
  refine ct_i (z := 2) (by decide) ?_
  refine va_sld hx hb hX hbl hbA hS (vi_c (by decide +kernel)) dL_law_809 ?_
  refine go_R (v := some (.int (-1))) (st1 := [.int (-1), .int (-1)]) (run_V (As := [.int (xs (1 : Int32).toNatClampNeg), .int (xs (2 : Int32).toNatClampNeg)]) (rest := [.int (-1)]) ⟨hx, hb, hml, hown, hT⟩ (kX12_team_0 l D cI qm am (xs (1 : Int32).toNatClampNeg) (xs (2 : Int32).toNatClampNeg)) sw_1696 lkv_X12_team (p_R_V (ci := 12) (q0 := 0) (hP.sub (ws' := [(qm, .inr (12, (Value.int 0 :: Value.int 0 :: Value.ref (am 0) :: Value.int 0 :: Value.int 0 :: Value.ref (am 1) :: Value.ref (am 2) :: Value.int 0 :: Value.ref (am 3) :: Value.ref (am 4) :: Value.int 0 :: Value.ref (am 5) :: Value.ref (am 6) :: Value.ref (am 7) :: Value.int 0 :: Value.ref (am 8) :: Value.int 0 :: Value.int (-1) :: Value.int 0 :: Value.int 0 :: Value.int 0 :: Value.int 0 :: Value.int (-1) :: Value.ref (am 9) :: Value.ref (am 10) :: Value.ref (am 11) :: Value.int 0 :: Value.ref (am 12) :: Value.ref (am 13) :: Value.ref (am 14) :: Value.ref (am 15) :: Value.int 0 :: Value.int 0 :: Value.int 0 :: Value.int 0 :: Value.int 0 :: Value.int 0 :: Value.int 0 :: Value.int 0 :: Value.ref (am 16) :: Value.ref (am 17) :: Value.ref (am 18) :: Value.ref (am 19) :: Value.int 0 :: Value.int 0 :: Value.int 1 :: Value.ref (am 20) :: Value.int 0 :: [])))]) [13] rfl) hK rfl rfl) rfl hl.1 rfl (Nat.le_of_ble_eq_true rfl) dL_law_810 ⟨⟨Nat.le_of_ble_eq_true rfl, Nat.le_of_ble_eq_true rfl⟩, Nat.le_of_ble_eq_true rfl, Nat.le_of_ble_eq_true rfl⟩) rfl ?_
  refine lv_icmp_eq (tgt := 1665) hx hb dL_law_813 (by decide) (fun _ => ?_) (fun h9 => absurd rfl h9)
  exact law_back C0 hS hl
set_option maxHeartbeats 4000000 in
set_option maxRecDepth 100000 in
/-- called: class and reference answer alike -/
theorem law_19 {p : Program} {l : Launch} {e : Env} {s : State} {m : MethodId} {below : List Frame} {meth : Method} {c : Code} {b : Nat} {xs : Nat → Int32} {D : va_G} {cI : ClassId} {qx qm : Nat} {ax am : Nat → Nat} {H : Heap} {locs : List Loc} {ls : Array Slot} (C : lw_C p s m meth c b xs D cI) (hP : va_P D vwCl (w_L cI qx ax qm am) H) (hD : va_D (fun q : Nat => s.heap.size ≤ q) (w_L cI qx ax qm am)) (hS : va_S (fun q : Nat => s.heap.size ≤ q) s.heap H locs) (hl : lv_has ls 4 [(3, .int 0), (2, .ref qm), (1, .ref qx), (0, .ref b)]) : W p l e room_1 s m #[Value.ref b] below meth c H locs 78 71288 (lw_Z below #[Value.ref b] s) (F0 m 818 ls []) := by
  have C0 := C
  obtain ⟨hx, hb, hr, hml, hown, hT, hX, hbl, hlocks, hK⟩ := C
  have hA : ∀ q : Nat, s.heap.size ≤ q → (fun q : Nat => s.heap.size ≤ q) q := fun _ h => h
  have hbA : ¬ (fun q : Nat => s.heap.size ≤ q) b := Nat.not_le.mpr hbl
  refine lv_aload_n hx hb dL_law_818 rfl (lv_at hl 2 rfl) ?_
  refine lv_aload_n hx hb dL_law_819 rfl (lv_at hl 3 rfl) ?_
  refine lv_iload_n hx hb dL_law_820 rfl (lv_at hl 0 rfl) ?_
  refine lv_iconst (v := 1) hx hb dL_law_821 (by decide) ?_
  refine lv_iadd hx hb dL_law_822 ?_
  refine ct_i (z := 1) (by decide) ?_
  refine va_sld hx hb hX hbl hbA hS (vi_c (by decide +kernel)) dL_law_823 ?_
  refine lv_aload_n hx hb dL_law_824 rfl (lv_at hl 3 rfl) ?_
  refine lv_iload_n hx hb dL_law_825 rfl (lv_at hl 0 rfl) ?_
  refine lv_iconst (v := 2) hx hb dL_law_826 (by decide) ?_
  refine lv_iadd hx hb dL_law_827 ?_
  refine ct_i (z := 2) (by decide) ?_
  refine va_sld hx hb hX hbl hbA hS (vi_c (by decide +kernel)) dL_law_828 ?_
  refine go_R (v := some (.int (-1))) (st1 := [.int (-1)]) (run_V (As := [.int (xs (1 : Int32).toNatClampNeg), .int (xs (2 : Int32).toNatClampNeg)]) (rest := []) ⟨hx, hb, hml, hown, hT⟩ (kX11_called_0 l D cI qx ax (xs (1 : Int32).toNatClampNeg) (xs (2 : Int32).toNatClampNeg)) sw_940 lkv_X11_called (p_R_V (ci := 11) (q0 := 0) (hP.sub (ws' := [(qx, .inr (11, (Value.ref (ax 0) :: Value.ref (ax 1) :: Value.ref (ax 2) :: Value.ref (ax 3) :: Value.ref (ax 4) :: Value.ref (ax 5) :: Value.ref (ax 6) :: Value.ref (ax 7) :: Value.ref (ax 8) :: Value.ref (ax 9) :: Value.ref (ax 10) :: Value.ref (ax 11) :: Value.ref (ax 12) :: Value.ref (ax 13) :: Value.ref (ax 14) :: Value.int 0 :: Value.int 0 :: Value.int 0 :: []))), ((ax 1), .inr (3, [.ref (ax 16), .ref (ax 17), .ref (ax 18), .ref (ax 19), .int 0, .int 0, .int 0, .int 0]))]) [0, 3] rfl) hK rfl rfl) rfl hl.1 rfl (Nat.le_of_ble_eq_true rfl) dL_law_829 ⟨⟨Nat.le_of_ble_eq_true rfl, Nat.le_of_ble_eq_true rfl⟩, Nat.le_of_ble_eq_true rfl, Nat.le_of_ble_eq_true rfl⟩) rfl ?_
  refine lv_aload_n hx hb dL_law_832 rfl (lv_at hl 1 rfl) ?_
  refine lv_aload_n hx hb dL_law_833 rfl (lv_at hl 3 rfl) ?_
  refine lv_iload_n hx hb dL_law_834 rfl (lv_at hl 0 rfl) ?_
  refine lv_iconst (v := 1) hx hb dL_law_835 (by decide) ?_
  refine lv_iadd hx hb dL_law_836 ?_
  refine ct_i (z := 1) (by decide) ?_
  refine va_sld hx hb hX hbl hbA hS (vi_c (by decide +kernel)) dL_law_837 ?_
  refine lv_aload_n hx hb dL_law_838 rfl (lv_at hl 3 rfl) ?_
  refine lv_iload_n hx hb dL_law_839 rfl (lv_at hl 0 rfl) ?_
  refine lv_iconst (v := 2) hx hb dL_law_840 (by decide) ?_
  refine lv_iadd hx hb dL_law_841 ?_
  refine ct_i (z := 2) (by decide) ?_
  refine va_sld hx hb hX hbl hbA hS (vi_c (by decide +kernel)) dL_law_842 ?_
  refine go_R (v := some (.int (-1))) (st1 := [.int (-1), .int (-1)]) (run_V (As := [.int (xs (1 : Int32).toNatClampNeg), .int (xs (2 : Int32).toNatClampNeg)]) (rest := [.int (-1)]) ⟨hx, hb, hml, hown, hT⟩ (kX12_called_0 l D cI qm am (xs (1 : Int32).toNatClampNeg) (xs (2 : Int32).toNatClampNeg)) sw_1708 lkv_X12_called (p_R_V (ci := 12) (q0 := 0) (hP.sub (ws' := [(qm, .inr (12, (Value.int 0 :: Value.int 0 :: Value.ref (am 0) :: Value.int 0 :: Value.int 0 :: Value.ref (am 1) :: Value.ref (am 2) :: Value.int 0 :: Value.ref (am 3) :: Value.ref (am 4) :: Value.int 0 :: Value.ref (am 5) :: Value.ref (am 6) :: Value.ref (am 7) :: Value.int 0 :: Value.ref (am 8) :: Value.int 0 :: Value.int (-1) :: Value.int 0 :: Value.int 0 :: Value.int 0 :: Value.int 0 :: Value.int (-1) :: Value.ref (am 9) :: Value.ref (am 10) :: Value.ref (am 11) :: Value.int 0 :: Value.ref (am 12) :: Value.ref (am 13) :: Value.ref (am 14) :: Value.ref (am 15) :: Value.int 0 :: Value.int 0 :: Value.int 0 :: Value.int 0 :: Value.int 0 :: Value.int 0 :: Value.int 0 :: Value.int 0 :: Value.ref (am 16) :: Value.ref (am 17) :: Value.ref (am 18) :: Value.ref (am 19) :: Value.int 0 :: Value.int 0 :: Value.int 1 :: Value.ref (am 20) :: Value.int 0 :: [])))]) [13] rfl) hK rfl rfl) rfl hl.1 rfl (Nat.le_of_ble_eq_true rfl) dL_law_843 ⟨⟨Nat.le_of_ble_eq_true rfl, Nat.le_of_ble_eq_true rfl⟩, Nat.le_of_ble_eq_true rfl, Nat.le_of_ble_eq_true rfl⟩) rfl ?_
  refine lv_icmp_eq (tgt := 1665) hx hb dL_law_846 (by decide) (fun _ => ?_) (fun h9 => absurd rfl h9)
  exact law_back C0 hS hl
set_option maxHeartbeats 4000000 in
set_option maxRecDepth 100000 in
/-- inside: class and reference answer alike -/
theorem law_20 {p : Program} {l : Launch} {e : Env} {s : State} {m : MethodId} {below : List Frame} {meth : Method} {c : Code} {b : Nat} {xs : Nat → Int32} {D : va_G} {cI : ClassId} {qx qm : Nat} {ax am : Nat → Nat} {H : Heap} {locs : List Loc} {ls : Array Slot} (C : lw_C p s m meth c b xs D cI) (hP : va_P D vwCl (w_L cI qx ax qm am) H) (hD : va_D (fun q : Nat => s.heap.size ≤ q) (w_L cI qx ax qm am)) (hS : va_S (fun q : Nat => s.heap.size ≤ q) s.heap H locs) (hl : lv_has ls 4 [(3, .int 0), (2, .ref qm), (1, .ref qx), (0, .ref b)]) : W p l e room_1 s m #[Value.ref b] below meth c H locs 78 71288 (lw_Z below #[Value.ref b] s) (F0 m 851 ls []) := by
  have C0 := C
  obtain ⟨hx, hb, hr, hml, hown, hT, hX, hbl, hlocks, hK⟩ := C
  have hA : ∀ q : Nat, s.heap.size ≤ q → (fun q : Nat => s.heap.size ≤ q) q := fun _ h => h
  have hbA : ¬ (fun q : Nat => s.heap.size ≤ q) b := Nat.not_le.mpr hbl
  refine lv_aload_n hx hb dL_law_851 rfl (lv_at hl 2 rfl) ?_
  refine lv_aload_n hx hb dL_law_852 rfl (lv_at hl 3 rfl) ?_
  refine lv_iload_n hx hb dL_law_853 rfl (lv_at hl 0 rfl) ?_
  refine lv_iconst (v := 1) hx hb dL_law_854 (by decide) ?_
  refine lv_iadd hx hb dL_law_855 ?_
  refine ct_i (z := 1) (by decide) ?_
  refine va_sld hx hb hX hbl hbA hS (vi_c (by decide +kernel)) dL_law_856 ?_
  refine lv_aload_n hx hb dL_law_857 rfl (lv_at hl 3 rfl) ?_
  refine lv_iload_n hx hb dL_law_858 rfl (lv_at hl 0 rfl) ?_
  refine lv_iconst (v := 2) hx hb dL_law_859 (by decide) ?_
  refine lv_iadd hx hb dL_law_860 ?_
  refine ct_i (z := 2) (by decide) ?_
  refine va_sld hx hb hX hbl hbA hS (vi_c (by decide +kernel)) dL_law_861 ?_
  refine lv_aload_n hx hb dL_law_862 rfl (lv_at hl 3 rfl) ?_
  refine lv_iload_n hx hb dL_law_863 rfl (lv_at hl 0 rfl) ?_
  refine lv_iconst (v := 3) hx hb dL_law_864 (by decide) ?_
  refine lv_iadd hx hb dL_law_865 ?_
  refine ct_i (z := 3) (by decide) ?_
  refine va_sld hx hb hX hbl hbA hS (vi_c (by decide +kernel)) dL_law_866 ?_
  refine go_R (v := some (.int (-1))) (st1 := [.int (-1)]) (run_V (As := [.int (xs (1 : Int32).toNatClampNeg), .int (xs (2 : Int32).toNatClampNeg), .int (xs (3 : Int32).toNatClampNeg)]) (rest := []) ⟨hx, hb, hml, hown, hT⟩ (kX11_inside_0 l D cI qx ax (xs (1 : Int32).toNatClampNeg) (xs (2 : Int32).toNatClampNeg) (xs (3 : Int32).toNatClampNeg)) sw_944 lkv_X11_inside (p_R_V (ci := 11) (q0 := 0) (hP.sub (ws' := [(qx, .inr (11, (Value.ref (ax 0) :: Value.ref (ax 1) :: Value.ref (ax 2) :: Value.ref (ax 3) :: Value.ref (ax 4) :: Value.ref (ax 5) :: Value.ref (ax 6) :: Value.ref (ax 7) :: Value.ref (ax 8) :: Value.ref (ax 9) :: Value.ref (ax 10) :: Value.ref (ax 11) :: Value.ref (ax 12) :: Value.ref (ax 13) :: Value.ref (ax 14) :: Value.int 0 :: Value.int 0 :: Value.int 0 :: []))), ((ax 1), .inr (3, [.ref (ax 16), .ref (ax 17), .ref (ax 18), .ref (ax 19), .int 0, .int 0, .int 0, .int 0]))]) [0, 3] rfl) hK rfl rfl) rfl hl.1 rfl (Nat.le_of_ble_eq_true rfl) dL_law_867 ⟨⟨Nat.le_of_ble_eq_true rfl, Nat.le_of_ble_eq_true rfl⟩, Nat.le_of_ble_eq_true rfl, Nat.le_of_ble_eq_true rfl⟩) rfl ?_
  refine lv_aload_n hx hb dL_law_870 rfl (lv_at hl 1 rfl) ?_
  refine lv_aload_n hx hb dL_law_871 rfl (lv_at hl 3 rfl) ?_
  refine lv_iload_n hx hb dL_law_872 rfl (lv_at hl 0 rfl) ?_
  refine lv_iconst (v := 1) hx hb dL_law_873 (by decide) ?_
  refine lv_iadd hx hb dL_law_874 ?_
  refine ct_i (z := 1) (by decide) ?_
  refine va_sld hx hb hX hbl hbA hS (vi_c (by decide +kernel)) dL_law_875 ?_
  refine lv_aload_n hx hb dL_law_876 rfl (lv_at hl 3 rfl) ?_
  refine lv_iload_n hx hb dL_law_877 rfl (lv_at hl 0 rfl) ?_
  refine lv_iconst (v := 2) hx hb dL_law_878 (by decide) ?_
  refine lv_iadd hx hb dL_law_879 ?_
  refine ct_i (z := 2) (by decide) ?_
  refine va_sld hx hb hX hbl hbA hS (vi_c (by decide +kernel)) dL_law_880 ?_
  refine lv_aload_n hx hb dL_law_881 rfl (lv_at hl 3 rfl) ?_
  refine lv_iload_n hx hb dL_law_882 rfl (lv_at hl 0 rfl) ?_
  refine lv_iconst (v := 3) hx hb dL_law_883 (by decide) ?_
  refine lv_iadd hx hb dL_law_884 ?_
  refine ct_i (z := 3) (by decide) ?_
  refine va_sld hx hb hX hbl hbA hS (vi_c (by decide +kernel)) dL_law_885 ?_
  refine go_R (v := some (.int (-1))) (st1 := [.int (-1), .int (-1)]) (run_V (As := [.int (xs (1 : Int32).toNatClampNeg), .int (xs (2 : Int32).toNatClampNeg), .int (xs (3 : Int32).toNatClampNeg)]) (rest := [.int (-1)]) ⟨hx, hb, hml, hown, hT⟩ (kX12_inside_0 l D cI qm am (xs (1 : Int32).toNatClampNeg) (xs (2 : Int32).toNatClampNeg) (xs (3 : Int32).toNatClampNeg)) sw_1712 lkv_X12_inside (p_R_V (ci := 12) (q0 := 0) (hP.sub (ws' := [(qm, .inr (12, (Value.int 0 :: Value.int 0 :: Value.ref (am 0) :: Value.int 0 :: Value.int 0 :: Value.ref (am 1) :: Value.ref (am 2) :: Value.int 0 :: Value.ref (am 3) :: Value.ref (am 4) :: Value.int 0 :: Value.ref (am 5) :: Value.ref (am 6) :: Value.ref (am 7) :: Value.int 0 :: Value.ref (am 8) :: Value.int 0 :: Value.int (-1) :: Value.int 0 :: Value.int 0 :: Value.int 0 :: Value.int 0 :: Value.int (-1) :: Value.ref (am 9) :: Value.ref (am 10) :: Value.ref (am 11) :: Value.int 0 :: Value.ref (am 12) :: Value.ref (am 13) :: Value.ref (am 14) :: Value.ref (am 15) :: Value.int 0 :: Value.int 0 :: Value.int 0 :: Value.int 0 :: Value.int 0 :: Value.int 0 :: Value.int 0 :: Value.int 0 :: Value.ref (am 16) :: Value.ref (am 17) :: Value.ref (am 18) :: Value.ref (am 19) :: Value.int 0 :: Value.int 0 :: Value.int 1 :: Value.ref (am 20) :: Value.int 0 :: [])))]) [13] rfl) hK rfl rfl) rfl hl.1 rfl (Nat.le_of_ble_eq_true rfl) dL_law_886 ⟨⟨Nat.le_of_ble_eq_true rfl, Nat.le_of_ble_eq_true rfl⟩, Nat.le_of_ble_eq_true rfl, Nat.le_of_ble_eq_true rfl⟩) rfl ?_
  refine lv_icmp_eq (tgt := 1665) hx hb dL_law_889 (by decide) (fun _ => ?_) (fun h9 => absurd rfl h9)
  exact law_back C0 hS hl
set_option maxHeartbeats 4000000 in
set_option maxRecDepth 100000 in
/-- triesIn: class and reference answer alike -/
theorem law_21 {p : Program} {l : Launch} {e : Env} {s : State} {m : MethodId} {below : List Frame} {meth : Method} {c : Code} {b : Nat} {xs : Nat → Int32} {D : va_G} {cI : ClassId} {qx qm : Nat} {ax am : Nat → Nat} {H : Heap} {locs : List Loc} {ls : Array Slot} (C : lw_C p s m meth c b xs D cI) (hP : va_P D vwCl (w_L cI qx ax qm am) H) (hD : va_D (fun q : Nat => s.heap.size ≤ q) (w_L cI qx ax qm am)) (hS : va_S (fun q : Nat => s.heap.size ≤ q) s.heap H locs) (hl : lv_has ls 4 [(3, .int 0), (2, .ref qm), (1, .ref qx), (0, .ref b)]) : W p l e room_1 s m #[Value.ref b] below meth c H locs 78 71288 (lw_Z below #[Value.ref b] s) (F0 m 894 ls []) := by
  have C0 := C
  obtain ⟨hx, hb, hr, hml, hown, hT, hX, hbl, hlocks, hK⟩ := C
  have hA : ∀ q : Nat, s.heap.size ≤ q → (fun q : Nat => s.heap.size ≤ q) q := fun _ h => h
  have hbA : ¬ (fun q : Nat => s.heap.size ≤ q) b := Nat.not_le.mpr hbl
  refine lv_aload_n hx hb dL_law_894 rfl (lv_at hl 2 rfl) ?_
  refine lv_aload_n hx hb dL_law_895 rfl (lv_at hl 3 rfl) ?_
  refine lv_iload_n hx hb dL_law_896 rfl (lv_at hl 0 rfl) ?_
  refine lv_iconst (v := 1) hx hb dL_law_897 (by decide) ?_
  refine lv_iadd hx hb dL_law_898 ?_
  refine ct_i (z := 1) (by decide) ?_
  refine va_sld hx hb hX hbl hbA hS (vi_c (by decide +kernel)) dL_law_899 ?_
  refine lv_aload_n hx hb dL_law_900 rfl (lv_at hl 3 rfl) ?_
  refine lv_iload_n hx hb dL_law_901 rfl (lv_at hl 0 rfl) ?_
  refine lv_iconst (v := 2) hx hb dL_law_902 (by decide) ?_
  refine lv_iadd hx hb dL_law_903 ?_
  refine ct_i (z := 2) (by decide) ?_
  refine va_sld hx hb hX hbl hbA hS (vi_c (by decide +kernel)) dL_law_904 ?_
  refine go_M (wc := [(qx, .inr (11, (Value.ref (ax 0) :: Value.ref (ax 1) :: Value.ref (ax 2) :: Value.ref (ax 3) :: Value.ref (ax 4) :: Value.ref (ax 5) :: Value.ref (ax 6) :: Value.ref (ax 7) :: Value.ref (ax 8) :: Value.ref (ax 9) :: Value.ref (ax 10) :: Value.ref (ax 11) :: Value.ref (ax 12) :: Value.ref (ax 13) :: Value.ref (ax 14) :: Value.int 0 :: Value.int 0 :: Value.int 0 :: []))), ((ax 0), .inr (9, [.ref (ax 15), .int 0])), ((ax 1), .inr (3, [.ref (ax 16), .ref (ax 17), .ref (ax 18), .ref (ax 19), .int 0, .int 0, .int 0, .int 0])), ((ax 5), .inr (5, (Value.ref (ax 30) :: Value.ref (ax 31) :: Value.ref (ax 32) :: Value.ref (ax 33) :: Value.ref (ax 34) :: Value.ref (ax 35) :: Value.ref (ax 36) :: Value.ref (ax 37) :: Value.int 0 :: Value.int 0 :: Value.int 0 :: Value.int 0 :: Value.int 0 :: Value.int 0 :: Value.int 0 :: [])))]) (wr := [(qm, .inr (12, (Value.int 0 :: Value.int 0 :: Value.ref (am 0) :: Value.int 0 :: Value.int 0 :: Value.ref (am 1) :: Value.ref (am 2) :: Value.int 0 :: Value.ref (am 3) :: Value.ref (am 4) :: Value.int 0 :: Value.ref (am 5) :: Value.ref (am 6) :: Value.ref (am 7) :: Value.int 0 :: Value.ref (am 8) :: Value.int 0 :: Value.int (-1) :: Value.int 0 :: Value.int 0 :: Value.int 0 :: Value.int 0 :: Value.int (-1) :: Value.ref (am 9) :: Value.ref (am 10) :: Value.ref (am 11) :: Value.int 0 :: Value.ref (am 12) :: Value.ref (am 13) :: Value.ref (am 14) :: Value.ref (am 15) :: Value.int 0 :: Value.int 0 :: Value.int 0 :: Value.int 0 :: Value.int 0 :: Value.int 0 :: Value.int 0 :: Value.int 0 :: Value.ref (am 16) :: Value.ref (am 17) :: Value.ref (am 18) :: Value.ref (am 19) :: Value.int 0 :: Value.int 0 :: Value.int 1 :: Value.ref (am 20) :: Value.int 0 :: []))), ((am 7), .inl (cI, 1200, .inl zI)), ((am 8), .inl (cI, 6, .inl zI)), ((am 10), .inl (cI, 3252, .inl zI)), ((am 20), .inl (cI, 130, .inl zI))]) (w1 := fun u => []) (v := some (.int (-1))) (st1 := [.int (-1)]) hP hD hS hA [0, 1, 3, 8] [13, 14, 15, 16, 17] rfl rfl (by decide) (by decide) (by decide) (fun hPc hDc => run_V (As := [.int (xs (1 : Int32).toNatClampNeg), .int (xs (2 : Int32).toNatClampNeg)]) (rest := []) ⟨hx, hb, hml, hown, hT⟩ (kX11_triesIn_0 l D cI qx ax (xs (1 : Int32).toNatClampNeg) (xs (2 : Int32).toNatClampNeg) _) sw_948 lkv_X11_triesIn (p_M_V (ci := 11) (q0 := 0) hPc hK hDc rfl rfl) rfl hl.1 rfl (Nat.le_of_ble_eq_true rfl) dL_law_905 ⟨⟨Nat.le_of_ble_eq_true rfl, Nat.le_of_ble_eq_true rfl⟩, Nat.le_of_ble_eq_true rfl, Nat.le_of_ble_eq_true rfl⟩) rfl (fun u H locs hP hD hS => ?_)
  have hP : va_P D vwCl [(qm, .inr (12, (Value.int 0 :: Value.int 0 :: Value.ref (am 0) :: Value.int 0 :: Value.int 0 :: Value.ref (am 1) :: Value.ref (am 2) :: Value.int 0 :: Value.ref (am 3) :: Value.ref (am 4) :: Value.int 0 :: Value.ref (am 5) :: Value.ref (am 6) :: Value.ref (am 7) :: Value.int 0 :: Value.ref (am 8) :: Value.int 0 :: Value.int (-1) :: Value.int 0 :: Value.int 0 :: Value.int 0 :: Value.int 0 :: Value.int (-1) :: Value.ref (am 9) :: Value.ref (am 10) :: Value.ref (am 11) :: Value.int 0 :: Value.ref (am 12) :: Value.ref (am 13) :: Value.ref (am 14) :: Value.ref (am 15) :: Value.int 0 :: Value.int 0 :: Value.int 0 :: Value.int 0 :: Value.int 0 :: Value.int 0 :: Value.int 0 :: Value.int 0 :: Value.ref (am 16) :: Value.ref (am 17) :: Value.ref (am 18) :: Value.ref (am 19) :: Value.int 0 :: Value.int 0 :: Value.int 1 :: Value.ref (am 20) :: Value.int 0 :: []))), ((am 7), .inl (cI, 1200, .inl zI)), ((am 8), .inl (cI, 6, .inl zI)), ((am 10), .inl (cI, 3252, .inl zI)), ((am 20), .inl (cI, 130, .inl zI))] H := hP
  have hD : va_D (fun q : Nat => s.heap.size ≤ q) [(qm, .inr (12, (Value.int 0 :: Value.int 0 :: Value.ref (am 0) :: Value.int 0 :: Value.int 0 :: Value.ref (am 1) :: Value.ref (am 2) :: Value.int 0 :: Value.ref (am 3) :: Value.ref (am 4) :: Value.int 0 :: Value.ref (am 5) :: Value.ref (am 6) :: Value.ref (am 7) :: Value.int 0 :: Value.ref (am 8) :: Value.int 0 :: Value.int (-1) :: Value.int 0 :: Value.int 0 :: Value.int 0 :: Value.int 0 :: Value.int (-1) :: Value.ref (am 9) :: Value.ref (am 10) :: Value.ref (am 11) :: Value.int 0 :: Value.ref (am 12) :: Value.ref (am 13) :: Value.ref (am 14) :: Value.ref (am 15) :: Value.int 0 :: Value.int 0 :: Value.int 0 :: Value.int 0 :: Value.int 0 :: Value.int 0 :: Value.int 0 :: Value.int 0 :: Value.ref (am 16) :: Value.ref (am 17) :: Value.ref (am 18) :: Value.ref (am 19) :: Value.int 0 :: Value.int 0 :: Value.int 1 :: Value.ref (am 20) :: Value.int 0 :: []))), ((am 7), .inl (cI, 1200, .inl zI)), ((am 8), .inl (cI, 6, .inl zI)), ((am 10), .inl (cI, 3252, .inl zI)), ((am 20), .inl (cI, 130, .inl zI))] := hD
  refine lv_aload_n hx hb dL_law_908 rfl (lv_at hl 1 rfl) ?_
  refine lv_aload_n hx hb dL_law_909 rfl (lv_at hl 3 rfl) ?_
  refine lv_iload_n hx hb dL_law_910 rfl (lv_at hl 0 rfl) ?_
  refine lv_iconst (v := 1) hx hb dL_law_911 (by decide) ?_
  refine lv_iadd hx hb dL_law_912 ?_
  refine ct_i (z := 1) (by decide) ?_
  refine va_sld hx hb hX hbl hbA hS (vi_c (by decide +kernel)) dL_law_913 ?_
  refine lv_aload_n hx hb dL_law_914 rfl (lv_at hl 3 rfl) ?_
  refine lv_iload_n hx hb dL_law_915 rfl (lv_at hl 0 rfl) ?_
  refine lv_iconst (v := 2) hx hb dL_law_916 (by decide) ?_
  refine lv_iadd hx hb dL_law_917 ?_
  refine ct_i (z := 2) (by decide) ?_
  refine va_sld hx hb hX hbl hbA hS (vi_c (by decide +kernel)) dL_law_918 ?_
  refine go_M (wc := [(qm, .inr (12, (Value.int 0 :: Value.int 0 :: Value.ref (am 0) :: Value.int 0 :: Value.int 0 :: Value.ref (am 1) :: Value.ref (am 2) :: Value.int 0 :: Value.ref (am 3) :: Value.ref (am 4) :: Value.int 0 :: Value.ref (am 5) :: Value.ref (am 6) :: Value.ref (am 7) :: Value.int 0 :: Value.ref (am 8) :: Value.int 0 :: Value.int (-1) :: Value.int 0 :: Value.int 0 :: Value.int 0 :: Value.int 0 :: Value.int (-1) :: Value.ref (am 9) :: Value.ref (am 10) :: Value.ref (am 11) :: Value.int 0 :: Value.ref (am 12) :: Value.ref (am 13) :: Value.ref (am 14) :: Value.ref (am 15) :: Value.int 0 :: Value.int 0 :: Value.int 0 :: Value.int 0 :: Value.int 0 :: Value.int 0 :: Value.int 0 :: Value.int 0 :: Value.ref (am 16) :: Value.ref (am 17) :: Value.ref (am 18) :: Value.ref (am 19) :: Value.int 0 :: Value.int 0 :: Value.int 1 :: Value.ref (am 20) :: Value.int 0 :: [])))]) (wr := []) (w1 := fun u => []) (v := some (.int (-1))) (st1 := [.int (-1), .int (-1)]) hP hD hS hA [0] [] rfl rfl (by decide) (by decide) (by decide) (fun hPc hDc => run_V (As := [.int (xs (1 : Int32).toNatClampNeg), .int (xs (2 : Int32).toNatClampNeg)]) (rest := [.int (-1)]) ⟨hx, hb, hml, hown, hT⟩ (kX12_triesIn_0 l D cI qm am (xs (1 : Int32).toNatClampNeg) (xs (2 : Int32).toNatClampNeg) _) sw_1720 lkv_X12_triesIn (p_M_V (ci := 12) (q0 := 0) hPc hK hDc rfl rfl) rfl hl.1 rfl (Nat.le_of_ble_eq_true rfl) dL_law_919 ⟨⟨Nat.le_of_ble_eq_true rfl, Nat.le_of_ble_eq_true rfl⟩, Nat.le_of_ble_eq_true rfl, Nat.le_of_ble_eq_true rfl⟩) rfl (fun u H locs hP hD hS => ?_)
  have hP : va_P D vwCl [] H := hP
  have hD : va_D (fun q : Nat => s.heap.size ≤ q) [] := hD
  refine lv_icmp_eq (tgt := 1665) hx hb dL_law_922 (by decide) (fun _ => ?_) (fun h9 => absurd rfl h9)
  exact law_back C0 hS hl
set_option maxHeartbeats 4000000 in
set_option maxRecDepth 100000 in
/-- rowsIn: class and reference answer alike -/
theorem law_22 {p : Program} {l : Launch} {e : Env} {s : State} {m : MethodId} {below : List Frame} {meth : Method} {c : Code} {b : Nat} {xs : Nat → Int32} {D : va_G} {cI : ClassId} {qx qm : Nat} {ax am : Nat → Nat} {H : Heap} {locs : List Loc} {ls : Array Slot} (C : lw_C p s m meth c b xs D cI) (hP : va_P D vwCl (w_L cI qx ax qm am) H) (hD : va_D (fun q : Nat => s.heap.size ≤ q) (w_L cI qx ax qm am)) (hS : va_S (fun q : Nat => s.heap.size ≤ q) s.heap H locs) (hl : lv_has ls 4 [(3, .int 0), (2, .ref qm), (1, .ref qx), (0, .ref b)]) : W p l e room_1 s m #[Value.ref b] below meth c H locs 78 71288 (lw_Z below #[Value.ref b] s) (F0 m 927 ls []) := by
  have C0 := C
  obtain ⟨hx, hb, hr, hml, hown, hT, hX, hbl, hlocks, hK⟩ := C
  have hA : ∀ q : Nat, s.heap.size ≤ q → (fun q : Nat => s.heap.size ≤ q) q := fun _ h => h
  have hbA : ¬ (fun q : Nat => s.heap.size ≤ q) b := Nat.not_le.mpr hbl
  refine lv_aload_n hx hb dL_law_927 rfl (lv_at hl 2 rfl) ?_
  refine lv_aload_n hx hb dL_law_928 rfl (lv_at hl 3 rfl) ?_
  refine lv_iload_n hx hb dL_law_929 rfl (lv_at hl 0 rfl) ?_
  refine lv_iconst (v := 1) hx hb dL_law_930 (by decide) ?_
  refine lv_iadd hx hb dL_law_931 ?_
  refine ct_i (z := 1) (by decide) ?_
  refine va_sld hx hb hX hbl hbA hS (vi_c (by decide +kernel)) dL_law_932 ?_
  refine lv_aload_n hx hb dL_law_933 rfl (lv_at hl 3 rfl) ?_
  refine lv_iload_n hx hb dL_law_934 rfl (lv_at hl 0 rfl) ?_
  refine lv_iconst (v := 2) hx hb dL_law_935 (by decide) ?_
  refine lv_iadd hx hb dL_law_936 ?_
  refine ct_i (z := 2) (by decide) ?_
  refine va_sld hx hb hX hbl hbA hS (vi_c (by decide +kernel)) dL_law_937 ?_
  refine lv_aload_n hx hb dL_law_938 rfl (lv_at hl 3 rfl) ?_
  refine lv_iload_n hx hb dL_law_939 rfl (lv_at hl 0 rfl) ?_
  refine lv_iconst (v := 3) hx hb dL_law_940 (by decide) ?_
  refine lv_iadd hx hb dL_law_941 ?_
  refine ct_i (z := 3) (by decide) ?_
  refine va_sld hx hb hX hbl hbA hS (vi_c (by decide +kernel)) dL_law_942 ?_
  refine go_R (v := some (.int (-1))) (st1 := [.int (-1)]) (run_V (As := [.int (xs (1 : Int32).toNatClampNeg), .int (xs (2 : Int32).toNatClampNeg), .int (xs (3 : Int32).toNatClampNeg)]) (rest := []) ⟨hx, hb, hml, hown, hT⟩ (kX11_rowsIn_0 l D cI qx ax (xs (1 : Int32).toNatClampNeg) (xs (2 : Int32).toNatClampNeg) (xs (3 : Int32).toNatClampNeg)) sw_1030 lkv_X11_rowsIn (p_R_V (ci := 11) (q0 := 0) (hP.sub (ws' := [(qx, .inr (11, (Value.ref (ax 0) :: Value.ref (ax 1) :: Value.ref (ax 2) :: Value.ref (ax 3) :: Value.ref (ax 4) :: Value.ref (ax 5) :: Value.ref (ax 6) :: Value.ref (ax 7) :: Value.ref (ax 8) :: Value.ref (ax 9) :: Value.ref (ax 10) :: Value.ref (ax 11) :: Value.ref (ax 12) :: Value.ref (ax 13) :: Value.ref (ax 14) :: Value.int 0 :: Value.int 0 :: Value.int 0 :: []))), ((ax 1), .inr (3, [.ref (ax 16), .ref (ax 17), .ref (ax 18), .ref (ax 19), .int 0, .int 0, .int 0, .int 0]))]) [0, 3] rfl) hK rfl rfl) rfl hl.1 rfl (Nat.le_of_ble_eq_true rfl) dL_law_943 ⟨⟨Nat.le_of_ble_eq_true rfl, Nat.le_of_ble_eq_true rfl⟩, Nat.le_of_ble_eq_true rfl, Nat.le_of_ble_eq_true rfl⟩) rfl ?_
  refine lv_aload_n hx hb dL_law_946 rfl (lv_at hl 1 rfl) ?_
  refine lv_aload_n hx hb dL_law_947 rfl (lv_at hl 3 rfl) ?_
  refine lv_iload_n hx hb dL_law_948 rfl (lv_at hl 0 rfl) ?_
  refine lv_iconst (v := 1) hx hb dL_law_949 (by decide) ?_
  refine lv_iadd hx hb dL_law_950 ?_
  refine ct_i (z := 1) (by decide) ?_
  refine va_sld hx hb hX hbl hbA hS (vi_c (by decide +kernel)) dL_law_951 ?_
  refine lv_aload_n hx hb dL_law_952 rfl (lv_at hl 3 rfl) ?_
  refine lv_iload_n hx hb dL_law_953 rfl (lv_at hl 0 rfl) ?_
  refine lv_iconst (v := 2) hx hb dL_law_954 (by decide) ?_
  refine lv_iadd hx hb dL_law_955 ?_
  refine ct_i (z := 2) (by decide) ?_
  refine va_sld hx hb hX hbl hbA hS (vi_c (by decide +kernel)) dL_law_956 ?_
  refine lv_aload_n hx hb dL_law_957 rfl (lv_at hl 3 rfl) ?_
  refine lv_iload_n hx hb dL_law_958 rfl (lv_at hl 0 rfl) ?_
  refine lv_iconst (v := 3) hx hb dL_law_959 (by decide) ?_
  refine lv_iadd hx hb dL_law_960 ?_
  refine ct_i (z := 3) (by decide) ?_
  refine va_sld hx hb hX hbl hbA hS (vi_c (by decide +kernel)) dL_law_961 ?_
  refine go_R (v := some (.int (-1))) (st1 := [.int (-1), .int (-1)]) (run_V (As := [.int (xs (1 : Int32).toNatClampNeg), .int (xs (2 : Int32).toNatClampNeg), .int (xs (3 : Int32).toNatClampNeg)]) (rest := [.int (-1)]) ⟨hx, hb, hml, hown, hT⟩ (kX12_rowsIn_0 l D cI qm am (xs (1 : Int32).toNatClampNeg) (xs (2 : Int32).toNatClampNeg) (xs (3 : Int32).toNatClampNeg)) sw_1756 lkv_X12_rowsIn (p_R_V (ci := 12) (q0 := 0) (hP.sub (ws' := [(qm, .inr (12, (Value.int 0 :: Value.int 0 :: Value.ref (am 0) :: Value.int 0 :: Value.int 0 :: Value.ref (am 1) :: Value.ref (am 2) :: Value.int 0 :: Value.ref (am 3) :: Value.ref (am 4) :: Value.int 0 :: Value.ref (am 5) :: Value.ref (am 6) :: Value.ref (am 7) :: Value.int 0 :: Value.ref (am 8) :: Value.int 0 :: Value.int (-1) :: Value.int 0 :: Value.int 0 :: Value.int 0 :: Value.int 0 :: Value.int (-1) :: Value.ref (am 9) :: Value.ref (am 10) :: Value.ref (am 11) :: Value.int 0 :: Value.ref (am 12) :: Value.ref (am 13) :: Value.ref (am 14) :: Value.ref (am 15) :: Value.int 0 :: Value.int 0 :: Value.int 0 :: Value.int 0 :: Value.int 0 :: Value.int 0 :: Value.int 0 :: Value.int 0 :: Value.ref (am 16) :: Value.ref (am 17) :: Value.ref (am 18) :: Value.ref (am 19) :: Value.int 0 :: Value.int 0 :: Value.int 1 :: Value.ref (am 20) :: Value.int 0 :: [])))]) [13] rfl) hK rfl rfl) rfl hl.1 rfl (Nat.le_of_ble_eq_true rfl) dL_law_962 ⟨⟨Nat.le_of_ble_eq_true rfl, Nat.le_of_ble_eq_true rfl⟩, Nat.le_of_ble_eq_true rfl, Nat.le_of_ble_eq_true rfl⟩) rfl ?_
  refine lv_icmp_eq (tgt := 1665) hx hb dL_law_965 (by decide) (fun _ => ?_) (fun h9 => absurd rfl h9)
  exact law_back C0 hS hl
set_option maxHeartbeats 4000000 in
set_option maxRecDepth 100000 in
/-- quorum: class and reference answer alike -/
theorem law_23 {p : Program} {l : Launch} {e : Env} {s : State} {m : MethodId} {below : List Frame} {meth : Method} {c : Code} {b : Nat} {xs : Nat → Int32} {D : va_G} {cI : ClassId} {qx qm : Nat} {ax am : Nat → Nat} {H : Heap} {locs : List Loc} {ls : Array Slot} (C : lw_C p s m meth c b xs D cI) (hP : va_P D vwCl (w_L cI qx ax qm am) H) (hD : va_D (fun q : Nat => s.heap.size ≤ q) (w_L cI qx ax qm am)) (hS : va_S (fun q : Nat => s.heap.size ≤ q) s.heap H locs) (hl : lv_has ls 4 [(3, .int 0), (2, .ref qm), (1, .ref qx), (0, .ref b)]) : W p l e room_1 s m #[Value.ref b] below meth c H locs 78 71288 (lw_Z below #[Value.ref b] s) (F0 m 970 ls []) := by
  have C0 := C
  obtain ⟨hx, hb, hr, hml, hown, hT, hX, hbl, hlocks, hK⟩ := C
  have hA : ∀ q : Nat, s.heap.size ≤ q → (fun q : Nat => s.heap.size ≤ q) q := fun _ h => h
  have hbA : ¬ (fun q : Nat => s.heap.size ≤ q) b := Nat.not_le.mpr hbl
  refine lv_aload_n hx hb dL_law_970 rfl (lv_at hl 2 rfl) ?_
  refine lv_aload_n hx hb dL_law_971 rfl (lv_at hl 3 rfl) ?_
  refine lv_iload_n hx hb dL_law_972 rfl (lv_at hl 0 rfl) ?_
  refine lv_iconst (v := 1) hx hb dL_law_973 (by decide) ?_
  refine lv_iadd hx hb dL_law_974 ?_
  refine ct_i (z := 1) (by decide) ?_
  refine va_sld hx hb hX hbl hbA hS (vi_c (by decide +kernel)) dL_law_975 ?_
  refine lv_aload_n hx hb dL_law_976 rfl (lv_at hl 3 rfl) ?_
  refine lv_iload_n hx hb dL_law_977 rfl (lv_at hl 0 rfl) ?_
  refine lv_iconst (v := 2) hx hb dL_law_978 (by decide) ?_
  refine lv_iadd hx hb dL_law_979 ?_
  refine ct_i (z := 2) (by decide) ?_
  refine va_sld hx hb hX hbl hbA hS (vi_c (by decide +kernel)) dL_law_980 ?_
  refine lv_aload_n hx hb dL_law_981 rfl (lv_at hl 3 rfl) ?_
  refine lv_iload_n hx hb dL_law_982 rfl (lv_at hl 0 rfl) ?_
  refine lv_iconst (v := 3) hx hb dL_law_983 (by decide) ?_
  refine lv_iadd hx hb dL_law_984 ?_
  refine ct_i (z := 3) (by decide) ?_
  refine va_sld hx hb hX hbl hbA hS (vi_c (by decide +kernel)) dL_law_985 ?_
  refine go_R (v := some (.int (-1))) (st1 := [.int (-1)]) (run_V (As := [.int (xs (1 : Int32).toNatClampNeg), .int (xs (2 : Int32).toNatClampNeg), .int (xs (3 : Int32).toNatClampNeg)]) (rest := []) ⟨hx, hb, hml, hown, hT⟩ (kX11_quorum_0 l D cI qx ax (xs (1 : Int32).toNatClampNeg) (xs (2 : Int32).toNatClampNeg) (xs (3 : Int32).toNatClampNeg)) sw_1052 lkv_X11_quorum (p_R_V (ci := 11) (q0 := 0) (hP.sub (ws' := [(qx, .inr (11, (Value.ref (ax 0) :: Value.ref (ax 1) :: Value.ref (ax 2) :: Value.ref (ax 3) :: Value.ref (ax 4) :: Value.ref (ax 5) :: Value.ref (ax 6) :: Value.ref (ax 7) :: Value.ref (ax 8) :: Value.ref (ax 9) :: Value.ref (ax 10) :: Value.ref (ax 11) :: Value.ref (ax 12) :: Value.ref (ax 13) :: Value.ref (ax 14) :: Value.int 0 :: Value.int 0 :: Value.int 0 :: []))), ((ax 5), .inr (5, (Value.ref (ax 30) :: Value.ref (ax 31) :: Value.ref (ax 32) :: Value.ref (ax 33) :: Value.ref (ax 34) :: Value.ref (ax 35) :: Value.ref (ax 36) :: Value.ref (ax 37) :: Value.int 0 :: Value.int 0 :: Value.int 0 :: Value.int 0 :: Value.int 0 :: Value.int 0 :: Value.int 0 :: [])))]) [0, 8] rfl) hK rfl rfl) rfl hl.1 rfl (Nat.le_of_ble_eq_true rfl) dL_law_986 ⟨⟨Nat.le_of_ble_eq_true rfl, Nat.le_of_ble_eq_true rfl⟩, Nat.le_of_ble_eq_true rfl, Nat.le_of_ble_eq_true rfl⟩) rfl ?_
  refine lv_aload_n hx hb dL_law_989 rfl (lv_at hl 1 rfl) ?_
  refine lv_aload_n hx hb dL_law_990 rfl (lv_at hl 3 rfl) ?_
  refine lv_iload_n hx hb dL_law_991 rfl (lv_at hl 0 rfl) ?_
  refine lv_iconst (v := 1) hx hb dL_law_992 (by decide) ?_
  refine lv_iadd hx hb dL_law_993 ?_
  refine ct_i (z := 1) (by decide) ?_
  refine va_sld hx hb hX hbl hbA hS (vi_c (by decide +kernel)) dL_law_994 ?_
  refine lv_aload_n hx hb dL_law_995 rfl (lv_at hl 3 rfl) ?_
  refine lv_iload_n hx hb dL_law_996 rfl (lv_at hl 0 rfl) ?_
  refine lv_iconst (v := 2) hx hb dL_law_997 (by decide) ?_
  refine lv_iadd hx hb dL_law_998 ?_
  refine ct_i (z := 2) (by decide) ?_
  refine va_sld hx hb hX hbl hbA hS (vi_c (by decide +kernel)) dL_law_999 ?_
  refine lv_aload_n hx hb dL_law_1000 rfl (lv_at hl 3 rfl) ?_
  refine lv_iload_n hx hb dL_law_1001 rfl (lv_at hl 0 rfl) ?_
  refine lv_iconst (v := 3) hx hb dL_law_1002 (by decide) ?_
  refine lv_iadd hx hb dL_law_1003 ?_
  refine ct_i (z := 3) (by decide) ?_
  refine va_sld hx hb hX hbl hbA hS (vi_c (by decide +kernel)) dL_law_1004 ?_
  refine go_R (v := some (.int (-1))) (st1 := [.int (-1), .int (-1)]) (run_V (As := [.int (xs (1 : Int32).toNatClampNeg), .int (xs (2 : Int32).toNatClampNeg), .int (xs (3 : Int32).toNatClampNeg)]) (rest := [.int (-1)]) ⟨hx, hb, hml, hown, hT⟩ (kX12_quorum_0 l D cI qm am (xs (1 : Int32).toNatClampNeg) (xs (2 : Int32).toNatClampNeg) (xs (3 : Int32).toNatClampNeg)) sw_1764 lkv_X12_quorum (p_R_V (ci := 12) (q0 := 0) (hP.sub (ws' := [(qm, .inr (12, (Value.int 0 :: Value.int 0 :: Value.ref (am 0) :: Value.int 0 :: Value.int 0 :: Value.ref (am 1) :: Value.ref (am 2) :: Value.int 0 :: Value.ref (am 3) :: Value.ref (am 4) :: Value.int 0 :: Value.ref (am 5) :: Value.ref (am 6) :: Value.ref (am 7) :: Value.int 0 :: Value.ref (am 8) :: Value.int 0 :: Value.int (-1) :: Value.int 0 :: Value.int 0 :: Value.int 0 :: Value.int 0 :: Value.int (-1) :: Value.ref (am 9) :: Value.ref (am 10) :: Value.ref (am 11) :: Value.int 0 :: Value.ref (am 12) :: Value.ref (am 13) :: Value.ref (am 14) :: Value.ref (am 15) :: Value.int 0 :: Value.int 0 :: Value.int 0 :: Value.int 0 :: Value.int 0 :: Value.int 0 :: Value.int 0 :: Value.int 0 :: Value.ref (am 16) :: Value.ref (am 17) :: Value.ref (am 18) :: Value.ref (am 19) :: Value.int 0 :: Value.int 0 :: Value.int 1 :: Value.ref (am 20) :: Value.int 0 :: [])))]) [13] rfl) hK rfl rfl) rfl hl.1 rfl (Nat.le_of_ble_eq_true rfl) dL_law_1005 ⟨⟨Nat.le_of_ble_eq_true rfl, Nat.le_of_ble_eq_true rfl⟩, Nat.le_of_ble_eq_true rfl, Nat.le_of_ble_eq_true rfl⟩) rfl ?_
  refine lv_icmp_eq (tgt := 1665) hx hb dL_law_1008 (by decide) (fun _ => ?_) (fun h9 => absurd rfl h9)
  exact law_back C0 hS hl
set_option maxHeartbeats 4000000 in
set_option maxRecDepth 100000 in
/-- swings: class and reference answer alike -/
theorem law_24 {p : Program} {l : Launch} {e : Env} {s : State} {m : MethodId} {below : List Frame} {meth : Method} {c : Code} {b : Nat} {xs : Nat → Int32} {D : va_G} {cI : ClassId} {qx qm : Nat} {ax am : Nat → Nat} {H : Heap} {locs : List Loc} {ls : Array Slot} (C : lw_C p s m meth c b xs D cI) (hP : va_P D vwCl (w_L cI qx ax qm am) H) (hD : va_D (fun q : Nat => s.heap.size ≤ q) (w_L cI qx ax qm am)) (hS : va_S (fun q : Nat => s.heap.size ≤ q) s.heap H locs) (hl : lv_has ls 4 [(3, .int 0), (2, .ref qm), (1, .ref qx), (0, .ref b)]) : W p l e room_1 s m #[Value.ref b] below meth c H locs 78 71288 (lw_Z below #[Value.ref b] s) (F0 m 1013 ls []) := by
  have C0 := C
  obtain ⟨hx, hb, hr, hml, hown, hT, hX, hbl, hlocks, hK⟩ := C
  have hA : ∀ q : Nat, s.heap.size ≤ q → (fun q : Nat => s.heap.size ≤ q) q := fun _ h => h
  have hbA : ¬ (fun q : Nat => s.heap.size ≤ q) b := Nat.not_le.mpr hbl
  refine lv_aload_n hx hb dL_law_1013 rfl (lv_at hl 2 rfl) ?_
  refine lv_aload_n hx hb dL_law_1014 rfl (lv_at hl 3 rfl) ?_
  refine lv_iload_n hx hb dL_law_1015 rfl (lv_at hl 0 rfl) ?_
  refine lv_iconst (v := 1) hx hb dL_law_1016 (by decide) ?_
  refine lv_iadd hx hb dL_law_1017 ?_
  refine ct_i (z := 1) (by decide) ?_
  refine va_sld hx hb hX hbl hbA hS (vi_c (by decide +kernel)) dL_law_1018 ?_
  refine lv_aload_n hx hb dL_law_1019 rfl (lv_at hl 3 rfl) ?_
  refine lv_iload_n hx hb dL_law_1020 rfl (lv_at hl 0 rfl) ?_
  refine lv_iconst (v := 2) hx hb dL_law_1021 (by decide) ?_
  refine lv_iadd hx hb dL_law_1022 ?_
  refine ct_i (z := 2) (by decide) ?_
  refine va_sld hx hb hX hbl hbA hS (vi_c (by decide +kernel)) dL_law_1023 ?_
  refine lv_aload_n hx hb dL_law_1024 rfl (lv_at hl 3 rfl) ?_
  refine lv_iload_n hx hb dL_law_1025 rfl (lv_at hl 0 rfl) ?_
  refine lv_iconst (v := 3) hx hb dL_law_1026 (by decide) ?_
  refine lv_iadd hx hb dL_law_1027 ?_
  refine ct_i (z := 3) (by decide) ?_
  refine va_sld hx hb hX hbl hbA hS (vi_c (by decide +kernel)) dL_law_1028 ?_
  refine go_R (v := some (.int (-1))) (st1 := [.int (-1)]) (run_V (As := [.int (xs (1 : Int32).toNatClampNeg), .int (xs (2 : Int32).toNatClampNeg), .int (xs (3 : Int32).toNatClampNeg)]) (rest := []) ⟨hx, hb, hml, hown, hT⟩ (kX11_swings_0 l D cI qx ax (xs (1 : Int32).toNatClampNeg) (xs (2 : Int32).toNatClampNeg) (xs (3 : Int32).toNatClampNeg)) sw_1057 lkv_X11_swings (p_R_V (ci := 11) (q0 := 0) (hP.sub (ws' := [(qx, .inr (11, (Value.ref (ax 0) :: Value.ref (ax 1) :: Value.ref (ax 2) :: Value.ref (ax 3) :: Value.ref (ax 4) :: Value.ref (ax 5) :: Value.ref (ax 6) :: Value.ref (ax 7) :: Value.ref (ax 8) :: Value.ref (ax 9) :: Value.ref (ax 10) :: Value.ref (ax 11) :: Value.ref (ax 12) :: Value.ref (ax 13) :: Value.ref (ax 14) :: Value.int 0 :: Value.int 0 :: Value.int 0 :: []))), ((ax 5), .inr (5, (Value.ref (ax 30) :: Value.ref (ax 31) :: Value.ref (ax 32) :: Value.ref (ax 33) :: Value.ref (ax 34) :: Value.ref (ax 35) :: Value.ref (ax 36) :: Value.ref (ax 37) :: Value.int 0 :: Value.int 0 :: Value.int 0 :: Value.int 0 :: Value.int 0 :: Value.int 0 :: Value.int 0 :: [])))]) [0, 8] rfl) hK rfl rfl) rfl hl.1 rfl (Nat.le_of_ble_eq_true rfl) dL_law_1029 ⟨⟨Nat.le_of_ble_eq_true rfl, Nat.le_of_ble_eq_true rfl⟩, Nat.le_of_ble_eq_true rfl, Nat.le_of_ble_eq_true rfl⟩) rfl ?_
  refine lv_aload_n hx hb dL_law_1032 rfl (lv_at hl 1 rfl) ?_
  refine lv_aload_n hx hb dL_law_1033 rfl (lv_at hl 3 rfl) ?_
  refine lv_iload_n hx hb dL_law_1034 rfl (lv_at hl 0 rfl) ?_
  refine lv_iconst (v := 1) hx hb dL_law_1035 (by decide) ?_
  refine lv_iadd hx hb dL_law_1036 ?_
  refine ct_i (z := 1) (by decide) ?_
  refine va_sld hx hb hX hbl hbA hS (vi_c (by decide +kernel)) dL_law_1037 ?_
  refine lv_aload_n hx hb dL_law_1038 rfl (lv_at hl 3 rfl) ?_
  refine lv_iload_n hx hb dL_law_1039 rfl (lv_at hl 0 rfl) ?_
  refine lv_iconst (v := 2) hx hb dL_law_1040 (by decide) ?_
  refine lv_iadd hx hb dL_law_1041 ?_
  refine ct_i (z := 2) (by decide) ?_
  refine va_sld hx hb hX hbl hbA hS (vi_c (by decide +kernel)) dL_law_1042 ?_
  refine lv_aload_n hx hb dL_law_1043 rfl (lv_at hl 3 rfl) ?_
  refine lv_iload_n hx hb dL_law_1044 rfl (lv_at hl 0 rfl) ?_
  refine lv_iconst (v := 3) hx hb dL_law_1045 (by decide) ?_
  refine lv_iadd hx hb dL_law_1046 ?_
  refine ct_i (z := 3) (by decide) ?_
  refine va_sld hx hb hX hbl hbA hS (vi_c (by decide +kernel)) dL_law_1047 ?_
  refine go_R (v := some (.int (-1))) (st1 := [.int (-1), .int (-1)]) (run_V (As := [.int (xs (1 : Int32).toNatClampNeg), .int (xs (2 : Int32).toNatClampNeg), .int (xs (3 : Int32).toNatClampNeg)]) (rest := [.int (-1)]) ⟨hx, hb, hml, hown, hT⟩ (kX12_swings_0 l D cI qm am (xs (1 : Int32).toNatClampNeg) (xs (2 : Int32).toNatClampNeg) (xs (3 : Int32).toNatClampNeg)) sw_1776 lkv_X12_swings (p_R_V (ci := 12) (q0 := 0) (hP.sub (ws' := [(qm, .inr (12, (Value.int 0 :: Value.int 0 :: Value.ref (am 0) :: Value.int 0 :: Value.int 0 :: Value.ref (am 1) :: Value.ref (am 2) :: Value.int 0 :: Value.ref (am 3) :: Value.ref (am 4) :: Value.int 0 :: Value.ref (am 5) :: Value.ref (am 6) :: Value.ref (am 7) :: Value.int 0 :: Value.ref (am 8) :: Value.int 0 :: Value.int (-1) :: Value.int 0 :: Value.int 0 :: Value.int 0 :: Value.int 0 :: Value.int (-1) :: Value.ref (am 9) :: Value.ref (am 10) :: Value.ref (am 11) :: Value.int 0 :: Value.ref (am 12) :: Value.ref (am 13) :: Value.ref (am 14) :: Value.ref (am 15) :: Value.int 0 :: Value.int 0 :: Value.int 0 :: Value.int 0 :: Value.int 0 :: Value.int 0 :: Value.int 0 :: Value.int 0 :: Value.ref (am 16) :: Value.ref (am 17) :: Value.ref (am 18) :: Value.ref (am 19) :: Value.int 0 :: Value.int 0 :: Value.int 1 :: Value.ref (am 20) :: Value.int 0 :: [])))]) [13] rfl) hK rfl rfl) rfl hl.1 rfl (Nat.le_of_ble_eq_true rfl) dL_law_1048 ⟨⟨Nat.le_of_ble_eq_true rfl, Nat.le_of_ble_eq_true rfl⟩, Nat.le_of_ble_eq_true rfl, Nat.le_of_ble_eq_true rfl⟩) rfl ?_
  refine lv_icmp_eq (tgt := 1665) hx hb dL_law_1051 (by decide) (fun _ => ?_) (fun h9 => absurd rfl h9)
  exact law_back C0 hS hl
set_option maxHeartbeats 4000000 in
set_option maxRecDepth 100000 in
/-- tries: class and reference answer alike -/
theorem law_25 {p : Program} {l : Launch} {e : Env} {s : State} {m : MethodId} {below : List Frame} {meth : Method} {c : Code} {b : Nat} {xs : Nat → Int32} {D : va_G} {cI : ClassId} {qx qm : Nat} {ax am : Nat → Nat} {H : Heap} {locs : List Loc} {ls : Array Slot} (C : lw_C p s m meth c b xs D cI) (hP : va_P D vwCl (w_L cI qx ax qm am) H) (hD : va_D (fun q : Nat => s.heap.size ≤ q) (w_L cI qx ax qm am)) (hS : va_S (fun q : Nat => s.heap.size ≤ q) s.heap H locs) (hl : lv_has ls 4 [(3, .int 0), (2, .ref qm), (1, .ref qx), (0, .ref b)]) : W p l e room_1 s m #[Value.ref b] below meth c H locs 78 71288 (lw_Z below #[Value.ref b] s) (F0 m 1056 ls []) := by
  have C0 := C
  obtain ⟨hx, hb, hr, hml, hown, hT, hX, hbl, hlocks, hK⟩ := C
  have hA : ∀ q : Nat, s.heap.size ≤ q → (fun q : Nat => s.heap.size ≤ q) q := fun _ h => h
  have hbA : ¬ (fun q : Nat => s.heap.size ≤ q) b := Nat.not_le.mpr hbl
  refine lv_aload_n hx hb dL_law_1056 rfl (lv_at hl 2 rfl) ?_
  refine lv_aload_n hx hb dL_law_1057 rfl (lv_at hl 3 rfl) ?_
  refine lv_iload_n hx hb dL_law_1058 rfl (lv_at hl 0 rfl) ?_
  refine lv_iconst (v := 1) hx hb dL_law_1059 (by decide) ?_
  refine lv_iadd hx hb dL_law_1060 ?_
  refine ct_i (z := 1) (by decide) ?_
  refine va_sld hx hb hX hbl hbA hS (vi_c (by decide +kernel)) dL_law_1061 ?_
  refine lv_aload_n hx hb dL_law_1062 rfl (lv_at hl 3 rfl) ?_
  refine lv_iload_n hx hb dL_law_1063 rfl (lv_at hl 0 rfl) ?_
  refine lv_iconst (v := 2) hx hb dL_law_1064 (by decide) ?_
  refine lv_iadd hx hb dL_law_1065 ?_
  refine ct_i (z := 2) (by decide) ?_
  refine va_sld hx hb hX hbl hbA hS (vi_c (by decide +kernel)) dL_law_1066 ?_
  refine go_M (wc := [(qx, .inr (11, (Value.ref (ax 0) :: Value.ref (ax 1) :: Value.ref (ax 2) :: Value.ref (ax 3) :: Value.ref (ax 4) :: Value.ref (ax 5) :: Value.ref (ax 6) :: Value.ref (ax 7) :: Value.ref (ax 8) :: Value.ref (ax 9) :: Value.ref (ax 10) :: Value.ref (ax 11) :: Value.ref (ax 12) :: Value.ref (ax 13) :: Value.ref (ax 14) :: Value.int 0 :: Value.int 0 :: Value.int 0 :: []))), ((ax 0), .inr (9, [.ref (ax 15), .int 0])), ((ax 5), .inr (5, (Value.ref (ax 30) :: Value.ref (ax 31) :: Value.ref (ax 32) :: Value.ref (ax 33) :: Value.ref (ax 34) :: Value.ref (ax 35) :: Value.ref (ax 36) :: Value.ref (ax 37) :: Value.int 0 :: Value.int 0 :: Value.int 0 :: Value.int 0 :: Value.int 0 :: Value.int 0 :: Value.int 0 :: [])))]) (wr := [(qm, .inr (12, (Value.int 0 :: Value.int 0 :: Value.ref (am 0) :: Value.int 0 :: Value.int 0 :: Value.ref (am 1) :: Value.ref (am 2) :: Value.int 0 :: Value.ref (am 3) :: Value.ref (am 4) :: Value.int 0 :: Value.ref (am 5) :: Value.ref (am 6) :: Value.ref (am 7) :: Value.int 0 :: Value.ref (am 8) :: Value.int 0 :: Value.int (-1) :: Value.int 0 :: Value.int 0 :: Value.int 0 :: Value.int 0 :: Value.int (-1) :: Value.ref (am 9) :: Value.ref (am 10) :: Value.ref (am 11) :: Value.int 0 :: Value.ref (am 12) :: Value.ref (am 13) :: Value.ref (am 14) :: Value.ref (am 15) :: Value.int 0 :: Value.int 0 :: Value.int 0 :: Value.int 0 :: Value.int 0 :: Value.int 0 :: Value.int 0 :: Value.int 0 :: Value.ref (am 16) :: Value.ref (am 17) :: Value.ref (am 18) :: Value.ref (am 19) :: Value.int 0 :: Value.int 0 :: Value.int 1 :: Value.ref (am 20) :: Value.int 0 :: []))), ((am 7), .inl (cI, 1200, .inl zI)), ((am 8), .inl (cI, 6, .inl zI)), ((am 10), .inl (cI, 3252, .inl zI)), ((am 20), .inl (cI, 130, .inl zI))]) (w1 := fun u => []) (v := some (.int (-1))) (st1 := [.int (-1)]) hP hD hS hA [0, 1, 8] [13, 14, 15, 16, 17] rfl rfl (by decide) (by decide) (by decide) (fun hPc hDc => run_V (As := [.int (xs (1 : Int32).toNatClampNeg), .int (xs (2 : Int32).toNatClampNeg)]) (rest := []) ⟨hx, hb, hml, hown, hT⟩ (kX11_tries_0 l D cI qx ax (xs (1 : Int32).toNatClampNeg) (xs (2 : Int32).toNatClampNeg) _) sw_1064 lkv_X11_tries (p_M_V (ci := 11) (q0 := 0) hPc hK hDc rfl rfl) rfl hl.1 rfl (Nat.le_of_ble_eq_true rfl) dL_law_1067 ⟨⟨Nat.le_of_ble_eq_true rfl, Nat.le_of_ble_eq_true rfl⟩, Nat.le_of_ble_eq_true rfl, Nat.le_of_ble_eq_true rfl⟩) rfl (fun u H locs hP hD hS => ?_)
  have hP : va_P D vwCl [(qm, .inr (12, (Value.int 0 :: Value.int 0 :: Value.ref (am 0) :: Value.int 0 :: Value.int 0 :: Value.ref (am 1) :: Value.ref (am 2) :: Value.int 0 :: Value.ref (am 3) :: Value.ref (am 4) :: Value.int 0 :: Value.ref (am 5) :: Value.ref (am 6) :: Value.ref (am 7) :: Value.int 0 :: Value.ref (am 8) :: Value.int 0 :: Value.int (-1) :: Value.int 0 :: Value.int 0 :: Value.int 0 :: Value.int 0 :: Value.int (-1) :: Value.ref (am 9) :: Value.ref (am 10) :: Value.ref (am 11) :: Value.int 0 :: Value.ref (am 12) :: Value.ref (am 13) :: Value.ref (am 14) :: Value.ref (am 15) :: Value.int 0 :: Value.int 0 :: Value.int 0 :: Value.int 0 :: Value.int 0 :: Value.int 0 :: Value.int 0 :: Value.int 0 :: Value.ref (am 16) :: Value.ref (am 17) :: Value.ref (am 18) :: Value.ref (am 19) :: Value.int 0 :: Value.int 0 :: Value.int 1 :: Value.ref (am 20) :: Value.int 0 :: []))), ((am 7), .inl (cI, 1200, .inl zI)), ((am 8), .inl (cI, 6, .inl zI)), ((am 10), .inl (cI, 3252, .inl zI)), ((am 20), .inl (cI, 130, .inl zI))] H := hP
  have hD : va_D (fun q : Nat => s.heap.size ≤ q) [(qm, .inr (12, (Value.int 0 :: Value.int 0 :: Value.ref (am 0) :: Value.int 0 :: Value.int 0 :: Value.ref (am 1) :: Value.ref (am 2) :: Value.int 0 :: Value.ref (am 3) :: Value.ref (am 4) :: Value.int 0 :: Value.ref (am 5) :: Value.ref (am 6) :: Value.ref (am 7) :: Value.int 0 :: Value.ref (am 8) :: Value.int 0 :: Value.int (-1) :: Value.int 0 :: Value.int 0 :: Value.int 0 :: Value.int 0 :: Value.int (-1) :: Value.ref (am 9) :: Value.ref (am 10) :: Value.ref (am 11) :: Value.int 0 :: Value.ref (am 12) :: Value.ref (am 13) :: Value.ref (am 14) :: Value.ref (am 15) :: Value.int 0 :: Value.int 0 :: Value.int 0 :: Value.int 0 :: Value.int 0 :: Value.int 0 :: Value.int 0 :: Value.int 0 :: Value.ref (am 16) :: Value.ref (am 17) :: Value.ref (am 18) :: Value.ref (am 19) :: Value.int 0 :: Value.int 0 :: Value.int 1 :: Value.ref (am 20) :: Value.int 0 :: []))), ((am 7), .inl (cI, 1200, .inl zI)), ((am 8), .inl (cI, 6, .inl zI)), ((am 10), .inl (cI, 3252, .inl zI)), ((am 20), .inl (cI, 130, .inl zI))] := hD
  refine lv_aload_n hx hb dL_law_1070 rfl (lv_at hl 1 rfl) ?_
  refine lv_aload_n hx hb dL_law_1071 rfl (lv_at hl 3 rfl) ?_
  refine lv_iload_n hx hb dL_law_1072 rfl (lv_at hl 0 rfl) ?_
  refine lv_iconst (v := 1) hx hb dL_law_1073 (by decide) ?_
  refine lv_iadd hx hb dL_law_1074 ?_
  refine ct_i (z := 1) (by decide) ?_
  refine va_sld hx hb hX hbl hbA hS (vi_c (by decide +kernel)) dL_law_1075 ?_
  refine lv_aload_n hx hb dL_law_1076 rfl (lv_at hl 3 rfl) ?_
  refine lv_iload_n hx hb dL_law_1077 rfl (lv_at hl 0 rfl) ?_
  refine lv_iconst (v := 2) hx hb dL_law_1078 (by decide) ?_
  refine lv_iadd hx hb dL_law_1079 ?_
  refine ct_i (z := 2) (by decide) ?_
  refine va_sld hx hb hX hbl hbA hS (vi_c (by decide +kernel)) dL_law_1080 ?_
  refine go_M (wc := [(qm, .inr (12, (Value.int 0 :: Value.int 0 :: Value.ref (am 0) :: Value.int 0 :: Value.int 0 :: Value.ref (am 1) :: Value.ref (am 2) :: Value.int 0 :: Value.ref (am 3) :: Value.ref (am 4) :: Value.int 0 :: Value.ref (am 5) :: Value.ref (am 6) :: Value.ref (am 7) :: Value.int 0 :: Value.ref (am 8) :: Value.int 0 :: Value.int (-1) :: Value.int 0 :: Value.int 0 :: Value.int 0 :: Value.int 0 :: Value.int (-1) :: Value.ref (am 9) :: Value.ref (am 10) :: Value.ref (am 11) :: Value.int 0 :: Value.ref (am 12) :: Value.ref (am 13) :: Value.ref (am 14) :: Value.ref (am 15) :: Value.int 0 :: Value.int 0 :: Value.int 0 :: Value.int 0 :: Value.int 0 :: Value.int 0 :: Value.int 0 :: Value.int 0 :: Value.ref (am 16) :: Value.ref (am 17) :: Value.ref (am 18) :: Value.ref (am 19) :: Value.int 0 :: Value.int 0 :: Value.int 1 :: Value.ref (am 20) :: Value.int 0 :: [])))]) (wr := []) (w1 := fun u => []) (v := some (.int (-1))) (st1 := [.int (-1), .int (-1)]) hP hD hS hA [0] [] rfl rfl (by decide) (by decide) (by decide) (fun hPc hDc => run_V (As := [.int (xs (1 : Int32).toNatClampNeg), .int (xs (2 : Int32).toNatClampNeg)]) (rest := [.int (-1)]) ⟨hx, hb, hml, hown, hT⟩ (kX12_tries_0 l D cI qm am (xs (1 : Int32).toNatClampNeg) (xs (2 : Int32).toNatClampNeg) _) sw_1780 lkv_X12_tries (p_M_V (ci := 12) (q0 := 0) hPc hK hDc rfl rfl) rfl hl.1 rfl (Nat.le_of_ble_eq_true rfl) dL_law_1081 ⟨⟨Nat.le_of_ble_eq_true rfl, Nat.le_of_ble_eq_true rfl⟩, Nat.le_of_ble_eq_true rfl, Nat.le_of_ble_eq_true rfl⟩) rfl (fun u H locs hP hD hS => ?_)
  have hP : va_P D vwCl [] H := hP
  have hD : va_D (fun q : Nat => s.heap.size ≤ q) [] := hD
  refine lv_icmp_eq (tgt := 1665) hx hb dL_law_1084 (by decide) (fun _ => ?_) (fun h9 => absurd rfl h9)
  exact law_back C0 hS hl
set_option maxHeartbeats 4000000 in
set_option maxRecDepth 100000 in
/-- band: class and reference answer alike -/
theorem law_26 {p : Program} {l : Launch} {e : Env} {s : State} {m : MethodId} {below : List Frame} {meth : Method} {c : Code} {b : Nat} {xs : Nat → Int32} {D : va_G} {cI : ClassId} {qx qm : Nat} {ax am : Nat → Nat} {H : Heap} {locs : List Loc} {ls : Array Slot} (C : lw_C p s m meth c b xs D cI) (hP : va_P D vwCl (w_L cI qx ax qm am) H) (hD : va_D (fun q : Nat => s.heap.size ≤ q) (w_L cI qx ax qm am)) (hS : va_S (fun q : Nat => s.heap.size ≤ q) s.heap H locs) (hl : lv_has ls 4 [(3, .int 0), (2, .ref qm), (1, .ref qx), (0, .ref b)]) : W p l e room_1 s m #[Value.ref b] below meth c H locs 78 71288 (lw_Z below #[Value.ref b] s) (F0 m 1089 ls []) := by
  have C0 := C
  obtain ⟨hx, hb, hr, hml, hown, hT, hX, hbl, hlocks, hK⟩ := C
  have hA : ∀ q : Nat, s.heap.size ≤ q → (fun q : Nat => s.heap.size ≤ q) q := fun _ h => h
  have hbA : ¬ (fun q : Nat => s.heap.size ≤ q) b := Nat.not_le.mpr hbl
  refine lv_aload_n hx hb dL_law_1089 rfl (lv_at hl 2 rfl) ?_
  refine lv_aload_n hx hb dL_law_1090 rfl (lv_at hl 3 rfl) ?_
  refine lv_iload_n hx hb dL_law_1091 rfl (lv_at hl 0 rfl) ?_
  refine lv_iconst (v := 1) hx hb dL_law_1092 (by decide) ?_
  refine lv_iadd hx hb dL_law_1093 ?_
  refine ct_i (z := 1) (by decide) ?_
  refine va_sld hx hb hX hbl hbA hS (vi_c (by decide +kernel)) dL_law_1094 ?_
  refine lv_aload_n hx hb dL_law_1095 rfl (lv_at hl 3 rfl) ?_
  refine lv_iload_n hx hb dL_law_1096 rfl (lv_at hl 0 rfl) ?_
  refine lv_iconst (v := 2) hx hb dL_law_1097 (by decide) ?_
  refine lv_iadd hx hb dL_law_1098 ?_
  refine ct_i (z := 2) (by decide) ?_
  refine va_sld hx hb hX hbl hbA hS (vi_c (by decide +kernel)) dL_law_1099 ?_
  refine go_R (v := some (.int (-1))) (st1 := [.int (-1)]) (run_V (As := [.int (xs (1 : Int32).toNatClampNeg), .int (xs (2 : Int32).toNatClampNeg)]) (rest := []) ⟨hx, hb, hml, hown, hT⟩ (kX11_band_0 l D cI qx ax (xs (1 : Int32).toNatClampNeg) (xs (2 : Int32).toNatClampNeg)) sw_1071 lkv_X11_band (p_R_V (ci := 11) (q0 := 0) (hP.sub (ws' := [(qx, .inr (11, (Value.ref (ax 0) :: Value.ref (ax 1) :: Value.ref (ax 2) :: Value.ref (ax 3) :: Value.ref (ax 4) :: Value.ref (ax 5) :: Value.ref (ax 6) :: Value.ref (ax 7) :: Value.ref (ax 8) :: Value.ref (ax 9) :: Value.ref (ax 10) :: Value.ref (ax 11) :: Value.ref (ax 12) :: Value.ref (ax 13) :: Value.ref (ax 14) :: Value.int 0 :: Value.int 0 :: Value.int 0 :: []))), ((ax 5), .inr (5, (Value.ref (ax 30) :: Value.ref (ax 31) :: Value.ref (ax 32) :: Value.ref (ax 33) :: Value.ref (ax 34) :: Value.ref (ax 35) :: Value.ref (ax 36) :: Value.ref (ax 37) :: Value.int 0 :: Value.int 0 :: Value.int 0 :: Value.int 0 :: Value.int 0 :: Value.int 0 :: Value.int 0 :: [])))]) [0, 8] rfl) hK rfl rfl) rfl hl.1 rfl (Nat.le_of_ble_eq_true rfl) dL_law_1100 ⟨⟨Nat.le_of_ble_eq_true rfl, Nat.le_of_ble_eq_true rfl⟩, Nat.le_of_ble_eq_true rfl, Nat.le_of_ble_eq_true rfl⟩) rfl ?_
  refine lv_aload_n hx hb dL_law_1103 rfl (lv_at hl 1 rfl) ?_
  refine lv_aload_n hx hb dL_law_1104 rfl (lv_at hl 3 rfl) ?_
  refine lv_iload_n hx hb dL_law_1105 rfl (lv_at hl 0 rfl) ?_
  refine lv_iconst (v := 1) hx hb dL_law_1106 (by decide) ?_
  refine lv_iadd hx hb dL_law_1107 ?_
  refine ct_i (z := 1) (by decide) ?_
  refine va_sld hx hb hX hbl hbA hS (vi_c (by decide +kernel)) dL_law_1108 ?_
  refine lv_aload_n hx hb dL_law_1109 rfl (lv_at hl 3 rfl) ?_
  refine lv_iload_n hx hb dL_law_1110 rfl (lv_at hl 0 rfl) ?_
  refine lv_iconst (v := 2) hx hb dL_law_1111 (by decide) ?_
  refine lv_iadd hx hb dL_law_1112 ?_
  refine ct_i (z := 2) (by decide) ?_
  refine va_sld hx hb hX hbl hbA hS (vi_c (by decide +kernel)) dL_law_1113 ?_
  refine go_R (v := some (.int (-1))) (st1 := [.int (-1), .int (-1)]) (run_V (As := [.int (xs (1 : Int32).toNatClampNeg), .int (xs (2 : Int32).toNatClampNeg)]) (rest := [.int (-1)]) ⟨hx, hb, hml, hown, hT⟩ (kX12_band_0 l D cI qm am (xs (1 : Int32).toNatClampNeg) (xs (2 : Int32).toNatClampNeg)) sw_1823 lkv_X12_band (p_R_V (ci := 12) (q0 := 0) (hP.sub (ws' := [(qm, .inr (12, (Value.int 0 :: Value.int 0 :: Value.ref (am 0) :: Value.int 0 :: Value.int 0 :: Value.ref (am 1) :: Value.ref (am 2) :: Value.int 0 :: Value.ref (am 3) :: Value.ref (am 4) :: Value.int 0 :: Value.ref (am 5) :: Value.ref (am 6) :: Value.ref (am 7) :: Value.int 0 :: Value.ref (am 8) :: Value.int 0 :: Value.int (-1) :: Value.int 0 :: Value.int 0 :: Value.int 0 :: Value.int 0 :: Value.int (-1) :: Value.ref (am 9) :: Value.ref (am 10) :: Value.ref (am 11) :: Value.int 0 :: Value.ref (am 12) :: Value.ref (am 13) :: Value.ref (am 14) :: Value.ref (am 15) :: Value.int 0 :: Value.int 0 :: Value.int 0 :: Value.int 0 :: Value.int 0 :: Value.int 0 :: Value.int 0 :: Value.int 0 :: Value.ref (am 16) :: Value.ref (am 17) :: Value.ref (am 18) :: Value.ref (am 19) :: Value.int 0 :: Value.int 0 :: Value.int 1 :: Value.ref (am 20) :: Value.int 0 :: [])))]) [13] rfl) hK rfl rfl) rfl hl.1 rfl (Nat.le_of_ble_eq_true rfl) dL_law_1114 ⟨⟨Nat.le_of_ble_eq_true rfl, Nat.le_of_ble_eq_true rfl⟩, Nat.le_of_ble_eq_true rfl, Nat.le_of_ble_eq_true rfl⟩) rfl ?_
  refine lv_icmp_eq (tgt := 1665) hx hb dL_law_1117 (by decide) (fun _ => ?_) (fun h9 => absurd rfl h9)
  exact law_back C0 hS hl
set_option maxHeartbeats 4000000 in
set_option maxRecDepth 100000 in
/-- deals: class and reference answer alike -/
theorem law_27 {p : Program} {l : Launch} {e : Env} {s : State} {m : MethodId} {below : List Frame} {meth : Method} {c : Code} {b : Nat} {xs : Nat → Int32} {D : va_G} {cI : ClassId} {qx qm : Nat} {ax am : Nat → Nat} {H : Heap} {locs : List Loc} {ls : Array Slot} (C : lw_C p s m meth c b xs D cI) (hP : va_P D vwCl (w_L cI qx ax qm am) H) (hD : va_D (fun q : Nat => s.heap.size ≤ q) (w_L cI qx ax qm am)) (hS : va_S (fun q : Nat => s.heap.size ≤ q) s.heap H locs) (hl : lv_has ls 4 [(3, .int 0), (2, .ref qm), (1, .ref qx), (0, .ref b)]) : W p l e room_1 s m #[Value.ref b] below meth c H locs 78 71288 (lw_Z below #[Value.ref b] s) (F0 m 1122 ls []) := by
  have C0 := C
  obtain ⟨hx, hb, hr, hml, hown, hT, hX, hbl, hlocks, hK⟩ := C
  have hA : ∀ q : Nat, s.heap.size ≤ q → (fun q : Nat => s.heap.size ≤ q) q := fun _ h => h
  have hbA : ¬ (fun q : Nat => s.heap.size ≤ q) b := Nat.not_le.mpr hbl
  refine lv_aload_n hx hb dL_law_1122 rfl (lv_at hl 2 rfl) ?_
  refine lv_aload_n hx hb dL_law_1123 rfl (lv_at hl 3 rfl) ?_
  refine lv_iload_n hx hb dL_law_1124 rfl (lv_at hl 0 rfl) ?_
  refine lv_iconst (v := 1) hx hb dL_law_1125 (by decide) ?_
  refine lv_iadd hx hb dL_law_1126 ?_
  refine ct_i (z := 1) (by decide) ?_
  refine va_sld hx hb hX hbl hbA hS (vi_c (by decide +kernel)) dL_law_1127 ?_
  refine go_M (wc := [(qx, .inr (11, (Value.ref (ax 0) :: Value.ref (ax 1) :: Value.ref (ax 2) :: Value.ref (ax 3) :: Value.ref (ax 4) :: Value.ref (ax 5) :: Value.ref (ax 6) :: Value.ref (ax 7) :: Value.ref (ax 8) :: Value.ref (ax 9) :: Value.ref (ax 10) :: Value.ref (ax 11) :: Value.ref (ax 12) :: Value.ref (ax 13) :: Value.ref (ax 14) :: Value.int 0 :: Value.int 0 :: Value.int 0 :: []))), ((ax 0), .inr (9, [.ref (ax 15), .int 0])), ((ax 5), .inr (5, (Value.ref (ax 30) :: Value.ref (ax 31) :: Value.ref (ax 32) :: Value.ref (ax 33) :: Value.ref (ax 34) :: Value.ref (ax 35) :: Value.ref (ax 36) :: Value.ref (ax 37) :: Value.int 0 :: Value.int 0 :: Value.int 0 :: Value.int 0 :: Value.int 0 :: Value.int 0 :: Value.int 0 :: [])))]) (wr := [(qm, .inr (12, (Value.int 0 :: Value.int 0 :: Value.ref (am 0) :: Value.int 0 :: Value.int 0 :: Value.ref (am 1) :: Value.ref (am 2) :: Value.int 0 :: Value.ref (am 3) :: Value.ref (am 4) :: Value.int 0 :: Value.ref (am 5) :: Value.ref (am 6) :: Value.ref (am 7) :: Value.int 0 :: Value.ref (am 8) :: Value.int 0 :: Value.int (-1) :: Value.int 0 :: Value.int 0 :: Value.int 0 :: Value.int 0 :: Value.int (-1) :: Value.ref (am 9) :: Value.ref (am 10) :: Value.ref (am 11) :: Value.int 0 :: Value.ref (am 12) :: Value.ref (am 13) :: Value.ref (am 14) :: Value.ref (am 15) :: Value.int 0 :: Value.int 0 :: Value.int 0 :: Value.int 0 :: Value.int 0 :: Value.int 0 :: Value.int 0 :: Value.int 0 :: Value.ref (am 16) :: Value.ref (am 17) :: Value.ref (am 18) :: Value.ref (am 19) :: Value.int 0 :: Value.int 0 :: Value.int 1 :: Value.ref (am 20) :: Value.int 0 :: []))), ((am 7), .inl (cI, 1200, .inl zI)), ((am 8), .inl (cI, 6, .inl zI)), ((am 10), .inl (cI, 3252, .inl zI)), ((am 20), .inl (cI, 130, .inl zI))]) (w1 := fun u => []) (v := some (.int (-1))) (st1 := [.int (-1)]) hP hD hS hA [0, 1, 8] [13, 14, 15, 16, 17] rfl rfl (by decide) (by decide) (by decide) (fun hPc hDc => run_V (As := [.int (xs (1 : Int32).toNatClampNeg)]) (rest := []) ⟨hx, hb, hml, hown, hT⟩ (kX11_deals_0 l D cI qx ax (xs (1 : Int32).toNatClampNeg) _) sw_1075 lkv_X11_deals (p_M_V (ci := 11) (q0 := 0) hPc hK hDc rfl rfl) rfl hl.1 rfl (Nat.le_of_ble_eq_true rfl) dL_law_1128 ⟨⟨Nat.le_of_ble_eq_true rfl, Nat.le_of_ble_eq_true rfl⟩, Nat.le_of_ble_eq_true rfl, Nat.le_of_ble_eq_true rfl⟩) rfl (fun u H locs hP hD hS => ?_)
  have hP : va_P D vwCl [(qm, .inr (12, (Value.int 0 :: Value.int 0 :: Value.ref (am 0) :: Value.int 0 :: Value.int 0 :: Value.ref (am 1) :: Value.ref (am 2) :: Value.int 0 :: Value.ref (am 3) :: Value.ref (am 4) :: Value.int 0 :: Value.ref (am 5) :: Value.ref (am 6) :: Value.ref (am 7) :: Value.int 0 :: Value.ref (am 8) :: Value.int 0 :: Value.int (-1) :: Value.int 0 :: Value.int 0 :: Value.int 0 :: Value.int 0 :: Value.int (-1) :: Value.ref (am 9) :: Value.ref (am 10) :: Value.ref (am 11) :: Value.int 0 :: Value.ref (am 12) :: Value.ref (am 13) :: Value.ref (am 14) :: Value.ref (am 15) :: Value.int 0 :: Value.int 0 :: Value.int 0 :: Value.int 0 :: Value.int 0 :: Value.int 0 :: Value.int 0 :: Value.int 0 :: Value.ref (am 16) :: Value.ref (am 17) :: Value.ref (am 18) :: Value.ref (am 19) :: Value.int 0 :: Value.int 0 :: Value.int 1 :: Value.ref (am 20) :: Value.int 0 :: []))), ((am 7), .inl (cI, 1200, .inl zI)), ((am 8), .inl (cI, 6, .inl zI)), ((am 10), .inl (cI, 3252, .inl zI)), ((am 20), .inl (cI, 130, .inl zI))] H := hP
  have hD : va_D (fun q : Nat => s.heap.size ≤ q) [(qm, .inr (12, (Value.int 0 :: Value.int 0 :: Value.ref (am 0) :: Value.int 0 :: Value.int 0 :: Value.ref (am 1) :: Value.ref (am 2) :: Value.int 0 :: Value.ref (am 3) :: Value.ref (am 4) :: Value.int 0 :: Value.ref (am 5) :: Value.ref (am 6) :: Value.ref (am 7) :: Value.int 0 :: Value.ref (am 8) :: Value.int 0 :: Value.int (-1) :: Value.int 0 :: Value.int 0 :: Value.int 0 :: Value.int 0 :: Value.int (-1) :: Value.ref (am 9) :: Value.ref (am 10) :: Value.ref (am 11) :: Value.int 0 :: Value.ref (am 12) :: Value.ref (am 13) :: Value.ref (am 14) :: Value.ref (am 15) :: Value.int 0 :: Value.int 0 :: Value.int 0 :: Value.int 0 :: Value.int 0 :: Value.int 0 :: Value.int 0 :: Value.int 0 :: Value.ref (am 16) :: Value.ref (am 17) :: Value.ref (am 18) :: Value.ref (am 19) :: Value.int 0 :: Value.int 0 :: Value.int 1 :: Value.ref (am 20) :: Value.int 0 :: []))), ((am 7), .inl (cI, 1200, .inl zI)), ((am 8), .inl (cI, 6, .inl zI)), ((am 10), .inl (cI, 3252, .inl zI)), ((am 20), .inl (cI, 130, .inl zI))] := hD
  refine lv_aload_n hx hb dL_law_1131 rfl (lv_at hl 1 rfl) ?_
  refine lv_aload_n hx hb dL_law_1132 rfl (lv_at hl 3 rfl) ?_
  refine lv_iload_n hx hb dL_law_1133 rfl (lv_at hl 0 rfl) ?_
  refine lv_iconst (v := 1) hx hb dL_law_1134 (by decide) ?_
  refine lv_iadd hx hb dL_law_1135 ?_
  refine ct_i (z := 1) (by decide) ?_
  refine va_sld hx hb hX hbl hbA hS (vi_c (by decide +kernel)) dL_law_1136 ?_
  refine go_M (wc := [(qm, .inr (12, (Value.int 0 :: Value.int 0 :: Value.ref (am 0) :: Value.int 0 :: Value.int 0 :: Value.ref (am 1) :: Value.ref (am 2) :: Value.int 0 :: Value.ref (am 3) :: Value.ref (am 4) :: Value.int 0 :: Value.ref (am 5) :: Value.ref (am 6) :: Value.ref (am 7) :: Value.int 0 :: Value.ref (am 8) :: Value.int 0 :: Value.int (-1) :: Value.int 0 :: Value.int 0 :: Value.int 0 :: Value.int 0 :: Value.int (-1) :: Value.ref (am 9) :: Value.ref (am 10) :: Value.ref (am 11) :: Value.int 0 :: Value.ref (am 12) :: Value.ref (am 13) :: Value.ref (am 14) :: Value.ref (am 15) :: Value.int 0 :: Value.int 0 :: Value.int 0 :: Value.int 0 :: Value.int 0 :: Value.int 0 :: Value.int 0 :: Value.int 0 :: Value.ref (am 16) :: Value.ref (am 17) :: Value.ref (am 18) :: Value.ref (am 19) :: Value.int 0 :: Value.int 0 :: Value.int 1 :: Value.ref (am 20) :: Value.int 0 :: [])))]) (wr := []) (w1 := fun u => []) (v := some (.int (-1))) (st1 := [.int (-1), .int (-1)]) hP hD hS hA [0] [] rfl rfl (by decide) (by decide) (by decide) (fun hPc hDc => run_V (As := [.int (xs (1 : Int32).toNatClampNeg)]) (rest := [.int (-1)]) ⟨hx, hb, hml, hown, hT⟩ (kX12_deals_0 l D cI qm am (xs (1 : Int32).toNatClampNeg) _) sw_1827 lkv_X12_deals (p_M_V (ci := 12) (q0 := 0) hPc hK hDc rfl rfl) rfl hl.1 rfl (Nat.le_of_ble_eq_true rfl) dL_law_1137 ⟨⟨Nat.le_of_ble_eq_true rfl, Nat.le_of_ble_eq_true rfl⟩, Nat.le_of_ble_eq_true rfl, Nat.le_of_ble_eq_true rfl⟩) rfl (fun u H locs hP hD hS => ?_)
  have hP : va_P D vwCl [] H := hP
  have hD : va_D (fun q : Nat => s.heap.size ≤ q) [] := hD
  refine lv_icmp_eq (tgt := 1665) hx hb dL_law_1140 (by decide) (fun _ => ?_) (fun h9 => absurd rfl h9)
  exact law_back C0 hS hl
set_option maxHeartbeats 4000000 in
set_option maxRecDepth 100000 in
/-- pairs: class and reference answer alike -/
theorem law_28 {p : Program} {l : Launch} {e : Env} {s : State} {m : MethodId} {below : List Frame} {meth : Method} {c : Code} {b : Nat} {xs : Nat → Int32} {D : va_G} {cI : ClassId} {qx qm : Nat} {ax am : Nat → Nat} {H : Heap} {locs : List Loc} {ls : Array Slot} (C : lw_C p s m meth c b xs D cI) (hP : va_P D vwCl (w_L cI qx ax qm am) H) (hD : va_D (fun q : Nat => s.heap.size ≤ q) (w_L cI qx ax qm am)) (hS : va_S (fun q : Nat => s.heap.size ≤ q) s.heap H locs) (hl : lv_has ls 4 [(3, .int 0), (2, .ref qm), (1, .ref qx), (0, .ref b)]) : W p l e room_1 s m #[Value.ref b] below meth c H locs 78 71288 (lw_Z below #[Value.ref b] s) (F0 m 1145 ls []) := by
  have C0 := C
  obtain ⟨hx, hb, hr, hml, hown, hT, hX, hbl, hlocks, hK⟩ := C
  have hA : ∀ q : Nat, s.heap.size ≤ q → (fun q : Nat => s.heap.size ≤ q) q := fun _ h => h
  have hbA : ¬ (fun q : Nat => s.heap.size ≤ q) b := Nat.not_le.mpr hbl
  refine lv_aload_n hx hb dL_law_1145 rfl (lv_at hl 2 rfl) ?_
  refine lv_aload_n hx hb dL_law_1146 rfl (lv_at hl 3 rfl) ?_
  refine lv_iload_n hx hb dL_law_1147 rfl (lv_at hl 0 rfl) ?_
  refine lv_iconst (v := 1) hx hb dL_law_1148 (by decide) ?_
  refine lv_iadd hx hb dL_law_1149 ?_
  refine ct_i (z := 1) (by decide) ?_
  refine va_sld hx hb hX hbl hbA hS (vi_c (by decide +kernel)) dL_law_1150 ?_
  refine lv_aload_n hx hb dL_law_1151 rfl (lv_at hl 3 rfl) ?_
  refine lv_iload_n hx hb dL_law_1152 rfl (lv_at hl 0 rfl) ?_
  refine lv_iconst (v := 2) hx hb dL_law_1153 (by decide) ?_
  refine lv_iadd hx hb dL_law_1154 ?_
  refine ct_i (z := 2) (by decide) ?_
  refine va_sld hx hb hX hbl hbA hS (vi_c (by decide +kernel)) dL_law_1155 ?_
  refine lv_aload_n hx hb dL_law_1156 rfl (lv_at hl 3 rfl) ?_
  refine lv_iload_n hx hb dL_law_1157 rfl (lv_at hl 0 rfl) ?_
  refine lv_iconst (v := 3) hx hb dL_law_1158 (by decide) ?_
  refine lv_iadd hx hb dL_law_1159 ?_
  refine ct_i (z := 3) (by decide) ?_
  refine va_sld hx hb hX hbl hbA hS (vi_c (by decide +kernel)) dL_law_1160 ?_
  refine go_R (v := some (.int (-1))) (st1 := [.int (-1)]) (run_V (As := [.int (xs (1 : Int32).toNatClampNeg), .int (xs (2 : Int32).toNatClampNeg), .int (xs (3 : Int32).toNatClampNeg)]) (rest := []) ⟨hx, hb, hml, hown, hT⟩ (kX11_pairs_0 l D cI qx ax (xs (1 : Int32).toNatClampNeg) (xs (2 : Int32).toNatClampNeg) (xs (3 : Int32).toNatClampNeg)) sw_1080 lkv_X11_pairs (p_R_V (ci := 11) (q0 := 0) (hP.sub (ws' := [(qx, .inr (11, (Value.ref (ax 0) :: Value.ref (ax 1) :: Value.ref (ax 2) :: Value.ref (ax 3) :: Value.ref (ax 4) :: Value.ref (ax 5) :: Value.ref (ax 6) :: Value.ref (ax 7) :: Value.ref (ax 8) :: Value.ref (ax 9) :: Value.ref (ax 10) :: Value.ref (ax 11) :: Value.ref (ax 12) :: Value.ref (ax 13) :: Value.ref (ax 14) :: Value.int 0 :: Value.int 0 :: Value.int 0 :: []))), ((ax 5), .inr (5, (Value.ref (ax 30) :: Value.ref (ax 31) :: Value.ref (ax 32) :: Value.ref (ax 33) :: Value.ref (ax 34) :: Value.ref (ax 35) :: Value.ref (ax 36) :: Value.ref (ax 37) :: Value.int 0 :: Value.int 0 :: Value.int 0 :: Value.int 0 :: Value.int 0 :: Value.int 0 :: Value.int 0 :: [])))]) [0, 8] rfl) hK rfl rfl) rfl hl.1 rfl (Nat.le_of_ble_eq_true rfl) dL_law_1161 ⟨⟨Nat.le_of_ble_eq_true rfl, Nat.le_of_ble_eq_true rfl⟩, Nat.le_of_ble_eq_true rfl, Nat.le_of_ble_eq_true rfl⟩) rfl ?_
  refine lv_aload_n hx hb dL_law_1164 rfl (lv_at hl 1 rfl) ?_
  refine lv_aload_n hx hb dL_law_1165 rfl (lv_at hl 3 rfl) ?_
  refine lv_iload_n hx hb dL_law_1166 rfl (lv_at hl 0 rfl) ?_
  refine lv_iconst (v := 1) hx hb dL_law_1167 (by decide) ?_
  refine lv_iadd hx hb dL_law_1168 ?_
  refine ct_i (z := 1) (by decide) ?_
  refine va_sld hx hb hX hbl hbA hS (vi_c (by decide +kernel)) dL_law_1169 ?_
  refine lv_aload_n hx hb dL_law_1170 rfl (lv_at hl 3 rfl) ?_
  refine lv_iload_n hx hb dL_law_1171 rfl (lv_at hl 0 rfl) ?_
  refine lv_iconst (v := 2) hx hb dL_law_1172 (by decide) ?_
  refine lv_iadd hx hb dL_law_1173 ?_
  refine ct_i (z := 2) (by decide) ?_
  refine va_sld hx hb hX hbl hbA hS (vi_c (by decide +kernel)) dL_law_1174 ?_
  refine lv_aload_n hx hb dL_law_1175 rfl (lv_at hl 3 rfl) ?_
  refine lv_iload_n hx hb dL_law_1176 rfl (lv_at hl 0 rfl) ?_
  refine lv_iconst (v := 3) hx hb dL_law_1177 (by decide) ?_
  refine lv_iadd hx hb dL_law_1178 ?_
  refine ct_i (z := 3) (by decide) ?_
  refine va_sld hx hb hX hbl hbA hS (vi_c (by decide +kernel)) dL_law_1179 ?_
  refine go_R (v := some (.int (-1))) (st1 := [.int (-1), .int (-1)]) (run_V (As := [.int (xs (1 : Int32).toNatClampNeg), .int (xs (2 : Int32).toNatClampNeg), .int (xs (3 : Int32).toNatClampNeg)]) (rest := [.int (-1)]) ⟨hx, hb, hml, hown, hT⟩ (kX12_pairs_0 l D cI qm am (xs (1 : Int32).toNatClampNeg) (xs (2 : Int32).toNatClampNeg) (xs (3 : Int32).toNatClampNeg)) sw_1835 lkv_X12_pairs (p_R_V (ci := 12) (q0 := 0) (hP.sub (ws' := [(qm, .inr (12, (Value.int 0 :: Value.int 0 :: Value.ref (am 0) :: Value.int 0 :: Value.int 0 :: Value.ref (am 1) :: Value.ref (am 2) :: Value.int 0 :: Value.ref (am 3) :: Value.ref (am 4) :: Value.int 0 :: Value.ref (am 5) :: Value.ref (am 6) :: Value.ref (am 7) :: Value.int 0 :: Value.ref (am 8) :: Value.int 0 :: Value.int (-1) :: Value.int 0 :: Value.int 0 :: Value.int 0 :: Value.int 0 :: Value.int (-1) :: Value.ref (am 9) :: Value.ref (am 10) :: Value.ref (am 11) :: Value.int 0 :: Value.ref (am 12) :: Value.ref (am 13) :: Value.ref (am 14) :: Value.ref (am 15) :: Value.int 0 :: Value.int 0 :: Value.int 0 :: Value.int 0 :: Value.int 0 :: Value.int 0 :: Value.int 0 :: Value.int 0 :: Value.ref (am 16) :: Value.ref (am 17) :: Value.ref (am 18) :: Value.ref (am 19) :: Value.int 0 :: Value.int 0 :: Value.int 1 :: Value.ref (am 20) :: Value.int 0 :: [])))]) [13] rfl) hK rfl rfl) rfl hl.1 rfl (Nat.le_of_ble_eq_true rfl) dL_law_1180 ⟨⟨Nat.le_of_ble_eq_true rfl, Nat.le_of_ble_eq_true rfl⟩, Nat.le_of_ble_eq_true rfl, Nat.le_of_ble_eq_true rfl⟩) rfl ?_
  refine lv_icmp_eq (tgt := 1665) hx hb dL_law_1183 (by decide) (fun _ => ?_) (fun h9 => absurd rfl h9)
  exact law_back C0 hS hl
set_option maxHeartbeats 4000000 in
set_option maxRecDepth 100000 in
/-- rows: class and reference answer alike -/
theorem law_29 {p : Program} {l : Launch} {e : Env} {s : State} {m : MethodId} {below : List Frame} {meth : Method} {c : Code} {b : Nat} {xs : Nat → Int32} {D : va_G} {cI : ClassId} {qx qm : Nat} {ax am : Nat → Nat} {H : Heap} {locs : List Loc} {ls : Array Slot} (C : lw_C p s m meth c b xs D cI) (hP : va_P D vwCl (w_L cI qx ax qm am) H) (hD : va_D (fun q : Nat => s.heap.size ≤ q) (w_L cI qx ax qm am)) (hS : va_S (fun q : Nat => s.heap.size ≤ q) s.heap H locs) (hl : lv_has ls 4 [(3, .int 0), (2, .ref qm), (1, .ref qx), (0, .ref b)]) : W p l e room_1 s m #[Value.ref b] below meth c H locs 78 71288 (lw_Z below #[Value.ref b] s) (F0 m 1188 ls []) := by
  have C0 := C
  obtain ⟨hx, hb, hr, hml, hown, hT, hX, hbl, hlocks, hK⟩ := C
  have hA : ∀ q : Nat, s.heap.size ≤ q → (fun q : Nat => s.heap.size ≤ q) q := fun _ h => h
  have hbA : ¬ (fun q : Nat => s.heap.size ≤ q) b := Nat.not_le.mpr hbl
  refine lv_aload_n hx hb dL_law_1188 rfl (lv_at hl 2 rfl) ?_
  refine lv_aload_n hx hb dL_law_1189 rfl (lv_at hl 3 rfl) ?_
  refine lv_iload_n hx hb dL_law_1190 rfl (lv_at hl 0 rfl) ?_
  refine lv_iconst (v := 1) hx hb dL_law_1191 (by decide) ?_
  refine lv_iadd hx hb dL_law_1192 ?_
  refine ct_i (z := 1) (by decide) ?_
  refine va_sld hx hb hX hbl hbA hS (vi_c (by decide +kernel)) dL_law_1193 ?_
  refine lv_aload_n hx hb dL_law_1194 rfl (lv_at hl 3 rfl) ?_
  refine lv_iload_n hx hb dL_law_1195 rfl (lv_at hl 0 rfl) ?_
  refine lv_iconst (v := 2) hx hb dL_law_1196 (by decide) ?_
  refine lv_iadd hx hb dL_law_1197 ?_
  refine ct_i (z := 2) (by decide) ?_
  refine va_sld hx hb hX hbl hbA hS (vi_c (by decide +kernel)) dL_law_1198 ?_
  refine lv_aload_n hx hb dL_law_1199 rfl (lv_at hl 3 rfl) ?_
  refine lv_iload_n hx hb dL_law_1200 rfl (lv_at hl 0 rfl) ?_
  refine lv_iconst (v := 3) hx hb dL_law_1201 (by decide) ?_
  refine lv_iadd hx hb dL_law_1202 ?_
  refine ct_i (z := 3) (by decide) ?_
  refine va_sld hx hb hX hbl hbA hS (vi_c (by decide +kernel)) dL_law_1203 ?_
  refine go_R (v := some (.int (-1))) (st1 := [.int (-1)]) (run_V (As := [.int (xs (1 : Int32).toNatClampNeg), .int (xs (2 : Int32).toNatClampNeg), .int (xs (3 : Int32).toNatClampNeg)]) (rest := []) ⟨hx, hb, hml, hown, hT⟩ (kX11_rows_0 l D cI qx ax (xs (1 : Int32).toNatClampNeg) (xs (2 : Int32).toNatClampNeg) (xs (3 : Int32).toNatClampNeg)) sw_1085 lkv_X11_rows (p_R_V (ci := 11) (q0 := 0) (hP.sub (ws' := [(qx, .inr (11, (Value.ref (ax 0) :: Value.ref (ax 1) :: Value.ref (ax 2) :: Value.ref (ax 3) :: Value.ref (ax 4) :: Value.ref (ax 5) :: Value.ref (ax 6) :: Value.ref (ax 7) :: Value.ref (ax 8) :: Value.ref (ax 9) :: Value.ref (ax 10) :: Value.ref (ax 11) :: Value.ref (ax 12) :: Value.ref (ax 13) :: Value.ref (ax 14) :: Value.int 0 :: Value.int 0 :: Value.int 0 :: []))), ((ax 5), .inr (5, (Value.ref (ax 30) :: Value.ref (ax 31) :: Value.ref (ax 32) :: Value.ref (ax 33) :: Value.ref (ax 34) :: Value.ref (ax 35) :: Value.ref (ax 36) :: Value.ref (ax 37) :: Value.int 0 :: Value.int 0 :: Value.int 0 :: Value.int 0 :: Value.int 0 :: Value.int 0 :: Value.int 0 :: [])))]) [0, 8] rfl) hK rfl rfl) rfl hl.1 rfl (Nat.le_of_ble_eq_true rfl) dL_law_1204 ⟨⟨Nat.le_of_ble_eq_true rfl, Nat.le_of_ble_eq_true rfl⟩, Nat.le_of_ble_eq_true rfl, Nat.le_of_ble_eq_true rfl⟩) rfl ?_
  refine lv_aload_n hx hb dL_law_1207 rfl (lv_at hl 1 rfl) ?_
  refine lv_aload_n hx hb dL_law_1208 rfl (lv_at hl 3 rfl) ?_
  refine lv_iload_n hx hb dL_law_1209 rfl (lv_at hl 0 rfl) ?_
  refine lv_iconst (v := 1) hx hb dL_law_1210 (by decide) ?_
  refine lv_iadd hx hb dL_law_1211 ?_
  refine ct_i (z := 1) (by decide) ?_
  refine va_sld hx hb hX hbl hbA hS (vi_c (by decide +kernel)) dL_law_1212 ?_
  refine lv_aload_n hx hb dL_law_1213 rfl (lv_at hl 3 rfl) ?_
  refine lv_iload_n hx hb dL_law_1214 rfl (lv_at hl 0 rfl) ?_
  refine lv_iconst (v := 2) hx hb dL_law_1215 (by decide) ?_
  refine lv_iadd hx hb dL_law_1216 ?_
  refine ct_i (z := 2) (by decide) ?_
  refine va_sld hx hb hX hbl hbA hS (vi_c (by decide +kernel)) dL_law_1217 ?_
  refine lv_aload_n hx hb dL_law_1218 rfl (lv_at hl 3 rfl) ?_
  refine lv_iload_n hx hb dL_law_1219 rfl (lv_at hl 0 rfl) ?_
  refine lv_iconst (v := 3) hx hb dL_law_1220 (by decide) ?_
  refine lv_iadd hx hb dL_law_1221 ?_
  refine ct_i (z := 3) (by decide) ?_
  refine va_sld hx hb hX hbl hbA hS (vi_c (by decide +kernel)) dL_law_1222 ?_
  refine go_R (v := some (.int (-1))) (st1 := [.int (-1), .int (-1)]) (run_V (As := [.int (xs (1 : Int32).toNatClampNeg), .int (xs (2 : Int32).toNatClampNeg), .int (xs (3 : Int32).toNatClampNeg)]) (rest := [.int (-1)]) ⟨hx, hb, hml, hown, hT⟩ (kX12_rows_0 l D cI qm am (xs (1 : Int32).toNatClampNeg) (xs (2 : Int32).toNatClampNeg) (xs (3 : Int32).toNatClampNeg)) sw_1839 lkv_X12_rows (p_R_V (ci := 12) (q0 := 0) (hP.sub (ws' := [(qm, .inr (12, (Value.int 0 :: Value.int 0 :: Value.ref (am 0) :: Value.int 0 :: Value.int 0 :: Value.ref (am 1) :: Value.ref (am 2) :: Value.int 0 :: Value.ref (am 3) :: Value.ref (am 4) :: Value.int 0 :: Value.ref (am 5) :: Value.ref (am 6) :: Value.ref (am 7) :: Value.int 0 :: Value.ref (am 8) :: Value.int 0 :: Value.int (-1) :: Value.int 0 :: Value.int 0 :: Value.int 0 :: Value.int 0 :: Value.int (-1) :: Value.ref (am 9) :: Value.ref (am 10) :: Value.ref (am 11) :: Value.int 0 :: Value.ref (am 12) :: Value.ref (am 13) :: Value.ref (am 14) :: Value.ref (am 15) :: Value.int 0 :: Value.int 0 :: Value.int 0 :: Value.int 0 :: Value.int 0 :: Value.int 0 :: Value.int 0 :: Value.int 0 :: Value.ref (am 16) :: Value.ref (am 17) :: Value.ref (am 18) :: Value.ref (am 19) :: Value.int 0 :: Value.int 0 :: Value.int 1 :: Value.ref (am 20) :: Value.int 0 :: [])))]) [13] rfl) hK rfl rfl) rfl hl.1 rfl (Nat.le_of_ble_eq_true rfl) dL_law_1223 ⟨⟨Nat.le_of_ble_eq_true rfl, Nat.le_of_ble_eq_true rfl⟩, Nat.le_of_ble_eq_true rfl, Nat.le_of_ble_eq_true rfl⟩) rfl ?_
  refine lv_icmp_eq (tgt := 1665) hx hb dL_law_1226 (by decide) (fun _ => ?_) (fun h9 => absurd rfl h9)
  exact law_back C0 hS hl
set_option maxHeartbeats 4000000 in
set_option maxRecDepth 100000 in
/-- fewest: class and reference answer alike -/
theorem law_30 {p : Program} {l : Launch} {e : Env} {s : State} {m : MethodId} {below : List Frame} {meth : Method} {c : Code} {b : Nat} {xs : Nat → Int32} {D : va_G} {cI : ClassId} {qx qm : Nat} {ax am : Nat → Nat} {H : Heap} {locs : List Loc} {ls : Array Slot} (C : lw_C p s m meth c b xs D cI) (hP : va_P D vwCl (w_L cI qx ax qm am) H) (hD : va_D (fun q : Nat => s.heap.size ≤ q) (w_L cI qx ax qm am)) (hS : va_S (fun q : Nat => s.heap.size ≤ q) s.heap H locs) (hl : lv_has ls 4 [(3, .int 0), (2, .ref qm), (1, .ref qx), (0, .ref b)]) : W p l e room_1 s m #[Value.ref b] below meth c H locs 78 71288 (lw_Z below #[Value.ref b] s) (F0 m 1231 ls []) := by
  have C0 := C
  obtain ⟨hx, hb, hr, hml, hown, hT, hX, hbl, hlocks, hK⟩ := C
  have hA : ∀ q : Nat, s.heap.size ≤ q → (fun q : Nat => s.heap.size ≤ q) q := fun _ h => h
  have hbA : ¬ (fun q : Nat => s.heap.size ≤ q) b := Nat.not_le.mpr hbl
  refine lv_aload_n hx hb dL_law_1231 rfl (lv_at hl 2 rfl) ?_
  refine lv_aload_n hx hb dL_law_1232 rfl (lv_at hl 3 rfl) ?_
  refine lv_iload_n hx hb dL_law_1233 rfl (lv_at hl 0 rfl) ?_
  refine lv_iconst (v := 1) hx hb dL_law_1234 (by decide) ?_
  refine lv_iadd hx hb dL_law_1235 ?_
  refine ct_i (z := 1) (by decide) ?_
  refine va_sld hx hb hX hbl hbA hS (vi_c (by decide +kernel)) dL_law_1236 ?_
  refine lv_aload_n hx hb dL_law_1237 rfl (lv_at hl 3 rfl) ?_
  refine lv_iload_n hx hb dL_law_1238 rfl (lv_at hl 0 rfl) ?_
  refine lv_iconst (v := 2) hx hb dL_law_1239 (by decide) ?_
  refine lv_iadd hx hb dL_law_1240 ?_
  refine ct_i (z := 2) (by decide) ?_
  refine va_sld hx hb hX hbl hbA hS (vi_c (by decide +kernel)) dL_law_1241 ?_
  refine lv_aload_n hx hb dL_law_1242 rfl (lv_at hl 3 rfl) ?_
  refine lv_iload_n hx hb dL_law_1243 rfl (lv_at hl 0 rfl) ?_
  refine lv_iconst (v := 3) hx hb dL_law_1244 (by decide) ?_
  refine lv_iadd hx hb dL_law_1245 ?_
  refine ct_i (z := 3) (by decide) ?_
  refine va_sld hx hb hX hbl hbA hS (vi_c (by decide +kernel)) dL_law_1246 ?_
  refine go_R (v := some (.int (-1))) (st1 := [.int (-1)]) (run_V (As := [.int (xs (1 : Int32).toNatClampNeg), .int (xs (2 : Int32).toNatClampNeg), .int (xs (3 : Int32).toNatClampNeg)]) (rest := []) ⟨hx, hb, hml, hown, hT⟩ (kX11_fewest_0 l D cI qx ax (xs (1 : Int32).toNatClampNeg) (xs (2 : Int32).toNatClampNeg) (xs (3 : Int32).toNatClampNeg)) sw_1089 lkv_X11_fewest (p_R_V (ci := 11) (q0 := 0) (hP.sub (ws' := [(qx, .inr (11, (Value.ref (ax 0) :: Value.ref (ax 1) :: Value.ref (ax 2) :: Value.ref (ax 3) :: Value.ref (ax 4) :: Value.ref (ax 5) :: Value.ref (ax 6) :: Value.ref (ax 7) :: Value.ref (ax 8) :: Value.ref (ax 9) :: Value.ref (ax 10) :: Value.ref (ax 11) :: Value.ref (ax 12) :: Value.ref (ax 13) :: Value.ref (ax 14) :: Value.int 0 :: Value.int 0 :: Value.int 0 :: []))), ((ax 5), .inr (5, (Value.ref (ax 30) :: Value.ref (ax 31) :: Value.ref (ax 32) :: Value.ref (ax 33) :: Value.ref (ax 34) :: Value.ref (ax 35) :: Value.ref (ax 36) :: Value.ref (ax 37) :: Value.int 0 :: Value.int 0 :: Value.int 0 :: Value.int 0 :: Value.int 0 :: Value.int 0 :: Value.int 0 :: [])))]) [0, 8] rfl) hK rfl rfl) rfl hl.1 rfl (Nat.le_of_ble_eq_true rfl) dL_law_1247 ⟨⟨Nat.le_of_ble_eq_true rfl, Nat.le_of_ble_eq_true rfl⟩, Nat.le_of_ble_eq_true rfl, Nat.le_of_ble_eq_true rfl⟩) rfl ?_
  refine lv_aload_n hx hb dL_law_1250 rfl (lv_at hl 1 rfl) ?_
  refine lv_aload_n hx hb dL_law_1251 rfl (lv_at hl 3 rfl) ?_
  refine lv_iload_n hx hb dL_law_1252 rfl (lv_at hl 0 rfl) ?_
  refine lv_iconst (v := 1) hx hb dL_law_1253 (by decide) ?_
  refine lv_iadd hx hb dL_law_1254 ?_
  refine ct_i (z := 1) (by decide) ?_
  refine va_sld hx hb hX hbl hbA hS (vi_c (by decide +kernel)) dL_law_1255 ?_
  refine lv_aload_n hx hb dL_law_1256 rfl (lv_at hl 3 rfl) ?_
  refine lv_iload_n hx hb dL_law_1257 rfl (lv_at hl 0 rfl) ?_
  refine lv_iconst (v := 2) hx hb dL_law_1258 (by decide) ?_
  refine lv_iadd hx hb dL_law_1259 ?_
  refine ct_i (z := 2) (by decide) ?_
  refine va_sld hx hb hX hbl hbA hS (vi_c (by decide +kernel)) dL_law_1260 ?_
  refine lv_aload_n hx hb dL_law_1261 rfl (lv_at hl 3 rfl) ?_
  refine lv_iload_n hx hb dL_law_1262 rfl (lv_at hl 0 rfl) ?_
  refine lv_iconst (v := 3) hx hb dL_law_1263 (by decide) ?_
  refine lv_iadd hx hb dL_law_1264 ?_
  refine ct_i (z := 3) (by decide) ?_
  refine va_sld hx hb hX hbl hbA hS (vi_c (by decide +kernel)) dL_law_1265 ?_
  refine go_R (v := some (.int (-1))) (st1 := [.int (-1), .int (-1)]) (run_V (As := [.int (xs (1 : Int32).toNatClampNeg), .int (xs (2 : Int32).toNatClampNeg), .int (xs (3 : Int32).toNatClampNeg)]) (rest := [.int (-1)]) ⟨hx, hb, hml, hown, hT⟩ (kX12_fewest_0 l D cI qm am (xs (1 : Int32).toNatClampNeg) (xs (2 : Int32).toNatClampNeg) (xs (3 : Int32).toNatClampNeg)) sw_1843 lkv_X12_fewest (p_R_V (ci := 12) (q0 := 0) (hP.sub (ws' := [(qm, .inr (12, (Value.int 0 :: Value.int 0 :: Value.ref (am 0) :: Value.int 0 :: Value.int 0 :: Value.ref (am 1) :: Value.ref (am 2) :: Value.int 0 :: Value.ref (am 3) :: Value.ref (am 4) :: Value.int 0 :: Value.ref (am 5) :: Value.ref (am 6) :: Value.ref (am 7) :: Value.int 0 :: Value.ref (am 8) :: Value.int 0 :: Value.int (-1) :: Value.int 0 :: Value.int 0 :: Value.int 0 :: Value.int 0 :: Value.int (-1) :: Value.ref (am 9) :: Value.ref (am 10) :: Value.ref (am 11) :: Value.int 0 :: Value.ref (am 12) :: Value.ref (am 13) :: Value.ref (am 14) :: Value.ref (am 15) :: Value.int 0 :: Value.int 0 :: Value.int 0 :: Value.int 0 :: Value.int 0 :: Value.int 0 :: Value.int 0 :: Value.int 0 :: Value.ref (am 16) :: Value.ref (am 17) :: Value.ref (am 18) :: Value.ref (am 19) :: Value.int 0 :: Value.int 0 :: Value.int 1 :: Value.ref (am 20) :: Value.int 0 :: [])))]) [13] rfl) hK rfl rfl) rfl hl.1 rfl (Nat.le_of_ble_eq_true rfl) dL_law_1266 ⟨⟨Nat.le_of_ble_eq_true rfl, Nat.le_of_ble_eq_true rfl⟩, Nat.le_of_ble_eq_true rfl, Nat.le_of_ble_eq_true rfl⟩) rfl ?_
  refine lv_icmp_eq (tgt := 1665) hx hb dL_law_1269 (by decide) (fun _ => ?_) (fun h9 => absurd rfl h9)
  exact law_back C0 hS hl
set_option maxHeartbeats 4000000 in
set_option maxRecDepth 100000 in
/-- longest: class and reference answer alike -/
theorem law_31 {p : Program} {l : Launch} {e : Env} {s : State} {m : MethodId} {below : List Frame} {meth : Method} {c : Code} {b : Nat} {xs : Nat → Int32} {D : va_G} {cI : ClassId} {qx qm : Nat} {ax am : Nat → Nat} {H : Heap} {locs : List Loc} {ls : Array Slot} (C : lw_C p s m meth c b xs D cI) (hP : va_P D vwCl (w_L cI qx ax qm am) H) (hD : va_D (fun q : Nat => s.heap.size ≤ q) (w_L cI qx ax qm am)) (hS : va_S (fun q : Nat => s.heap.size ≤ q) s.heap H locs) (hl : lv_has ls 4 [(3, .int 0), (2, .ref qm), (1, .ref qx), (0, .ref b)]) : W p l e room_1 s m #[Value.ref b] below meth c H locs 78 71288 (lw_Z below #[Value.ref b] s) (F0 m 1274 ls []) := by
  have C0 := C
  obtain ⟨hx, hb, hr, hml, hown, hT, hX, hbl, hlocks, hK⟩ := C
  have hA : ∀ q : Nat, s.heap.size ≤ q → (fun q : Nat => s.heap.size ≤ q) q := fun _ h => h
  have hbA : ¬ (fun q : Nat => s.heap.size ≤ q) b := Nat.not_le.mpr hbl
  refine lv_aload_n hx hb dL_law_1274 rfl (lv_at hl 2 rfl) ?_
  refine lv_aload_n hx hb dL_law_1275 rfl (lv_at hl 3 rfl) ?_
  refine lv_iload_n hx hb dL_law_1276 rfl (lv_at hl 0 rfl) ?_
  refine lv_iconst (v := 1) hx hb dL_law_1277 (by decide) ?_
  refine lv_iadd hx hb dL_law_1278 ?_
  refine ct_i (z := 1) (by decide) ?_
  refine va_sld hx hb hX hbl hbA hS (vi_c (by decide +kernel)) dL_law_1279 ?_
  refine lv_aload_n hx hb dL_law_1280 rfl (lv_at hl 3 rfl) ?_
  refine lv_iload_n hx hb dL_law_1281 rfl (lv_at hl 0 rfl) ?_
  refine lv_iconst (v := 2) hx hb dL_law_1282 (by decide) ?_
  refine lv_iadd hx hb dL_law_1283 ?_
  refine ct_i (z := 2) (by decide) ?_
  refine va_sld hx hb hX hbl hbA hS (vi_c (by decide +kernel)) dL_law_1284 ?_
  refine lv_aload_n hx hb dL_law_1285 rfl (lv_at hl 3 rfl) ?_
  refine lv_iload_n hx hb dL_law_1286 rfl (lv_at hl 0 rfl) ?_
  refine lv_iconst (v := 3) hx hb dL_law_1287 (by decide) ?_
  refine lv_iadd hx hb dL_law_1288 ?_
  refine ct_i (z := 3) (by decide) ?_
  refine va_sld hx hb hX hbl hbA hS (vi_c (by decide +kernel)) dL_law_1289 ?_
  refine go_R (v := some (.int (-1))) (st1 := [.int (-1)]) (run_V (As := [.int (xs (1 : Int32).toNatClampNeg), .int (xs (2 : Int32).toNatClampNeg), .int (xs (3 : Int32).toNatClampNeg)]) (rest := []) ⟨hx, hb, hml, hown, hT⟩ (kX11_longest_0 l D cI qx ax (xs (1 : Int32).toNatClampNeg) (xs (2 : Int32).toNatClampNeg) (xs (3 : Int32).toNatClampNeg)) sw_1093 lkv_X11_longest (p_R_V (ci := 11) (q0 := 0) (hP.sub (ws' := [(qx, .inr (11, (Value.ref (ax 0) :: Value.ref (ax 1) :: Value.ref (ax 2) :: Value.ref (ax 3) :: Value.ref (ax 4) :: Value.ref (ax 5) :: Value.ref (ax 6) :: Value.ref (ax 7) :: Value.ref (ax 8) :: Value.ref (ax 9) :: Value.ref (ax 10) :: Value.ref (ax 11) :: Value.ref (ax 12) :: Value.ref (ax 13) :: Value.ref (ax 14) :: Value.int 0 :: Value.int 0 :: Value.int 0 :: []))), ((ax 5), .inr (5, (Value.ref (ax 30) :: Value.ref (ax 31) :: Value.ref (ax 32) :: Value.ref (ax 33) :: Value.ref (ax 34) :: Value.ref (ax 35) :: Value.ref (ax 36) :: Value.ref (ax 37) :: Value.int 0 :: Value.int 0 :: Value.int 0 :: Value.int 0 :: Value.int 0 :: Value.int 0 :: Value.int 0 :: [])))]) [0, 8] rfl) hK rfl rfl) rfl hl.1 rfl (Nat.le_of_ble_eq_true rfl) dL_law_1290 ⟨⟨Nat.le_of_ble_eq_true rfl, Nat.le_of_ble_eq_true rfl⟩, Nat.le_of_ble_eq_true rfl, Nat.le_of_ble_eq_true rfl⟩) rfl ?_
  refine lv_aload_n hx hb dL_law_1293 rfl (lv_at hl 1 rfl) ?_
  refine lv_aload_n hx hb dL_law_1294 rfl (lv_at hl 3 rfl) ?_
  refine lv_iload_n hx hb dL_law_1295 rfl (lv_at hl 0 rfl) ?_
  refine lv_iconst (v := 1) hx hb dL_law_1296 (by decide) ?_
  refine lv_iadd hx hb dL_law_1297 ?_
  refine ct_i (z := 1) (by decide) ?_
  refine va_sld hx hb hX hbl hbA hS (vi_c (by decide +kernel)) dL_law_1298 ?_
  refine lv_aload_n hx hb dL_law_1299 rfl (lv_at hl 3 rfl) ?_
  refine lv_iload_n hx hb dL_law_1300 rfl (lv_at hl 0 rfl) ?_
  refine lv_iconst (v := 2) hx hb dL_law_1301 (by decide) ?_
  refine lv_iadd hx hb dL_law_1302 ?_
  refine ct_i (z := 2) (by decide) ?_
  refine va_sld hx hb hX hbl hbA hS (vi_c (by decide +kernel)) dL_law_1303 ?_
  refine lv_aload_n hx hb dL_law_1304 rfl (lv_at hl 3 rfl) ?_
  refine lv_iload_n hx hb dL_law_1305 rfl (lv_at hl 0 rfl) ?_
  refine lv_iconst (v := 3) hx hb dL_law_1306 (by decide) ?_
  refine lv_iadd hx hb dL_law_1307 ?_
  refine ct_i (z := 3) (by decide) ?_
  refine va_sld hx hb hX hbl hbA hS (vi_c (by decide +kernel)) dL_law_1308 ?_
  refine go_R (v := some (.int (-1))) (st1 := [.int (-1), .int (-1)]) (run_V (As := [.int (xs (1 : Int32).toNatClampNeg), .int (xs (2 : Int32).toNatClampNeg), .int (xs (3 : Int32).toNatClampNeg)]) (rest := [.int (-1)]) ⟨hx, hb, hml, hown, hT⟩ (kX12_longest_0 l D cI qm am (xs (1 : Int32).toNatClampNeg) (xs (2 : Int32).toNatClampNeg) (xs (3 : Int32).toNatClampNeg)) sw_1847 lkv_X12_longest (p_R_V (ci := 12) (q0 := 0) (hP.sub (ws' := [(qm, .inr (12, (Value.int 0 :: Value.int 0 :: Value.ref (am 0) :: Value.int 0 :: Value.int 0 :: Value.ref (am 1) :: Value.ref (am 2) :: Value.int 0 :: Value.ref (am 3) :: Value.ref (am 4) :: Value.int 0 :: Value.ref (am 5) :: Value.ref (am 6) :: Value.ref (am 7) :: Value.int 0 :: Value.ref (am 8) :: Value.int 0 :: Value.int (-1) :: Value.int 0 :: Value.int 0 :: Value.int 0 :: Value.int 0 :: Value.int (-1) :: Value.ref (am 9) :: Value.ref (am 10) :: Value.ref (am 11) :: Value.int 0 :: Value.ref (am 12) :: Value.ref (am 13) :: Value.ref (am 14) :: Value.ref (am 15) :: Value.int 0 :: Value.int 0 :: Value.int 0 :: Value.int 0 :: Value.int 0 :: Value.int 0 :: Value.int 0 :: Value.int 0 :: Value.ref (am 16) :: Value.ref (am 17) :: Value.ref (am 18) :: Value.ref (am 19) :: Value.int 0 :: Value.int 0 :: Value.int 1 :: Value.ref (am 20) :: Value.int 0 :: [])))]) [13] rfl) hK rfl rfl) rfl hl.1 rfl (Nat.le_of_ble_eq_true rfl) dL_law_1309 ⟨⟨Nat.le_of_ble_eq_true rfl, Nat.le_of_ble_eq_true rfl⟩, Nat.le_of_ble_eq_true rfl, Nat.le_of_ble_eq_true rfl⟩) rfl ?_
  refine lv_icmp_eq (tgt := 1665) hx hb dL_law_1312 (by decide) (fun _ => ?_) (fun h9 => absurd rfl h9)
  exact law_back C0 hS hl
