set_option maxHeartbeats 4000000 in
set_option maxRecDepth 100000 in
theorem kX12_thing_0 (l : Launch) (D : va_G) (cI : ClassId) (h0 : Nat) (a : Nat → Nat) (p0 p1 : Int32) : Met l yX12_thing (sw_ws yX12_thing cX12_thing 3 (some .int)) (rm_ 2 43 0 0) (p_R D vwCl [(cI, .int)] [.ref h0, .int p0, .int p1] [(h0, .inr (12, (Value.int 0 :: Value.int 0 :: Value.ref (a 0) :: Value.int 0 :: Value.int 0 :: Value.ref (a 1) :: Value.ref (a 2) :: Value.int 0 :: Value.ref (a 3) :: Value.ref (a 4) :: Value.int 0 :: Value.ref (a 5) :: Value.ref (a 6) :: Value.ref (a 7) :: Value.int 0 :: Value.ref (a 8) :: Value.int 0 :: Value.int (-1) :: Value.int 0 :: Value.int 0 :: Value.int 0 :: Value.int 0 :: Value.int (-1) :: Value.ref (a 9) :: Value.ref (a 10) :: Value.ref (a 11) :: Value.int 0 :: Value.ref (a 12) :: Value.ref (a 13) :: Value.ref (a 14) :: Value.ref (a 15) :: Value.int 0 :: Value.int 0 :: Value.int 0 :: Value.int 0 :: Value.int 0 :: Value.int 0 :: Value.int 0 :: Value.int 0 :: Value.ref (a 16) :: Value.ref (a 17) :: Value.ref (a 18) :: Value.ref (a 19) :: Value.int 0 :: Value.int 0 :: Value.int 1 :: Value.ref (a 20) :: Value.int 0 :: [])))]) (q_R (some (.int (-1)))) 0 0 (fun _ => False) := by
  refine Met.ofW (cc := cX12_thing) (maxL := 3) (ret := (some .int)) (by decide) rfl ?_
  intro p e s m args below meth c s₁ B hml hv
  obtain ⟨rfl, hP, hK⟩ := hv
  have hx := B.exec
  have hb := B.bytes
  have hr := B.returns
  have hT := sw_in (atoms_spec (ws := sw_ws yX12_thing cX12_thing 3 (some .int)) B.pre)
  have hown : s.vm.findClass RX12 = some m.cls := findClass_of_methodNamed B.named
  have hlocks := B.notSynchronized
  have hl := lv_entry ([.ref h0, .int p0, .int p1]) (n := 3) (Nat.le_of_ble_eq_true rfl)
  rw [lg_entry_eq]
  generalize (lg_sl ([.ref h0, .int p0, .int p1]) ++ List.replicate (3 - (lg_sl ([.ref h0, .int p0, .int p1])).length) Slot.unset).toArray = ls at hl ⊢
  have hl : lv_has ls 3 [(0, .ref h0), (1, .int p0), (2, .int p1)] := hl
  refine lv_aload_n hx hb dX12_thing_0 rfl (lv_at hl 0 rfl) ?_
  refine lv_iload_n hx hb dX12_thing_1 rfl (lv_at hl 1 rfl) ?_
  refine go_R (v := some (.int 0)) (st1 := [.int 0]) (run_V (As := [.int p0]) (rest := []) ⟨hx, hb, hml, hown, hT⟩ (kX12_isThing_0 l D cI h0 a p0) sw_1598 lkv_X12_isThing (p_R_V (ci := 12) (q0 := 0) (hP.sub (ws' := [(h0, .inr (12, (Value.int 0 :: Value.int 0 :: Value.ref (a 0) :: Value.int 0 :: Value.int 0 :: Value.ref (a 1) :: Value.ref (a 2) :: Value.int 0 :: Value.ref (a 3) :: Value.ref (a 4) :: Value.int 0 :: Value.ref (a 5) :: Value.ref (a 6) :: Value.ref (a 7) :: Value.int 0 :: Value.ref (a 8) :: Value.int 0 :: Value.int (-1) :: Value.int 0 :: Value.int 0 :: Value.int 0 :: Value.int 0 :: Value.int (-1) :: Value.ref (a 9) :: Value.ref (a 10) :: Value.ref (a 11) :: Value.int 0 :: Value.ref (a 12) :: Value.ref (a 13) :: Value.ref (a 14) :: Value.ref (a 15) :: Value.int 0 :: Value.int 0 :: Value.int 0 :: Value.int 0 :: Value.int 0 :: Value.int 0 :: Value.int 0 :: Value.int 0 :: Value.ref (a 16) :: Value.ref (a 17) :: Value.ref (a 18) :: Value.ref (a 19) :: Value.int 0 :: Value.int 0 :: Value.int 1 :: Value.ref (a 20) :: Value.int 0 :: [])))]) [0] rfl) hK rfl rfl) rfl hl.1 rfl (Nat.le_of_ble_eq_true rfl) dX12_thing_2 ⟨⟨Nat.le_of_ble_eq_true rfl, Nat.le_of_ble_eq_true rfl⟩, Nat.le_of_ble_eq_true rfl, Nat.le_of_ble_eq_true rfl⟩) rfl ?_
  refine lv_if_ne (tgt := 10) hx hb dX12_thing_5 (by decide) (fun h9 => absurd (by decide) h9) (fun _ => ?_)
  refine lv_iconst (v := (-1)) hx hb dX12_thing_8 (by decide) ?_
  exact W.iret (v := (-1)) hx hb hr (fun t ht _ => ⟨rfl, ht⟩) (fun _ h9 => nomatch h9) dX12_thing_9
set_option maxHeartbeats 4000000 in
set_option maxRecDepth 100000 in
theorem kX12_weight_0 (l : Launch) (D : va_G) (cI : ClassId) (h0 : Nat) (a : Nat → Nat) (p0 : Int32) : Met l yX12_weight (sw_ws yX12_weight cX12_weight 2 (some .long)) (rm_ 2 43 0 0) (p_R D vwCl [(cI, .int)] [.ref h0, .int p0] [(h0, .inr (12, (Value.int 0 :: Value.int 0 :: Value.ref (a 0) :: Value.int 0 :: Value.int 0 :: Value.ref (a 1) :: Value.ref (a 2) :: Value.int 0 :: Value.ref (a 3) :: Value.ref (a 4) :: Value.int 0 :: Value.ref (a 5) :: Value.ref (a 6) :: Value.ref (a 7) :: Value.int 0 :: Value.ref (a 8) :: Value.int 0 :: Value.int (-1) :: Value.int 0 :: Value.int 0 :: Value.int 0 :: Value.int 0 :: Value.int (-1) :: Value.ref (a 9) :: Value.ref (a 10) :: Value.ref (a 11) :: Value.int 0 :: Value.ref (a 12) :: Value.ref (a 13) :: Value.ref (a 14) :: Value.ref (a 15) :: Value.int 0 :: Value.int 0 :: Value.int 0 :: Value.int 0 :: Value.int 0 :: Value.int 0 :: Value.int 0 :: Value.int 0 :: Value.ref (a 16) :: Value.ref (a 17) :: Value.ref (a 18) :: Value.ref (a 19) :: Value.int 0 :: Value.int 0 :: Value.int 1 :: Value.ref (a 20) :: Value.int 0 :: [])))]) (q_R (some (.long (-1)))) 0 0 (fun _ => False) := by
  refine Met.ofW (cc := cX12_weight) (maxL := 2) (ret := (some .long)) (by decide) rfl ?_
  intro p e s m args below meth c s₁ B hml hv
  obtain ⟨rfl, hP, hK⟩ := hv
  have hx := B.exec
  have hb := B.bytes
  have hr := B.returns
  have hT := sw_in (atoms_spec (ws := sw_ws yX12_weight cX12_weight 2 (some .long)) B.pre)
  have hown : s.vm.findClass RX12 = some m.cls := findClass_of_methodNamed B.named
  have hlocks := B.notSynchronized
  have hl := lv_entry ([.ref h0, .int p0]) (n := 2) (Nat.le_of_ble_eq_true rfl)
  rw [lg_entry_eq]
  generalize (lg_sl ([.ref h0, .int p0]) ++ List.replicate (2 - (lg_sl ([.ref h0, .int p0])).length) Slot.unset).toArray = ls at hl ⊢
  have hl : lv_has ls 2 [(0, .ref h0), (1, .int p0)] := hl
  refine lv_aload_n hx hb dX12_weight_0 rfl (lv_at hl 0 rfl) ?_
  refine lv_iload_n hx hb dX12_weight_1 rfl (lv_at hl 1 rfl) ?_
  refine go_R (v := some (.int 0)) (st1 := [.int 0]) (run_V (As := [.int p0]) (rest := []) ⟨hx, hb, hml, hown, hT⟩ (kX12_isThing_0 l D cI h0 a p0) sw_1598 lkv_X12_isThing (p_R_V (ci := 12) (q0 := 0) (hP.sub (ws' := [(h0, .inr (12, (Value.int 0 :: Value.int 0 :: Value.ref (a 0) :: Value.int 0 :: Value.int 0 :: Value.ref (a 1) :: Value.ref (a 2) :: Value.int 0 :: Value.ref (a 3) :: Value.ref (a 4) :: Value.int 0 :: Value.ref (a 5) :: Value.ref (a 6) :: Value.ref (a 7) :: Value.int 0 :: Value.ref (a 8) :: Value.int 0 :: Value.int (-1) :: Value.int 0 :: Value.int 0 :: Value.int 0 :: Value.int 0 :: Value.int (-1) :: Value.ref (a 9) :: Value.ref (a 10) :: Value.ref (a 11) :: Value.int 0 :: Value.ref (a 12) :: Value.ref (a 13) :: Value.ref (a 14) :: Value.ref (a 15) :: Value.int 0 :: Value.int 0 :: Value.int 0 :: Value.int 0 :: Value.int 0 :: Value.int 0 :: Value.int 0 :: Value.int 0 :: Value.ref (a 16) :: Value.ref (a 17) :: Value.ref (a 18) :: Value.ref (a 19) :: Value.int 0 :: Value.int 0 :: Value.int 1 :: Value.ref (a 20) :: Value.int 0 :: [])))]) [0] rfl) hK rfl rfl) rfl hl.1 rfl (Nat.le_of_ble_eq_true rfl) dX12_weight_2 ⟨⟨Nat.le_of_ble_eq_true rfl, Nat.le_of_ble_eq_true rfl⟩, Nat.le_of_ble_eq_true rfl, Nat.le_of_ble_eq_true rfl⟩) rfl ?_
  refine lv_if_eq (tgt := 28) hx hb dX12_weight_5 (by decide) (fun _ => ?_) (fun h9 => absurd (by decide) h9)
  refine lv_ldc2 (own := RX12) (v := (-1)) hx hb hown (hT _ sw_1621) dX12_weight_28 ?_
  exact W.lret (v := (-1)) hx hb hr (fun t ht _ => ⟨rfl, ht⟩) (fun _ h9 => nomatch h9) dX12_weight_31
set_option maxHeartbeats 4000000 in
set_option maxRecDepth 100000 in
theorem kX12_column_0 (l : Launch) (D : va_G) (cI : ClassId) (h0 : Nat) (a : Nat → Nat) (p0 p1 : Int32) : Met l yX12_column (sw_ws yX12_column cX12_column 3 (some .int)) (rm_ 2 43 0 0) (p_R D vwCl [(cI, .int)] [.ref h0, .int p0, .int p1] [(h0, .inr (12, (Value.int 0 :: Value.int 0 :: Value.ref (a 0) :: Value.int 0 :: Value.int 0 :: Value.ref (a 1) :: Value.ref (a 2) :: Value.int 0 :: Value.ref (a 3) :: Value.ref (a 4) :: Value.int 0 :: Value.ref (a 5) :: Value.ref (a 6) :: Value.ref (a 7) :: Value.int 0 :: Value.ref (a 8) :: Value.int 0 :: Value.int (-1) :: Value.int 0 :: Value.int 0 :: Value.int 0 :: Value.int 0 :: Value.int (-1) :: Value.ref (a 9) :: Value.ref (a 10) :: Value.ref (a 11) :: Value.int 0 :: Value.ref (a 12) :: Value.ref (a 13) :: Value.ref (a 14) :: Value.ref (a 15) :: Value.int 0 :: Value.int 0 :: Value.int 0 :: Value.int 0 :: Value.int 0 :: Value.int 0 :: Value.int 0 :: Value.int 0 :: Value.ref (a 16) :: Value.ref (a 17) :: Value.ref (a 18) :: Value.ref (a 19) :: Value.int 0 :: Value.int 0 :: Value.int 1 :: Value.ref (a 20) :: Value.int 0 :: [])))]) (q_R (some (.int (-1)))) 0 0 (fun _ => False) := by
  refine Met.ofW (cc := cX12_column) (maxL := 3) (ret := (some .int)) (by decide) rfl ?_
  intro p e s m args below meth c s₁ B hml hv
  obtain ⟨rfl, hP, hK⟩ := hv
  have hx := B.exec
  have hb := B.bytes
  have hr := B.returns
  have hT := sw_in (atoms_spec (ws := sw_ws yX12_column cX12_column 3 (some .int)) B.pre)
  have hown : s.vm.findClass RX12 = some m.cls := findClass_of_methodNamed B.named
  have hlocks := B.notSynchronized
  have hl := lv_entry ([.ref h0, .int p0, .int p1]) (n := 3) (Nat.le_of_ble_eq_true rfl)
  rw [lg_entry_eq]
  generalize (lg_sl ([.ref h0, .int p0, .int p1]) ++ List.replicate (3 - (lg_sl ([.ref h0, .int p0, .int p1])).length) Slot.unset).toArray = ls at hl ⊢
  have hl : lv_has ls 3 [(0, .ref h0), (1, .int p0), (2, .int p1)] := hl
  refine lv_aload_n hx hb dX12_column_0 rfl (lv_at hl 0 rfl) ?_
  refine lv_iload_n hx hb dX12_column_1 rfl (lv_at hl 1 rfl) ?_
  refine go_R (v := some (.int 0)) (st1 := [.int 0]) (run_V (As := [.int p0]) (rest := []) ⟨hx, hb, hml, hown, hT⟩ (kX12_isThing_0 l D cI h0 a p0) sw_1598 lkv_X12_isThing (p_R_V (ci := 12) (q0 := 0) (hP.sub (ws' := [(h0, .inr (12, (Value.int 0 :: Value.int 0 :: Value.ref (a 0) :: Value.int 0 :: Value.int 0 :: Value.ref (a 1) :: Value.ref (a 2) :: Value.int 0 :: Value.ref (a 3) :: Value.ref (a 4) :: Value.int 0 :: Value.ref (a 5) :: Value.ref (a 6) :: Value.ref (a 7) :: Value.int 0 :: Value.ref (a 8) :: Value.int 0 :: Value.int (-1) :: Value.int 0 :: Value.int 0 :: Value.int 0 :: Value.int 0 :: Value.int (-1) :: Value.ref (a 9) :: Value.ref (a 10) :: Value.ref (a 11) :: Value.int 0 :: Value.ref (a 12) :: Value.ref (a 13) :: Value.ref (a 14) :: Value.ref (a 15) :: Value.int 0 :: Value.int 0 :: Value.int 0 :: Value.int 0 :: Value.int 0 :: Value.int 0 :: Value.int 0 :: Value.int 0 :: Value.ref (a 16) :: Value.ref (a 17) :: Value.ref (a 18) :: Value.ref (a 19) :: Value.int 0 :: Value.int 0 :: Value.int 1 :: Value.ref (a 20) :: Value.int 0 :: [])))]) [0] rfl) hK rfl rfl) rfl hl.1 rfl (Nat.le_of_ble_eq_true rfl) dX12_column_2 ⟨⟨Nat.le_of_ble_eq_true rfl, Nat.le_of_ble_eq_true rfl⟩, Nat.le_of_ble_eq_true rfl, Nat.le_of_ble_eq_true rfl⟩) rfl ?_
  refine lv_if_eq (tgt := 16) hx hb dX12_column_5 (by decide) (fun _ => ?_) (fun h9 => absurd (by decide) h9)
  refine lv_iconst (v := (-1)) hx hb dX12_column_16 (by decide) ?_
  exact W.iret (v := (-1)) hx hb hr (fun t ht _ => ⟨rfl, ht⟩) (fun _ h9 => nomatch h9) dX12_column_17
set_option maxHeartbeats 4000000 in
set_option maxRecDepth 100000 in
theorem kX12_mass_0 (l : Launch) (D : va_G) (cI : ClassId) (h0 : Nat) (a : Nat → Nat) (p0 : Int32) : Met l yX12_mass (sw_ws yX12_mass cX12_mass 5 (some .int)) (rm_ 2 43 0 0) (p_R D vwCl [(cI, .int)] [.ref h0, .int p0] [(h0, .inr (12, (Value.int 0 :: Value.int 0 :: Value.ref (a 0) :: Value.int 0 :: Value.int 0 :: Value.ref (a 1) :: Value.ref (a 2) :: Value.int 0 :: Value.ref (a 3) :: Value.ref (a 4) :: Value.int 0 :: Value.ref (a 5) :: Value.ref (a 6) :: Value.ref (a 7) :: Value.int 0 :: Value.ref (a 8) :: Value.int 0 :: Value.int (-1) :: Value.int 0 :: Value.int 0 :: Value.int 0 :: Value.int 0 :: Value.int (-1) :: Value.ref (a 9) :: Value.ref (a 10) :: Value.ref (a 11) :: Value.int 0 :: Value.ref (a 12) :: Value.ref (a 13) :: Value.ref (a 14) :: Value.ref (a 15) :: Value.int 0 :: Value.int 0 :: Value.int 0 :: Value.int 0 :: Value.int 0 :: Value.int 0 :: Value.int 0 :: Value.int 0 :: Value.ref (a 16) :: Value.ref (a 17) :: Value.ref (a 18) :: Value.ref (a 19) :: Value.int 0 :: Value.int 0 :: Value.int 1 :: Value.ref (a 20) :: Value.int 0 :: [])))]) (q_R (some (.int (-1)))) 0 0 (fun _ => False) := by
  refine Met.ofW (cc := cX12_mass) (maxL := 5) (ret := (some .int)) (by decide) rfl ?_
  intro p e s m args below meth c s₁ B hml hv
  obtain ⟨rfl, hP, hK⟩ := hv
  have hx := B.exec
  have hb := B.bytes
  have hr := B.returns
  have hT := sw_in (atoms_spec (ws := sw_ws yX12_mass cX12_mass 5 (some .int)) B.pre)
  have hown : s.vm.findClass RX12 = some m.cls := findClass_of_methodNamed B.named
  have hlocks := B.notSynchronized
  have hl := lv_entry ([.ref h0, .int p0]) (n := 5) (Nat.le_of_ble_eq_true rfl)
  rw [lg_entry_eq]
  generalize (lg_sl ([.ref h0, .int p0]) ++ List.replicate (5 - (lg_sl ([.ref h0, .int p0])).length) Slot.unset).toArray = ls at hl ⊢
  have hl : lv_has ls 5 [(0, .ref h0), (1, .int p0)] := hl
  refine lv_aload_n hx hb dX12_mass_0 rfl (lv_at hl 0 rfl) ?_
  refine lv_iload_n hx hb dX12_mass_1 rfl (lv_at hl 1 rfl) ?_
  refine go_R (v := some (.int 0)) (st1 := [.int 0]) (run_V (As := [.int p0]) (rest := []) ⟨hx, hb, hml, hown, hT⟩ (kX12_isThing_0 l D cI h0 a p0) sw_1598 lkv_X12_isThing (p_R_V (ci := 12) (q0 := 0) (hP.sub (ws' := [(h0, .inr (12, (Value.int 0 :: Value.int 0 :: Value.ref (a 0) :: Value.int 0 :: Value.int 0 :: Value.ref (a 1) :: Value.ref (a 2) :: Value.int 0 :: Value.ref (a 3) :: Value.ref (a 4) :: Value.int 0 :: Value.ref (a 5) :: Value.ref (a 6) :: Value.ref (a 7) :: Value.int 0 :: Value.ref (a 8) :: Value.int 0 :: Value.int (-1) :: Value.int 0 :: Value.int 0 :: Value.int 0 :: Value.int 0 :: Value.int (-1) :: Value.ref (a 9) :: Value.ref (a 10) :: Value.ref (a 11) :: Value.int 0 :: Value.ref (a 12) :: Value.ref (a 13) :: Value.ref (a 14) :: Value.ref (a 15) :: Value.int 0 :: Value.int 0 :: Value.int 0 :: Value.int 0 :: Value.int 0 :: Value.int 0 :: Value.int 0 :: Value.int 0 :: Value.ref (a 16) :: Value.ref (a 17) :: Value.ref (a 18) :: Value.ref (a 19) :: Value.int 0 :: Value.int 0 :: Value.int 1 :: Value.ref (a 20) :: Value.int 0 :: [])))]) [0] rfl) hK rfl rfl) rfl hl.1 rfl (Nat.le_of_ble_eq_true rfl) dX12_mass_2 ⟨⟨Nat.le_of_ble_eq_true rfl, Nat.le_of_ble_eq_true rfl⟩, Nat.le_of_ble_eq_true rfl, Nat.le_of_ble_eq_true rfl⟩) rfl ?_
  refine lv_if_eq (tgt := 16) hx hb dX12_mass_5 (by decide) (fun _ => ?_) (fun h9 => absurd (by decide) h9)
  refine lv_iconst (v := (-1)) hx hb dX12_mass_16 (by decide) ?_
  exact W.iret (v := (-1)) hx hb hr (fun t ht _ => ⟨rfl, ht⟩) (fun _ h9 => nomatch h9) dX12_mass_17
set_option maxHeartbeats 4000000 in
set_option maxRecDepth 100000 in
theorem kX12_rank_0 (l : Launch) (D : va_G) (cI : ClassId) (h0 : Nat) (a : Nat → Nat) (p0 : Int32) : Met l yX12_rank (sw_ws yX12_rank cX12_rank 5 (some .int)) (rm_ 0 0 0 0) (p_R D vwCl [(cI, .int)] [.ref h0, .int p0] [(h0, .inr (12, (Value.int 0 :: Value.int 0 :: Value.ref (a 0) :: Value.int 0 :: Value.int 0 :: Value.ref (a 1) :: Value.ref (a 2) :: Value.int 0 :: Value.ref (a 3) :: Value.ref (a 4) :: Value.int 0 :: Value.ref (a 5) :: Value.ref (a 6) :: Value.ref (a 7) :: Value.int 0 :: Value.ref (a 8) :: Value.int 0 :: Value.int (-1) :: Value.int 0 :: Value.int 0 :: Value.int 0 :: Value.int 0 :: Value.int (-1) :: Value.ref (a 9) :: Value.ref (a 10) :: Value.ref (a 11) :: Value.int 0 :: Value.ref (a 12) :: Value.ref (a 13) :: Value.ref (a 14) :: Value.ref (a 15) :: Value.int 0 :: Value.int 0 :: Value.int 0 :: Value.int 0 :: Value.int 0 :: Value.int 0 :: Value.int 0 :: Value.int 0 :: Value.ref (a 16) :: Value.ref (a 17) :: Value.ref (a 18) :: Value.ref (a 19) :: Value.int 0 :: Value.int 0 :: Value.int 1 :: Value.ref (a 20) :: Value.int 0 :: [])))]) (q_R (some (.int (-1)))) 0 0 (fun _ => False) := by
  refine Met.ofW (cc := cX12_rank) (maxL := 5) (ret := (some .int)) (by decide) rfl ?_
  intro p e s m args below meth c s₁ B hml hv
  obtain ⟨rfl, hP, hK⟩ := hv
  have hx := B.exec
  have hb := B.bytes
  have hr := B.returns
  have hT := sw_in (atoms_spec (ws := sw_ws yX12_rank cX12_rank 5 (some .int)) B.pre)
  have hown : s.vm.findClass RX12 = some m.cls := findClass_of_methodNamed B.named
  have hlocks := B.notSynchronized
  have hl := lv_entry ([.ref h0, .int p0]) (n := 5) (Nat.le_of_ble_eq_true rfl)
  rw [lg_entry_eq]
  generalize (lg_sl ([.ref h0, .int p0]) ++ List.replicate (5 - (lg_sl ([.ref h0, .int p0])).length) Slot.unset).toArray = ls at hl ⊢
  have hl : lv_has ls 5 [(0, .ref h0), (1, .int p0)] := hl
  refine lv_iconst (v := 0) hx hb dX12_rank_0 (by decide) ?_
  refine lv_istore_n (lv' := [(2, .int 0), (0, .ref h0), (1, .int p0)]) hx hb dX12_rank_1 rfl hl (by decide) rfl (fun ls hl => ?_)
  refine lv_iload_n hx hb dX12_rank_2 rfl (lv_at hl 0 rfl) ?_
  refine lv_aload_n hx hb dX12_rank_3 rfl (lv_at hl 1 rfl) ?_
  refine va_get (D := D) (ci := 12) (v := .int 0) (C := RX12) (T := TX12) (N := 48) hx hb hT ix_12 hown hK hP 0 rfl rfl 1 (by decide) (hT _ sw_1289) (fun _ h9 => h9) rfl dX12_rank_4 ?_
  refine lv_icmp_ge (tgt := 101) hx hb dX12_rank_7 (by decide) (fun _ => ?_) (fun h9 => absurd (by decide) h9)
  refine lv_iconst (v := (-1)) hx hb dX12_rank_101 (by decide) ?_
  exact W.iret (v := (-1)) hx hb hr (fun t ht _ => ⟨rfl, ht⟩) (fun _ h9 => nomatch h9) dX12_rank_102
set_option maxHeartbeats 4000000 in
set_option maxRecDepth 100000 in
theorem kX12_share_0 (l : Launch) (D : va_G) (cI : ClassId) (h0 : Nat) (a : Nat → Nat) (p0 p1 : Int32) : Met l yX12_share (sw_ws yX12_share cX12_share 3 (some .int)) (rm_ 2 43 0 0) (p_R D vwCl [(cI, .int)] [.ref h0, .int p0, .int p1] [(h0, .inr (12, (Value.int 0 :: Value.int 0 :: Value.ref (a 0) :: Value.int 0 :: Value.int 0 :: Value.ref (a 1) :: Value.ref (a 2) :: Value.int 0 :: Value.ref (a 3) :: Value.ref (a 4) :: Value.int 0 :: Value.ref (a 5) :: Value.ref (a 6) :: Value.ref (a 7) :: Value.int 0 :: Value.ref (a 8) :: Value.int 0 :: Value.int (-1) :: Value.int 0 :: Value.int 0 :: Value.int 0 :: Value.int 0 :: Value.int (-1) :: Value.ref (a 9) :: Value.ref (a 10) :: Value.ref (a 11) :: Value.int 0 :: Value.ref (a 12) :: Value.ref (a 13) :: Value.ref (a 14) :: Value.ref (a 15) :: Value.int 0 :: Value.int 0 :: Value.int 0 :: Value.int 0 :: Value.int 0 :: Value.int 0 :: Value.int 0 :: Value.int 0 :: Value.ref (a 16) :: Value.ref (a 17) :: Value.ref (a 18) :: Value.ref (a 19) :: Value.int 0 :: Value.int 0 :: Value.int 1 :: Value.ref (a 20) :: Value.int 0 :: [])))]) (q_R (some (.int (-1)))) 0 0 (fun _ => False) := by
  refine Met.ofW (cc := cX12_share) (maxL := 3) (ret := (some .int)) (by decide) rfl ?_
  intro p e s m args below meth c s₁ B hml hv
  obtain ⟨rfl, hP, hK⟩ := hv
  have hx := B.exec
  have hb := B.bytes
  have hr := B.returns
  have hT := sw_in (atoms_spec (ws := sw_ws yX12_share cX12_share 3 (some .int)) B.pre)
  have hown : s.vm.findClass RX12 = some m.cls := findClass_of_methodNamed B.named
  have hlocks := B.notSynchronized
  have hl := lv_entry ([.ref h0, .int p0, .int p1]) (n := 3) (Nat.le_of_ble_eq_true rfl)
  rw [lg_entry_eq]
  generalize (lg_sl ([.ref h0, .int p0, .int p1]) ++ List.replicate (3 - (lg_sl ([.ref h0, .int p0, .int p1])).length) Slot.unset).toArray = ls at hl ⊢
  have hl : lv_has ls 3 [(0, .ref h0), (1, .int p0), (2, .int p1)] := hl
  refine lv_aload_n hx hb dX12_share_0 rfl (lv_at hl 0 rfl) ?_
  refine lv_iload_n hx hb dX12_share_1 rfl (lv_at hl 1 rfl) ?_
  refine go_R (v := some (.int 0)) (st1 := [.int 0]) (run_V (As := [.int p0]) (rest := []) ⟨hx, hb, hml, hown, hT⟩ (kX12_isThing_0 l D cI h0 a p0) sw_1598 lkv_X12_isThing (p_R_V (ci := 12) (q0 := 0) (hP.sub (ws' := [(h0, .inr (12, (Value.int 0 :: Value.int 0 :: Value.ref (a 0) :: Value.int 0 :: Value.int 0 :: Value.ref (a 1) :: Value.ref (a 2) :: Value.int 0 :: Value.ref (a 3) :: Value.ref (a 4) :: Value.int 0 :: Value.ref (a 5) :: Value.ref (a 6) :: Value.ref (a 7) :: Value.int 0 :: Value.ref (a 8) :: Value.int 0 :: Value.int (-1) :: Value.int 0 :: Value.int 0 :: Value.int 0 :: Value.int 0 :: Value.int (-1) :: Value.ref (a 9) :: Value.ref (a 10) :: Value.ref (a 11) :: Value.int 0 :: Value.ref (a 12) :: Value.ref (a 13) :: Value.ref (a 14) :: Value.ref (a 15) :: Value.int 0 :: Value.int 0 :: Value.int 0 :: Value.int 0 :: Value.int 0 :: Value.int 0 :: Value.int 0 :: Value.int 0 :: Value.ref (a 16) :: Value.ref (a 17) :: Value.ref (a 18) :: Value.ref (a 19) :: Value.int 0 :: Value.int 0 :: Value.int 1 :: Value.ref (a 20) :: Value.int 0 :: [])))]) [0] rfl) hK rfl rfl) rfl hl.1 rfl (Nat.le_of_ble_eq_true rfl) dX12_share_2 ⟨⟨Nat.le_of_ble_eq_true rfl, Nat.le_of_ble_eq_true rfl⟩, Nat.le_of_ble_eq_true rfl, Nat.le_of_ble_eq_true rfl⟩) rfl ?_
  refine lv_if_eq (tgt := 48) hx hb dX12_share_5 (by decide) (fun _ => ?_) (fun h9 => absurd (by decide) h9)
  refine lv_iconst (v := (-1)) hx hb dX12_share_48 (by decide) ?_
  exact W.iret (v := (-1)) hx hb hr (fun t ht _ => ⟨rfl, ht⟩) (fun _ h9 => nomatch h9) dX12_share_49
set_option maxHeartbeats 4000000 in
set_option maxRecDepth 100000 in
theorem kX12_sum_0 (l : Launch) (D : va_G) (cI : ClassId) (h0 : Nat) (a : Nat → Nat) : Met l yX12_sum (sw_ws yX12_sum cX12_sum 4 (some .int)) (rm_ 0 0 0 0) (p_R D vwCl [(cI, .int)] [.ref h0, .int 20] [(h0, .inr (12, (Value.int 0 :: Value.int 0 :: Value.ref (a 0) :: Value.int 0 :: Value.int 0 :: Value.ref (a 1) :: Value.ref (a 2) :: Value.int 0 :: Value.ref (a 3) :: Value.ref (a 4) :: Value.int 0 :: Value.ref (a 5) :: Value.ref (a 6) :: Value.ref (a 7) :: Value.int 0 :: Value.ref (a 8) :: Value.int 0 :: Value.int (-1) :: Value.int 0 :: Value.int 0 :: Value.int 0 :: Value.int 0 :: Value.int (-1) :: Value.ref (a 9) :: Value.ref (a 10) :: Value.ref (a 11) :: Value.int 0 :: Value.ref (a 12) :: Value.ref (a 13) :: Value.ref (a 14) :: Value.ref (a 15) :: Value.int 0 :: Value.int 0 :: Value.int 0 :: Value.int 0 :: Value.int 0 :: Value.int 0 :: Value.int 0 :: Value.int 0 :: Value.ref (a 16) :: Value.ref (a 17) :: Value.ref (a 18) :: Value.ref (a 19) :: Value.int 0 :: Value.int 0 :: Value.int 1 :: Value.ref (a 20) :: Value.int 0 :: [])))]) (q_R (some (.int 0))) 0 0 (fun _ => False) := by
  refine Met.ofW (cc := cX12_sum) (maxL := 4) (ret := (some .int)) (by decide) rfl ?_
  intro p e s m args below meth c s₁ B hml hv
  obtain ⟨rfl, hP, hK⟩ := hv
  have hx := B.exec
  have hb := B.bytes
  have hr := B.returns
  have hT := sw_in (atoms_spec (ws := sw_ws yX12_sum cX12_sum 4 (some .int)) B.pre)
  have hown : s.vm.findClass RX12 = some m.cls := findClass_of_methodNamed B.named
  have hlocks := B.notSynchronized
  have hl := lv_entry ([.ref h0, .int 20]) (n := 4) (Nat.le_of_ble_eq_true rfl)
  rw [lg_entry_eq]
  generalize (lg_sl ([.ref h0, .int 20]) ++ List.replicate (4 - (lg_sl ([.ref h0, .int 20])).length) Slot.unset).toArray = ls at hl ⊢
  have hl : lv_has ls 4 [(0, .ref h0), (1, .int 20)] := hl
  refine lv_iconst (v := 0) hx hb dX12_sum_0 (by decide) ?_
  refine lv_istore_n (lv' := [(2, .int 0), (0, .ref h0), (1, .int 20)]) hx hb dX12_sum_1 rfl hl (by decide) rfl (fun ls hl => ?_)
  refine lv_iconst (v := 0) hx hb dX12_sum_2 (by decide) ?_
  refine lv_istore_n (lv' := [(3, .int 0), (2, .int 0), (0, .ref h0), (1, .int 20)]) hx hb dX12_sum_3 rfl hl (by decide) rfl (fun ls hl => ?_)
  refine lv_iload_n hx hb dX12_sum_4 rfl (lv_at hl 0 rfl) ?_
  refine lv_aload_n hx hb dX12_sum_5 rfl (lv_at hl 2 rfl) ?_
  refine va_get (D := D) (ci := 12) (v := .int 0) (C := RX12) (T := TX12) (N := 48) hx hb hT ix_12 hown hK hP 0 rfl rfl 1 (by decide) (hT _ sw_1289) (fun _ h9 => h9) rfl dX12_sum_6 ?_
  refine lv_icmp_ge (tgt := 29) hx hb dX12_sum_9 (by decide) (fun _ => ?_) (fun h9 => absurd (by decide) h9)
  refine lv_iload_n hx hb dX12_sum_29 rfl (lv_at hl 1 rfl) ?_
  exact W.iret (v := 0) hx hb hr (fun t ht _ => ⟨rfl, ht⟩) (fun _ h9 => nomatch h9) dX12_sum_30
set_option maxHeartbeats 4000000 in
set_option maxRecDepth 100000 in
theorem kX12_isTotal_0 (l : Launch) (D : va_G) (cI : ClassId) (h0 : Nat) (a : Nat → Nat) : Met l yX12_isTotal (sw_ws yX12_isTotal cX12_isTotal 1 (some .boolean)) (rm_ 1 23 0 0) (p_R D vwCl [(cI, .int)] [.ref h0] [(h0, .inr (12, (Value.int 0 :: Value.int 0 :: Value.ref (a 0) :: Value.int 0 :: Value.int 0 :: Value.ref (a 1) :: Value.ref (a 2) :: Value.int 0 :: Value.ref (a 3) :: Value.ref (a 4) :: Value.int 0 :: Value.ref (a 5) :: Value.ref (a 6) :: Value.ref (a 7) :: Value.int 0 :: Value.ref (a 8) :: Value.int 0 :: Value.int (-1) :: Value.int 0 :: Value.int 0 :: Value.int 0 :: Value.int 0 :: Value.int (-1) :: Value.ref (a 9) :: Value.ref (a 10) :: Value.ref (a 11) :: Value.int 0 :: Value.ref (a 12) :: Value.ref (a 13) :: Value.ref (a 14) :: Value.ref (a 15) :: Value.int 0 :: Value.int 0 :: Value.int 0 :: Value.int 0 :: Value.int 0 :: Value.int 0 :: Value.int 0 :: Value.int 0 :: Value.ref (a 16) :: Value.ref (a 17) :: Value.ref (a 18) :: Value.ref (a 19) :: Value.int 0 :: Value.int 0 :: Value.int 1 :: Value.ref (a 20) :: Value.int 0 :: [])))]) (q_R (some (.int 0))) 0 0 (fun _ => False) := by
  refine Met.ofW (cc := cX12_isTotal) (maxL := 1) (ret := (some .boolean)) (by decide) rfl ?_
  intro p e s m args below meth c s₁ B hml hv
  obtain ⟨rfl, hP, hK⟩ := hv
  have hx := B.exec
  have hb := B.bytes
  have hr := B.returns
  have hT := sw_in (atoms_spec (ws := sw_ws yX12_isTotal cX12_isTotal 1 (some .boolean)) B.pre)
  have hown : s.vm.findClass RX12 = some m.cls := findClass_of_methodNamed B.named
  have hlocks := B.notSynchronized
  have hl := lv_entry ([.ref h0]) (n := 1) (Nat.le_of_ble_eq_true rfl)
  rw [lg_entry_eq]
  generalize (lg_sl ([.ref h0]) ++ List.replicate (1 - (lg_sl ([.ref h0])).length) Slot.unset).toArray = ls at hl ⊢
  have hl : lv_has ls 1 [(0, .ref h0)] := hl
  refine lv_aload_n hx hb dX12_isTotal_0 rfl (lv_at hl 0 rfl) ?_
  refine lv_bipush (v := 20) hx hb dX12_isTotal_1 (by decide) ?_
  refine go_R (v := some (.int 0)) (st1 := [.int 0]) (run_V (As := [.int 20]) (rest := []) ⟨hx, hb, hml, hown, hT⟩ (kX12_sum_0 l D cI h0 a) sw_1560 lkv_X12_sum (p_R_V (ci := 12) (q0 := 0) (hP.sub (ws' := [(h0, .inr (12, (Value.int 0 :: Value.int 0 :: Value.ref (a 0) :: Value.int 0 :: Value.int 0 :: Value.ref (a 1) :: Value.ref (a 2) :: Value.int 0 :: Value.ref (a 3) :: Value.ref (a 4) :: Value.int 0 :: Value.ref (a 5) :: Value.ref (a 6) :: Value.ref (a 7) :: Value.int 0 :: Value.ref (a 8) :: Value.int 0 :: Value.int (-1) :: Value.int 0 :: Value.int 0 :: Value.int 0 :: Value.int 0 :: Value.int (-1) :: Value.ref (a 9) :: Value.ref (a 10) :: Value.ref (a 11) :: Value.int 0 :: Value.ref (a 12) :: Value.ref (a 13) :: Value.ref (a 14) :: Value.ref (a 15) :: Value.int 0 :: Value.int 0 :: Value.int 0 :: Value.int 0 :: Value.int 0 :: Value.int 0 :: Value.int 0 :: Value.int 0 :: Value.ref (a 16) :: Value.ref (a 17) :: Value.ref (a 18) :: Value.ref (a 19) :: Value.int 0 :: Value.int 0 :: Value.int 1 :: Value.ref (a 20) :: Value.int 0 :: [])))]) [0] rfl) hK rfl rfl) rfl hl.1 rfl (Nat.le_of_ble_eq_true rfl) dX12_isTotal_3 ⟨⟨Nat.le_of_ble_eq_true rfl, Nat.le_of_ble_eq_true rfl⟩, Nat.le_of_ble_eq_true rfl, Nat.le_of_ble_eq_true rfl⟩) rfl ?_
  refine lv_if_le (tgt := 13) hx hb dX12_isTotal_6 (by decide) (fun _ => ?_) (fun h9 => absurd (by decide) h9)
  refine lv_iconst (v := 0) hx hb dX12_isTotal_13 (by decide) ?_
  exact W.zret (v := 0) hx hb hr (by decide) (fun t ht _ => ⟨rfl, ht⟩) (fun _ h9 => nomatch h9) dX12_isTotal_14
set_option maxHeartbeats 4000000 in
set_option maxRecDepth 100000 in
theorem kX12_goes_0 (l : Launch) (D : va_G) (cI : ClassId) (h0 : Nat) (a : Nat → Nat) (p0 : Int32) : Met l yX12_goes (sw_ws yX12_goes cX12_goes 2 (some .int)) (rm_ 2 43 0 0) (p_R D vwCl [(cI, .int)] [.ref h0, .int p0] [(h0, .inr (12, (Value.int 0 :: Value.int 0 :: Value.ref (a 0) :: Value.int 0 :: Value.int 0 :: Value.ref (a 1) :: Value.ref (a 2) :: Value.int 0 :: Value.ref (a 3) :: Value.ref (a 4) :: Value.int 0 :: Value.ref (a 5) :: Value.ref (a 6) :: Value.ref (a 7) :: Value.int 0 :: Value.ref (a 8) :: Value.int 0 :: Value.int (-1) :: Value.int 0 :: Value.int 0 :: Value.int 0 :: Value.int 0 :: Value.int (-1) :: Value.ref (a 9) :: Value.ref (a 10) :: Value.ref (a 11) :: Value.int 0 :: Value.ref (a 12) :: Value.ref (a 13) :: Value.ref (a 14) :: Value.ref (a 15) :: Value.int 0 :: Value.int 0 :: Value.int 0 :: Value.int 0 :: Value.int 0 :: Value.int 0 :: Value.int 0 :: Value.int 0 :: Value.ref (a 16) :: Value.ref (a 17) :: Value.ref (a 18) :: Value.ref (a 19) :: Value.int 0 :: Value.int 0 :: Value.int 1 :: Value.ref (a 20) :: Value.int 0 :: [])))]) (q_R (some (.int (-1)))) 0 0 (fun _ => False) := by
  refine Met.ofW (cc := cX12_goes) (maxL := 2) (ret := (some .int)) (by decide) rfl ?_
  intro p e s m args below meth c s₁ B hml hv
  obtain ⟨rfl, hP, hK⟩ := hv
  have hx := B.exec
  have hb := B.bytes
  have hr := B.returns
  have hT := sw_in (atoms_spec (ws := sw_ws yX12_goes cX12_goes 2 (some .int)) B.pre)
  have hown : s.vm.findClass RX12 = some m.cls := findClass_of_methodNamed B.named
  have hlocks := B.notSynchronized
  have hl := lv_entry ([.ref h0, .int p0]) (n := 2) (Nat.le_of_ble_eq_true rfl)
  rw [lg_entry_eq]
  generalize (lg_sl ([.ref h0, .int p0]) ++ List.replicate (2 - (lg_sl ([.ref h0, .int p0])).length) Slot.unset).toArray = ls at hl ⊢
  have hl : lv_has ls 2 [(0, .ref h0), (1, .int p0)] := hl
  refine lv_aload_n hx hb dX12_goes_0 rfl (lv_at hl 0 rfl) ?_
  refine go_R (v := some (.int 0)) (st1 := [.int 0]) (run_V (As := []) (rest := []) ⟨hx, hb, hml, hown, hT⟩ (kX12_isTotal_0 l D cI h0 a) sw_1650 lkv_X12_isTotal (p_R_V (ci := 12) (q0 := 0) (hP.sub (ws' := [(h0, .inr (12, (Value.int 0 :: Value.int 0 :: Value.ref (a 0) :: Value.int 0 :: Value.int 0 :: Value.ref (a 1) :: Value.ref (a 2) :: Value.int 0 :: Value.ref (a 3) :: Value.ref (a 4) :: Value.int 0 :: Value.ref (a 5) :: Value.ref (a 6) :: Value.ref (a 7) :: Value.int 0 :: Value.ref (a 8) :: Value.int 0 :: Value.int (-1) :: Value.int 0 :: Value.int 0 :: Value.int 0 :: Value.int 0 :: Value.int (-1) :: Value.ref (a 9) :: Value.ref (a 10) :: Value.ref (a 11) :: Value.int 0 :: Value.ref (a 12) :: Value.ref (a 13) :: Value.ref (a 14) :: Value.ref (a 15) :: Value.int 0 :: Value.int 0 :: Value.int 0 :: Value.int 0 :: Value.int 0 :: Value.int 0 :: Value.int 0 :: Value.int 0 :: Value.ref (a 16) :: Value.ref (a 17) :: Value.ref (a 18) :: Value.ref (a 19) :: Value.int 0 :: Value.int 0 :: Value.int 1 :: Value.ref (a 20) :: Value.int 0 :: [])))]) [0] rfl) hK rfl rfl) rfl hl.1 rfl (Nat.le_of_ble_eq_true rfl) dX12_goes_1 ⟨⟨Nat.le_of_ble_eq_true rfl, Nat.le_of_ble_eq_true rfl⟩, Nat.le_of_ble_eq_true rfl, Nat.le_of_ble_eq_true rfl⟩) rfl ?_
  refine lv_if_eq (tgt := 42) hx hb dX12_goes_4 (by decide) (fun _ => ?_) (fun h9 => absurd (by decide) h9)
  refine lv_iconst (v := (-1)) hx hb dX12_goes_42 (by decide) ?_
  exact W.iret (v := (-1)) hx hb hr (fun t ht _ => ⟨rfl, ht⟩) (fun _ h9 => nomatch h9) dX12_goes_43
set_option maxHeartbeats 4000000 in
set_option maxRecDepth 100000 in
theorem kX12_would_0 (l : Launch) (D : va_G) (cI : ClassId) (h0 : Nat) (a : Nat → Nat) (p0 p1 p2 p3 : Int32) : Met l yX12_would (sw_ws yX12_would cX12_would 6 (some .int)) (rm_ 2 43 0 0) (p_R D vwCl [(cI, .int)] [.ref h0, .int p0, .int p1, .int p2, .int p3] [(h0, .inr (12, (Value.int 0 :: Value.int 0 :: Value.ref (a 0) :: Value.int 0 :: Value.int 0 :: Value.ref (a 1) :: Value.ref (a 2) :: Value.int 0 :: Value.ref (a 3) :: Value.ref (a 4) :: Value.int 0 :: Value.ref (a 5) :: Value.ref (a 6) :: Value.ref (a 7) :: Value.int 0 :: Value.ref (a 8) :: Value.int 0 :: Value.int (-1) :: Value.int 0 :: Value.int 0 :: Value.int 0 :: Value.int 0 :: Value.int (-1) :: Value.ref (a 9) :: Value.ref (a 10) :: Value.ref (a 11) :: Value.int 0 :: Value.ref (a 12) :: Value.ref (a 13) :: Value.ref (a 14) :: Value.ref (a 15) :: Value.int 0 :: Value.int 0 :: Value.int 0 :: Value.int 0 :: Value.int 0 :: Value.int 0 :: Value.int 0 :: Value.int 0 :: Value.ref (a 16) :: Value.ref (a 17) :: Value.ref (a 18) :: Value.ref (a 19) :: Value.int 0 :: Value.int 0 :: Value.int 1 :: Value.ref (a 20) :: Value.int 0 :: [])))]) (q_R (some (.int (-1)))) 0 0 (fun _ => False) := by
  refine Met.ofW (cc := cX12_would) (maxL := 6) (ret := (some .int)) (by decide) rfl ?_
  intro p e s m args below meth c s₁ B hml hv
  obtain ⟨rfl, hP, hK⟩ := hv
  have hx := B.exec
  have hb := B.bytes
  have hr := B.returns
  have hT := sw_in (atoms_spec (ws := sw_ws yX12_would cX12_would 6 (some .int)) B.pre)
  have hown : s.vm.findClass RX12 = some m.cls := findClass_of_methodNamed B.named
  have hlocks := B.notSynchronized
  have hl := lv_entry ([.ref h0, .int p0, .int p1, .int p2, .int p3]) (n := 6) (Nat.le_of_ble_eq_true rfl)
  rw [lg_entry_eq]
  generalize (lg_sl ([.ref h0, .int p0, .int p1, .int p2, .int p3]) ++ List.replicate (6 - (lg_sl ([.ref h0, .int p0, .int p1, .int p2, .int p3])).length) Slot.unset).toArray = ls at hl ⊢
  have hl : lv_has ls 6 [(0, .ref h0), (1, .int p0), (2, .int p1), (3, .int p2), (4, .int p3)] := hl
  refine lv_aload_n hx hb dX12_would_0 rfl (lv_at hl 0 rfl) ?_
  refine lv_iload_n hx hb dX12_would_1 rfl (lv_at hl 1 rfl) ?_
  refine go_R (v := some (.int 0)) (st1 := [.int 0]) (run_V (As := [.int p0]) (rest := []) ⟨hx, hb, hml, hown, hT⟩ (kX12_isThing_0 l D cI h0 a p0) sw_1598 lkv_X12_isThing (p_R_V (ci := 12) (q0 := 0) (hP.sub (ws' := [(h0, .inr (12, (Value.int 0 :: Value.int 0 :: Value.ref (a 0) :: Value.int 0 :: Value.int 0 :: Value.ref (a 1) :: Value.ref (a 2) :: Value.int 0 :: Value.ref (a 3) :: Value.ref (a 4) :: Value.int 0 :: Value.ref (a 5) :: Value.ref (a 6) :: Value.ref (a 7) :: Value.int 0 :: Value.ref (a 8) :: Value.int 0 :: Value.int (-1) :: Value.int 0 :: Value.int 0 :: Value.int 0 :: Value.int 0 :: Value.int (-1) :: Value.ref (a 9) :: Value.ref (a 10) :: Value.ref (a 11) :: Value.int 0 :: Value.ref (a 12) :: Value.ref (a 13) :: Value.ref (a 14) :: Value.ref (a 15) :: Value.int 0 :: Value.int 0 :: Value.int 0 :: Value.int 0 :: Value.int 0 :: Value.int 0 :: Value.int 0 :: Value.int 0 :: Value.ref (a 16) :: Value.ref (a 17) :: Value.ref (a 18) :: Value.ref (a 19) :: Value.int 0 :: Value.int 0 :: Value.int 1 :: Value.ref (a 20) :: Value.int 0 :: [])))]) [0] rfl) hK rfl rfl) rfl hl.1 rfl (Nat.le_of_ble_eq_true rfl) dX12_would_2 ⟨⟨Nat.le_of_ble_eq_true rfl, Nat.le_of_ble_eq_true rfl⟩, Nat.le_of_ble_eq_true rfl, Nat.le_of_ble_eq_true rfl⟩) rfl ?_
  refine lv_if_eq (tgt := 37) hx hb dX12_would_5 (by decide) (fun _ => ?_) (fun h9 => absurd (by decide) h9)
  refine lv_iconst (v := (-1)) hx hb dX12_would_37 (by decide) ?_
  exact W.iret (v := (-1)) hx hb hr (fun t ht _ => ⟨rfl, ht⟩) (fun _ h9 => nomatch h9) dX12_would_38
set_option maxHeartbeats 4000000 in
set_option maxRecDepth 100000 in
theorem kX12_needs_0 (l : Launch) (D : va_G) (cI : ClassId) (h0 : Nat) (a : Nat → Nat) (p0 p1 p2 : Int32) : Met l yX12_needs (sw_ws yX12_needs cX12_needs 9 (some .int)) (rm_ 2 43 0 0) (p_R D vwCl [(cI, .int)] [.ref h0, .int p0, .int p1, .int p2] [(h0, .inr (12, (Value.int 0 :: Value.int 0 :: Value.ref (a 0) :: Value.int 0 :: Value.int 0 :: Value.ref (a 1) :: Value.ref (a 2) :: Value.int 0 :: Value.ref (a 3) :: Value.ref (a 4) :: Value.int 0 :: Value.ref (a 5) :: Value.ref (a 6) :: Value.ref (a 7) :: Value.int 0 :: Value.ref (a 8) :: Value.int 0 :: Value.int (-1) :: Value.int 0 :: Value.int 0 :: Value.int 0 :: Value.int 0 :: Value.int (-1) :: Value.ref (a 9) :: Value.ref (a 10) :: Value.ref (a 11) :: Value.int 0 :: Value.ref (a 12) :: Value.ref (a 13) :: Value.ref (a 14) :: Value.ref (a 15) :: Value.int 0 :: Value.int 0 :: Value.int 0 :: Value.int 0 :: Value.int 0 :: Value.int 0 :: Value.int 0 :: Value.int 0 :: Value.ref (a 16) :: Value.ref (a 17) :: Value.ref (a 18) :: Value.ref (a 19) :: Value.int 0 :: Value.int 0 :: Value.int 1 :: Value.ref (a 20) :: Value.int 0 :: [])))]) (q_R (some (.int (-1)))) 0 0 (fun _ => False) := by
  refine Met.ofW (cc := cX12_needs) (maxL := 9) (ret := (some .int)) (by decide) rfl ?_
  intro p e s m args below meth c s₁ B hml hv
  obtain ⟨rfl, hP, hK⟩ := hv
  have hx := B.exec
  have hb := B.bytes
  have hr := B.returns
  have hT := sw_in (atoms_spec (ws := sw_ws yX12_needs cX12_needs 9 (some .int)) B.pre)
  have hown : s.vm.findClass RX12 = some m.cls := findClass_of_methodNamed B.named
  have hlocks := B.notSynchronized
  have hl := lv_entry ([.ref h0, .int p0, .int p1, .int p2]) (n := 9) (Nat.le_of_ble_eq_true rfl)
  rw [lg_entry_eq]
  generalize (lg_sl ([.ref h0, .int p0, .int p1, .int p2]) ++ List.replicate (9 - (lg_sl ([.ref h0, .int p0, .int p1, .int p2])).length) Slot.unset).toArray = ls at hl ⊢
  have hl : lv_has ls 9 [(0, .ref h0), (1, .int p0), (2, .int p1), (3, .int p2)] := hl
  refine lv_aload_n hx hb dX12_needs_0 rfl (lv_at hl 0 rfl) ?_
  refine lv_iload_n hx hb dX12_needs_1 rfl (lv_at hl 1 rfl) ?_
  refine go_R (v := some (.int 0)) (st1 := [.int 0]) (run_V (As := [.int p0]) (rest := []) ⟨hx, hb, hml, hown, hT⟩ (kX12_isThing_0 l D cI h0 a p0) sw_1598 lkv_X12_isThing (p_R_V (ci := 12) (q0 := 0) (hP.sub (ws' := [(h0, .inr (12, (Value.int 0 :: Value.int 0 :: Value.ref (a 0) :: Value.int 0 :: Value.int 0 :: Value.ref (a 1) :: Value.ref (a 2) :: Value.int 0 :: Value.ref (a 3) :: Value.ref (a 4) :: Value.int 0 :: Value.ref (a 5) :: Value.ref (a 6) :: Value.ref (a 7) :: Value.int 0 :: Value.ref (a 8) :: Value.int 0 :: Value.int (-1) :: Value.int 0 :: Value.int 0 :: Value.int 0 :: Value.int 0 :: Value.int (-1) :: Value.ref (a 9) :: Value.ref (a 10) :: Value.ref (a 11) :: Value.int 0 :: Value.ref (a 12) :: Value.ref (a 13) :: Value.ref (a 14) :: Value.ref (a 15) :: Value.int 0 :: Value.int 0 :: Value.int 0 :: Value.int 0 :: Value.int 0 :: Value.int 0 :: Value.int 0 :: Value.int 0 :: Value.ref (a 16) :: Value.ref (a 17) :: Value.ref (a 18) :: Value.ref (a 19) :: Value.int 0 :: Value.int 0 :: Value.int 1 :: Value.ref (a 20) :: Value.int 0 :: [])))]) [0] rfl) hK rfl rfl) rfl hl.1 rfl (Nat.le_of_ble_eq_true rfl) dX12_needs_2 ⟨⟨Nat.le_of_ble_eq_true rfl, Nat.le_of_ble_eq_true rfl⟩, Nat.le_of_ble_eq_true rfl, Nat.le_of_ble_eq_true rfl⟩) rfl ?_
  refine lv_if_eq (tgt := 30) hx hb dX12_needs_5 (by decide) (fun _ => ?_) (fun h9 => absurd (by decide) h9)
  refine lv_iconst (v := (-1)) hx hb dX12_needs_30 (by decide) ?_
  exact W.iret (v := (-1)) hx hb hr (fun t ht _ => ⟨rfl, ht⟩) (fun _ h9 => nomatch h9) dX12_needs_31
set_option maxHeartbeats 4000000 in
set_option maxRecDepth 100000 in
theorem kX12_merges_0 (l : Launch) (D : va_G) (cI : ClassId) (h0 : Nat) (a : Nat → Nat) (p0 p1 : Int32) : Met l yX12_merges (sw_ws yX12_merges cX12_merges 5 (some .int)) (rm_ 2 43 0 0) (p_R D vwCl [(cI, .int)] [.ref h0, .int p0, .int p1] [(h0, .inr (12, (Value.int 0 :: Value.int 0 :: Value.ref (a 0) :: Value.int 0 :: Value.int 0 :: Value.ref (a 1) :: Value.ref (a 2) :: Value.int 0 :: Value.ref (a 3) :: Value.ref (a 4) :: Value.int 0 :: Value.ref (a 5) :: Value.ref (a 6) :: Value.ref (a 7) :: Value.int 0 :: Value.ref (a 8) :: Value.int 0 :: Value.int (-1) :: Value.int 0 :: Value.int 0 :: Value.int 0 :: Value.int 0 :: Value.int (-1) :: Value.ref (a 9) :: Value.ref (a 10) :: Value.ref (a 11) :: Value.int 0 :: Value.ref (a 12) :: Value.ref (a 13) :: Value.ref (a 14) :: Value.ref (a 15) :: Value.int 0 :: Value.int 0 :: Value.int 0 :: Value.int 0 :: Value.int 0 :: Value.int 0 :: Value.int 0 :: Value.int 0 :: Value.ref (a 16) :: Value.ref (a 17) :: Value.ref (a 18) :: Value.ref (a 19) :: Value.int 0 :: Value.int 0 :: Value.int 1 :: Value.ref (a 20) :: Value.int 0 :: [])))]) (q_R (some (.int (-1)))) 0 0 (fun _ => False) := by
  refine Met.ofW (cc := cX12_merges) (maxL := 5) (ret := (some .int)) (by decide) rfl ?_
  intro p e s m args below meth c s₁ B hml hv
  obtain ⟨rfl, hP, hK⟩ := hv
  have hx := B.exec
  have hb := B.bytes
  have hr := B.returns
  have hT := sw_in (atoms_spec (ws := sw_ws yX12_merges cX12_merges 5 (some .int)) B.pre)
  have hown : s.vm.findClass RX12 = some m.cls := findClass_of_methodNamed B.named
  have hlocks := B.notSynchronized
  have hl := lv_entry ([.ref h0, .int p0, .int p1]) (n := 5) (Nat.le_of_ble_eq_true rfl)
  rw [lg_entry_eq]
  generalize (lg_sl ([.ref h0, .int p0, .int p1]) ++ List.replicate (5 - (lg_sl ([.ref h0, .int p0, .int p1])).length) Slot.unset).toArray = ls at hl ⊢
  have hl : lv_has ls 5 [(0, .ref h0), (1, .int p0), (2, .int p1)] := hl
  refine lv_aload_n hx hb dX12_merges_0 rfl (lv_at hl 0 rfl) ?_
  refine lv_iload_n hx hb dX12_merges_1 rfl (lv_at hl 1 rfl) ?_
  refine go_R (v := some (.int 0)) (st1 := [.int 0]) (run_V (As := [.int p0]) (rest := []) ⟨hx, hb, hml, hown, hT⟩ (kX12_isThing_0 l D cI h0 a p0) sw_1598 lkv_X12_isThing (p_R_V (ci := 12) (q0 := 0) (hP.sub (ws' := [(h0, .inr (12, (Value.int 0 :: Value.int 0 :: Value.ref (a 0) :: Value.int 0 :: Value.int 0 :: Value.ref (a 1) :: Value.ref (a 2) :: Value.int 0 :: Value.ref (a 3) :: Value.ref (a 4) :: Value.int 0 :: Value.ref (a 5) :: Value.ref (a 6) :: Value.ref (a 7) :: Value.int 0 :: Value.ref (a 8) :: Value.int 0 :: Value.int (-1) :: Value.int 0 :: Value.int 0 :: Value.int 0 :: Value.int 0 :: Value.int (-1) :: Value.ref (a 9) :: Value.ref (a 10) :: Value.ref (a 11) :: Value.int 0 :: Value.ref (a 12) :: Value.ref (a 13) :: Value.ref (a 14) :: Value.ref (a 15) :: Value.int 0 :: Value.int 0 :: Value.int 0 :: Value.int 0 :: Value.int 0 :: Value.int 0 :: Value.int 0 :: Value.int 0 :: Value.ref (a 16) :: Value.ref (a 17) :: Value.ref (a 18) :: Value.ref (a 19) :: Value.int 0 :: Value.int 0 :: Value.int 1 :: Value.ref (a 20) :: Value.int 0 :: [])))]) [0] rfl) hK rfl rfl) rfl hl.1 rfl (Nat.le_of_ble_eq_true rfl) dX12_merges_2 ⟨⟨Nat.le_of_ble_eq_true rfl, Nat.le_of_ble_eq_true rfl⟩, Nat.le_of_ble_eq_true rfl, Nat.le_of_ble_eq_true rfl⟩) rfl ?_
  refine lv_if_eq (tgt := 19) hx hb dX12_merges_5 (by decide) (fun _ => ?_) (fun h9 => absurd (by decide) h9)
  refine lv_iconst (v := (-1)) hx hb dX12_merges_19 (by decide) ?_
  exact W.iret (v := (-1)) hx hb hr (fun t ht _ => ⟨rfl, ht⟩) (fun _ h9 => nomatch h9) dX12_merges_20
set_option maxHeartbeats 4000000 in
set_option maxRecDepth 100000 in
theorem kX12_owed_0 (l : Launch) (D : va_G) (cI : ClassId) (h0 : Nat) (a : Nat → Nat) (p0 : Int32) : Met l yX12_owed (sw_ws yX12_owed cX12_owed 2 (some .int)) (rm_ 2 43 0 0) (p_R D vwCl [(cI, .int)] [.ref h0, .int p0] [(h0, .inr (12, (Value.int 0 :: Value.int 0 :: Value.ref (a 0) :: Value.int 0 :: Value.int 0 :: Value.ref (a 1) :: Value.ref (a 2) :: Value.int 0 :: Value.ref (a 3) :: Value.ref (a 4) :: Value.int 0 :: Value.ref (a 5) :: Value.ref (a 6) :: Value.ref (a 7) :: Value.int 0 :: Value.ref (a 8) :: Value.int 0 :: Value.int (-1) :: Value.int 0 :: Value.int 0 :: Value.int 0 :: Value.int 0 :: Value.int (-1) :: Value.ref (a 9) :: Value.ref (a 10) :: Value.ref (a 11) :: Value.int 0 :: Value.ref (a 12) :: Value.ref (a 13) :: Value.ref (a 14) :: Value.ref (a 15) :: Value.int 0 :: Value.int 0 :: Value.int 0 :: Value.int 0 :: Value.int 0 :: Value.int 0 :: Value.int 0 :: Value.int 0 :: Value.ref (a 16) :: Value.ref (a 17) :: Value.ref (a 18) :: Value.ref (a 19) :: Value.int 0 :: Value.int 0 :: Value.int 1 :: Value.ref (a 20) :: Value.int 0 :: [])))]) (q_R (some (.int (-1000000)))) 0 0 (fun _ => False) := by
  refine Met.ofW (cc := cX12_owed) (maxL := 2) (ret := (some .int)) (by decide) rfl ?_
  intro p e s m args below meth c s₁ B hml hv
  obtain ⟨rfl, hP, hK⟩ := hv
  have hx := B.exec
  have hb := B.bytes
  have hr := B.returns
  have hT := sw_in (atoms_spec (ws := sw_ws yX12_owed cX12_owed 2 (some .int)) B.pre)
  have hown : s.vm.findClass RX12 = some m.cls := findClass_of_methodNamed B.named
  have hlocks := B.notSynchronized
  have hl := lv_entry ([.ref h0, .int p0]) (n := 2) (Nat.le_of_ble_eq_true rfl)
  rw [lg_entry_eq]
  generalize (lg_sl ([.ref h0, .int p0]) ++ List.replicate (2 - (lg_sl ([.ref h0, .int p0])).length) Slot.unset).toArray = ls at hl ⊢
  have hl : lv_has ls 2 [(0, .ref h0), (1, .int p0)] := hl
  refine lv_aload_n hx hb dX12_owed_0 rfl (lv_at hl 0 rfl) ?_
  refine lv_iload_n hx hb dX12_owed_1 rfl (lv_at hl 1 rfl) ?_
  refine go_R (v := some (.int 0)) (st1 := [.int 0]) (run_V (As := [.int p0]) (rest := []) ⟨hx, hb, hml, hown, hT⟩ (kX12_isThing_0 l D cI h0 a p0) sw_1598 lkv_X12_isThing (p_R_V (ci := 12) (q0 := 0) (hP.sub (ws' := [(h0, .inr (12, (Value.int 0 :: Value.int 0 :: Value.ref (a 0) :: Value.int 0 :: Value.int 0 :: Value.ref (a 1) :: Value.ref (a 2) :: Value.int 0 :: Value.ref (a 3) :: Value.ref (a 4) :: Value.int 0 :: Value.ref (a 5) :: Value.ref (a 6) :: Value.ref (a 7) :: Value.int 0 :: Value.ref (a 8) :: Value.int 0 :: Value.int (-1) :: Value.int 0 :: Value.int 0 :: Value.int 0 :: Value.int 0 :: Value.int (-1) :: Value.ref (a 9) :: Value.ref (a 10) :: Value.ref (a 11) :: Value.int 0 :: Value.ref (a 12) :: Value.ref (a 13) :: Value.ref (a 14) :: Value.ref (a 15) :: Value.int 0 :: Value.int 0 :: Value.int 0 :: Value.int 0 :: Value.int 0 :: Value.int 0 :: Value.int 0 :: Value.int 0 :: Value.ref (a 16) :: Value.ref (a 17) :: Value.ref (a 18) :: Value.ref (a 19) :: Value.int 0 :: Value.int 0 :: Value.int 1 :: Value.ref (a 20) :: Value.int 0 :: [])))]) [0] rfl) hK rfl rfl) rfl hl.1 rfl (Nat.le_of_ble_eq_true rfl) dX12_owed_2 ⟨⟨Nat.le_of_ble_eq_true rfl, Nat.le_of_ble_eq_true rfl⟩, Nat.le_of_ble_eq_true rfl, Nat.le_of_ble_eq_true rfl⟩) rfl ?_
  refine lv_if_eq (tgt := 23) hx hb dX12_owed_5 (by decide) (fun _ => ?_) (fun h9 => absurd (by decide) h9)
  refine lv_ldcw (own := RX12) (v := (-1000000)) hx hb hown (hT _ sw_1691) dX12_owed_23 ?_
  exact W.iret (v := (-1000000)) hx hb hr (fun t ht _ => ⟨rfl, ht⟩) (fun _ h9 => nomatch h9) dX12_owed_26
set_option maxHeartbeats 4000000 in
set_option maxRecDepth 100000 in
theorem kX12_creditor_0 (l : Launch) (D : va_G) (cI : ClassId) (h0 : Nat) (a : Nat → Nat) (p0 : Int32) : Met l yX12_creditor (sw_ws yX12_creditor cX12_creditor 4 (some .int)) (rm_ 2 43 0 0) (p_R D vwCl [(cI, .int)] [.ref h0, .int p0] [(h0, .inr (12, (Value.int 0 :: Value.int 0 :: Value.ref (a 0) :: Value.int 0 :: Value.int 0 :: Value.ref (a 1) :: Value.ref (a 2) :: Value.int 0 :: Value.ref (a 3) :: Value.ref (a 4) :: Value.int 0 :: Value.ref (a 5) :: Value.ref (a 6) :: Value.ref (a 7) :: Value.int 0 :: Value.ref (a 8) :: Value.int 0 :: Value.int (-1) :: Value.int 0 :: Value.int 0 :: Value.int 0 :: Value.int 0 :: Value.int (-1) :: Value.ref (a 9) :: Value.ref (a 10) :: Value.ref (a 11) :: Value.int 0 :: Value.ref (a 12) :: Value.ref (a 13) :: Value.ref (a 14) :: Value.ref (a 15) :: Value.int 0 :: Value.int 0 :: Value.int 0 :: Value.int 0 :: Value.int 0 :: Value.int 0 :: Value.int 0 :: Value.int 0 :: Value.ref (a 16) :: Value.ref (a 17) :: Value.ref (a 18) :: Value.ref (a 19) :: Value.int 0 :: Value.int 0 :: Value.int 1 :: Value.ref (a 20) :: Value.int 0 :: [])))]) (q_R (some (.int (-1)))) 0 0 (fun _ => False) := by
  refine Met.ofW (cc := cX12_creditor) (maxL := 4) (ret := (some .int)) (by decide) rfl ?_
  intro p e s m args below meth c s₁ B hml hv
  obtain ⟨rfl, hP, hK⟩ := hv
  have hx := B.exec
  have hb := B.bytes
  have hr := B.returns
  have hT := sw_in (atoms_spec (ws := sw_ws yX12_creditor cX12_creditor 4 (some .int)) B.pre)
  have hown : s.vm.findClass RX12 = some m.cls := findClass_of_methodNamed B.named
  have hlocks := B.notSynchronized
  have hl := lv_entry ([.ref h0, .int p0]) (n := 4) (Nat.le_of_ble_eq_true rfl)
  rw [lg_entry_eq]
  generalize (lg_sl ([.ref h0, .int p0]) ++ List.replicate (4 - (lg_sl ([.ref h0, .int p0])).length) Slot.unset).toArray = ls at hl ⊢
  have hl : lv_has ls 4 [(0, .ref h0), (1, .int p0)] := hl
  refine lv_aload_n hx hb dX12_creditor_0 rfl (lv_at hl 0 rfl) ?_
  refine go_R (v := some (.int 0)) (st1 := [.int 0]) (run_V (As := []) (rest := []) ⟨hx, hb, hml, hown, hT⟩ (kX12_isTotal_0 l D cI h0 a) sw_1650 lkv_X12_isTotal (p_R_V (ci := 12) (q0 := 0) (hP.sub (ws' := [(h0, .inr (12, (Value.int 0 :: Value.int 0 :: Value.ref (a 0) :: Value.int 0 :: Value.int 0 :: Value.ref (a 1) :: Value.ref (a 2) :: Value.int 0 :: Value.ref (a 3) :: Value.ref (a 4) :: Value.int 0 :: Value.ref (a 5) :: Value.ref (a 6) :: Value.ref (a 7) :: Value.int 0 :: Value.ref (a 8) :: Value.int 0 :: Value.int (-1) :: Value.int 0 :: Value.int 0 :: Value.int 0 :: Value.int 0 :: Value.int (-1) :: Value.ref (a 9) :: Value.ref (a 10) :: Value.ref (a 11) :: Value.int 0 :: Value.ref (a 12) :: Value.ref (a 13) :: Value.ref (a 14) :: Value.ref (a 15) :: Value.int 0 :: Value.int 0 :: Value.int 0 :: Value.int 0 :: Value.int 0 :: Value.int 0 :: Value.int 0 :: Value.int 0 :: Value.ref (a 16) :: Value.ref (a 17) :: Value.ref (a 18) :: Value.ref (a 19) :: Value.int 0 :: Value.int 0 :: Value.int 1 :: Value.ref (a 20) :: Value.int 0 :: [])))]) [0] rfl) hK rfl rfl) rfl hl.1 rfl (Nat.le_of_ble_eq_true rfl) dX12_creditor_1 ⟨⟨Nat.le_of_ble_eq_true rfl, Nat.le_of_ble_eq_true rfl⟩, Nat.le_of_ble_eq_true rfl, Nat.le_of_ble_eq_true rfl⟩) rfl ?_
  refine lv_if_eq (tgt := 16) hx hb dX12_creditor_4 (by decide) (fun _ => ?_) (fun h9 => absurd (by decide) h9)
  refine lv_iconst (v := (-1)) hx hb dX12_creditor_16 (by decide) ?_
  exact W.iret (v := (-1)) hx hb hr (fun t ht _ => ⟨rfl, ht⟩) (fun _ h9 => nomatch h9) dX12_creditor_17
set_option maxHeartbeats 4000000 in
set_option maxRecDepth 100000 in
theorem kX12_isTeam_0 (l : Launch) (D : va_G) (cI : ClassId) (h0 : Nat) (a : Nat → Nat) (p0 : Int32) : Met l yX12_isTeam (sw_ws yX12_isTeam cX12_isTeam 2 (some .boolean)) (rm_ 1 22 0 0) (p_R D vwCl [(cI, .int)] [.ref h0, .int p0] [(h0, .inr (12, (Value.int 0 :: Value.int 0 :: Value.ref (a 0) :: Value.int 0 :: Value.int 0 :: Value.ref (a 1) :: Value.ref (a 2) :: Value.int 0 :: Value.ref (a 3) :: Value.ref (a 4) :: Value.int 0 :: Value.ref (a 5) :: Value.ref (a 6) :: Value.ref (a 7) :: Value.int 0 :: Value.ref (a 8) :: Value.int 0 :: Value.int (-1) :: Value.int 0 :: Value.int 0 :: Value.int 0 :: Value.int 0 :: Value.int (-1) :: Value.ref (a 9) :: Value.ref (a 10) :: Value.ref (a 11) :: Value.int 0 :: Value.ref (a 12) :: Value.ref (a 13) :: Value.ref (a 14) :: Value.ref (a 15) :: Value.int 0 :: Value.int 0 :: Value.int 0 :: Value.int 0 :: Value.int 0 :: Value.int 0 :: Value.int 0 :: Value.int 0 :: Value.ref (a 16) :: Value.ref (a 17) :: Value.ref (a 18) :: Value.ref (a 19) :: Value.int 0 :: Value.int 0 :: Value.int 1 :: Value.ref (a 20) :: Value.int 0 :: [])))]) (q_R (some (.int 0))) 0 0 (fun _ => False) := by
  refine Met.ofW (cc := cX12_isTeam) (maxL := 2) (ret := (some .boolean)) (by decide) rfl ?_
  intro p e s m args below meth c s₁ B hml hv
  obtain ⟨rfl, hP, hK⟩ := hv
  have hx := B.exec
  have hb := B.bytes
  have hr := B.returns
  have hT := sw_in (atoms_spec (ws := sw_ws yX12_isTeam cX12_isTeam 2 (some .boolean)) B.pre)
  have hown : s.vm.findClass RX12 = some m.cls := findClass_of_methodNamed B.named
  have hlocks := B.notSynchronized
  have hl := lv_entry ([.ref h0, .int p0]) (n := 2) (Nat.le_of_ble_eq_true rfl)
  rw [lg_entry_eq]
  generalize (lg_sl ([.ref h0, .int p0]) ++ List.replicate (2 - (lg_sl ([.ref h0, .int p0])).length) Slot.unset).toArray = ls at hl ⊢
  have hl : lv_has ls 2 [(0, .ref h0), (1, .int p0)] := hl
  refine lv_iload_n hx hb dX12_isTeam_0 rfl (lv_at hl 1 rfl) ?_
  refine lv_iconst (v := 0) hx hb dX12_isTeam_1 (by decide) ?_
  refine lv_aload_n hx hb dX12_isTeam_2 rfl (lv_at hl 0 rfl) ?_
  refine va_get (D := D) (ci := 12) (v := .int 0) (C := RX12) (T := TX12) (N := 48) hx hb hT ix_12 hown hK hP 0 rfl rfl 7 (by decide) (hT _ sw_1295) (fun _ h9 => h9) rfl dX12_isTeam_3 ?_
  refine lv_iconst (v := 1) hx hb dX12_isTeam_6 (by decide) ?_
  refine lv_isub hx hb dX12_isTeam_7 ?_
  refine ct_i (z := (-1)) (by decide) ?_
  refine go_R (v := some (.int (sp_isIn p0 0 (-1)))) (st1 := [.int (sp_isIn p0 0 (-1))]) (run_S (As := [.int p0, .int 0, .int (-1)]) (rest := []) ⟨hx, hb, hml, hown, hT⟩ (kX12_isIn_0 l D cI h0 a p0 0 (-1)) sw_1506 lks_X12_isIn (p_R_S (hP.sub (ws' := []) [] rfl) hK) rfl hl.1 rfl (Nat.le_of_ble_eq_true rfl) dX12_isTeam_8 ⟨⟨Nat.le_of_ble_eq_true rfl, Nat.le_of_ble_eq_true rfl⟩, Nat.le_of_ble_eq_true rfl, Nat.le_of_ble_eq_true rfl⟩) rfl ?_
  refine ct_i (z := 0) (sp_isIn_e (by decide)) ?_
  exact W.zret (v := 0) hx hb hr (by decide) (fun t ht _ => ⟨rfl, ht⟩) (fun _ h9 => nomatch h9) dX12_isTeam_11
set_option maxHeartbeats 4000000 in
set_option maxRecDepth 100000 in
theorem kX12_team_0 (l : Launch) (D : va_G) (cI : ClassId) (h0 : Nat) (a : Nat → Nat) (p0 p1 : Int32) : Met l yX12_team (sw_ws yX12_team cX12_team 6 (some .int)) (rm_ 2 43 0 0) (p_R D vwCl [(cI, .int)] [.ref h0, .int p0, .int p1] [(h0, .inr (12, (Value.int 0 :: Value.int 0 :: Value.ref (a 0) :: Value.int 0 :: Value.int 0 :: Value.ref (a 1) :: Value.ref (a 2) :: Value.int 0 :: Value.ref (a 3) :: Value.ref (a 4) :: Value.int 0 :: Value.ref (a 5) :: Value.ref (a 6) :: Value.ref (a 7) :: Value.int 0 :: Value.ref (a 8) :: Value.int 0 :: Value.int (-1) :: Value.int 0 :: Value.int 0 :: Value.int 0 :: Value.int 0 :: Value.int (-1) :: Value.ref (a 9) :: Value.ref (a 10) :: Value.ref (a 11) :: Value.int 0 :: Value.ref (a 12) :: Value.ref (a 13) :: Value.ref (a 14) :: Value.ref (a 15) :: Value.int 0 :: Value.int 0 :: Value.int 0 :: Value.int 0 :: Value.int 0 :: Value.int 0 :: Value.int 0 :: Value.int 0 :: Value.ref (a 16) :: Value.ref (a 17) :: Value.ref (a 18) :: Value.ref (a 19) :: Value.int 0 :: Value.int 0 :: Value.int 1 :: Value.ref (a 20) :: Value.int 0 :: [])))]) (q_R (some (.int (-1)))) 0 0 (fun _ => False) := by
  refine Met.ofW (cc := cX12_team) (maxL := 6) (ret := (some .int)) (by decide) rfl ?_
  intro p e s m args below meth c s₁ B hml hv
  obtain ⟨rfl, hP, hK⟩ := hv
  have hx := B.exec
  have hb := B.bytes
  have hr := B.returns
  have hT := sw_in (atoms_spec (ws := sw_ws yX12_team cX12_team 6 (some .int)) B.pre)
  have hown : s.vm.findClass RX12 = some m.cls := findClass_of_methodNamed B.named
  have hlocks := B.notSynchronized
  have hl := lv_entry ([.ref h0, .int p0, .int p1]) (n := 6) (Nat.le_of_ble_eq_true rfl)
  rw [lg_entry_eq]
  generalize (lg_sl ([.ref h0, .int p0, .int p1]) ++ List.replicate (6 - (lg_sl ([.ref h0, .int p0, .int p1])).length) Slot.unset).toArray = ls at hl ⊢
  have hl : lv_has ls 6 [(0, .ref h0), (1, .int p0), (2, .int p1)] := hl
  refine lv_aload_n hx hb dX12_team_0 rfl (lv_at hl 0 rfl) ?_
  refine lv_iload_n hx hb dX12_team_1 rfl (lv_at hl 1 rfl) ?_
  refine go_R (v := some (.int 0)) (st1 := [.int 0]) (run_V (As := [.int p0]) (rest := []) ⟨hx, hb, hml, hown, hT⟩ (kX12_isTeam_0 l D cI h0 a p0) sw_1700 lkv_X12_isTeam (p_R_V (ci := 12) (q0 := 0) (hP.sub (ws' := [(h0, .inr (12, (Value.int 0 :: Value.int 0 :: Value.ref (a 0) :: Value.int 0 :: Value.int 0 :: Value.ref (a 1) :: Value.ref (a 2) :: Value.int 0 :: Value.ref (a 3) :: Value.ref (a 4) :: Value.int 0 :: Value.ref (a 5) :: Value.ref (a 6) :: Value.ref (a 7) :: Value.int 0 :: Value.ref (a 8) :: Value.int 0 :: Value.int (-1) :: Value.int 0 :: Value.int 0 :: Value.int 0 :: Value.int 0 :: Value.int (-1) :: Value.ref (a 9) :: Value.ref (a 10) :: Value.ref (a 11) :: Value.int 0 :: Value.ref (a 12) :: Value.ref (a 13) :: Value.ref (a 14) :: Value.ref (a 15) :: Value.int 0 :: Value.int 0 :: Value.int 0 :: Value.int 0 :: Value.int 0 :: Value.int 0 :: Value.int 0 :: Value.int 0 :: Value.ref (a 16) :: Value.ref (a 17) :: Value.ref (a 18) :: Value.ref (a 19) :: Value.int 0 :: Value.int 0 :: Value.int 1 :: Value.ref (a 20) :: Value.int 0 :: [])))]) [0] rfl) hK rfl rfl) rfl hl.1 rfl (Nat.le_of_ble_eq_true rfl) dX12_team_2 ⟨⟨Nat.le_of_ble_eq_true rfl, Nat.le_of_ble_eq_true rfl⟩, Nat.le_of_ble_eq_true rfl, Nat.le_of_ble_eq_true rfl⟩) rfl ?_
  refine lv_if_eq (tgt := 17) hx hb dX12_team_5 (by decide) (fun _ => ?_) (fun h9 => absurd (by decide) h9)
  refine lv_iconst (v := (-1)) hx hb dX12_team_17 (by decide) ?_
  exact W.iret (v := (-1)) hx hb hr (fun t ht _ => ⟨rfl, ht⟩) (fun _ h9 => nomatch h9) dX12_team_18
set_option maxHeartbeats 4000000 in
set_option maxRecDepth 100000 in
theorem kX12_called_0 (l : Launch) (D : va_G) (cI : ClassId) (h0 : Nat) (a : Nat → Nat) (p0 p1 : Int32) : Met l yX12_called (sw_ws yX12_called cX12_called 3 (some .int)) (rm_ 2 43 0 0) (p_R D vwCl [(cI, .int)] [.ref h0, .int p0, .int p1] [(h0, .inr (12, (Value.int 0 :: Value.int 0 :: Value.ref (a 0) :: Value.int 0 :: Value.int 0 :: Value.ref (a 1) :: Value.ref (a 2) :: Value.int 0 :: Value.ref (a 3) :: Value.ref (a 4) :: Value.int 0 :: Value.ref (a 5) :: Value.ref (a 6) :: Value.ref (a 7) :: Value.int 0 :: Value.ref (a 8) :: Value.int 0 :: Value.int (-1) :: Value.int 0 :: Value.int 0 :: Value.int 0 :: Value.int 0 :: Value.int (-1) :: Value.ref (a 9) :: Value.ref (a 10) :: Value.ref (a 11) :: Value.int 0 :: Value.ref (a 12) :: Value.ref (a 13) :: Value.ref (a 14) :: Value.ref (a 15) :: Value.int 0 :: Value.int 0 :: Value.int 0 :: Value.int 0 :: Value.int 0 :: Value.int 0 :: Value.int 0 :: Value.int 0 :: Value.ref (a 16) :: Value.ref (a 17) :: Value.ref (a 18) :: Value.ref (a 19) :: Value.int 0 :: Value.int 0 :: Value.int 1 :: Value.ref (a 20) :: Value.int 0 :: [])))]) (q_R (some (.int (-1)))) 0 0 (fun _ => False) := by
  refine Met.ofW (cc := cX12_called) (maxL := 3) (ret := (some .int)) (by decide) rfl ?_
  intro p e s m args below meth c s₁ B hml hv
  obtain ⟨rfl, hP, hK⟩ := hv
  have hx := B.exec
  have hb := B.bytes
  have hr := B.returns
  have hT := sw_in (atoms_spec (ws := sw_ws yX12_called cX12_called 3 (some .int)) B.pre)
  have hown : s.vm.findClass RX12 = some m.cls := findClass_of_methodNamed B.named
  have hlocks := B.notSynchronized
  have hl := lv_entry ([.ref h0, .int p0, .int p1]) (n := 3) (Nat.le_of_ble_eq_true rfl)
  rw [lg_entry_eq]
  generalize (lg_sl ([.ref h0, .int p0, .int p1]) ++ List.replicate (3 - (lg_sl ([.ref h0, .int p0, .int p1])).length) Slot.unset).toArray = ls at hl ⊢
  have hl : lv_has ls 3 [(0, .ref h0), (1, .int p0), (2, .int p1)] := hl
  refine lv_aload_n hx hb dX12_called_0 rfl (lv_at hl 0 rfl) ?_
  refine lv_iload_n hx hb dX12_called_1 rfl (lv_at hl 1 rfl) ?_
  refine go_R (v := some (.int 0)) (st1 := [.int 0]) (run_V (As := [.int p0]) (rest := []) ⟨hx, hb, hml, hown, hT⟩ (kX12_isTeam_0 l D cI h0 a p0) sw_1700 lkv_X12_isTeam (p_R_V (ci := 12) (q0 := 0) (hP.sub (ws' := [(h0, .inr (12, (Value.int 0 :: Value.int 0 :: Value.ref (a 0) :: Value.int 0 :: Value.int 0 :: Value.ref (a 1) :: Value.ref (a 2) :: Value.int 0 :: Value.ref (a 3) :: Value.ref (a 4) :: Value.int 0 :: Value.ref (a 5) :: Value.ref (a 6) :: Value.ref (a 7) :: Value.int 0 :: Value.ref (a 8) :: Value.int 0 :: Value.int (-1) :: Value.int 0 :: Value.int 0 :: Value.int 0 :: Value.int 0 :: Value.int (-1) :: Value.ref (a 9) :: Value.ref (a 10) :: Value.ref (a 11) :: Value.int 0 :: Value.ref (a 12) :: Value.ref (a 13) :: Value.ref (a 14) :: Value.ref (a 15) :: Value.int 0 :: Value.int 0 :: Value.int 0 :: Value.int 0 :: Value.int 0 :: Value.int 0 :: Value.int 0 :: Value.int 0 :: Value.ref (a 16) :: Value.ref (a 17) :: Value.ref (a 18) :: Value.ref (a 19) :: Value.int 0 :: Value.int 0 :: Value.int 1 :: Value.ref (a 20) :: Value.int 0 :: [])))]) [0] rfl) hK rfl rfl) rfl hl.1 rfl (Nat.le_of_ble_eq_true rfl) dX12_called_2 ⟨⟨Nat.le_of_ble_eq_true rfl, Nat.le_of_ble_eq_true rfl⟩, Nat.le_of_ble_eq_true rfl, Nat.le_of_ble_eq_true rfl⟩) rfl ?_
  refine lv_if_eq (tgt := 31) hx hb dX12_called_5 (by decide) (fun _ => ?_) (fun h9 => absurd (by decide) h9)
  refine lv_iconst (v := (-1)) hx hb dX12_called_31 (by decide) ?_
  exact W.iret (v := (-1)) hx hb hr (fun t ht _ => ⟨rfl, ht⟩) (fun _ h9 => nomatch h9) dX12_called_32
set_option maxHeartbeats 4000000 in
set_option maxRecDepth 100000 in
theorem kX12_isHeavy_0 (l : Launch) (D : va_G) (cI : ClassId) (h0 : Nat) (a : Nat → Nat) (p0 : Int32) : Met l yX12_isHeavy (sw_ws yX12_isHeavy cX12_isHeavy 2 (some .boolean)) (rm_ 2 43 0 0) (p_R D vwCl [(cI, .int)] [.ref h0, .int p0] [(h0, .inr (12, (Value.int 0 :: Value.int 0 :: Value.ref (a 0) :: Value.int 0 :: Value.int 0 :: Value.ref (a 1) :: Value.ref (a 2) :: Value.int 0 :: Value.ref (a 3) :: Value.ref (a 4) :: Value.int 0 :: Value.ref (a 5) :: Value.ref (a 6) :: Value.ref (a 7) :: Value.int 0 :: Value.ref (a 8) :: Value.int 0 :: Value.int (-1) :: Value.int 0 :: Value.int 0 :: Value.int 0 :: Value.int 0 :: Value.int (-1) :: Value.ref (a 9) :: Value.ref (a 10) :: Value.ref (a 11) :: Value.int 0 :: Value.ref (a 12) :: Value.ref (a 13) :: Value.ref (a 14) :: Value.ref (a 15) :: Value.int 0 :: Value.int 0 :: Value.int 0 :: Value.int 0 :: Value.int 0 :: Value.int 0 :: Value.int 0 :: Value.int 0 :: Value.ref (a 16) :: Value.ref (a 17) :: Value.ref (a 18) :: Value.ref (a 19) :: Value.int 0 :: Value.int 0 :: Value.int 1 :: Value.ref (a 20) :: Value.int 0 :: [])))]) (q_R (some (.int 0))) 0 0 (fun _ => False) := by
  refine Met.ofW (cc := cX12_isHeavy) (maxL := 2) (ret := (some .boolean)) (by decide) rfl ?_
  intro p e s m args below meth c s₁ B hml hv
  obtain ⟨rfl, hP, hK⟩ := hv
  have hx := B.exec
  have hb := B.bytes
  have hr := B.returns
  have hT := sw_in (atoms_spec (ws := sw_ws yX12_isHeavy cX12_isHeavy 2 (some .boolean)) B.pre)
  have hown : s.vm.findClass RX12 = some m.cls := findClass_of_methodNamed B.named
  have hlocks := B.notSynchronized
  have hl := lv_entry ([.ref h0, .int p0]) (n := 2) (Nat.le_of_ble_eq_true rfl)
  rw [lg_entry_eq]
  generalize (lg_sl ([.ref h0, .int p0]) ++ List.replicate (2 - (lg_sl ([.ref h0, .int p0])).length) Slot.unset).toArray = ls at hl ⊢
  have hl : lv_has ls 2 [(0, .ref h0), (1, .int p0)] := hl
  refine lv_aload_n hx hb dX12_isHeavy_0 rfl (lv_at hl 0 rfl) ?_
  refine lv_iload_n hx hb dX12_isHeavy_1 rfl (lv_at hl 1 rfl) ?_
  refine go_R (v := some (.int 0)) (st1 := [.int 0]) (run_V (As := [.int p0]) (rest := []) ⟨hx, hb, hml, hown, hT⟩ (kX12_isTeam_0 l D cI h0 a p0) sw_1700 lkv_X12_isTeam (p_R_V (ci := 12) (q0 := 0) (hP.sub (ws' := [(h0, .inr (12, (Value.int 0 :: Value.int 0 :: Value.ref (a 0) :: Value.int 0 :: Value.int 0 :: Value.ref (a 1) :: Value.ref (a 2) :: Value.int 0 :: Value.ref (a 3) :: Value.ref (a 4) :: Value.int 0 :: Value.ref (a 5) :: Value.ref (a 6) :: Value.ref (a 7) :: Value.int 0 :: Value.ref (a 8) :: Value.int 0 :: Value.int (-1) :: Value.int 0 :: Value.int 0 :: Value.int 0 :: Value.int 0 :: Value.int (-1) :: Value.ref (a 9) :: Value.ref (a 10) :: Value.ref (a 11) :: Value.int 0 :: Value.ref (a 12) :: Value.ref (a 13) :: Value.ref (a 14) :: Value.ref (a 15) :: Value.int 0 :: Value.int 0 :: Value.int 0 :: Value.int 0 :: Value.int 0 :: Value.int 0 :: Value.int 0 :: Value.int 0 :: Value.ref (a 16) :: Value.ref (a 17) :: Value.ref (a 18) :: Value.ref (a 19) :: Value.int 0 :: Value.int 0 :: Value.int 1 :: Value.ref (a 20) :: Value.int 0 :: [])))]) [0] rfl) hK rfl rfl) rfl hl.1 rfl (Nat.le_of_ble_eq_true rfl) dX12_isHeavy_2 ⟨⟨Nat.le_of_ble_eq_true rfl, Nat.le_of_ble_eq_true rfl⟩, Nat.le_of_ble_eq_true rfl, Nat.le_of_ble_eq_true rfl⟩) rfl ?_
  refine lv_if_eq (tgt := 27) hx hb dX12_isHeavy_5 (by decide) (fun _ => ?_) (fun h9 => absurd (by decide) h9)
  refine lv_iconst (v := 0) hx hb dX12_isHeavy_27 (by decide) ?_
  exact W.zret (v := 0) hx hb hr (by decide) (fun t ht _ => ⟨rfl, ht⟩) (fun _ h9 => nomatch h9) dX12_isHeavy_28
set_option maxHeartbeats 4000000 in
set_option maxRecDepth 100000 in
theorem kX12_inside_0 (l : Launch) (D : va_G) (cI : ClassId) (h0 : Nat) (a : Nat → Nat) (p0 p1 p2 : Int32) : Met l yX12_inside (sw_ws yX12_inside cX12_inside 4 (some .int)) (rm_ 3 64 0 0) (p_R D vwCl [(cI, .int)] [.ref h0, .int p0, .int p1, .int p2] [(h0, .inr (12, (Value.int 0 :: Value.int 0 :: Value.ref (a 0) :: Value.int 0 :: Value.int 0 :: Value.ref (a 1) :: Value.ref (a 2) :: Value.int 0 :: Value.ref (a 3) :: Value.ref (a 4) :: Value.int 0 :: Value.ref (a 5) :: Value.ref (a 6) :: Value.ref (a 7) :: Value.int 0 :: Value.ref (a 8) :: Value.int 0 :: Value.int (-1) :: Value.int 0 :: Value.int 0 :: Value.int 0 :: Value.int 0 :: Value.int (-1) :: Value.ref (a 9) :: Value.ref (a 10) :: Value.ref (a 11) :: Value.int 0 :: Value.ref (a 12) :: Value.ref (a 13) :: Value.ref (a 14) :: Value.ref (a 15) :: Value.int 0 :: Value.int 0 :: Value.int 0 :: Value.int 0 :: Value.int 0 :: Value.int 0 :: Value.int 0 :: Value.int 0 :: Value.ref (a 16) :: Value.ref (a 17) :: Value.ref (a 18) :: Value.ref (a 19) :: Value.int 0 :: Value.int 0 :: Value.int 1 :: Value.ref (a 20) :: Value.int 0 :: [])))]) (q_R (some (.int (-1)))) 0 0 (fun _ => False) := by
  refine Met.ofW (cc := cX12_inside) (maxL := 4) (ret := (some .int)) (by decide) rfl ?_
  intro p e s m args below meth c s₁ B hml hv
  obtain ⟨rfl, hP, hK⟩ := hv
  have hx := B.exec
  have hb := B.bytes
  have hr := B.returns
  have hT := sw_in (atoms_spec (ws := sw_ws yX12_inside cX12_inside 4 (some .int)) B.pre)
  have hown : s.vm.findClass RX12 = some m.cls := findClass_of_methodNamed B.named
  have hlocks := B.notSynchronized
  have hl := lv_entry ([.ref h0, .int p0, .int p1, .int p2]) (n := 4) (Nat.le_of_ble_eq_true rfl)
  rw [lg_entry_eq]
  generalize (lg_sl ([.ref h0, .int p0, .int p1, .int p2]) ++ List.replicate (4 - (lg_sl ([.ref h0, .int p0, .int p1, .int p2])).length) Slot.unset).toArray = ls at hl ⊢
  have hl : lv_has ls 4 [(0, .ref h0), (1, .int p0), (2, .int p1), (3, .int p2)] := hl
  refine lv_aload_n hx hb dX12_inside_0 rfl (lv_at hl 0 rfl) ?_
  refine lv_iload_n hx hb dX12_inside_1 rfl (lv_at hl 1 rfl) ?_
  refine go_R (v := some (.int 0)) (st1 := [.int 0]) (run_V (As := [.int p0]) (rest := []) ⟨hx, hb, hml, hown, hT⟩ (kX12_isHeavy_0 l D cI h0 a p0) sw_1716 lkv_X12_isHeavy (p_R_V (ci := 12) (q0 := 0) (hP.sub (ws' := [(h0, .inr (12, (Value.int 0 :: Value.int 0 :: Value.ref (a 0) :: Value.int 0 :: Value.int 0 :: Value.ref (a 1) :: Value.ref (a 2) :: Value.int 0 :: Value.ref (a 3) :: Value.ref (a 4) :: Value.int 0 :: Value.ref (a 5) :: Value.ref (a 6) :: Value.ref (a 7) :: Value.int 0 :: Value.ref (a 8) :: Value.int 0 :: Value.int (-1) :: Value.int 0 :: Value.int 0 :: Value.int 0 :: Value.int 0 :: Value.int (-1) :: Value.ref (a 9) :: Value.ref (a 10) :: Value.ref (a 11) :: Value.int 0 :: Value.ref (a 12) :: Value.ref (a 13) :: Value.ref (a 14) :: Value.ref (a 15) :: Value.int 0 :: Value.int 0 :: Value.int 0 :: Value.int 0 :: Value.int 0 :: Value.int 0 :: Value.int 0 :: Value.int 0 :: Value.ref (a 16) :: Value.ref (a 17) :: Value.ref (a 18) :: Value.ref (a 19) :: Value.int 0 :: Value.int 0 :: Value.int 1 :: Value.ref (a 20) :: Value.int 0 :: [])))]) [0] rfl) hK rfl rfl) rfl hl.1 rfl (Nat.le_of_ble_eq_true rfl) dX12_inside_2 ⟨⟨Nat.le_of_ble_eq_true rfl, Nat.le_of_ble_eq_true rfl⟩, Nat.le_of_ble_eq_true rfl, Nat.le_of_ble_eq_true rfl⟩) rfl ?_
  refine lv_if_eq (tgt := 38) hx hb dX12_inside_5 (by decide) (fun _ => ?_) (fun h9 => absurd (by decide) h9)
  refine lv_iconst (v := (-1)) hx hb dX12_inside_38 (by decide) ?_
  exact W.iret (v := (-1)) hx hb hr (fun t ht _ => ⟨rfl, ht⟩) (fun _ h9 => nomatch h9) dX12_inside_39
set_option maxHeartbeats 4000000 in
set_option maxRecDepth 100000 in
theorem kX12_triesIn_0 (l : Launch) (D : va_G) (cI : ClassId) (h0 : Nat) (a : Nat → Nat) (p0 p1 : Int32) (sz : Nat) : Met l yX12_triesIn (sw_ws yX12_triesIn cX12_triesIn 5 (some .int)) (rm_ 3 64 0 0) (p_M D vwCl [(cI, .int)] [.ref h0, .int p0, .int p1] [(h0, .inr (12, (Value.int 0 :: Value.int 0 :: Value.ref (a 0) :: Value.int 0 :: Value.int 0 :: Value.ref (a 1) :: Value.ref (a 2) :: Value.int 0 :: Value.ref (a 3) :: Value.ref (a 4) :: Value.int 0 :: Value.ref (a 5) :: Value.ref (a 6) :: Value.ref (a 7) :: Value.int 0 :: Value.ref (a 8) :: Value.int 0 :: Value.int (-1) :: Value.int 0 :: Value.int 0 :: Value.int 0 :: Value.int 0 :: Value.int (-1) :: Value.ref (a 9) :: Value.ref (a 10) :: Value.ref (a 11) :: Value.int 0 :: Value.ref (a 12) :: Value.ref (a 13) :: Value.ref (a 14) :: Value.ref (a 15) :: Value.int 0 :: Value.int 0 :: Value.int 0 :: Value.int 0 :: Value.int 0 :: Value.int 0 :: Value.int 0 :: Value.int 0 :: Value.ref (a 16) :: Value.ref (a 17) :: Value.ref (a 18) :: Value.ref (a 19) :: Value.int 0 :: Value.int 0 :: Value.int 1 :: Value.ref (a 20) :: Value.int 0 :: [])))] sz) (q_M D vwCl (some (.int (-1))) (fun u => []) (va_A [(h0, .inr (12, (Value.int 0 :: Value.int 0 :: Value.ref (a 0) :: Value.int 0 :: Value.int 0 :: Value.ref (a 1) :: Value.ref (a 2) :: Value.int 0 :: Value.ref (a 3) :: Value.ref (a 4) :: Value.int 0 :: Value.ref (a 5) :: Value.ref (a 6) :: Value.ref (a 7) :: Value.int 0 :: Value.ref (a 8) :: Value.int 0 :: Value.int (-1) :: Value.int 0 :: Value.int 0 :: Value.int 0 :: Value.int 0 :: Value.int (-1) :: Value.ref (a 9) :: Value.ref (a 10) :: Value.ref (a 11) :: Value.int 0 :: Value.ref (a 12) :: Value.ref (a 13) :: Value.ref (a 14) :: Value.ref (a 15) :: Value.int 0 :: Value.int 0 :: Value.int 0 :: Value.int 0 :: Value.int 0 :: Value.int 0 :: Value.int 0 :: Value.int 0 :: Value.ref (a 16) :: Value.ref (a 17) :: Value.ref (a 18) :: Value.ref (a 19) :: Value.int 0 :: Value.int 0 :: Value.int 1 :: Value.ref (a 20) :: Value.int 0 :: [])))] sz)) 0 0 (va_A [(h0, .inr (12, (Value.int 0 :: Value.int 0 :: Value.ref (a 0) :: Value.int 0 :: Value.int 0 :: Value.ref (a 1) :: Value.ref (a 2) :: Value.int 0 :: Value.ref (a 3) :: Value.ref (a 4) :: Value.int 0 :: Value.ref (a 5) :: Value.ref (a 6) :: Value.ref (a 7) :: Value.int 0 :: Value.ref (a 8) :: Value.int 0 :: Value.int (-1) :: Value.int 0 :: Value.int 0 :: Value.int 0 :: Value.int 0 :: Value.int (-1) :: Value.ref (a 9) :: Value.ref (a 10) :: Value.ref (a 11) :: Value.int 0 :: Value.ref (a 12) :: Value.ref (a 13) :: Value.ref (a 14) :: Value.ref (a 15) :: Value.int 0 :: Value.int 0 :: Value.int 0 :: Value.int 0 :: Value.int 0 :: Value.int 0 :: Value.int 0 :: Value.int 0 :: Value.ref (a 16) :: Value.ref (a 17) :: Value.ref (a 18) :: Value.ref (a 19) :: Value.int 0 :: Value.int 0 :: Value.int 1 :: Value.ref (a 20) :: Value.int 0 :: [])))] sz) := by
  refine Met.ofW (cc := cX12_triesIn) (maxL := 5) (ret := (some .int)) (by decide) rfl ?_
  intro p e s m args below meth c s₁ B hml hv
  obtain ⟨rfl, hsz, hP, hK, hD0⟩ := hv
  have hx := B.exec
  have hb := B.bytes
  have hr := B.returns
  have hT := sw_in (atoms_spec (ws := sw_ws yX12_triesIn cX12_triesIn 5 (some .int)) B.pre)
  have hown : s.vm.findClass RX12 = some m.cls := findClass_of_methodNamed B.named
  have hlocks := B.notSynchronized
  subst hsz
  have hD := hD0.self (sz := s.heap.size)
  generalize hAe : va_A [(h0, .inr (12, (Value.int 0 :: Value.int 0 :: Value.ref (a 0) :: Value.int 0 :: Value.int 0 :: Value.ref (a 1) :: Value.ref (a 2) :: Value.int 0 :: Value.ref (a 3) :: Value.ref (a 4) :: Value.int 0 :: Value.ref (a 5) :: Value.ref (a 6) :: Value.ref (a 7) :: Value.int 0 :: Value.ref (a 8) :: Value.int 0 :: Value.int (-1) :: Value.int 0 :: Value.int 0 :: Value.int 0 :: Value.int 0 :: Value.int (-1) :: Value.ref (a 9) :: Value.ref (a 10) :: Value.ref (a 11) :: Value.int 0 :: Value.ref (a 12) :: Value.ref (a 13) :: Value.ref (a 14) :: Value.ref (a 15) :: Value.int 0 :: Value.int 0 :: Value.int 0 :: Value.int 0 :: Value.int 0 :: Value.int 0 :: Value.int 0 :: Value.int 0 :: Value.ref (a 16) :: Value.ref (a 17) :: Value.ref (a 18) :: Value.ref (a 19) :: Value.int 0 :: Value.int 0 :: Value.int 1 :: Value.ref (a 20) :: Value.int 0 :: [])))] s.heap.size = A at hD ⊢
  have hA : ∀ q : Nat, s.heap.size ≤ q → A q := fun q h => by rw [← hAe]; exact Or.inr h
  have hS : va_S A s.heap s.heap [] := va_S.rf
  have hl := lv_entry ([.ref h0, .int p0, .int p1]) (n := 5) (Nat.le_of_ble_eq_true rfl)
  rw [lg_entry_eq]
  generalize (lg_sl ([.ref h0, .int p0, .int p1]) ++ List.replicate (5 - (lg_sl ([.ref h0, .int p0, .int p1])).length) Slot.unset).toArray = ls at hl ⊢
  have hl : lv_has ls 5 [(0, .ref h0), (1, .int p0), (2, .int p1)] := hl
  refine lv_aload_n hx hb dX12_triesIn_0 rfl (lv_at hl 0 rfl) ?_
  refine go_M (wc := [(h0, .inr (12, (Value.int 0 :: Value.int 0 :: Value.ref (a 0) :: Value.int 0 :: Value.int 0 :: Value.ref (a 1) :: Value.ref (a 2) :: Value.int 0 :: Value.ref (a 3) :: Value.ref (a 4) :: Value.int 0 :: Value.ref (a 5) :: Value.ref (a 6) :: Value.ref (a 7) :: Value.int 0 :: Value.ref (a 8) :: Value.int 0 :: Value.int (-1) :: Value.int 0 :: Value.int 0 :: Value.int 0 :: Value.int 0 :: Value.int (-1) :: Value.ref (a 9) :: Value.ref (a 10) :: Value.ref (a 11) :: Value.int 0 :: Value.ref (a 12) :: Value.ref (a 13) :: Value.ref (a 14) :: Value.ref (a 15) :: Value.int 0 :: Value.int 0 :: Value.int 0 :: Value.int 0 :: Value.int 0 :: Value.int 0 :: Value.int 0 :: Value.int 0 :: Value.ref (a 16) :: Value.ref (a 17) :: Value.ref (a 18) :: Value.ref (a 19) :: Value.int 0 :: Value.int 0 :: Value.int 1 :: Value.ref (a 20) :: Value.int 0 :: [])))]) (wr := []) (w1 := fun u => [(h0, .inr (12, (Value.int 0 :: Value.int 0 :: Value.ref (a 0) :: Value.int 0 :: Value.int 0 :: Value.ref (a 1) :: Value.ref (a 2) :: Value.int 0 :: Value.ref (a 3) :: Value.ref (a 4) :: Value.int 0 :: Value.ref (a 5) :: Value.ref (a 6) :: Value.ref (a 7) :: Value.int 0 :: Value.ref (a 8) :: Value.int 0 :: Value.int (-1) :: Value.int 0 :: Value.int 0 :: Value.int 0 :: Value.int 0 :: Value.int (-1) :: Value.ref (a 9) :: Value.ref (a 10) :: Value.ref (a 11) :: Value.int 0 :: Value.ref (a 12) :: Value.ref (a 13) :: Value.ref (a 14) :: Value.ref (a 15) :: Value.int 0 :: Value.int 0 :: Value.int 0 :: Value.int 0 :: Value.int 0 :: Value.int 0 :: Value.int 0 :: Value.int 0 :: Value.ref (a 16) :: Value.ref (a 17) :: Value.ref (a 18) :: Value.ref (a 19) :: Value.int 0 :: Value.int 0 :: Value.int 1 :: Value.ref (a 20) :: Value.int 0 :: [])))]) (v := some (.int 0)) (st1 := [.int 0]) hP hD hS hA [0] [] rfl rfl (by decide) (by decide) (by decide) (fun hPc hDc => run_V (As := []) (rest := []) ⟨hx, hb, hml, hown, hT⟩ (kX12_taken_0 l D cI h0 a _) sw_1458 lkv_X12_taken (p_M_V (ci := 12) (q0 := 0) hPc hK hDc rfl rfl) rfl hl.1 rfl (Nat.le_of_ble_eq_true rfl) dX12_triesIn_1 ⟨⟨Nat.le_of_ble_eq_true rfl, Nat.le_of_ble_eq_true rfl⟩, Nat.le_of_ble_eq_true rfl, Nat.le_of_ble_eq_true rfl⟩) rfl (fun u_1 H locs hP hD hS => ?_)
  have hP : va_P D vwCl [(h0, .inr (12, (Value.int 0 :: Value.int 0 :: Value.ref (a 0) :: Value.int 0 :: Value.int 0 :: Value.ref (a 1) :: Value.ref (a 2) :: Value.int 0 :: Value.ref (a 3) :: Value.ref (a 4) :: Value.int 0 :: Value.ref (a 5) :: Value.ref (a 6) :: Value.ref (a 7) :: Value.int 0 :: Value.ref (a 8) :: Value.int 0 :: Value.int (-1) :: Value.int 0 :: Value.int 0 :: Value.int 0 :: Value.int 0 :: Value.int (-1) :: Value.ref (a 9) :: Value.ref (a 10) :: Value.ref (a 11) :: Value.int 0 :: Value.ref (a 12) :: Value.ref (a 13) :: Value.ref (a 14) :: Value.ref (a 15) :: Value.int 0 :: Value.int 0 :: Value.int 0 :: Value.int 0 :: Value.int 0 :: Value.int 0 :: Value.int 0 :: Value.int 0 :: Value.ref (a 16) :: Value.ref (a 17) :: Value.ref (a 18) :: Value.ref (a 19) :: Value.int 0 :: Value.int 0 :: Value.int 1 :: Value.ref (a 20) :: Value.int 0 :: [])))] H := hP
  have hD : va_D A [(h0, .inr (12, (Value.int 0 :: Value.int 0 :: Value.ref (a 0) :: Value.int 0 :: Value.int 0 :: Value.ref (a 1) :: Value.ref (a 2) :: Value.int 0 :: Value.ref (a 3) :: Value.ref (a 4) :: Value.int 0 :: Value.ref (a 5) :: Value.ref (a 6) :: Value.ref (a 7) :: Value.int 0 :: Value.ref (a 8) :: Value.int 0 :: Value.int (-1) :: Value.int 0 :: Value.int 0 :: Value.int 0 :: Value.int 0 :: Value.int (-1) :: Value.ref (a 9) :: Value.ref (a 10) :: Value.ref (a 11) :: Value.int 0 :: Value.ref (a 12) :: Value.ref (a 13) :: Value.ref (a 14) :: Value.ref (a 15) :: Value.int 0 :: Value.int 0 :: Value.int 0 :: Value.int 0 :: Value.int 0 :: Value.int 0 :: Value.int 0 :: Value.int 0 :: Value.ref (a 16) :: Value.ref (a 17) :: Value.ref (a 18) :: Value.ref (a 19) :: Value.int 0 :: Value.int 0 :: Value.int 1 :: Value.ref (a 20) :: Value.int 0 :: [])))] := hD
  refine lv_istore_n (lv' := [(3, .int 0), (0, .ref h0), (1, .int p0), (2, .int p1)]) hx hb dX12_triesIn_4 rfl hl (by decide) rfl (fun ls hl => ?_)
  refine lv_aload_n hx hb dX12_triesIn_5 rfl (lv_at hl 1 rfl) ?_
  refine lv_iload_n hx hb dX12_triesIn_6 rfl (lv_at hl 2 rfl) ?_
  refine go_R (v := some (.int 0)) (st1 := [.int 0]) (run_V (As := [.int p0]) (rest := []) ⟨hx, hb, hml, hown, hT⟩ (kX12_isHeavy_0 l D cI h0 a p0) sw_1716 lkv_X12_isHeavy (p_R_V (ci := 12) (q0 := 0) (hP.sub (ws' := [(h0, .inr (12, (Value.int 0 :: Value.int 0 :: Value.ref (a 0) :: Value.int 0 :: Value.int 0 :: Value.ref (a 1) :: Value.ref (a 2) :: Value.int 0 :: Value.ref (a 3) :: Value.ref (a 4) :: Value.int 0 :: Value.ref (a 5) :: Value.ref (a 6) :: Value.ref (a 7) :: Value.int 0 :: Value.ref (a 8) :: Value.int 0 :: Value.int (-1) :: Value.int 0 :: Value.int 0 :: Value.int 0 :: Value.int 0 :: Value.int (-1) :: Value.ref (a 9) :: Value.ref (a 10) :: Value.ref (a 11) :: Value.int 0 :: Value.ref (a 12) :: Value.ref (a 13) :: Value.ref (a 14) :: Value.ref (a 15) :: Value.int 0 :: Value.int 0 :: Value.int 0 :: Value.int 0 :: Value.int 0 :: Value.int 0 :: Value.int 0 :: Value.int 0 :: Value.ref (a 16) :: Value.ref (a 17) :: Value.ref (a 18) :: Value.ref (a 19) :: Value.int 0 :: Value.int 0 :: Value.int 1 :: Value.ref (a 20) :: Value.int 0 :: [])))]) [0] rfl) hK rfl rfl) rfl hl.1 rfl (Nat.le_of_ble_eq_true rfl) dX12_triesIn_7 ⟨⟨Nat.le_of_ble_eq_true rfl, Nat.le_of_ble_eq_true rfl⟩, Nat.le_of_ble_eq_true rfl, Nat.le_of_ble_eq_true rfl⟩) rfl ?_
  refine lv_if_eq (tgt := 28) hx hb dX12_triesIn_10 (by decide) (fun _ => ?_) (fun h9 => absurd (by decide) h9)
  refine lv_iconst (v := (-1)) hx hb dX12_triesIn_28 (by decide) ?_
  have hP9 := hP.sub (ws' := []) [] rfl
  have hD9 := hD.sub (ws' := []) [] (by decide) rfl
  exact W.iret (v := (-1)) hx hb hr (fun t ht _ => ⟨rfl, ⟨(fun k => [].getD k 0, fun k => [].getD k zI), by rw [ht]; exact hP9, hD9⟩, hS.F ht⟩) hS.2.2 dX12_triesIn_29
set_option maxHeartbeats 4000000 in
set_option maxRecDepth 100000 in
theorem kX12_rowsIn_0 (l : Launch) (D : va_G) (cI : ClassId) (h0 : Nat) (a : Nat → Nat) (p0 p1 p2 : Int32) : Met l yX12_rowsIn (sw_ws yX12_rowsIn cX12_rowsIn 6 (some .int)) (rm_ 3 64 0 0) (p_R D vwCl [(cI, .int)] [.ref h0, .int p0, .int p1, .int p2] [(h0, .inr (12, (Value.int 0 :: Value.int 0 :: Value.ref (a 0) :: Value.int 0 :: Value.int 0 :: Value.ref (a 1) :: Value.ref (a 2) :: Value.int 0 :: Value.ref (a 3) :: Value.ref (a 4) :: Value.int 0 :: Value.ref (a 5) :: Value.ref (a 6) :: Value.ref (a 7) :: Value.int 0 :: Value.ref (a 8) :: Value.int 0 :: Value.int (-1) :: Value.int 0 :: Value.int 0 :: Value.int 0 :: Value.int 0 :: Value.int (-1) :: Value.ref (a 9) :: Value.ref (a 10) :: Value.ref (a 11) :: Value.int 0 :: Value.ref (a 12) :: Value.ref (a 13) :: Value.ref (a 14) :: Value.ref (a 15) :: Value.int 0 :: Value.int 0 :: Value.int 0 :: Value.int 0 :: Value.int 0 :: Value.int 0 :: Value.int 0 :: Value.int 0 :: Value.ref (a 16) :: Value.ref (a 17) :: Value.ref (a 18) :: Value.ref (a 19) :: Value.int 0 :: Value.int 0 :: Value.int 1 :: Value.ref (a 20) :: Value.int 0 :: [])))]) (q_R (some (.int (-1)))) 0 0 (fun _ => False) := by
  refine Met.ofW (cc := cX12_rowsIn) (maxL := 6) (ret := (some .int)) (by decide) rfl ?_
  intro p e s m args below meth c s₁ B hml hv
  obtain ⟨rfl, hP, hK⟩ := hv
  have hx := B.exec
  have hb := B.bytes
  have hr := B.returns
  have hT := sw_in (atoms_spec (ws := sw_ws yX12_rowsIn cX12_rowsIn 6 (some .int)) B.pre)
  have hown : s.vm.findClass RX12 = some m.cls := findClass_of_methodNamed B.named
  have hlocks := B.notSynchronized
  have hl := lv_entry ([.ref h0, .int p0, .int p1, .int p2]) (n := 6) (Nat.le_of_ble_eq_true rfl)
  rw [lg_entry_eq]
  generalize (lg_sl ([.ref h0, .int p0, .int p1, .int p2]) ++ List.replicate (6 - (lg_sl ([.ref h0, .int p0, .int p1, .int p2])).length) Slot.unset).toArray = ls at hl ⊢
  have hl : lv_has ls 6 [(0, .ref h0), (1, .int p0), (2, .int p1), (3, .int p2)] := hl
  refine lv_aload_n hx hb dX12_rowsIn_0 rfl (lv_at hl 0 rfl) ?_
  refine lv_iload_n hx hb dX12_rowsIn_1 rfl (lv_at hl 1 rfl) ?_
  refine go_R (v := some (.int 0)) (st1 := [.int 0]) (run_V (As := [.int p0]) (rest := []) ⟨hx, hb, hml, hown, hT⟩ (kX12_isHeavy_0 l D cI h0 a p0) sw_1716 lkv_X12_isHeavy (p_R_V (ci := 12) (q0 := 0) (hP.sub (ws' := [(h0, .inr (12, (Value.int 0 :: Value.int 0 :: Value.ref (a 0) :: Value.int 0 :: Value.int 0 :: Value.ref (a 1) :: Value.ref (a 2) :: Value.int 0 :: Value.ref (a 3) :: Value.ref (a 4) :: Value.int 0 :: Value.ref (a 5) :: Value.ref (a 6) :: Value.ref (a 7) :: Value.int 0 :: Value.ref (a 8) :: Value.int 0 :: Value.int (-1) :: Value.int 0 :: Value.int 0 :: Value.int 0 :: Value.int 0 :: Value.int (-1) :: Value.ref (a 9) :: Value.ref (a 10) :: Value.ref (a 11) :: Value.int 0 :: Value.ref (a 12) :: Value.ref (a 13) :: Value.ref (a 14) :: Value.ref (a 15) :: Value.int 0 :: Value.int 0 :: Value.int 0 :: Value.int 0 :: Value.int 0 :: Value.int 0 :: Value.int 0 :: Value.int 0 :: Value.ref (a 16) :: Value.ref (a 17) :: Value.ref (a 18) :: Value.ref (a 19) :: Value.int 0 :: Value.int 0 :: Value.int 1 :: Value.ref (a 20) :: Value.int 0 :: [])))]) [0] rfl) hK rfl rfl) rfl hl.1 rfl (Nat.le_of_ble_eq_true rfl) dX12_rowsIn_2 ⟨⟨Nat.le_of_ble_eq_true rfl, Nat.le_of_ble_eq_true rfl⟩, Nat.le_of_ble_eq_true rfl, Nat.le_of_ble_eq_true rfl⟩) rfl ?_
  refine lv_if_eq (tgt := 31) hx hb dX12_rowsIn_5 (by decide) (fun _ => ?_) (fun h9 => absurd (by decide) h9)
  refine lv_iconst (v := (-1)) hx hb dX12_rowsIn_31 (by decide) ?_
  exact W.iret (v := (-1)) hx hb hr (fun t ht _ => ⟨rfl, ht⟩) (fun _ h9 => nomatch h9) dX12_rowsIn_32
set_option maxHeartbeats 4000000 in
set_option maxRecDepth 100000 in
theorem kX12_quorum_0 (l : Launch) (D : va_G) (cI : ClassId) (h0 : Nat) (a : Nat → Nat) (p0 p1 p2 : Int32) : Met l yX12_quorum (sw_ws yX12_quorum cX12_quorum 6 (some .int)) (rm_ 2 43 0 0) (p_R D vwCl [(cI, .int)] [.ref h0, .int p0, .int p1, .int p2] [(h0, .inr (12, (Value.int 0 :: Value.int 0 :: Value.ref (a 0) :: Value.int 0 :: Value.int 0 :: Value.ref (a 1) :: Value.ref (a 2) :: Value.int 0 :: Value.ref (a 3) :: Value.ref (a 4) :: Value.int 0 :: Value.ref (a 5) :: Value.ref (a 6) :: Value.ref (a 7) :: Value.int 0 :: Value.ref (a 8) :: Value.int 0 :: Value.int (-1) :: Value.int 0 :: Value.int 0 :: Value.int 0 :: Value.int 0 :: Value.int (-1) :: Value.ref (a 9) :: Value.ref (a 10) :: Value.ref (a 11) :: Value.int 0 :: Value.ref (a 12) :: Value.ref (a 13) :: Value.ref (a 14) :: Value.ref (a 15) :: Value.int 0 :: Value.int 0 :: Value.int 0 :: Value.int 0 :: Value.int 0 :: Value.int 0 :: Value.int 0 :: Value.int 0 :: Value.ref (a 16) :: Value.ref (a 17) :: Value.ref (a 18) :: Value.ref (a 19) :: Value.int 0 :: Value.int 0 :: Value.int 1 :: Value.ref (a 20) :: Value.int 0 :: [])))]) (q_R (some (.int (-1)))) 0 0 (fun _ => False) := by
  refine Met.ofW (cc := cX12_quorum) (maxL := 6) (ret := (some .int)) (by decide) rfl ?_
  intro p e s m args below meth c s₁ B hml hv
  obtain ⟨rfl, hP, hK⟩ := hv
  have hx := B.exec
  have hb := B.bytes
  have hr := B.returns
  have hT := sw_in (atoms_spec (ws := sw_ws yX12_quorum cX12_quorum 6 (some .int)) B.pre)
  have hown : s.vm.findClass RX12 = some m.cls := findClass_of_methodNamed B.named
  have hlocks := B.notSynchronized
  have hl := lv_entry ([.ref h0, .int p0, .int p1, .int p2]) (n := 6) (Nat.le_of_ble_eq_true rfl)
  rw [lg_entry_eq]
  generalize (lg_sl ([.ref h0, .int p0, .int p1, .int p2]) ++ List.replicate (6 - (lg_sl ([.ref h0, .int p0, .int p1, .int p2])).length) Slot.unset).toArray = ls at hl ⊢
  have hl : lv_has ls 6 [(0, .ref h0), (1, .int p0), (2, .int p1), (3, .int p2)] := hl
  refine lv_aload_n hx hb dX12_quorum_0 rfl (lv_at hl 0 rfl) ?_
  refine go_R (v := some (.int 0)) (st1 := [.int 0]) (run_V (As := []) (rest := []) ⟨hx, hb, hml, hown, hT⟩ (kX12_isTotal_0 l D cI h0 a) sw_1650 lkv_X12_isTotal (p_R_V (ci := 12) (q0 := 0) (hP.sub (ws' := [(h0, .inr (12, (Value.int 0 :: Value.int 0 :: Value.ref (a 0) :: Value.int 0 :: Value.int 0 :: Value.ref (a 1) :: Value.ref (a 2) :: Value.int 0 :: Value.ref (a 3) :: Value.ref (a 4) :: Value.int 0 :: Value.ref (a 5) :: Value.ref (a 6) :: Value.ref (a 7) :: Value.int 0 :: Value.ref (a 8) :: Value.int 0 :: Value.int (-1) :: Value.int 0 :: Value.int 0 :: Value.int 0 :: Value.int 0 :: Value.int (-1) :: Value.ref (a 9) :: Value.ref (a 10) :: Value.ref (a 11) :: Value.int 0 :: Value.ref (a 12) :: Value.ref (a 13) :: Value.ref (a 14) :: Value.ref (a 15) :: Value.int 0 :: Value.int 0 :: Value.int 0 :: Value.int 0 :: Value.int 0 :: Value.int 0 :: Value.int 0 :: Value.int 0 :: Value.ref (a 16) :: Value.ref (a 17) :: Value.ref (a 18) :: Value.ref (a 19) :: Value.int 0 :: Value.int 0 :: Value.int 1 :: Value.ref (a 20) :: Value.int 0 :: [])))]) [0] rfl) hK rfl rfl) rfl hl.1 rfl (Nat.le_of_ble_eq_true rfl) dX12_quorum_1 ⟨⟨Nat.le_of_ble_eq_true rfl, Nat.le_of_ble_eq_true rfl⟩, Nat.le_of_ble_eq_true rfl, Nat.le_of_ble_eq_true rfl⟩) rfl ?_
  refine lv_if_eq (tgt := 24) hx hb dX12_quorum_4 (by decide) (fun _ => ?_) (fun h9 => absurd (by decide) h9)
  refine lv_iconst (v := (-1)) hx hb dX12_quorum_24 (by decide) ?_
  exact W.iret (v := (-1)) hx hb hr (fun t ht _ => ⟨rfl, ht⟩) (fun _ h9 => nomatch h9) dX12_quorum_25
set_option maxHeartbeats 4000000 in
set_option maxRecDepth 100000 in
theorem kX12_swings_0 (l : Launch) (D : va_G) (cI : ClassId) (h0 : Nat) (a : Nat → Nat) (p0 p1 p2 : Int32) : Met l yX12_swings (sw_ws yX12_swings cX12_swings 10 (some .int)) (rm_ 2 43 0 0) (p_R D vwCl [(cI, .int)] [.ref h0, .int p0, .int p1, .int p2] [(h0, .inr (12, (Value.int 0 :: Value.int 0 :: Value.ref (a 0) :: Value.int 0 :: Value.int 0 :: Value.ref (a 1) :: Value.ref (a 2) :: Value.int 0 :: Value.ref (a 3) :: Value.ref (a 4) :: Value.int 0 :: Value.ref (a 5) :: Value.ref (a 6) :: Value.ref (a 7) :: Value.int 0 :: Value.ref (a 8) :: Value.int 0 :: Value.int (-1) :: Value.int 0 :: Value.int 0 :: Value.int 0 :: Value.int 0 :: Value.int (-1) :: Value.ref (a 9) :: Value.ref (a 10) :: Value.ref (a 11) :: Value.int 0 :: Value.ref (a 12) :: Value.ref (a 13) :: Value.ref (a 14) :: Value.ref (a 15) :: Value.int 0 :: Value.int 0 :: Value.int 0 :: Value.int 0 :: Value.int 0 :: Value.int 0 :: Value.int 0 :: Value.int 0 :: Value.ref (a 16) :: Value.ref (a 17) :: Value.ref (a 18) :: Value.ref (a 19) :: Value.int 0 :: Value.int 0 :: Value.int 1 :: Value.ref (a 20) :: Value.int 0 :: [])))]) (q_R (some (.int (-1)))) 0 0 (fun _ => False) := by
  refine Met.ofW (cc := cX12_swings) (maxL := 10) (ret := (some .int)) (by decide) rfl ?_
  intro p e s m args below meth c s₁ B hml hv
  obtain ⟨rfl, hP, hK⟩ := hv
  have hx := B.exec
  have hb := B.bytes
  have hr := B.returns
  have hT := sw_in (atoms_spec (ws := sw_ws yX12_swings cX12_swings 10 (some .int)) B.pre)
  have hown : s.vm.findClass RX12 = some m.cls := findClass_of_methodNamed B.named
  have hlocks := B.notSynchronized
  have hl := lv_entry ([.ref h0, .int p0, .int p1, .int p2]) (n := 10) (Nat.le_of_ble_eq_true rfl)
  rw [lg_entry_eq]
  generalize (lg_sl ([.ref h0, .int p0, .int p1, .int p2]) ++ List.replicate (10 - (lg_sl ([.ref h0, .int p0, .int p1, .int p2])).length) Slot.unset).toArray = ls at hl ⊢
  have hl : lv_has ls 10 [(0, .ref h0), (1, .int p0), (2, .int p1), (3, .int p2)] := hl
  refine lv_aload_n hx hb dX12_swings_0 rfl (lv_at hl 0 rfl) ?_
  refine go_R (v := some (.int 0)) (st1 := [.int 0]) (run_V (As := []) (rest := []) ⟨hx, hb, hml, hown, hT⟩ (kX12_isTotal_0 l D cI h0 a) sw_1650 lkv_X12_isTotal (p_R_V (ci := 12) (q0 := 0) (hP.sub (ws' := [(h0, .inr (12, (Value.int 0 :: Value.int 0 :: Value.ref (a 0) :: Value.int 0 :: Value.int 0 :: Value.ref (a 1) :: Value.ref (a 2) :: Value.int 0 :: Value.ref (a 3) :: Value.ref (a 4) :: Value.int 0 :: Value.ref (a 5) :: Value.ref (a 6) :: Value.ref (a 7) :: Value.int 0 :: Value.ref (a 8) :: Value.int 0 :: Value.int (-1) :: Value.int 0 :: Value.int 0 :: Value.int 0 :: Value.int 0 :: Value.int (-1) :: Value.ref (a 9) :: Value.ref (a 10) :: Value.ref (a 11) :: Value.int 0 :: Value.ref (a 12) :: Value.ref (a 13) :: Value.ref (a 14) :: Value.ref (a 15) :: Value.int 0 :: Value.int 0 :: Value.int 0 :: Value.int 0 :: Value.int 0 :: Value.int 0 :: Value.int 0 :: Value.int 0 :: Value.ref (a 16) :: Value.ref (a 17) :: Value.ref (a 18) :: Value.ref (a 19) :: Value.int 0 :: Value.int 0 :: Value.int 1 :: Value.ref (a 20) :: Value.int 0 :: [])))]) [0] rfl) hK rfl rfl) rfl hl.1 rfl (Nat.le_of_ble_eq_true rfl) dX12_swings_1 ⟨⟨Nat.le_of_ble_eq_true rfl, Nat.le_of_ble_eq_true rfl⟩, Nat.le_of_ble_eq_true rfl, Nat.le_of_ble_eq_true rfl⟩) rfl ?_
  refine lv_if_eq (tgt := 23) hx hb dX12_swings_4 (by decide) (fun _ => ?_) (fun h9 => absurd (by decide) h9)
  refine lv_iconst (v := (-1)) hx hb dX12_swings_23 (by decide) ?_
  exact W.iret (v := (-1)) hx hb hr (fun t ht _ => ⟨rfl, ht⟩) (fun _ h9 => nomatch h9) dX12_swings_24
set_option maxHeartbeats 4000000 in
set_option maxRecDepth 100000 in
theorem kX12_tries_0 (l : Launch) (D : va_G) (cI : ClassId) (h0 : Nat) (a : Nat → Nat) (p0 p1 : Int32) (sz : Nat) : Met l yX12_tries (sw_ws yX12_tries cX12_tries 5 (some .int)) (rm_ 2 43 0 0) (p_M D vwCl [(cI, .int)] [.ref h0, .int p0, .int p1] [(h0, .inr (12, (Value.int 0 :: Value.int 0 :: Value.ref (a 0) :: Value.int 0 :: Value.int 0 :: Value.ref (a 1) :: Value.ref (a 2) :: Value.int 0 :: Value.ref (a 3) :: Value.ref (a 4) :: Value.int 0 :: Value.ref (a 5) :: Value.ref (a 6) :: Value.ref (a 7) :: Value.int 0 :: Value.ref (a 8) :: Value.int 0 :: Value.int (-1) :: Value.int 0 :: Value.int 0 :: Value.int 0 :: Value.int 0 :: Value.int (-1) :: Value.ref (a 9) :: Value.ref (a 10) :: Value.ref (a 11) :: Value.int 0 :: Value.ref (a 12) :: Value.ref (a 13) :: Value.ref (a 14) :: Value.ref (a 15) :: Value.int 0 :: Value.int 0 :: Value.int 0 :: Value.int 0 :: Value.int 0 :: Value.int 0 :: Value.int 0 :: Value.int 0 :: Value.ref (a 16) :: Value.ref (a 17) :: Value.ref (a 18) :: Value.ref (a 19) :: Value.int 0 :: Value.int 0 :: Value.int 1 :: Value.ref (a 20) :: Value.int 0 :: [])))] sz) (q_M D vwCl (some (.int (-1))) (fun u => []) (va_A [(h0, .inr (12, (Value.int 0 :: Value.int 0 :: Value.ref (a 0) :: Value.int 0 :: Value.int 0 :: Value.ref (a 1) :: Value.ref (a 2) :: Value.int 0 :: Value.ref (a 3) :: Value.ref (a 4) :: Value.int 0 :: Value.ref (a 5) :: Value.ref (a 6) :: Value.ref (a 7) :: Value.int 0 :: Value.ref (a 8) :: Value.int 0 :: Value.int (-1) :: Value.int 0 :: Value.int 0 :: Value.int 0 :: Value.int 0 :: Value.int (-1) :: Value.ref (a 9) :: Value.ref (a 10) :: Value.ref (a 11) :: Value.int 0 :: Value.ref (a 12) :: Value.ref (a 13) :: Value.ref (a 14) :: Value.ref (a 15) :: Value.int 0 :: Value.int 0 :: Value.int 0 :: Value.int 0 :: Value.int 0 :: Value.int 0 :: Value.int 0 :: Value.int 0 :: Value.ref (a 16) :: Value.ref (a 17) :: Value.ref (a 18) :: Value.ref (a 19) :: Value.int 0 :: Value.int 0 :: Value.int 1 :: Value.ref (a 20) :: Value.int 0 :: [])))] sz)) 0 0 (va_A [(h0, .inr (12, (Value.int 0 :: Value.int 0 :: Value.ref (a 0) :: Value.int 0 :: Value.int 0 :: Value.ref (a 1) :: Value.ref (a 2) :: Value.int 0 :: Value.ref (a 3) :: Value.ref (a 4) :: Value.int 0 :: Value.ref (a 5) :: Value.ref (a 6) :: Value.ref (a 7) :: Value.int 0 :: Value.ref (a 8) :: Value.int 0 :: Value.int (-1) :: Value.int 0 :: Value.int 0 :: Value.int 0 :: Value.int 0 :: Value.int (-1) :: Value.ref (a 9) :: Value.ref (a 10) :: Value.ref (a 11) :: Value.int 0 :: Value.ref (a 12) :: Value.ref (a 13) :: Value.ref (a 14) :: Value.ref (a 15) :: Value.int 0 :: Value.int 0 :: Value.int 0 :: Value.int 0 :: Value.int 0 :: Value.int 0 :: Value.int 0 :: Value.int 0 :: Value.ref (a 16) :: Value.ref (a 17) :: Value.ref (a 18) :: Value.ref (a 19) :: Value.int 0 :: Value.int 0 :: Value.int 1 :: Value.ref (a 20) :: Value.int 0 :: [])))] sz) := by
  refine Met.ofW (cc := cX12_tries) (maxL := 5) (ret := (some .int)) (by decide) rfl ?_
  intro p e s m args below meth c s₁ B hml hv
  obtain ⟨rfl, hsz, hP, hK, hD0⟩ := hv
  have hx := B.exec
  have hb := B.bytes
  have hr := B.returns
  have hT := sw_in (atoms_spec (ws := sw_ws yX12_tries cX12_tries 5 (some .int)) B.pre)
  have hown : s.vm.findClass RX12 = some m.cls := findClass_of_methodNamed B.named
  have hlocks := B.notSynchronized
  subst hsz
  have hD := hD0.self (sz := s.heap.size)
  generalize hAe : va_A [(h0, .inr (12, (Value.int 0 :: Value.int 0 :: Value.ref (a 0) :: Value.int 0 :: Value.int 0 :: Value.ref (a 1) :: Value.ref (a 2) :: Value.int 0 :: Value.ref (a 3) :: Value.ref (a 4) :: Value.int 0 :: Value.ref (a 5) :: Value.ref (a 6) :: Value.ref (a 7) :: Value.int 0 :: Value.ref (a 8) :: Value.int 0 :: Value.int (-1) :: Value.int 0 :: Value.int 0 :: Value.int 0 :: Value.int 0 :: Value.int (-1) :: Value.ref (a 9) :: Value.ref (a 10) :: Value.ref (a 11) :: Value.int 0 :: Value.ref (a 12) :: Value.ref (a 13) :: Value.ref (a 14) :: Value.ref (a 15) :: Value.int 0 :: Value.int 0 :: Value.int 0 :: Value.int 0 :: Value.int 0 :: Value.int 0 :: Value.int 0 :: Value.int 0 :: Value.ref (a 16) :: Value.ref (a 17) :: Value.ref (a 18) :: Value.ref (a 19) :: Value.int 0 :: Value.int 0 :: Value.int 1 :: Value.ref (a 20) :: Value.int 0 :: [])))] s.heap.size = A at hD ⊢
  have hA : ∀ q : Nat, s.heap.size ≤ q → A q := fun q h => by rw [← hAe]; exact Or.inr h
  have hS : va_S A s.heap s.heap [] := va_S.rf
  have hl := lv_entry ([.ref h0, .int p0, .int p1]) (n := 5) (Nat.le_of_ble_eq_true rfl)
  rw [lg_entry_eq]
  generalize (lg_sl ([.ref h0, .int p0, .int p1]) ++ List.replicate (5 - (lg_sl ([.ref h0, .int p0, .int p1])).length) Slot.unset).toArray = ls at hl ⊢
  have hl : lv_has ls 5 [(0, .ref h0), (1, .int p0), (2, .int p1)] := hl
  refine lv_aload_n hx hb dX12_tries_0 rfl (lv_at hl 0 rfl) ?_
  refine go_M (wc := [(h0, .inr (12, (Value.int 0 :: Value.int 0 :: Value.ref (a 0) :: Value.int 0 :: Value.int 0 :: Value.ref (a 1) :: Value.ref (a 2) :: Value.int 0 :: Value.ref (a 3) :: Value.ref (a 4) :: Value.int 0 :: Value.ref (a 5) :: Value.ref (a 6) :: Value.ref (a 7) :: Value.int 0 :: Value.ref (a 8) :: Value.int 0 :: Value.int (-1) :: Value.int 0 :: Value.int 0 :: Value.int 0 :: Value.int 0 :: Value.int (-1) :: Value.ref (a 9) :: Value.ref (a 10) :: Value.ref (a 11) :: Value.int 0 :: Value.ref (a 12) :: Value.ref (a 13) :: Value.ref (a 14) :: Value.ref (a 15) :: Value.int 0 :: Value.int 0 :: Value.int 0 :: Value.int 0 :: Value.int 0 :: Value.int 0 :: Value.int 0 :: Value.int 0 :: Value.ref (a 16) :: Value.ref (a 17) :: Value.ref (a 18) :: Value.ref (a 19) :: Value.int 0 :: Value.int 0 :: Value.int 1 :: Value.ref (a 20) :: Value.int 0 :: [])))]) (wr := []) (w1 := fun u => [(h0, .inr (12, (Value.int 0 :: Value.int 0 :: Value.ref (a 0) :: Value.int 0 :: Value.int 0 :: Value.ref (a 1) :: Value.ref (a 2) :: Value.int 0 :: Value.ref (a 3) :: Value.ref (a 4) :: Value.int 0 :: Value.ref (a 5) :: Value.ref (a 6) :: Value.ref (a 7) :: Value.int 0 :: Value.ref (a 8) :: Value.int 0 :: Value.int (-1) :: Value.int 0 :: Value.int 0 :: Value.int 0 :: Value.int 0 :: Value.int (-1) :: Value.ref (a 9) :: Value.ref (a 10) :: Value.ref (a 11) :: Value.int 0 :: Value.ref (a 12) :: Value.ref (a 13) :: Value.ref (a 14) :: Value.ref (a 15) :: Value.int 0 :: Value.int 0 :: Value.int 0 :: Value.int 0 :: Value.int 0 :: Value.int 0 :: Value.int 0 :: Value.int 0 :: Value.ref (a 16) :: Value.ref (a 17) :: Value.ref (a 18) :: Value.ref (a 19) :: Value.int 0 :: Value.int 0 :: Value.int 1 :: Value.ref (a 20) :: Value.int 0 :: [])))]) (v := some (.int 0)) (st1 := [.int 0]) hP hD hS hA [0] [] rfl rfl (by decide) (by decide) (by decide) (fun hPc hDc => run_V (As := []) (rest := []) ⟨hx, hb, hml, hown, hT⟩ (kX12_taken_0 l D cI h0 a _) sw_1458 lkv_X12_taken (p_M_V (ci := 12) (q0 := 0) hPc hK hDc rfl rfl) rfl hl.1 rfl (Nat.le_of_ble_eq_true rfl) dX12_tries_1 ⟨⟨Nat.le_of_ble_eq_true rfl, Nat.le_of_ble_eq_true rfl⟩, Nat.le_of_ble_eq_true rfl, Nat.le_of_ble_eq_true rfl⟩) rfl (fun u_1 H locs hP hD hS => ?_)
  have hP : va_P D vwCl [(h0, .inr (12, (Value.int 0 :: Value.int 0 :: Value.ref (a 0) :: Value.int 0 :: Value.int 0 :: Value.ref (a 1) :: Value.ref (a 2) :: Value.int 0 :: Value.ref (a 3) :: Value.ref (a 4) :: Value.int 0 :: Value.ref (a 5) :: Value.ref (a 6) :: Value.ref (a 7) :: Value.int 0 :: Value.ref (a 8) :: Value.int 0 :: Value.int (-1) :: Value.int 0 :: Value.int 0 :: Value.int 0 :: Value.int 0 :: Value.int (-1) :: Value.ref (a 9) :: Value.ref (a 10) :: Value.ref (a 11) :: Value.int 0 :: Value.ref (a 12) :: Value.ref (a 13) :: Value.ref (a 14) :: Value.ref (a 15) :: Value.int 0 :: Value.int 0 :: Value.int 0 :: Value.int 0 :: Value.int 0 :: Value.int 0 :: Value.int 0 :: Value.int 0 :: Value.ref (a 16) :: Value.ref (a 17) :: Value.ref (a 18) :: Value.ref (a 19) :: Value.int 0 :: Value.int 0 :: Value.int 1 :: Value.ref (a 20) :: Value.int 0 :: [])))] H := hP
  have hD : va_D A [(h0, .inr (12, (Value.int 0 :: Value.int 0 :: Value.ref (a 0) :: Value.int 0 :: Value.int 0 :: Value.ref (a 1) :: Value.ref (a 2) :: Value.int 0 :: Value.ref (a 3) :: Value.ref (a 4) :: Value.int 0 :: Value.ref (a 5) :: Value.ref (a 6) :: Value.ref (a 7) :: Value.int 0 :: Value.ref (a 8) :: Value.int 0 :: Value.int (-1) :: Value.int 0 :: Value.int 0 :: Value.int 0 :: Value.int 0 :: Value.int (-1) :: Value.ref (a 9) :: Value.ref (a 10) :: Value.ref (a 11) :: Value.int 0 :: Value.ref (a 12) :: Value.ref (a 13) :: Value.ref (a 14) :: Value.ref (a 15) :: Value.int 0 :: Value.int 0 :: Value.int 0 :: Value.int 0 :: Value.int 0 :: Value.int 0 :: Value.int 0 :: Value.int 0 :: Value.ref (a 16) :: Value.ref (a 17) :: Value.ref (a 18) :: Value.ref (a 19) :: Value.int 0 :: Value.int 0 :: Value.int 1 :: Value.ref (a 20) :: Value.int 0 :: [])))] := hD
  refine lv_istore_n (lv' := [(3, .int 0), (0, .ref h0), (1, .int p0), (2, .int p1)]) hx hb dX12_tries_4 rfl hl (by decide) rfl (fun ls hl => ?_)
  refine lv_aload_n hx hb dX12_tries_5 rfl (lv_at hl 1 rfl) ?_
  refine go_R (v := some (.int 0)) (st1 := [.int 0]) (run_V (As := []) (rest := []) ⟨hx, hb, hml, hown, hT⟩ (kX12_isTotal_0 l D cI h0 a) sw_1650 lkv_X12_isTotal (p_R_V (ci := 12) (q0 := 0) (hP.sub (ws' := [(h0, .inr (12, (Value.int 0 :: Value.int 0 :: Value.ref (a 0) :: Value.int 0 :: Value.int 0 :: Value.ref (a 1) :: Value.ref (a 2) :: Value.int 0 :: Value.ref (a 3) :: Value.ref (a 4) :: Value.int 0 :: Value.ref (a 5) :: Value.ref (a 6) :: Value.ref (a 7) :: Value.int 0 :: Value.ref (a 8) :: Value.int 0 :: Value.int (-1) :: Value.int 0 :: Value.int 0 :: Value.int 0 :: Value.int 0 :: Value.int (-1) :: Value.ref (a 9) :: Value.ref (a 10) :: Value.ref (a 11) :: Value.int 0 :: Value.ref (a 12) :: Value.ref (a 13) :: Value.ref (a 14) :: Value.ref (a 15) :: Value.int 0 :: Value.int 0 :: Value.int 0 :: Value.int 0 :: Value.int 0 :: Value.int 0 :: Value.int 0 :: Value.int 0 :: Value.ref (a 16) :: Value.ref (a 17) :: Value.ref (a 18) :: Value.ref (a 19) :: Value.int 0 :: Value.int 0 :: Value.int 1 :: Value.ref (a 20) :: Value.int 0 :: [])))]) [0] rfl) hK rfl rfl) rfl hl.1 rfl (Nat.le_of_ble_eq_true rfl) dX12_tries_6 ⟨⟨Nat.le_of_ble_eq_true rfl, Nat.le_of_ble_eq_true rfl⟩, Nat.le_of_ble_eq_true rfl, Nat.le_of_ble_eq_true rfl⟩) rfl ?_
  refine lv_if_eq (tgt := 35) hx hb dX12_tries_9 (by decide) (fun _ => ?_) (fun h9 => absurd (by decide) h9)
  refine lv_iconst (v := (-1)) hx hb dX12_tries_35 (by decide) ?_
  have hP9 := hP.sub (ws' := []) [] rfl
  have hD9 := hD.sub (ws' := []) [] (by decide) rfl
  exact W.iret (v := (-1)) hx hb hr (fun t ht _ => ⟨rfl, ⟨(fun k => [].getD k 0, fun k => [].getD k zI), by rw [ht]; exact hP9, hD9⟩, hS.F ht⟩) hS.2.2 dX12_tries_36
set_option maxHeartbeats 4000000 in
set_option maxRecDepth 100000 in
theorem kX12_band_0 (l : Launch) (D : va_G) (cI : ClassId) (h0 : Nat) (a : Nat → Nat) (p0 p1 : Int32) : Met l yX12_band (sw_ws yX12_band cX12_band 5 (some .int)) (rm_ 2 43 0 0) (p_R D vwCl [(cI, .int)] [.ref h0, .int p0, .int p1] [(h0, .inr (12, (Value.int 0 :: Value.int 0 :: Value.ref (a 0) :: Value.int 0 :: Value.int 0 :: Value.ref (a 1) :: Value.ref (a 2) :: Value.int 0 :: Value.ref (a 3) :: Value.ref (a 4) :: Value.int 0 :: Value.ref (a 5) :: Value.ref (a 6) :: Value.ref (a 7) :: Value.int 0 :: Value.ref (a 8) :: Value.int 0 :: Value.int (-1) :: Value.int 0 :: Value.int 0 :: Value.int 0 :: Value.int 0 :: Value.int (-1) :: Value.ref (a 9) :: Value.ref (a 10) :: Value.ref (a 11) :: Value.int 0 :: Value.ref (a 12) :: Value.ref (a 13) :: Value.ref (a 14) :: Value.ref (a 15) :: Value.int 0 :: Value.int 0 :: Value.int 0 :: Value.int 0 :: Value.int 0 :: Value.int 0 :: Value.int 0 :: Value.int 0 :: Value.ref (a 16) :: Value.ref (a 17) :: Value.ref (a 18) :: Value.ref (a 19) :: Value.int 0 :: Value.int 0 :: Value.int 1 :: Value.ref (a 20) :: Value.int 0 :: [])))]) (q_R (some (.int (-1)))) 0 0 (fun _ => False) := by
  refine Met.ofW (cc := cX12_band) (maxL := 5) (ret := (some .int)) (by decide) rfl ?_
  intro p e s m args below meth c s₁ B hml hv
  obtain ⟨rfl, hP, hK⟩ := hv
  have hx := B.exec
  have hb := B.bytes
  have hr := B.returns
  have hT := sw_in (atoms_spec (ws := sw_ws yX12_band cX12_band 5 (some .int)) B.pre)
  have hown : s.vm.findClass RX12 = some m.cls := findClass_of_methodNamed B.named
  have hlocks := B.notSynchronized
  have hl := lv_entry ([.ref h0, .int p0, .int p1]) (n := 5) (Nat.le_of_ble_eq_true rfl)
  rw [lg_entry_eq]
  generalize (lg_sl ([.ref h0, .int p0, .int p1]) ++ List.replicate (5 - (lg_sl ([.ref h0, .int p0, .int p1])).length) Slot.unset).toArray = ls at hl ⊢
  have hl : lv_has ls 5 [(0, .ref h0), (1, .int p0), (2, .int p1)] := hl
  refine lv_aload_n hx hb dX12_band_0 rfl (lv_at hl 0 rfl) ?_
  refine lv_iload_n hx hb dX12_band_1 rfl (lv_at hl 1 rfl) ?_
  refine go_R (v := some (.int 0)) (st1 := [.int 0]) (run_V (As := [.int p0]) (rest := []) ⟨hx, hb, hml, hown, hT⟩ (kX12_isThing_0 l D cI h0 a p0) sw_1598 lkv_X12_isThing (p_R_V (ci := 12) (q0 := 0) (hP.sub (ws' := [(h0, .inr (12, (Value.int 0 :: Value.int 0 :: Value.ref (a 0) :: Value.int 0 :: Value.int 0 :: Value.ref (a 1) :: Value.ref (a 2) :: Value.int 0 :: Value.ref (a 3) :: Value.ref (a 4) :: Value.int 0 :: Value.ref (a 5) :: Value.ref (a 6) :: Value.ref (a 7) :: Value.int 0 :: Value.ref (a 8) :: Value.int 0 :: Value.int (-1) :: Value.int 0 :: Value.int 0 :: Value.int 0 :: Value.int 0 :: Value.int (-1) :: Value.ref (a 9) :: Value.ref (a 10) :: Value.ref (a 11) :: Value.int 0 :: Value.ref (a 12) :: Value.ref (a 13) :: Value.ref (a 14) :: Value.ref (a 15) :: Value.int 0 :: Value.int 0 :: Value.int 0 :: Value.int 0 :: Value.int 0 :: Value.int 0 :: Value.int 0 :: Value.int 0 :: Value.ref (a 16) :: Value.ref (a 17) :: Value.ref (a 18) :: Value.ref (a 19) :: Value.int 0 :: Value.int 0 :: Value.int 1 :: Value.ref (a 20) :: Value.int 0 :: [])))]) [0] rfl) hK rfl rfl) rfl hl.1 rfl (Nat.le_of_ble_eq_true rfl) dX12_band_2 ⟨⟨Nat.le_of_ble_eq_true rfl, Nat.le_of_ble_eq_true rfl⟩, Nat.le_of_ble_eq_true rfl, Nat.le_of_ble_eq_true rfl⟩) rfl ?_
  refine lv_if_eq (tgt := 29) hx hb dX12_band_5 (by decide) (fun _ => ?_) (fun h9 => absurd (by decide) h9)
  refine lv_iconst (v := (-1)) hx hb dX12_band_29 (by decide) ?_
  exact W.iret (v := (-1)) hx hb hr (fun t ht _ => ⟨rfl, ht⟩) (fun _ h9 => nomatch h9) dX12_band_30
set_option maxHeartbeats 4000000 in
set_option maxRecDepth 100000 in
theorem kX12_deals_0 (l : Launch) (D : va_G) (cI : ClassId) (h0 : Nat) (a : Nat → Nat) (p0 : Int32) (sz : Nat) : Met l yX12_deals (sw_ws yX12_deals cX12_deals 3 (some .int)) (rm_ 2 43 0 0) (p_M D vwCl [(cI, .int)] [.ref h0, .int p0] [(h0, .inr (12, (Value.int 0 :: Value.int 0 :: Value.ref (a 0) :: Value.int 0 :: Value.int 0 :: Value.ref (a 1) :: Value.ref (a 2) :: Value.int 0 :: Value.ref (a 3) :: Value.ref (a 4) :: Value.int 0 :: Value.ref (a 5) :: Value.ref (a 6) :: Value.ref (a 7) :: Value.int 0 :: Value.ref (a 8) :: Value.int 0 :: Value.int (-1) :: Value.int 0 :: Value.int 0 :: Value.int 0 :: Value.int 0 :: Value.int (-1) :: Value.ref (a 9) :: Value.ref (a 10) :: Value.ref (a 11) :: Value.int 0 :: Value.ref (a 12) :: Value.ref (a 13) :: Value.ref (a 14) :: Value.ref (a 15) :: Value.int 0 :: Value.int 0 :: Value.int 0 :: Value.int 0 :: Value.int 0 :: Value.int 0 :: Value.int 0 :: Value.int 0 :: Value.ref (a 16) :: Value.ref (a 17) :: Value.ref (a 18) :: Value.ref (a 19) :: Value.int 0 :: Value.int 0 :: Value.int 1 :: Value.ref (a 20) :: Value.int 0 :: [])))] sz) (q_M D vwCl (some (.int (-1))) (fun u => []) (va_A [(h0, .inr (12, (Value.int 0 :: Value.int 0 :: Value.ref (a 0) :: Value.int 0 :: Value.int 0 :: Value.ref (a 1) :: Value.ref (a 2) :: Value.int 0 :: Value.ref (a 3) :: Value.ref (a 4) :: Value.int 0 :: Value.ref (a 5) :: Value.ref (a 6) :: Value.ref (a 7) :: Value.int 0 :: Value.ref (a 8) :: Value.int 0 :: Value.int (-1) :: Value.int 0 :: Value.int 0 :: Value.int 0 :: Value.int 0 :: Value.int (-1) :: Value.ref (a 9) :: Value.ref (a 10) :: Value.ref (a 11) :: Value.int 0 :: Value.ref (a 12) :: Value.ref (a 13) :: Value.ref (a 14) :: Value.ref (a 15) :: Value.int 0 :: Value.int 0 :: Value.int 0 :: Value.int 0 :: Value.int 0 :: Value.int 0 :: Value.int 0 :: Value.int 0 :: Value.ref (a 16) :: Value.ref (a 17) :: Value.ref (a 18) :: Value.ref (a 19) :: Value.int 0 :: Value.int 0 :: Value.int 1 :: Value.ref (a 20) :: Value.int 0 :: [])))] sz)) 0 0 (va_A [(h0, .inr (12, (Value.int 0 :: Value.int 0 :: Value.ref (a 0) :: Value.int 0 :: Value.int 0 :: Value.ref (a 1) :: Value.ref (a 2) :: Value.int 0 :: Value.ref (a 3) :: Value.ref (a 4) :: Value.int 0 :: Value.ref (a 5) :: Value.ref (a 6) :: Value.ref (a 7) :: Value.int 0 :: Value.ref (a 8) :: Value.int 0 :: Value.int (-1) :: Value.int 0 :: Value.int 0 :: Value.int 0 :: Value.int 0 :: Value.int (-1) :: Value.ref (a 9) :: Value.ref (a 10) :: Value.ref (a 11) :: Value.int 0 :: Value.ref (a 12) :: Value.ref (a 13) :: Value.ref (a 14) :: Value.ref (a 15) :: Value.int 0 :: Value.int 0 :: Value.int 0 :: Value.int 0 :: Value.int 0 :: Value.int 0 :: Value.int 0 :: Value.int 0 :: Value.ref (a 16) :: Value.ref (a 17) :: Value.ref (a 18) :: Value.ref (a 19) :: Value.int 0 :: Value.int 0 :: Value.int 1 :: Value.ref (a 20) :: Value.int 0 :: [])))] sz) := by
  refine Met.ofW (cc := cX12_deals) (maxL := 3) (ret := (some .int)) (by decide) rfl ?_
  intro p e s m args below meth c s₁ B hml hv
  obtain ⟨rfl, hsz, hP, hK, hD0⟩ := hv
  have hx := B.exec
  have hb := B.bytes
  have hr := B.returns
  have hT := sw_in (atoms_spec (ws := sw_ws yX12_deals cX12_deals 3 (some .int)) B.pre)
  have hown : s.vm.findClass RX12 = some m.cls := findClass_of_methodNamed B.named
  have hlocks := B.notSynchronized
  subst hsz
  have hD := hD0.self (sz := s.heap.size)
  generalize hAe : va_A [(h0, .inr (12, (Value.int 0 :: Value.int 0 :: Value.ref (a 0) :: Value.int 0 :: Value.int 0 :: Value.ref (a 1) :: Value.ref (a 2) :: Value.int 0 :: Value.ref (a 3) :: Value.ref (a 4) :: Value.int 0 :: Value.ref (a 5) :: Value.ref (a 6) :: Value.ref (a 7) :: Value.int 0 :: Value.ref (a 8) :: Value.int 0 :: Value.int (-1) :: Value.int 0 :: Value.int 0 :: Value.int 0 :: Value.int 0 :: Value.int (-1) :: Value.ref (a 9) :: Value.ref (a 10) :: Value.ref (a 11) :: Value.int 0 :: Value.ref (a 12) :: Value.ref (a 13) :: Value.ref (a 14) :: Value.ref (a 15) :: Value.int 0 :: Value.int 0 :: Value.int 0 :: Value.int 0 :: Value.int 0 :: Value.int 0 :: Value.int 0 :: Value.int 0 :: Value.ref (a 16) :: Value.ref (a 17) :: Value.ref (a 18) :: Value.ref (a 19) :: Value.int 0 :: Value.int 0 :: Value.int 1 :: Value.ref (a 20) :: Value.int 0 :: [])))] s.heap.size = A at hD ⊢
  have hA : ∀ q : Nat, s.heap.size ≤ q → A q := fun q h => by rw [← hAe]; exact Or.inr h
  have hS : va_S A s.heap s.heap [] := va_S.rf
  have hl := lv_entry ([.ref h0, .int p0]) (n := 3) (Nat.le_of_ble_eq_true rfl)
  rw [lg_entry_eq]
  generalize (lg_sl ([.ref h0, .int p0]) ++ List.replicate (3 - (lg_sl ([.ref h0, .int p0])).length) Slot.unset).toArray = ls at hl ⊢
  have hl : lv_has ls 3 [(0, .ref h0), (1, .int p0)] := hl
  refine lv_aload_n hx hb dX12_deals_0 rfl (lv_at hl 0 rfl) ?_
  refine go_M (wc := [(h0, .inr (12, (Value.int 0 :: Value.int 0 :: Value.ref (a 0) :: Value.int 0 :: Value.int 0 :: Value.ref (a 1) :: Value.ref (a 2) :: Value.int 0 :: Value.ref (a 3) :: Value.ref (a 4) :: Value.int 0 :: Value.ref (a 5) :: Value.ref (a 6) :: Value.ref (a 7) :: Value.int 0 :: Value.ref (a 8) :: Value.int 0 :: Value.int (-1) :: Value.int 0 :: Value.int 0 :: Value.int 0 :: Value.int 0 :: Value.int (-1) :: Value.ref (a 9) :: Value.ref (a 10) :: Value.ref (a 11) :: Value.int 0 :: Value.ref (a 12) :: Value.ref (a 13) :: Value.ref (a 14) :: Value.ref (a 15) :: Value.int 0 :: Value.int 0 :: Value.int 0 :: Value.int 0 :: Value.int 0 :: Value.int 0 :: Value.int 0 :: Value.int 0 :: Value.ref (a 16) :: Value.ref (a 17) :: Value.ref (a 18) :: Value.ref (a 19) :: Value.int 0 :: Value.int 0 :: Value.int 1 :: Value.ref (a 20) :: Value.int 0 :: [])))]) (wr := []) (w1 := fun u => [(h0, .inr (12, (Value.int 0 :: Value.int 0 :: Value.ref (a 0) :: Value.int 0 :: Value.int 0 :: Value.ref (a 1) :: Value.ref (a 2) :: Value.int 0 :: Value.ref (a 3) :: Value.ref (a 4) :: Value.int 0 :: Value.ref (a 5) :: Value.ref (a 6) :: Value.ref (a 7) :: Value.int 0 :: Value.ref (a 8) :: Value.int 0 :: Value.int (-1) :: Value.int 0 :: Value.int 0 :: Value.int 0 :: Value.int 0 :: Value.int (-1) :: Value.ref (a 9) :: Value.ref (a 10) :: Value.ref (a 11) :: Value.int 0 :: Value.ref (a 12) :: Value.ref (a 13) :: Value.ref (a 14) :: Value.ref (a 15) :: Value.int 0 :: Value.int 0 :: Value.int 0 :: Value.int 0 :: Value.int 0 :: Value.int 0 :: Value.int 0 :: Value.int 0 :: Value.ref (a 16) :: Value.ref (a 17) :: Value.ref (a 18) :: Value.ref (a 19) :: Value.int 0 :: Value.int 0 :: Value.int 1 :: Value.ref (a 20) :: Value.int 0 :: [])))]) (v := some (.int 0)) (st1 := [.int 0]) hP hD hS hA [0] [] rfl rfl (by decide) (by decide) (by decide) (fun hPc hDc => run_V (As := []) (rest := []) ⟨hx, hb, hml, hown, hT⟩ (kX12_taken_0 l D cI h0 a _) sw_1458 lkv_X12_taken (p_M_V (ci := 12) (q0 := 0) hPc hK hDc rfl rfl) rfl hl.1 rfl (Nat.le_of_ble_eq_true rfl) dX12_deals_1 ⟨⟨Nat.le_of_ble_eq_true rfl, Nat.le_of_ble_eq_true rfl⟩, Nat.le_of_ble_eq_true rfl, Nat.le_of_ble_eq_true rfl⟩) rfl (fun u_1 H locs hP hD hS => ?_)
  have hP : va_P D vwCl [(h0, .inr (12, (Value.int 0 :: Value.int 0 :: Value.ref (a 0) :: Value.int 0 :: Value.int 0 :: Value.ref (a 1) :: Value.ref (a 2) :: Value.int 0 :: Value.ref (a 3) :: Value.ref (a 4) :: Value.int 0 :: Value.ref (a 5) :: Value.ref (a 6) :: Value.ref (a 7) :: Value.int 0 :: Value.ref (a 8) :: Value.int 0 :: Value.int (-1) :: Value.int 0 :: Value.int 0 :: Value.int 0 :: Value.int 0 :: Value.int (-1) :: Value.ref (a 9) :: Value.ref (a 10) :: Value.ref (a 11) :: Value.int 0 :: Value.ref (a 12) :: Value.ref (a 13) :: Value.ref (a 14) :: Value.ref (a 15) :: Value.int 0 :: Value.int 0 :: Value.int 0 :: Value.int 0 :: Value.int 0 :: Value.int 0 :: Value.int 0 :: Value.int 0 :: Value.ref (a 16) :: Value.ref (a 17) :: Value.ref (a 18) :: Value.ref (a 19) :: Value.int 0 :: Value.int 0 :: Value.int 1 :: Value.ref (a 20) :: Value.int 0 :: [])))] H := hP
  have hD : va_D A [(h0, .inr (12, (Value.int 0 :: Value.int 0 :: Value.ref (a 0) :: Value.int 0 :: Value.int 0 :: Value.ref (a 1) :: Value.ref (a 2) :: Value.int 0 :: Value.ref (a 3) :: Value.ref (a 4) :: Value.int 0 :: Value.ref (a 5) :: Value.ref (a 6) :: Value.ref (a 7) :: Value.int 0 :: Value.ref (a 8) :: Value.int 0 :: Value.int (-1) :: Value.int 0 :: Value.int 0 :: Value.int 0 :: Value.int 0 :: Value.int (-1) :: Value.ref (a 9) :: Value.ref (a 10) :: Value.ref (a 11) :: Value.int 0 :: Value.ref (a 12) :: Value.ref (a 13) :: Value.ref (a 14) :: Value.ref (a 15) :: Value.int 0 :: Value.int 0 :: Value.int 0 :: Value.int 0 :: Value.int 0 :: Value.int 0 :: Value.int 0 :: Value.int 0 :: Value.ref (a 16) :: Value.ref (a 17) :: Value.ref (a 18) :: Value.ref (a 19) :: Value.int 0 :: Value.int 0 :: Value.int 1 :: Value.ref (a 20) :: Value.int 0 :: [])))] := hD
  refine lv_istore_n (lv' := [(2, .int 0), (0, .ref h0), (1, .int p0)]) hx hb dX12_deals_4 rfl hl (by decide) rfl (fun ls hl => ?_)
  refine lv_aload_n hx hb dX12_deals_5 rfl (lv_at hl 1 rfl) ?_
  refine go_R (v := some (.int 0)) (st1 := [.int 0]) (run_V (As := []) (rest := []) ⟨hx, hb, hml, hown, hT⟩ (kX12_isTotal_0 l D cI h0 a) sw_1650 lkv_X12_isTotal (p_R_V (ci := 12) (q0 := 0) (hP.sub (ws' := [(h0, .inr (12, (Value.int 0 :: Value.int 0 :: Value.ref (a 0) :: Value.int 0 :: Value.int 0 :: Value.ref (a 1) :: Value.ref (a 2) :: Value.int 0 :: Value.ref (a 3) :: Value.ref (a 4) :: Value.int 0 :: Value.ref (a 5) :: Value.ref (a 6) :: Value.ref (a 7) :: Value.int 0 :: Value.ref (a 8) :: Value.int 0 :: Value.int (-1) :: Value.int 0 :: Value.int 0 :: Value.int 0 :: Value.int 0 :: Value.int (-1) :: Value.ref (a 9) :: Value.ref (a 10) :: Value.ref (a 11) :: Value.int 0 :: Value.ref (a 12) :: Value.ref (a 13) :: Value.ref (a 14) :: Value.ref (a 15) :: Value.int 0 :: Value.int 0 :: Value.int 0 :: Value.int 0 :: Value.int 0 :: Value.int 0 :: Value.int 0 :: Value.int 0 :: Value.ref (a 16) :: Value.ref (a 17) :: Value.ref (a 18) :: Value.ref (a 19) :: Value.int 0 :: Value.int 0 :: Value.int 1 :: Value.ref (a 20) :: Value.int 0 :: [])))]) [0] rfl) hK rfl rfl) rfl hl.1 rfl (Nat.le_of_ble_eq_true rfl) dX12_deals_6 ⟨⟨Nat.le_of_ble_eq_true rfl, Nat.le_of_ble_eq_true rfl⟩, Nat.le_of_ble_eq_true rfl, Nat.le_of_ble_eq_true rfl⟩) rfl ?_
  refine lv_if_eq (tgt := 22) hx hb dX12_deals_9 (by decide) (fun _ => ?_) (fun h9 => absurd (by decide) h9)
  refine lv_iconst (v := (-1)) hx hb dX12_deals_22 (by decide) ?_
  have hP9 := hP.sub (ws' := []) [] rfl
  have hD9 := hD.sub (ws' := []) [] (by decide) rfl
  exact W.iret (v := (-1)) hx hb hr (fun t ht _ => ⟨rfl, ⟨(fun k => [].getD k 0, fun k => [].getD k zI), by rw [ht]; exact hP9, hD9⟩, hS.F ht⟩) hS.2.2 dX12_deals_23
