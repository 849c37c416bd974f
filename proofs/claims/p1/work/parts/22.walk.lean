set_option maxHeartbeats 4000000 in
set_option maxRecDepth 100000 in
theorem kX11_fault_0 (l : Launch) (D : va_G) (cI : ClassId) (h0 : Nat) (a : Nat → Nat) (p0 : Int32) : Met l yX11_fault (sw_ws yX11_fault cX11_fault 2 (some .int)) (rm_ 0 0 0 0) (p_R D vwCl [(cI, .int)] [.ref h0, .int p0] [(h0, .inr (11, (Value.ref (a 0) :: Value.ref (a 1) :: Value.ref (a 2) :: Value.ref (a 3) :: Value.ref (a 4) :: Value.ref (a 5) :: Value.ref (a 6) :: Value.ref (a 7) :: Value.ref (a 8) :: Value.ref (a 9) :: Value.ref (a 10) :: Value.ref (a 11) :: Value.ref (a 12) :: Value.ref (a 13) :: Value.ref (a 14) :: Value.int 0 :: Value.int 0 :: Value.int 0 :: []))), ((a 2), .inr (4, [.ref (a 0), .ref (a 20), .int 0, .int 0, .int 0, .int 0, .int 0, .int 0, .int (-1)]))]) (q_R (some (.int (sp_fault p0)))) 0 0 (fun _ => False) := by
  refine Met.ofW (cc := cX11_fault) (maxL := 2) (ret := (some .int)) (by decide) rfl ?_
  intro p e s m args below meth c s₁ B hml hv
  obtain ⟨rfl, hP, hK⟩ := hv
  have hx := B.exec
  have hb := B.bytes
  have hr := B.returns
  have hT := sw_in (atoms_spec (ws := sw_ws yX11_fault cX11_fault 2 (some .int)) B.pre)
  have hown : s.vm.findClass RX11 = some m.cls := findClass_of_methodNamed B.named
  have hlocks := B.notSynchronized
  have hl := lv_entry ([.ref h0, .int p0]) (n := 2) (Nat.le_of_ble_eq_true rfl)
  rw [lg_entry_eq]
  generalize (lg_sl ([.ref h0, .int p0]) ++ List.replicate (2 - (lg_sl ([.ref h0, .int p0])).length) Slot.unset).toArray = ls at hl ⊢
  have hl : lv_has ls 2 [(0, .ref h0), (1, .int p0)] := hl
  refine lv_iload_n hx hb dX11_fault_0 rfl (lv_at hl 1 rfl) ?_
  refine lv_if_ne (tgt := 12) hx hb dX11_fault_1 (by decide) (fun c_1 => ?_) (fun c_1 => ?_)
  · refine lv_iload_n hx hb dX11_fault_12 rfl (lv_at hl 1 rfl) ?_
    refine lv_iconst (v := 1) hx hb dX11_fault_13 (by decide) ?_
    refine lv_icmp_ne (tgt := 27) hx hb dX11_fault_14 (by decide) (fun c_2 => ?_) (fun c_2 => ?_)
    · refine lv_iconst (v := (-1)) hx hb dX11_fault_27 (by decide) ?_
      refine ct_i (z := sp_fault p0) (pl_4 p0 c_1 c_2) ?_
      exact W.iret (v := sp_fault p0) hx hb hr (fun t ht _ => ⟨rfl, ht⟩) (fun _ h9 => nomatch h9) dX11_fault_28
    · refine lv_aload_n hx hb dX11_fault_17 rfl (lv_at hl 0 rfl) ?_
      refine va_get (D := D) (ci := 11) (v := .ref (a 2)) (C := RX11) (T := TX11) (N := 18) hx hb hT ix_11 hown hK hP 0 rfl rfl 2 (by decide) (hT _ sw_517) (fun _ h9 => h9) rfl dX11_fault_18 ?_
      refine va_getN (D := D) (ci := 4) (v := .int (-1)) (C := RX4) (T := TX4) (N := 9) hx hb hT ix_4 hown hK hP 1 rfl rfl 8 (by decide) (hT _ sw_226) (fun _ h9 => h9) rfl dX11_fault_21 ?_
      refine lv_goto (tgt := 28) hx hb dX11_fault_24 (by decide) ?_
      refine ct_i (z := sp_fault p0) (pl_5 p0 c_1 c_2) ?_
      exact W.iret (v := sp_fault p0) hx hb hr (fun t ht _ => ⟨rfl, ht⟩) (fun _ h9 => nomatch h9) dX11_fault_28
  · refine lv_aload_n hx hb dX11_fault_4 rfl (lv_at hl 0 rfl) ?_
    refine va_get (D := D) (ci := 11) (v := .ref (a 2)) (C := RX11) (T := TX11) (N := 18) hx hb hT ix_11 hown hK hP 0 rfl rfl 2 (by decide) (hT _ sw_517) (fun _ h9 => h9) rfl dX11_fault_5 ?_
    refine va_getN (D := D) (ci := 4) (v := .int 0) (C := RX4) (T := TX4) (N := 9) hx hb hT ix_4 hown hK hP 1 rfl rfl 7 (by decide) (hT _ sw_224) (fun _ h9 => h9) rfl dX11_fault_8 ?_
    refine ct_i (z := sp_fault p0) (pl_6 p0 c_1) ?_
    exact W.iret (v := sp_fault p0) hx hb hr (fun t ht _ => ⟨rfl, ht⟩) (fun _ h9 => nomatch h9) dX11_fault_11
set_option maxHeartbeats 4000000 in
set_option maxRecDepth 100000 in
theorem kX11_has_0 (l : Launch) (D : va_G) (cI : ClassId) (h0 : Nat) (a : Nat → Nat) (p0 : Int32) : Met l yX11_has (sw_ws yX11_has cX11_has 2 (some .int)) (rm_ 0 0 0 0) (p_R D vwCl [(cI, .int)] [.ref h0, .int p0] [(h0, .inr (11, (Value.ref (a 0) :: Value.ref (a 1) :: Value.ref (a 2) :: Value.ref (a 3) :: Value.ref (a 4) :: Value.ref (a 5) :: Value.ref (a 6) :: Value.ref (a 7) :: Value.ref (a 8) :: Value.ref (a 9) :: Value.ref (a 10) :: Value.ref (a 11) :: Value.ref (a 12) :: Value.ref (a 13) :: Value.ref (a 14) :: Value.int 0 :: Value.int 0 :: Value.int 0 :: []))), ((a 1), .inr (3, [.ref (a 16), .ref (a 17), .ref (a 18), .ref (a 19), .int 0, .int 0, .int 0, .int 0])), ((a 11), .inr (6, [.ref (a 44), .int 0, .int 0, .int 0, .int 1]))]) (q_R (some (.int (sp_has p0)))) 0 0 (fun _ => False) := by
  refine Met.ofW (cc := cX11_has) (maxL := 2) (ret := (some .int)) (by decide) rfl ?_
  intro p e s m args below meth c s₁ B hml hv
  obtain ⟨rfl, hP, hK⟩ := hv
  have hx := B.exec
  have hb := B.bytes
  have hr := B.returns
  have hT := sw_in (atoms_spec (ws := sw_ws yX11_has cX11_has 2 (some .int)) B.pre)
  have hown : s.vm.findClass RX11 = some m.cls := findClass_of_methodNamed B.named
  have hlocks := B.notSynchronized
  have hl := lv_entry ([.ref h0, .int p0]) (n := 2) (Nat.le_of_ble_eq_true rfl)
  rw [lg_entry_eq]
  generalize (lg_sl ([.ref h0, .int p0]) ++ List.replicate (2 - (lg_sl ([.ref h0, .int p0])).length) Slot.unset).toArray = ls at hl ⊢
  have hl : lv_has ls 2 [(0, .ref h0), (1, .int p0)] := hl
  refine lv_iload_n hx hb dX11_has_0 rfl (lv_at hl 1 rfl) ?_
  refine lv_bipush (v := 14) hx hb dX11_has_1 (by decide) ?_
  refine lv_icmp_ne (tgt := 14) hx hb dX11_has_3 (by decide) (fun c_1 => ?_) (fun c_1 => ?_)
  · refine lv_iload_n hx hb dX11_has_14 rfl (lv_at hl 1 rfl) ?_
    refine lv_if_lt (tgt := 24) hx hb dX11_has_15 (by decide) (fun c_2 => ?_) (fun c_2 => ?_)
    · refine lv_iconst (v := (-1)) hx hb dX11_has_24 (by decide) ?_
      refine ct_i (z := sp_has p0) (pl_7 p0 c_1 c_2) ?_
      exact W.iret (v := sp_has p0) hx hb hr (fun t ht _ => ⟨rfl, ht⟩) (fun _ h9 => nomatch h9) dX11_has_25
    · refine lv_iload_n hx hb dX11_has_18 rfl (lv_at hl 1 rfl) ?_
      refine lv_bipush (v := 14) hx hb dX11_has_19 (by decide) ?_
      refine lv_icmp_le (tgt := 26) hx hb dX11_has_21 (by decide) (fun c_3 => ?_) (fun c_3 => ?_)
      · refine lv_aload_n hx hb dX11_has_26 rfl (lv_at hl 0 rfl) ?_
        refine va_get (D := D) (ci := 11) (v := .ref (a 1)) (C := RX11) (T := TX11) (N := 18) hx hb hT ix_11 hown hK hP 0 rfl rfl 1 (by decide) (hT _ sw_516) (fun _ h9 => h9) rfl dX11_has_27 ?_
        refine va_getN (D := D) (ci := 3) (v := .int 0) (C := RX3) (T := TX3) (N := 8) hx hb hT ix_3 hown hK hP 1 rfl rfl 4 (by decide) (hT _ sw_180) (fun _ h9 => h9) rfl dX11_has_30 ?_
        refine lv_if_ne (tgt := 38) hx hb dX11_has_33 (by decide) (fun h9 => absurd (by decide) h9) (fun _ => ?_)
        refine lv_iconst (v := 0) hx hb dX11_has_36 (by decide) ?_
        refine ct_i (z := sp_has p0) (pl_8 p0 c_1 c_2 c_3) ?_
        exact W.iret (v := sp_has p0) hx hb hr (fun t ht _ => ⟨rfl, ht⟩) (fun _ h9 => nomatch h9) dX11_has_37
      · refine lv_iconst (v := (-1)) hx hb dX11_has_24 (by decide) ?_
        refine ct_i (z := sp_has p0) (pl_9 p0 c_1 c_2 c_3) ?_
        exact W.iret (v := sp_has p0) hx hb hr (fun t ht _ => ⟨rfl, ht⟩) (fun _ h9 => nomatch h9) dX11_has_25
  · refine lv_aload_n hx hb dX11_has_6 rfl (lv_at hl 0 rfl) ?_
    refine va_get (D := D) (ci := 11) (v := .ref (a 11)) (C := RX11) (T := TX11) (N := 18) hx hb hT ix_11 hown hK hP 0 rfl rfl 11 (by decide) (hT _ sw_526) (fun _ h9 => h9) rfl dX11_has_7 ?_
    refine va_getN (D := D) (ci := 6) (v := .int 1) (C := RX6) (T := TX6) (N := 5) hx hb hT ix_6 hown hK hP 2 rfl rfl 4 (by decide) (hT _ sw_506) (fun _ h9 => h9) rfl dX11_has_10 ?_
    refine ct_i (z := sp_has p0) (pl_10 p0 c_1) ?_
    exact W.iret (v := sp_has p0) hx hb hr (fun t ht _ => ⟨rfl, ht⟩) (fun _ h9 => nomatch h9) dX11_has_13
set_option maxHeartbeats 4000000 in
set_option maxRecDepth 100000 in
theorem kX11_isThing_0 (l : Launch) (D : va_G) (cI : ClassId) (h0 : Nat) (a : Nat → Nat) (p0 : Int32) : Met l yX11_isThing (sw_ws yX11_isThing cX11_isThing 2 (some .boolean)) (rm_ 0 0 0 0) (p_R D vwCl [(cI, .int)] [.ref h0, .int p0] [(h0, .inr (11, (Value.ref (a 0) :: Value.ref (a 1) :: Value.ref (a 2) :: Value.ref (a 3) :: Value.ref (a 4) :: Value.ref (a 5) :: Value.ref (a 6) :: Value.ref (a 7) :: Value.ref (a 8) :: Value.ref (a 9) :: Value.ref (a 10) :: Value.ref (a 11) :: Value.ref (a 12) :: Value.ref (a 13) :: Value.ref (a 14) :: Value.int 0 :: Value.int 0 :: Value.int 0 :: []))), ((a 5), .inr (5, (Value.ref (a 30) :: Value.ref (a 31) :: Value.ref (a 32) :: Value.ref (a 33) :: Value.ref (a 34) :: Value.ref (a 35) :: Value.ref (a 36) :: Value.ref (a 37) :: Value.int 0 :: Value.int 0 :: Value.int 0 :: Value.int 0 :: Value.int 0 :: Value.int 0 :: Value.int 0 :: [])))]) (q_R (some (.int 0))) 0 0 (fun _ => False) := by
  refine Met.ofW (cc := cX11_isThing) (maxL := 2) (ret := (some .boolean)) (by decide) rfl ?_
  intro p e s m args below meth c s₁ B hml hv
  obtain ⟨rfl, hP, hK⟩ := hv
  have hx := B.exec
  have hb := B.bytes
  have hr := B.returns
  have hT := sw_in (atoms_spec (ws := sw_ws yX11_isThing cX11_isThing 2 (some .boolean)) B.pre)
  have hown : s.vm.findClass RX11 = some m.cls := findClass_of_methodNamed B.named
  have hlocks := B.notSynchronized
  have hl := lv_entry ([.ref h0, .int p0]) (n := 2) (Nat.le_of_ble_eq_true rfl)
  rw [lg_entry_eq]
  generalize (lg_sl ([.ref h0, .int p0]) ++ List.replicate (2 - (lg_sl ([.ref h0, .int p0])).length) Slot.unset).toArray = ls at hl ⊢
  have hl : lv_has ls 2 [(0, .ref h0), (1, .int p0)] := hl
  refine lv_iload_n hx hb dX11_isThing_0 rfl (lv_at hl 1 rfl) ?_
  refine lv_if_lt (tgt := 25) hx hb dX11_isThing_1 (by decide) (fun c_1 => ?_) (fun c_1 => ?_)
  · refine lv_iconst (v := 0) hx hb dX11_isThing_25 (by decide) ?_
    exact W.zret (v := 0) hx hb hr (by decide) (fun t ht _ => ⟨rfl, ht⟩) (fun _ h9 => nomatch h9) dX11_isThing_26
  · refine lv_iload_n hx hb dX11_isThing_4 rfl (lv_at hl 1 rfl) ?_
    refine lv_aload_n hx hb dX11_isThing_5 rfl (lv_at hl 0 rfl) ?_
    refine va_get (D := D) (ci := 11) (v := .ref (a 5)) (C := RX11) (T := TX11) (N := 18) hx hb hT ix_11 hown hK hP 0 rfl rfl 5 (by decide) (hT _ sw_520) (fun _ h9 => h9) rfl dX11_isThing_6 ?_
    refine va_getN (D := D) (ci := 5) (v := .int 0) (C := RX5) (T := TX5) (N := 15) hx hb hT ix_5 hown hK hP 1 rfl rfl 8 (by decide) (hT _ sw_345) (fun _ h9 => h9) rfl dX11_isThing_9 ?_
    refine lv_icmp_ge (tgt := 25) hx hb dX11_isThing_12 (by decide) (fun c_2 => ?_) (fun c_2 => ?_)
    · refine lv_iconst (v := 0) hx hb dX11_isThing_25 (by decide) ?_
      exact W.zret (v := 0) hx hb hr (by decide) (fun t ht _ => ⟨rfl, ht⟩) (fun _ h9 => nomatch h9) dX11_isThing_26
    · exact (pl_11 p0 c_1 c_2).elim
set_option maxHeartbeats 4000000 in
set_option maxRecDepth 100000 in
theorem kX11_letter_0 (l : Launch) (D : va_G) (cI : ClassId) (h0 : Nat) (a : Nat → Nat) (p0 p1 : Int32) : Met l yX11_letter (sw_ws yX11_letter cX11_letter 3 (some .int)) (rm_ 1 21 0 0) (p_R D vwCl [(cI, .int)] [.ref h0, .int p0, .int p1] [(h0, .inr (11, (Value.ref (a 0) :: Value.ref (a 1) :: Value.ref (a 2) :: Value.ref (a 3) :: Value.ref (a 4) :: Value.ref (a 5) :: Value.ref (a 6) :: Value.ref (a 7) :: Value.ref (a 8) :: Value.ref (a 9) :: Value.ref (a 10) :: Value.ref (a 11) :: Value.ref (a 12) :: Value.ref (a 13) :: Value.ref (a 14) :: Value.int 0 :: Value.int 0 :: Value.int 0 :: []))), ((a 5), .inr (5, (Value.ref (a 30) :: Value.ref (a 31) :: Value.ref (a 32) :: Value.ref (a 33) :: Value.ref (a 34) :: Value.ref (a 35) :: Value.ref (a 36) :: Value.ref (a 37) :: Value.int 0 :: Value.int 0 :: Value.int 0 :: Value.int 0 :: Value.int 0 :: Value.int 0 :: Value.int 0 :: [])))]) (q_R (some (.int (-1)))) 0 0 (fun _ => False) := by
  refine Met.ofW (cc := cX11_letter) (maxL := 3) (ret := (some .int)) (by decide) rfl ?_
  intro p e s m args below meth c s₁ B hml hv
  obtain ⟨rfl, hP, hK⟩ := hv
  have hx := B.exec
  have hb := B.bytes
  have hr := B.returns
  have hT := sw_in (atoms_spec (ws := sw_ws yX11_letter cX11_letter 3 (some .int)) B.pre)
  have hown : s.vm.findClass RX11 = some m.cls := findClass_of_methodNamed B.named
  have hlocks := B.notSynchronized
  have hl := lv_entry ([.ref h0, .int p0, .int p1]) (n := 3) (Nat.le_of_ble_eq_true rfl)
  rw [lg_entry_eq]
  generalize (lg_sl ([.ref h0, .int p0, .int p1]) ++ List.replicate (3 - (lg_sl ([.ref h0, .int p0, .int p1])).length) Slot.unset).toArray = ls at hl ⊢
  have hl : lv_has ls 3 [(0, .ref h0), (1, .int p0), (2, .int p1)] := hl
  refine lv_aload_n hx hb dX11_letter_0 rfl (lv_at hl 0 rfl) ?_
  refine lv_iload_n hx hb dX11_letter_1 rfl (lv_at hl 1 rfl) ?_
  refine go_R (v := some (.int 0)) (st1 := [.int 0]) (run_V (As := [.int p0]) (rest := []) ⟨hx, hb, hml, hown, hT⟩ (kX11_isThing_0 l D cI h0 a p0) sw_830 lkv_X11_isThing (p_R_V (ci := 11) (q0 := 0) (hP.sub (ws' := [(h0, .inr (11, (Value.ref (a 0) :: Value.ref (a 1) :: Value.ref (a 2) :: Value.ref (a 3) :: Value.ref (a 4) :: Value.ref (a 5) :: Value.ref (a 6) :: Value.ref (a 7) :: Value.ref (a 8) :: Value.ref (a 9) :: Value.ref (a 10) :: Value.ref (a 11) :: Value.ref (a 12) :: Value.ref (a 13) :: Value.ref (a 14) :: Value.int 0 :: Value.int 0 :: Value.int 0 :: []))), ((a 5), .inr (5, (Value.ref (a 30) :: Value.ref (a 31) :: Value.ref (a 32) :: Value.ref (a 33) :: Value.ref (a 34) :: Value.ref (a 35) :: Value.ref (a 36) :: Value.ref (a 37) :: Value.int 0 :: Value.int 0 :: Value.int 0 :: Value.int 0 :: Value.int 0 :: Value.int 0 :: Value.int 0 :: [])))]) [0, 1] rfl) hK rfl rfl) rfl hl.1 rfl (Nat.le_of_ble_eq_true rfl) dX11_letter_2 ⟨⟨Nat.le_of_ble_eq_true rfl, Nat.le_of_ble_eq_true rfl⟩, Nat.le_of_ble_eq_true rfl, Nat.le_of_ble_eq_true rfl⟩) rfl ?_
  refine lv_if_eq (tgt := 24) hx hb dX11_letter_5 (by decide) (fun _ => ?_) (fun h9 => absurd (by decide) h9)
  refine lv_iconst (v := (-1)) hx hb dX11_letter_24 (by decide) ?_
  exact W.iret (v := (-1)) hx hb hr (fun t ht _ => ⟨rfl, ht⟩) (fun _ h9 => nomatch h9) dX11_letter_25
set_option maxHeartbeats 4000000 in
set_option maxRecDepth 100000 in
theorem kX11_thing_0 (l : Launch) (D : va_G) (cI : ClassId) (h0 : Nat) (a : Nat → Nat) (p0 p1 : Int32) : Met l yX11_thing (sw_ws yX11_thing cX11_thing 3 (some .int)) (rm_ 1 21 0 0) (p_R D vwCl [(cI, .int)] [.ref h0, .int p0, .int p1] [(h0, .inr (11, (Value.ref (a 0) :: Value.ref (a 1) :: Value.ref (a 2) :: Value.ref (a 3) :: Value.ref (a 4) :: Value.ref (a 5) :: Value.ref (a 6) :: Value.ref (a 7) :: Value.ref (a 8) :: Value.ref (a 9) :: Value.ref (a 10) :: Value.ref (a 11) :: Value.ref (a 12) :: Value.ref (a 13) :: Value.ref (a 14) :: Value.int 0 :: Value.int 0 :: Value.int 0 :: []))), ((a 5), .inr (5, (Value.ref (a 30) :: Value.ref (a 31) :: Value.ref (a 32) :: Value.ref (a 33) :: Value.ref (a 34) :: Value.ref (a 35) :: Value.ref (a 36) :: Value.ref (a 37) :: Value.int 0 :: Value.int 0 :: Value.int 0 :: Value.int 0 :: Value.int 0 :: Value.int 0 :: Value.int 0 :: [])))]) (q_R (some (.int (-1)))) 0 0 (fun _ => False) := by
  refine Met.ofW (cc := cX11_thing) (maxL := 3) (ret := (some .int)) (by decide) rfl ?_
  intro p e s m args below meth c s₁ B hml hv
  obtain ⟨rfl, hP, hK⟩ := hv
  have hx := B.exec
  have hb := B.bytes
  have hr := B.returns
  have hT := sw_in (atoms_spec (ws := sw_ws yX11_thing cX11_thing 3 (some .int)) B.pre)
  have hown : s.vm.findClass RX11 = some m.cls := findClass_of_methodNamed B.named
  have hlocks := B.notSynchronized
  have hl := lv_entry ([.ref h0, .int p0, .int p1]) (n := 3) (Nat.le_of_ble_eq_true rfl)
  rw [lg_entry_eq]
  generalize (lg_sl ([.ref h0, .int p0, .int p1]) ++ List.replicate (3 - (lg_sl ([.ref h0, .int p0, .int p1])).length) Slot.unset).toArray = ls at hl ⊢
  have hl : lv_has ls 3 [(0, .ref h0), (1, .int p0), (2, .int p1)] := hl
  refine lv_aload_n hx hb dX11_thing_0 rfl (lv_at hl 0 rfl) ?_
  refine lv_iload_n hx hb dX11_thing_1 rfl (lv_at hl 1 rfl) ?_
  refine go_R (v := some (.int 0)) (st1 := [.int 0]) (run_V (As := [.int p0]) (rest := []) ⟨hx, hb, hml, hown, hT⟩ (kX11_isThing_0 l D cI h0 a p0) sw_830 lkv_X11_isThing (p_R_V (ci := 11) (q0 := 0) (hP.sub (ws' := [(h0, .inr (11, (Value.ref (a 0) :: Value.ref (a 1) :: Value.ref (a 2) :: Value.ref (a 3) :: Value.ref (a 4) :: Value.ref (a 5) :: Value.ref (a 6) :: Value.ref (a 7) :: Value.ref (a 8) :: Value.ref (a 9) :: Value.ref (a 10) :: Value.ref (a 11) :: Value.ref (a 12) :: Value.ref (a 13) :: Value.ref (a 14) :: Value.int 0 :: Value.int 0 :: Value.int 0 :: []))), ((a 5), .inr (5, (Value.ref (a 30) :: Value.ref (a 31) :: Value.ref (a 32) :: Value.ref (a 33) :: Value.ref (a 34) :: Value.ref (a 35) :: Value.ref (a 36) :: Value.ref (a 37) :: Value.int 0 :: Value.int 0 :: Value.int 0 :: Value.int 0 :: Value.int 0 :: Value.int 0 :: Value.int 0 :: [])))]) [0, 1] rfl) hK rfl rfl) rfl hl.1 rfl (Nat.le_of_ble_eq_true rfl) dX11_thing_2 ⟨⟨Nat.le_of_ble_eq_true rfl, Nat.le_of_ble_eq_true rfl⟩, Nat.le_of_ble_eq_true rfl, Nat.le_of_ble_eq_true rfl⟩) rfl ?_
  refine lv_if_ne (tgt := 10) hx hb dX11_thing_5 (by decide) (fun h9 => absurd (by decide) h9) (fun _ => ?_)
  refine lv_iconst (v := (-1)) hx hb dX11_thing_8 (by decide) ?_
  exact W.iret (v := (-1)) hx hb hr (fun t ht _ => ⟨rfl, ht⟩) (fun _ h9 => nomatch h9) dX11_thing_9
set_option maxHeartbeats 4000000 in
set_option maxRecDepth 100000 in
theorem kX11_weight_0 (l : Launch) (D : va_G) (cI : ClassId) (h0 : Nat) (a : Nat → Nat) (p0 : Int32) : Met l yX11_weight (sw_ws yX11_weight cX11_weight 8 (some .long)) (rm_ 1 21 0 0) (p_R D vwCl [(cI, .int)] [.ref h0, .int p0] [(h0, .inr (11, (Value.ref (a 0) :: Value.ref (a 1) :: Value.ref (a 2) :: Value.ref (a 3) :: Value.ref (a 4) :: Value.ref (a 5) :: Value.ref (a 6) :: Value.ref (a 7) :: Value.ref (a 8) :: Value.ref (a 9) :: Value.ref (a 10) :: Value.ref (a 11) :: Value.ref (a 12) :: Value.ref (a 13) :: Value.ref (a 14) :: Value.int 0 :: Value.int 0 :: Value.int 0 :: []))), ((a 5), .inr (5, (Value.ref (a 30) :: Value.ref (a 31) :: Value.ref (a 32) :: Value.ref (a 33) :: Value.ref (a 34) :: Value.ref (a 35) :: Value.ref (a 36) :: Value.ref (a 37) :: Value.int 0 :: Value.int 0 :: Value.int 0 :: Value.int 0 :: Value.int 0 :: Value.int 0 :: Value.int 0 :: [])))]) (q_R (some (.long (-1)))) 0 0 (fun _ => False) := by
  refine Met.ofW (cc := cX11_weight) (maxL := 8) (ret := (some .long)) (by decide) rfl ?_
  intro p e s m args below meth c s₁ B hml hv
  obtain ⟨rfl, hP, hK⟩ := hv
  have hx := B.exec
  have hb := B.bytes
  have hr := B.returns
  have hT := sw_in (atoms_spec (ws := sw_ws yX11_weight cX11_weight 8 (some .long)) B.pre)
  have hown : s.vm.findClass RX11 = some m.cls := findClass_of_methodNamed B.named
  have hlocks := B.notSynchronized
  have hl := lv_entry ([.ref h0, .int p0]) (n := 8) (Nat.le_of_ble_eq_true rfl)
  rw [lg_entry_eq]
  generalize (lg_sl ([.ref h0, .int p0]) ++ List.replicate (8 - (lg_sl ([.ref h0, .int p0])).length) Slot.unset).toArray = ls at hl ⊢
  have hl : lv_has ls 8 [(0, .ref h0), (1, .int p0)] := hl
  refine lv_aload_n hx hb dX11_weight_0 rfl (lv_at hl 0 rfl) ?_
  refine lv_iload_n hx hb dX11_weight_1 rfl (lv_at hl 1 rfl) ?_
  refine go_R (v := some (.int 0)) (st1 := [.int 0]) (run_V (As := [.int p0]) (rest := []) ⟨hx, hb, hml, hown, hT⟩ (kX11_isThing_0 l D cI h0 a p0) sw_830 lkv_X11_isThing (p_R_V (ci := 11) (q0 := 0) (hP.sub (ws' := [(h0, .inr (11, (Value.ref (a 0) :: Value.ref (a 1) :: Value.ref (a 2) :: Value.ref (a 3) :: Value.ref (a 4) :: Value.ref (a 5) :: Value.ref (a 6) :: Value.ref (a 7) :: Value.ref (a 8) :: Value.ref (a 9) :: Value.ref (a 10) :: Value.ref (a 11) :: Value.ref (a 12) :: Value.ref (a 13) :: Value.ref (a 14) :: Value.int 0 :: Value.int 0 :: Value.int 0 :: []))), ((a 5), .inr (5, (Value.ref (a 30) :: Value.ref (a 31) :: Value.ref (a 32) :: Value.ref (a 33) :: Value.ref (a 34) :: Value.ref (a 35) :: Value.ref (a 36) :: Value.ref (a 37) :: Value.int 0 :: Value.int 0 :: Value.int 0 :: Value.int 0 :: Value.int 0 :: Value.int 0 :: Value.int 0 :: [])))]) [0, 1] rfl) hK rfl rfl) rfl hl.1 rfl (Nat.le_of_ble_eq_true rfl) dX11_weight_2 ⟨⟨Nat.le_of_ble_eq_true rfl, Nat.le_of_ble_eq_true rfl⟩, Nat.le_of_ble_eq_true rfl, Nat.le_of_ble_eq_true rfl⟩) rfl ?_
  refine lv_if_ne (tgt := 12) hx hb dX11_weight_5 (by decide) (fun h9 => absurd (by decide) h9) (fun _ => ?_)
  refine lv_ldc2 (own := RX11) (v := (-1)) hx hb hown (hT _ sw_847) dX11_weight_8 ?_
  exact W.lret (v := (-1)) hx hb hr (fun t ht _ => ⟨rfl, ht⟩) (fun _ h9 => nomatch h9) dX11_weight_11
set_option maxHeartbeats 4000000 in
set_option maxRecDepth 100000 in
theorem kX5_columns_0 (l : Launch) (D : va_G) (cI : ClassId) (h0 : Nat) (a : Nat → Nat) : Met l yX5_columns (sw_ws yX5_columns cX5_columns 1 (some .int)) (rm_ 0 0 0 0) (p_R D vwCl [(cI, .int)] [.ref (a 5)] [((a 5), .inr (5, (Value.ref (a 30) :: Value.ref (a 31) :: Value.ref (a 32) :: Value.ref (a 33) :: Value.ref (a 34) :: Value.ref (a 35) :: Value.ref (a 36) :: Value.ref (a 37) :: Value.int 0 :: Value.int 0 :: Value.int 0 :: Value.int 0 :: Value.int 0 :: Value.int 0 :: Value.int 0 :: [])))]) (q_R (some (.int 0))) 0 0 (fun _ => False) := by
  refine Met.ofW (cc := cX5_columns) (maxL := 1) (ret := (some .int)) (by decide) rfl ?_
  intro p e s m args below meth c s₁ B hml hv
  obtain ⟨rfl, hP, hK⟩ := hv
  have hx := B.exec
  have hb := B.bytes
  have hr := B.returns
  have hT := sw_in (atoms_spec (ws := sw_ws yX5_columns cX5_columns 1 (some .int)) B.pre)
  have hown : s.vm.findClass RX5 = some m.cls := findClass_of_methodNamed B.named
  have hlocks := B.notSynchronized
  have hl := lv_entry ([.ref (a 5)]) (n := 1) (Nat.le_of_ble_eq_true rfl)
  rw [lg_entry_eq]
  generalize (lg_sl ([.ref (a 5)]) ++ List.replicate (1 - (lg_sl ([.ref (a 5)])).length) Slot.unset).toArray = ls at hl ⊢
  have hl : lv_has ls 1 [(0, .ref (a 5))] := hl
  refine lv_aload_n hx hb dX5_columns_0 rfl (lv_at hl 0 rfl) ?_
  refine va_get (D := D) (ci := 5) (v := .int 0) (C := RX5) (T := TX5) (N := 15) hx hb hT ix_5 hown hK hP 0 rfl rfl 10 (by decide) (hT _ sw_350) (fun _ h9 => h9) rfl dX5_columns_1 ?_
  refine lv_if_le (tgt := 14) hx hb dX5_columns_4 (by decide) (fun _ => ?_) (fun h9 => absurd (by decide) h9)
  refine lv_iconst (v := 0) hx hb dX5_columns_14 (by decide) ?_
  exact W.iret (v := 0) hx hb hr (fun t ht _ => ⟨rfl, ht⟩) (fun _ h9 => nomatch h9) dX5_columns_15
set_option maxHeartbeats 4000000 in
set_option maxRecDepth 100000 in
theorem kX11_column_0 (l : Launch) (D : va_G) (cI : ClassId) (h0 : Nat) (a : Nat → Nat) (p0 p1 : Int32) : Met l yX11_column (sw_ws yX11_column cX11_column 3 (some .int)) (rm_ 1 20 0 0) (p_R D vwCl [(cI, .int)] [.ref h0, .int p0, .int p1] [(h0, .inr (11, (Value.ref (a 0) :: Value.ref (a 1) :: Value.ref (a 2) :: Value.ref (a 3) :: Value.ref (a 4) :: Value.ref (a 5) :: Value.ref (a 6) :: Value.ref (a 7) :: Value.ref (a 8) :: Value.ref (a 9) :: Value.ref (a 10) :: Value.ref (a 11) :: Value.ref (a 12) :: Value.ref (a 13) :: Value.ref (a 14) :: Value.int 0 :: Value.int 0 :: Value.int 0 :: []))), ((a 5), .inr (5, (Value.ref (a 30) :: Value.ref (a 31) :: Value.ref (a 32) :: Value.ref (a 33) :: Value.ref (a 34) :: Value.ref (a 35) :: Value.ref (a 36) :: Value.ref (a 37) :: Value.int 0 :: Value.int 0 :: Value.int 0 :: Value.int 0 :: Value.int 0 :: Value.int 0 :: Value.int 0 :: [])))]) (q_R (some (.int (-1)))) 0 0 (fun _ => False) := by
  refine Met.ofW (cc := cX11_column) (maxL := 3) (ret := (some .int)) (by decide) rfl ?_
  intro p e s m args below meth c s₁ B hml hv
  obtain ⟨rfl, hP, hK⟩ := hv
  have hx := B.exec
  have hb := B.bytes
  have hr := B.returns
  have hT := sw_in (atoms_spec (ws := sw_ws yX11_column cX11_column 3 (some .int)) B.pre)
  have hown : s.vm.findClass RX11 = some m.cls := findClass_of_methodNamed B.named
  have hlocks := B.notSynchronized
  have hl := lv_entry ([.ref h0, .int p0, .int p1]) (n := 3) (Nat.le_of_ble_eq_true rfl)
  rw [lg_entry_eq]
  generalize (lg_sl ([.ref h0, .int p0, .int p1]) ++ List.replicate (3 - (lg_sl ([.ref h0, .int p0, .int p1])).length) Slot.unset).toArray = ls at hl ⊢
  have hl : lv_has ls 3 [(0, .ref h0), (1, .int p0), (2, .int p1)] := hl
  refine lv_iload_n hx hb dX11_column_0 rfl (lv_at hl 1 rfl) ?_
  refine lv_if_lt (tgt := 15) hx hb dX11_column_1 (by decide) (fun c_1 => ?_) (fun c_1 => ?_)
  · refine lv_iconst (v := (-1)) hx hb dX11_column_15 (by decide) ?_
    exact W.iret (v := (-1)) hx hb hr (fun t ht _ => ⟨rfl, ht⟩) (fun _ h9 => nomatch h9) dX11_column_16
  · refine lv_iload_n hx hb dX11_column_4 rfl (lv_at hl 1 rfl) ?_
    refine lv_aload_n hx hb dX11_column_5 rfl (lv_at hl 0 rfl) ?_
    refine va_get (D := D) (ci := 11) (v := .ref (a 5)) (C := RX11) (T := TX11) (N := 18) hx hb hT ix_11 hown hK hP 0 rfl rfl 5 (by decide) (hT _ sw_520) (fun _ h9 => h9) rfl dX11_column_6 ?_
    refine go_R (v := some (.int 0)) (st1 := [.int 0, .int p0]) (run_V (As := []) (rest := [.int p0]) ⟨hx, hb, hml, hown, hT⟩ (kX5_columns_0 l D cI h0 a) sw_854 lkv_X5_columns (p_R_V (ci := 5) (q0 := 0) (hP.sub (ws' := [((a 5), .inr (5, (Value.ref (a 30) :: Value.ref (a 31) :: Value.ref (a 32) :: Value.ref (a 33) :: Value.ref (a 34) :: Value.ref (a 35) :: Value.ref (a 36) :: Value.ref (a 37) :: Value.int 0 :: Value.int 0 :: Value.int 0 :: Value.int 0 :: Value.int 0 :: Value.int 0 :: Value.int 0 :: [])))]) [1] rfl) hK rfl rfl) rfl hl.1 rfl (Nat.le_of_ble_eq_true rfl) dX11_column_9 ⟨⟨Nat.le_of_ble_eq_true rfl, Nat.le_of_ble_eq_true rfl⟩, Nat.le_of_ble_eq_true rfl, Nat.le_of_ble_eq_true rfl⟩) rfl ?_
    refine lv_icmp_lt (tgt := 17) hx hb dX11_column_12 (by decide) (fun c_2 => ?_) (fun c_2 => ?_)
    · exact (pl_12 p0 c_1 c_2).elim
    · refine lv_iconst (v := (-1)) hx hb dX11_column_15 (by decide) ?_
      exact W.iret (v := (-1)) hx hb hr (fun t ht _ => ⟨rfl, ht⟩) (fun _ h9 => nomatch h9) dX11_column_16
set_option maxHeartbeats 4000000 in
set_option maxRecDepth 100000 in
theorem kX11_mass_0 (l : Launch) (D : va_G) (cI : ClassId) (h0 : Nat) (a : Nat → Nat) (p0 : Int32) : Met l yX11_mass (sw_ws yX11_mass cX11_mass 4 (some .int)) (rm_ 1 21 0 0) (p_R D vwCl [(cI, .int)] [.ref h0, .int p0] [(h0, .inr (11, (Value.ref (a 0) :: Value.ref (a 1) :: Value.ref (a 2) :: Value.ref (a 3) :: Value.ref (a 4) :: Value.ref (a 5) :: Value.ref (a 6) :: Value.ref (a 7) :: Value.ref (a 8) :: Value.ref (a 9) :: Value.ref (a 10) :: Value.ref (a 11) :: Value.ref (a 12) :: Value.ref (a 13) :: Value.ref (a 14) :: Value.int 0 :: Value.int 0 :: Value.int 0 :: []))), ((a 5), .inr (5, (Value.ref (a 30) :: Value.ref (a 31) :: Value.ref (a 32) :: Value.ref (a 33) :: Value.ref (a 34) :: Value.ref (a 35) :: Value.ref (a 36) :: Value.ref (a 37) :: Value.int 0 :: Value.int 0 :: Value.int 0 :: Value.int 0 :: Value.int 0 :: Value.int 0 :: Value.int 0 :: [])))]) (q_R (some (.int (-1)))) 0 0 (fun _ => False) := by
  refine Met.ofW (cc := cX11_mass) (maxL := 4) (ret := (some .int)) (by decide) rfl ?_
  intro p e s m args below meth c s₁ B hml hv
  obtain ⟨rfl, hP, hK⟩ := hv
  have hx := B.exec
  have hb := B.bytes
  have hr := B.returns
  have hT := sw_in (atoms_spec (ws := sw_ws yX11_mass cX11_mass 4 (some .int)) B.pre)
  have hown : s.vm.findClass RX11 = some m.cls := findClass_of_methodNamed B.named
  have hlocks := B.notSynchronized
  have hl := lv_entry ([.ref h0, .int p0]) (n := 4) (Nat.le_of_ble_eq_true rfl)
  rw [lg_entry_eq]
  generalize (lg_sl ([.ref h0, .int p0]) ++ List.replicate (4 - (lg_sl ([.ref h0, .int p0])).length) Slot.unset).toArray = ls at hl ⊢
  have hl : lv_has ls 4 [(0, .ref h0), (1, .int p0)] := hl
  refine lv_aload_n hx hb dX11_mass_0 rfl (lv_at hl 0 rfl) ?_
  refine lv_iload_n hx hb dX11_mass_1 rfl (lv_at hl 1 rfl) ?_
  refine go_R (v := some (.int 0)) (st1 := [.int 0]) (run_V (As := [.int p0]) (rest := []) ⟨hx, hb, hml, hown, hT⟩ (kX11_isThing_0 l D cI h0 a p0) sw_830 lkv_X11_isThing (p_R_V (ci := 11) (q0 := 0) (hP.sub (ws' := [(h0, .inr (11, (Value.ref (a 0) :: Value.ref (a 1) :: Value.ref (a 2) :: Value.ref (a 3) :: Value.ref (a 4) :: Value.ref (a 5) :: Value.ref (a 6) :: Value.ref (a 7) :: Value.ref (a 8) :: Value.ref (a 9) :: Value.ref (a 10) :: Value.ref (a 11) :: Value.ref (a 12) :: Value.ref (a 13) :: Value.ref (a 14) :: Value.int 0 :: Value.int 0 :: Value.int 0 :: []))), ((a 5), .inr (5, (Value.ref (a 30) :: Value.ref (a 31) :: Value.ref (a 32) :: Value.ref (a 33) :: Value.ref (a 34) :: Value.ref (a 35) :: Value.ref (a 36) :: Value.ref (a 37) :: Value.int 0 :: Value.int 0 :: Value.int 0 :: Value.int 0 :: Value.int 0 :: Value.int 0 :: Value.int 0 :: [])))]) [0, 1] rfl) hK rfl rfl) rfl hl.1 rfl (Nat.le_of_ble_eq_true rfl) dX11_mass_2 ⟨⟨Nat.le_of_ble_eq_true rfl, Nat.le_of_ble_eq_true rfl⟩, Nat.le_of_ble_eq_true rfl, Nat.le_of_ble_eq_true rfl⟩) rfl ?_
  refine lv_if_eq (tgt := 18) hx hb dX11_mass_5 (by decide) (fun _ => ?_) (fun h9 => absurd (by decide) h9)
  refine lv_iconst (v := (-1)) hx hb dX11_mass_18 (by decide) ?_
  exact W.iret (v := (-1)) hx hb hr (fun t ht _ => ⟨rfl, ht⟩) (fun _ h9 => nomatch h9) dX11_mass_19
set_option maxHeartbeats 4000000 in
set_option maxRecDepth 100000 in
theorem kX5_ranked_0 (l : Launch) (D : va_G) (cI : ClassId) (h0 : Nat) (a : Nat → Nat) (p0 : Int32) : Met l yX5_ranked (sw_ws yX5_ranked cX5_ranked 5 (some .int)) (rm_ 0 0 0 0) (p_R D vwCl [(cI, .int)] [.ref (a 5), .int p0] [((a 5), .inr (5, (Value.ref (a 30) :: Value.ref (a 31) :: Value.ref (a 32) :: Value.ref (a 33) :: Value.ref (a 34) :: Value.ref (a 35) :: Value.ref (a 36) :: Value.ref (a 37) :: Value.int 0 :: Value.int 0 :: Value.int 0 :: Value.int 0 :: Value.int 0 :: Value.int 0 :: Value.int 0 :: [])))]) (q_R (some (.int (-1)))) 0 0 (fun _ => False) := by
  refine Met.ofW (cc := cX5_ranked) (maxL := 5) (ret := (some .int)) (by decide) rfl ?_
  intro p e s m args below meth c s₁ B hml hv
  obtain ⟨rfl, hP, hK⟩ := hv
  have hx := B.exec
  have hb := B.bytes
  have hr := B.returns
  have hT := sw_in (atoms_spec (ws := sw_ws yX5_ranked cX5_ranked 5 (some .int)) B.pre)
  have hown : s.vm.findClass RX5 = some m.cls := findClass_of_methodNamed B.named
  have hlocks := B.notSynchronized
  have hl := lv_entry ([.ref (a 5), .int p0]) (n := 5) (Nat.le_of_ble_eq_true rfl)
  rw [lg_entry_eq]
  generalize (lg_sl ([.ref (a 5), .int p0]) ++ List.replicate (5 - (lg_sl ([.ref (a 5), .int p0])).length) Slot.unset).toArray = ls at hl ⊢
  have hl : lv_has ls 5 [(0, .ref (a 5)), (1, .int p0)] := hl
  refine lv_iconst (v := 0) hx hb dX5_ranked_0 (by decide) ?_
  refine lv_istore_n (lv' := [(2, .int 0), (0, .ref (a 5)), (1, .int p0)]) hx hb dX5_ranked_1 rfl hl (by decide) rfl (fun ls hl => ?_)
  refine lv_iload_n hx hb dX5_ranked_2 rfl (lv_at hl 0 rfl) ?_
  refine lv_aload_n hx hb dX5_ranked_3 rfl (lv_at hl 1 rfl) ?_
  refine va_get (D := D) (ci := 5) (v := .int 0) (C := RX5) (T := TX5) (N := 15) hx hb hT ix_5 hown hK hP 0 rfl rfl 8 (by decide) (hT _ sw_343) (fun _ h9 => h9) rfl dX5_ranked_4 ?_
  refine lv_icmp_ge (tgt := 89) hx hb dX5_ranked_7 (by decide) (fun _ => ?_) (fun h9 => absurd (by decide) h9)
  refine lv_iconst (v := (-1)) hx hb dX5_ranked_89 (by decide) ?_
  exact W.iret (v := (-1)) hx hb hr (fun t ht _ => ⟨rfl, ht⟩) (fun _ h9 => nomatch h9) dX5_ranked_90
set_option maxHeartbeats 4000000 in
set_option maxRecDepth 100000 in
theorem kX11_rank_0 (l : Launch) (D : va_G) (cI : ClassId) (h0 : Nat) (a : Nat → Nat) (p0 : Int32) : Met l yX11_rank (sw_ws yX11_rank cX11_rank 2 (some .int)) (rm_ 1 24 0 0) (p_R D vwCl [(cI, .int)] [.ref h0, .int p0] [(h0, .inr (11, (Value.ref (a 0) :: Value.ref (a 1) :: Value.ref (a 2) :: Value.ref (a 3) :: Value.ref (a 4) :: Value.ref (a 5) :: Value.ref (a 6) :: Value.ref (a 7) :: Value.ref (a 8) :: Value.ref (a 9) :: Value.ref (a 10) :: Value.ref (a 11) :: Value.ref (a 12) :: Value.ref (a 13) :: Value.ref (a 14) :: Value.int 0 :: Value.int 0 :: Value.int 0 :: []))), ((a 5), .inr (5, (Value.ref (a 30) :: Value.ref (a 31) :: Value.ref (a 32) :: Value.ref (a 33) :: Value.ref (a 34) :: Value.ref (a 35) :: Value.ref (a 36) :: Value.ref (a 37) :: Value.int 0 :: Value.int 0 :: Value.int 0 :: Value.int 0 :: Value.int 0 :: Value.int 0 :: Value.int 0 :: [])))]) (q_R (some (.int (-1)))) 0 0 (fun _ => False) := by
  refine Met.ofW (cc := cX11_rank) (maxL := 2) (ret := (some .int)) (by decide) rfl ?_
  intro p e s m args below meth c s₁ B hml hv
  obtain ⟨rfl, hP, hK⟩ := hv
  have hx := B.exec
  have hb := B.bytes
  have hr := B.returns
  have hT := sw_in (atoms_spec (ws := sw_ws yX11_rank cX11_rank 2 (some .int)) B.pre)
  have hown : s.vm.findClass RX11 = some m.cls := findClass_of_methodNamed B.named
  have hlocks := B.notSynchronized
  have hl := lv_entry ([.ref h0, .int p0]) (n := 2) (Nat.le_of_ble_eq_true rfl)
  rw [lg_entry_eq]
  generalize (lg_sl ([.ref h0, .int p0]) ++ List.replicate (2 - (lg_sl ([.ref h0, .int p0])).length) Slot.unset).toArray = ls at hl ⊢
  have hl : lv_has ls 2 [(0, .ref h0), (1, .int p0)] := hl
  refine lv_aload_n hx hb dX11_rank_0 rfl (lv_at hl 0 rfl) ?_
  refine va_get (D := D) (ci := 11) (v := .ref (a 5)) (C := RX11) (T := TX11) (N := 18) hx hb hT ix_11 hown hK hP 0 rfl rfl 5 (by decide) (hT _ sw_520) (fun _ h9 => h9) rfl dX11_rank_1 ?_
  refine lv_iload_n hx hb dX11_rank_4 rfl (lv_at hl 1 rfl) ?_
  refine go_R (v := some (.int (-1))) (st1 := [.int (-1)]) (run_V (As := [.int p0]) (rest := []) ⟨hx, hb, hml, hown, hT⟩ (kX5_ranked_0 l D cI h0 a p0) sw_867 lkv_X5_ranked (p_R_V (ci := 5) (q0 := 0) (hP.sub (ws' := [((a 5), .inr (5, (Value.ref (a 30) :: Value.ref (a 31) :: Value.ref (a 32) :: Value.ref (a 33) :: Value.ref (a 34) :: Value.ref (a 35) :: Value.ref (a 36) :: Value.ref (a 37) :: Value.int 0 :: Value.int 0 :: Value.int 0 :: Value.int 0 :: Value.int 0 :: Value.int 0 :: Value.int 0 :: [])))]) [1] rfl) hK rfl rfl) rfl hl.1 rfl (Nat.le_of_ble_eq_true rfl) dX11_rank_5 ⟨⟨Nat.le_of_ble_eq_true rfl, Nat.le_of_ble_eq_true rfl⟩, Nat.le_of_ble_eq_true rfl, Nat.le_of_ble_eq_true rfl⟩) rfl ?_
  exact W.iret (v := (-1)) hx hb hr (fun t ht _ => ⟨rfl, ht⟩) (fun _ h9 => nomatch h9) dX11_rank_8
set_option maxHeartbeats 4000000 in
set_option maxRecDepth 100000 in
theorem kX11_share_0 (l : Launch) (D : va_G) (cI : ClassId) (h0 : Nat) (a : Nat → Nat) (p0 p1 : Int32) : Met l yX11_share (sw_ws yX11_share cX11_share 3 (some .int)) (rm_ 1 21 0 0) (p_R D vwCl [(cI, .int)] [.ref h0, .int p0, .int p1] [(h0, .inr (11, (Value.ref (a 0) :: Value.ref (a 1) :: Value.ref (a 2) :: Value.ref (a 3) :: Value.ref (a 4) :: Value.ref (a 5) :: Value.ref (a 6) :: Value.ref (a 7) :: Value.ref (a 8) :: Value.ref (a 9) :: Value.ref (a 10) :: Value.ref (a 11) :: Value.ref (a 12) :: Value.ref (a 13) :: Value.ref (a 14) :: Value.int 0 :: Value.int 0 :: Value.int 0 :: []))), ((a 5), .inr (5, (Value.ref (a 30) :: Value.ref (a 31) :: Value.ref (a 32) :: Value.ref (a 33) :: Value.ref (a 34) :: Value.ref (a 35) :: Value.ref (a 36) :: Value.ref (a 37) :: Value.int 0 :: Value.int 0 :: Value.int 0 :: Value.int 0 :: Value.int 0 :: Value.int 0 :: Value.int 0 :: [])))]) (q_R (some (.int (-1)))) 0 0 (fun _ => False) := by
  refine Met.ofW (cc := cX11_share) (maxL := 3) (ret := (some .int)) (by decide) rfl ?_
  intro p e s m args below meth c s₁ B hml hv
  obtain ⟨rfl, hP, hK⟩ := hv
  have hx := B.exec
  have hb := B.bytes
  have hr := B.returns
  have hT := sw_in (atoms_spec (ws := sw_ws yX11_share cX11_share 3 (some .int)) B.pre)
  have hown : s.vm.findClass RX11 = some m.cls := findClass_of_methodNamed B.named
  have hlocks := B.notSynchronized
  have hl := lv_entry ([.ref h0, .int p0, .int p1]) (n := 3) (Nat.le_of_ble_eq_true rfl)
  rw [lg_entry_eq]
  generalize (lg_sl ([.ref h0, .int p0, .int p1]) ++ List.replicate (3 - (lg_sl ([.ref h0, .int p0, .int p1])).length) Slot.unset).toArray = ls at hl ⊢
  have hl : lv_has ls 3 [(0, .ref h0), (1, .int p0), (2, .int p1)] := hl
  refine lv_aload_n hx hb dX11_share_0 rfl (lv_at hl 0 rfl) ?_
  refine lv_iload_n hx hb dX11_share_1 rfl (lv_at hl 1 rfl) ?_
  refine go_R (v := some (.int 0)) (st1 := [.int 0]) (run_V (As := [.int p0]) (rest := []) ⟨hx, hb, hml, hown, hT⟩ (kX11_isThing_0 l D cI h0 a p0) sw_830 lkv_X11_isThing (p_R_V (ci := 11) (q0 := 0) (hP.sub (ws' := [(h0, .inr (11, (Value.ref (a 0) :: Value.ref (a 1) :: Value.ref (a 2) :: Value.ref (a 3) :: Value.ref (a 4) :: Value.ref (a 5) :: Value.ref (a 6) :: Value.ref (a 7) :: Value.ref (a 8) :: Value.ref (a 9) :: Value.ref (a 10) :: Value.ref (a 11) :: Value.ref (a 12) :: Value.ref (a 13) :: Value.ref (a 14) :: Value.int 0 :: Value.int 0 :: Value.int 0 :: []))), ((a 5), .inr (5, (Value.ref (a 30) :: Value.ref (a 31) :: Value.ref (a 32) :: Value.ref (a 33) :: Value.ref (a 34) :: Value.ref (a 35) :: Value.ref (a 36) :: Value.ref (a 37) :: Value.int 0 :: Value.int 0 :: Value.int 0 :: Value.int 0 :: Value.int 0 :: Value.int 0 :: Value.int 0 :: [])))]) [0, 1] rfl) hK rfl rfl) rfl hl.1 rfl (Nat.le_of_ble_eq_true rfl) dX11_share_2 ⟨⟨Nat.le_of_ble_eq_true rfl, Nat.le_of_ble_eq_true rfl⟩, Nat.le_of_ble_eq_true rfl, Nat.le_of_ble_eq_true rfl⟩) rfl ?_
  refine lv_if_eq (tgt := 31) hx hb dX11_share_5 (by decide) (fun _ => ?_) (fun h9 => absurd (by decide) h9)
  refine lv_iconst (v := (-1)) hx hb dX11_share_31 (by decide) ?_
  exact W.iret (v := (-1)) hx hb hr (fun t ht _ => ⟨rfl, ht⟩) (fun _ h9 => nomatch h9) dX11_share_32
set_option maxHeartbeats 4000000 in
set_option maxRecDepth 100000 in
theorem kX11_lowest_0 (l : Launch) (D : va_G) (cI : ClassId) (h0 : Nat) (a : Nat → Nat) (p0 : Int32) : Met l yX11_lowest (sw_ws yX11_lowest cX11_lowest 4 (some .int)) (rm_ 0 0 0 0) (p_R D vwCl [(cI, .int)] [.int 0, .int 0, .int p0] []) (q_R (some (.int (-1)))) 0 0 (fun _ => False) := by
  refine Met.ofW (cc := cX11_lowest) (maxL := 4) (ret := (some .int)) (by decide) rfl ?_
  intro p e s m args below meth c s₁ B hml hv
  obtain ⟨rfl, hP, hK⟩ := hv
  have hx := B.exec
  have hb := B.bytes
  have hr := B.returns
  have hT := sw_in (atoms_spec (ws := sw_ws yX11_lowest cX11_lowest 4 (some .int)) B.pre)
  have hown : s.vm.findClass RX11 = some m.cls := findClass_of_methodNamed B.named
  have hlocks := B.notSynchronized
  have hl := lv_entry ([.int 0, .int 0, .int p0]) (n := 4) (Nat.le_of_ble_eq_true rfl)
  rw [lg_entry_eq]
  generalize (lg_sl ([.int 0, .int 0, .int p0]) ++ List.replicate (4 - (lg_sl ([.int 0, .int 0, .int p0])).length) Slot.unset).toArray = ls at hl ⊢
  have hl : lv_has ls 4 [(0, .int 0), (1, .int 0), (2, .int p0)] := hl
  refine lv_iload_n hx hb dX11_lowest_0 rfl (lv_at hl 1 rfl) ?_
  refine lv_if_le (tgt := 13) hx hb dX11_lowest_1 (by decide) (fun _ => ?_) (fun h9 => absurd (by decide) h9)
  refine lv_iconst (v := (-1)) hx hb dX11_lowest_13 (by decide) ?_
  exact W.iret (v := (-1)) hx hb hr (fun t ht _ => ⟨rfl, ht⟩) (fun _ h9 => nomatch h9) dX11_lowest_14
set_option maxHeartbeats 4000000 in
set_option maxRecDepth 100000 in
theorem kX11_goes_0 (l : Launch) (D : va_G) (cI : ClassId) (h0 : Nat) (a : Nat → Nat) (p0 : Int32) : Met l yX11_goes (sw_ws yX11_goes cX11_goes 2 (some .int)) (rm_ 1 23 0 0) (p_R D vwCl [(cI, .int)] [.ref h0, .int p0] [(h0, .inr (11, (Value.ref (a 0) :: Value.ref (a 1) :: Value.ref (a 2) :: Value.ref (a 3) :: Value.ref (a 4) :: Value.ref (a 5) :: Value.ref (a 6) :: Value.ref (a 7) :: Value.ref (a 8) :: Value.ref (a 9) :: Value.ref (a 10) :: Value.ref (a 11) :: Value.ref (a 12) :: Value.ref (a 13) :: Value.ref (a 14) :: Value.int 0 :: Value.int 0 :: Value.int 0 :: []))), ((a 5), .inr (5, (Value.ref (a 30) :: Value.ref (a 31) :: Value.ref (a 32) :: Value.ref (a 33) :: Value.ref (a 34) :: Value.ref (a 35) :: Value.ref (a 36) :: Value.ref (a 37) :: Value.int 0 :: Value.int 0 :: Value.int 0 :: Value.int 0 :: Value.int 0 :: Value.int 0 :: Value.int 0 :: [])))]) (q_R (some (.int (-1)))) 0 0 (fun _ => False) := by
  refine Met.ofW (cc := cX11_goes) (maxL := 2) (ret := (some .int)) (by decide) rfl ?_
  intro p e s m args below meth c s₁ B hml hv
  obtain ⟨rfl, hP, hK⟩ := hv
  have hx := B.exec
  have hb := B.bytes
  have hr := B.returns
  have hT := sw_in (atoms_spec (ws := sw_ws yX11_goes cX11_goes 2 (some .int)) B.pre)
  have hown : s.vm.findClass RX11 = some m.cls := findClass_of_methodNamed B.named
  have hlocks := B.notSynchronized
  have hl := lv_entry ([.ref h0, .int p0]) (n := 2) (Nat.le_of_ble_eq_true rfl)
  rw [lg_entry_eq]
  generalize (lg_sl ([.ref h0, .int p0]) ++ List.replicate (2 - (lg_sl ([.ref h0, .int p0])).length) Slot.unset).toArray = ls at hl ⊢
  have hl : lv_has ls 2 [(0, .ref h0), (1, .int p0)] := hl
  refine lv_aload_n hx hb dX11_goes_0 rfl (lv_at hl 0 rfl) ?_
  refine va_get (D := D) (ci := 11) (v := .ref (a 5)) (C := RX11) (T := TX11) (N := 18) hx hb hT ix_11 hown hK hP 0 rfl rfl 5 (by decide) (hT _ sw_520) (fun _ h9 => h9) rfl dX11_goes_1 ?_
  refine va_getN (D := D) (ci := 5) (v := .int 0) (C := RX5) (T := TX5) (N := 15) hx hb hT ix_5 hown hK hP 1 rfl rfl 10 (by decide) (hT _ sw_352) (fun _ h9 => h9) rfl dX11_goes_4 ?_
  refine lv_aload_n hx hb dX11_goes_7 rfl (lv_at hl 0 rfl) ?_
  refine va_get (D := D) (ci := 11) (v := .ref (a 5)) (C := RX11) (T := TX11) (N := 18) hx hb hT ix_11 hown hK hP 0 rfl rfl 5 (by decide) (hT _ sw_520) (fun _ h9 => h9) rfl dX11_goes_8 ?_
  refine va_getN (D := D) (ci := 5) (v := .int 0) (C := RX5) (T := TX5) (N := 15) hx hb hT ix_5 hown hK hP 1 rfl rfl 11 (by decide) (hT _ sw_355) (fun _ h9 => h9) rfl dX11_goes_11 ?_
  refine lv_iadd hx hb dX11_goes_14 ?_
  refine ct_i (z := 0) (by decide) ?_
  refine lv_aload_n hx hb dX11_goes_15 rfl (lv_at hl 0 rfl) ?_
  refine va_get (D := D) (ci := 11) (v := .ref (a 5)) (C := RX11) (T := TX11) (N := 18) hx hb hT ix_11 hown hK hP 0 rfl rfl 5 (by decide) (hT _ sw_520) (fun _ h9 => h9) rfl dX11_goes_16 ?_
  refine va_getN (D := D) (ci := 5) (v := .int 0) (C := RX5) (T := TX5) (N := 15) hx hb hT ix_5 hown hK hP 1 rfl rfl 9 (by decide) (hT _ sw_349) (fun _ h9 => h9) rfl dX11_goes_19 ?_
  refine lv_iload_n hx hb dX11_goes_22 rfl (lv_at hl 1 rfl) ?_
  refine go_R (v := some (.int (-1))) (st1 := [.int (-1)]) (run_S (As := [.int 0, .int 0, .int p0]) (rest := []) ⟨hx, hb, hml, hown, hT⟩ (kX11_lowest_0 l D cI h0 a p0) sw_875 lks_X11_lowest (p_R_S (hP.sub (ws' := []) [] rfl) hK) rfl hl.1 rfl (Nat.le_of_ble_eq_true rfl) dX11_goes_23 ⟨⟨Nat.le_of_ble_eq_true rfl, Nat.le_of_ble_eq_true rfl⟩, Nat.le_of_ble_eq_true rfl, Nat.le_of_ble_eq_true rfl⟩) rfl ?_
  exact W.iret (v := (-1)) hx hb hr (fun t ht _ => ⟨rfl, ht⟩) (fun _ h9 => nomatch h9) dX11_goes_26
set_option maxHeartbeats 4000000 in
set_option maxRecDepth 100000 in
theorem kX11_would_0 (l : Launch) (D : va_G) (cI : ClassId) (h0 : Nat) (a : Nat → Nat) (p0 p1 p2 p3 : Int32) : Met l yX11_would (sw_ws yX11_would cX11_would 6 (some .int)) (rm_ 1 21 0 0) (p_R D vwCl [(cI, .int)] [.ref h0, .int p0, .int p1, .int p2, .int p3] [(h0, .inr (11, (Value.ref (a 0) :: Value.ref (a 1) :: Value.ref (a 2) :: Value.ref (a 3) :: Value.ref (a 4) :: Value.ref (a 5) :: Value.ref (a 6) :: Value.ref (a 7) :: Value.ref (a 8) :: Value.ref (a 9) :: Value.ref (a 10) :: Value.ref (a 11) :: Value.ref (a 12) :: Value.ref (a 13) :: Value.ref (a 14) :: Value.int 0 :: Value.int 0 :: Value.int 0 :: []))), ((a 5), .inr (5, (Value.ref (a 30) :: Value.ref (a 31) :: Value.ref (a 32) :: Value.ref (a 33) :: Value.ref (a 34) :: Value.ref (a 35) :: Value.ref (a 36) :: Value.ref (a 37) :: Value.int 0 :: Value.int 0 :: Value.int 0 :: Value.int 0 :: Value.int 0 :: Value.int 0 :: Value.int 0 :: [])))]) (q_R (some (.int (-1)))) 0 0 (fun _ => False) := by
  refine Met.ofW (cc := cX11_would) (maxL := 6) (ret := (some .int)) (by decide) rfl ?_
  intro p e s m args below meth c s₁ B hml hv
  obtain ⟨rfl, hP, hK⟩ := hv
  have hx := B.exec
  have hb := B.bytes
  have hr := B.returns
  have hT := sw_in (atoms_spec (ws := sw_ws yX11_would cX11_would 6 (some .int)) B.pre)
  have hown : s.vm.findClass RX11 = some m.cls := findClass_of_methodNamed B.named
  have hlocks := B.notSynchronized
  have hl := lv_entry ([.ref h0, .int p0, .int p1, .int p2, .int p3]) (n := 6) (Nat.le_of_ble_eq_true rfl)
  rw [lg_entry_eq]
  generalize (lg_sl ([.ref h0, .int p0, .int p1, .int p2, .int p3]) ++ List.replicate (6 - (lg_sl ([.ref h0, .int p0, .int p1, .int p2, .int p3])).length) Slot.unset).toArray = ls at hl ⊢
  have hl : lv_has ls 6 [(0, .ref h0), (1, .int p0), (2, .int p1), (3, .int p2), (4, .int p3)] := hl
  refine lv_aload_n hx hb dX11_would_0 rfl (lv_at hl 0 rfl) ?_
  refine lv_iload_n hx hb dX11_would_1 rfl (lv_at hl 1 rfl) ?_
  refine go_R (v := some (.int 0)) (st1 := [.int 0]) (run_V (As := [.int p0]) (rest := []) ⟨hx, hb, hml, hown, hT⟩ (kX11_isThing_0 l D cI h0 a p0) sw_830 lkv_X11_isThing (p_R_V (ci := 11) (q0 := 0) (hP.sub (ws' := [(h0, .inr (11, (Value.ref (a 0) :: Value.ref (a 1) :: Value.ref (a 2) :: Value.ref (a 3) :: Value.ref (a 4) :: Value.ref (a 5) :: Value.ref (a 6) :: Value.ref (a 7) :: Value.ref (a 8) :: Value.ref (a 9) :: Value.ref (a 10) :: Value.ref (a 11) :: Value.ref (a 12) :: Value.ref (a 13) :: Value.ref (a 14) :: Value.int 0 :: Value.int 0 :: Value.int 0 :: []))), ((a 5), .inr (5, (Value.ref (a 30) :: Value.ref (a 31) :: Value.ref (a 32) :: Value.ref (a 33) :: Value.ref (a 34) :: Value.ref (a 35) :: Value.ref (a 36) :: Value.ref (a 37) :: Value.int 0 :: Value.int 0 :: Value.int 0 :: Value.int 0 :: Value.int 0 :: Value.int 0 :: Value.int 0 :: [])))]) [0, 1] rfl) hK rfl rfl) rfl hl.1 rfl (Nat.le_of_ble_eq_true rfl) dX11_would_2 ⟨⟨Nat.le_of_ble_eq_true rfl, Nat.le_of_ble_eq_true rfl⟩, Nat.le_of_ble_eq_true rfl, Nat.le_of_ble_eq_true rfl⟩) rfl ?_
  refine lv_if_eq (tgt := 23) hx hb dX11_would_5 (by decide) (fun _ => ?_) (fun h9 => absurd (by decide) h9)
  refine lv_iconst (v := (-1)) hx hb dX11_would_23 (by decide) ?_
  exact W.iret (v := (-1)) hx hb hr (fun t ht _ => ⟨rfl, ht⟩) (fun _ h9 => nomatch h9) dX11_would_24
set_option maxHeartbeats 4000000 in
set_option maxRecDepth 100000 in
theorem kX11_needs_0 (l : Launch) (D : va_G) (cI : ClassId) (h0 : Nat) (a : Nat → Nat) (p0 p1 p2 : Int32) : Met l yX11_needs (sw_ws yX11_needs cX11_needs 8 (some .int)) (rm_ 1 21 0 0) (p_R D vwCl [(cI, .int)] [.ref h0, .int p0, .int p1, .int p2] [(h0, .inr (11, (Value.ref (a 0) :: Value.ref (a 1) :: Value.ref (a 2) :: Value.ref (a 3) :: Value.ref (a 4) :: Value.ref (a 5) :: Value.ref (a 6) :: Value.ref (a 7) :: Value.ref (a 8) :: Value.ref (a 9) :: Value.ref (a 10) :: Value.ref (a 11) :: Value.ref (a 12) :: Value.ref (a 13) :: Value.ref (a 14) :: Value.int 0 :: Value.int 0 :: Value.int 0 :: []))), ((a 5), .inr (5, (Value.ref (a 30) :: Value.ref (a 31) :: Value.ref (a 32) :: Value.ref (a 33) :: Value.ref (a 34) :: Value.ref (a 35) :: Value.ref (a 36) :: Value.ref (a 37) :: Value.int 0 :: Value.int 0 :: Value.int 0 :: Value.int 0 :: Value.int 0 :: Value.int 0 :: Value.int 0 :: [])))]) (q_R (some (.int (-1)))) 0 0 (fun _ => False) := by
  refine Met.ofW (cc := cX11_needs) (maxL := 8) (ret := (some .int)) (by decide) rfl ?_
  intro p e s m args below meth c s₁ B hml hv
  obtain ⟨rfl, hP, hK⟩ := hv
  have hx := B.exec
  have hb := B.bytes
  have hr := B.returns
  have hT := sw_in (atoms_spec (ws := sw_ws yX11_needs cX11_needs 8 (some .int)) B.pre)
  have hown : s.vm.findClass RX11 = some m.cls := findClass_of_methodNamed B.named
  have hlocks := B.notSynchronized
  have hl := lv_entry ([.ref h0, .int p0, .int p1, .int p2]) (n := 8) (Nat.le_of_ble_eq_true rfl)
  rw [lg_entry_eq]
  generalize (lg_sl ([.ref h0, .int p0, .int p1, .int p2]) ++ List.replicate (8 - (lg_sl ([.ref h0, .int p0, .int p1, .int p2])).length) Slot.unset).toArray = ls at hl ⊢
  have hl : lv_has ls 8 [(0, .ref h0), (1, .int p0), (2, .int p1), (3, .int p2)] := hl
  refine lv_aload_n hx hb dX11_needs_0 rfl (lv_at hl 0 rfl) ?_
  refine lv_iload_n hx hb dX11_needs_1 rfl (lv_at hl 1 rfl) ?_
  refine go_R (v := some (.int 0)) (st1 := [.int 0]) (run_V (As := [.int p0]) (rest := []) ⟨hx, hb, hml, hown, hT⟩ (kX11_isThing_0 l D cI h0 a p0) sw_830 lkv_X11_isThing (p_R_V (ci := 11) (q0 := 0) (hP.sub (ws' := [(h0, .inr (11, (Value.ref (a 0) :: Value.ref (a 1) :: Value.ref (a 2) :: Value.ref (a 3) :: Value.ref (a 4) :: Value.ref (a 5) :: Value.ref (a 6) :: Value.ref (a 7) :: Value.ref (a 8) :: Value.ref (a 9) :: Value.ref (a 10) :: Value.ref (a 11) :: Value.ref (a 12) :: Value.ref (a 13) :: Value.ref (a 14) :: Value.int 0 :: Value.int 0 :: Value.int 0 :: []))), ((a 5), .inr (5, (Value.ref (a 30) :: Value.ref (a 31) :: Value.ref (a 32) :: Value.ref (a 33) :: Value.ref (a 34) :: Value.ref (a 35) :: Value.ref (a 36) :: Value.ref (a 37) :: Value.int 0 :: Value.int 0 :: Value.int 0 :: Value.int 0 :: Value.int 0 :: Value.int 0 :: Value.int 0 :: [])))]) [0, 1] rfl) hK rfl rfl) rfl hl.1 rfl (Nat.le_of_ble_eq_true rfl) dX11_needs_2 ⟨⟨Nat.le_of_ble_eq_true rfl, Nat.le_of_ble_eq_true rfl⟩, Nat.le_of_ble_eq_true rfl, Nat.le_of_ble_eq_true rfl⟩) rfl ?_
  refine lv_if_eq (tgt := 21) hx hb dX11_needs_5 (by decide) (fun _ => ?_) (fun h9 => absurd (by decide) h9)
  refine lv_iconst (v := (-1)) hx hb dX11_needs_21 (by decide) ?_
  exact W.iret (v := (-1)) hx hb hr (fun t ht _ => ⟨rfl, ht⟩) (fun _ h9 => nomatch h9) dX11_needs_22
set_option maxHeartbeats 4000000 in
set_option maxRecDepth 100000 in
theorem kX11_merges_0 (l : Launch) (D : va_G) (cI : ClassId) (h0 : Nat) (a : Nat → Nat) (p0 p1 : Int32) : Met l yX11_merges (sw_ws yX11_merges cX11_merges 6 (some .int)) (rm_ 1 21 0 0) (p_R D vwCl [(cI, .int)] [.ref h0, .int p0, .int p1] [(h0, .inr (11, (Value.ref (a 0) :: Value.ref (a 1) :: Value.ref (a 2) :: Value.ref (a 3) :: Value.ref (a 4) :: Value.ref (a 5) :: Value.ref (a 6) :: Value.ref (a 7) :: Value.ref (a 8) :: Value.ref (a 9) :: Value.ref (a 10) :: Value.ref (a 11) :: Value.ref (a 12) :: Value.ref (a 13) :: Value.ref (a 14) :: Value.int 0 :: Value.int 0 :: Value.int 0 :: []))), ((a 5), .inr (5, (Value.ref (a 30) :: Value.ref (a 31) :: Value.ref (a 32) :: Value.ref (a 33) :: Value.ref (a 34) :: Value.ref (a 35) :: Value.ref (a 36) :: Value.ref (a 37) :: Value.int 0 :: Value.int 0 :: Value.int 0 :: Value.int 0 :: Value.int 0 :: Value.int 0 :: Value.int 0 :: [])))]) (q_R (some (.int (-1)))) 0 0 (fun _ => False) := by
  refine Met.ofW (cc := cX11_merges) (maxL := 6) (ret := (some .int)) (by decide) rfl ?_
  intro p e s m args below meth c s₁ B hml hv
  obtain ⟨rfl, hP, hK⟩ := hv
  have hx := B.exec
  have hb := B.bytes
  have hr := B.returns
  have hT := sw_in (atoms_spec (ws := sw_ws yX11_merges cX11_merges 6 (some .int)) B.pre)
  have hown : s.vm.findClass RX11 = some m.cls := findClass_of_methodNamed B.named
  have hlocks := B.notSynchronized
  have hl := lv_entry ([.ref h0, .int p0, .int p1]) (n := 6) (Nat.le_of_ble_eq_true rfl)
  rw [lg_entry_eq]
  generalize (lg_sl ([.ref h0, .int p0, .int p1]) ++ List.replicate (6 - (lg_sl ([.ref h0, .int p0, .int p1])).length) Slot.unset).toArray = ls at hl ⊢
  have hl : lv_has ls 6 [(0, .ref h0), (1, .int p0), (2, .int p1)] := hl
  refine lv_aload_n hx hb dX11_merges_0 rfl (lv_at hl 0 rfl) ?_
  refine lv_iload_n hx hb dX11_merges_1 rfl (lv_at hl 1 rfl) ?_
  refine go_R (v := some (.int 0)) (st1 := [.int 0]) (run_V (As := [.int p0]) (rest := []) ⟨hx, hb, hml, hown, hT⟩ (kX11_isThing_0 l D cI h0 a p0) sw_830 lkv_X11_isThing (p_R_V (ci := 11) (q0 := 0) (hP.sub (ws' := [(h0, .inr (11, (Value.ref (a 0) :: Value.ref (a 1) :: Value.ref (a 2) :: Value.ref (a 3) :: Value.ref (a 4) :: Value.ref (a 5) :: Value.ref (a 6) :: Value.ref (a 7) :: Value.ref (a 8) :: Value.ref (a 9) :: Value.ref (a 10) :: Value.ref (a 11) :: Value.ref (a 12) :: Value.ref (a 13) :: Value.ref (a 14) :: Value.int 0 :: Value.int 0 :: Value.int 0 :: []))), ((a 5), .inr (5, (Value.ref (a 30) :: Value.ref (a 31) :: Value.ref (a 32) :: Value.ref (a 33) :: Value.ref (a 34) :: Value.ref (a 35) :: Value.ref (a 36) :: Value.ref (a 37) :: Value.int 0 :: Value.int 0 :: Value.int 0 :: Value.int 0 :: Value.int 0 :: Value.int 0 :: Value.int 0 :: [])))]) [0, 1] rfl) hK rfl rfl) rfl hl.1 rfl (Nat.le_of_ble_eq_true rfl) dX11_merges_2 ⟨⟨Nat.le_of_ble_eq_true rfl, Nat.le_of_ble_eq_true rfl⟩, Nat.le_of_ble_eq_true rfl, Nat.le_of_ble_eq_true rfl⟩) rfl ?_
  refine lv_if_eq (tgt := 15) hx hb dX11_merges_5 (by decide) (fun _ => ?_) (fun h9 => absurd (by decide) h9)
  refine lv_iconst (v := (-1)) hx hb dX11_merges_15 (by decide) ?_
  exact W.iret (v := (-1)) hx hb hr (fun t ht _ => ⟨rfl, ht⟩) (fun _ h9 => nomatch h9) dX11_merges_16
set_option maxHeartbeats 4000000 in
set_option maxRecDepth 100000 in
theorem kX11_owed_0 (l : Launch) (D : va_G) (cI : ClassId) (h0 : Nat) (a : Nat → Nat) (p0 : Int32) : Met l yX11_owed (sw_ws yX11_owed cX11_owed 2 (some .int)) (rm_ 1 21 0 0) (p_R D vwCl [(cI, .int)] [.ref h0, .int p0] [(h0, .inr (11, (Value.ref (a 0) :: Value.ref (a 1) :: Value.ref (a 2) :: Value.ref (a 3) :: Value.ref (a 4) :: Value.ref (a 5) :: Value.ref (a 6) :: Value.ref (a 7) :: Value.ref (a 8) :: Value.ref (a 9) :: Value.ref (a 10) :: Value.ref (a 11) :: Value.ref (a 12) :: Value.ref (a 13) :: Value.ref (a 14) :: Value.int 0 :: Value.int 0 :: Value.int 0 :: []))), ((a 5), .inr (5, (Value.ref (a 30) :: Value.ref (a 31) :: Value.ref (a 32) :: Value.ref (a 33) :: Value.ref (a 34) :: Value.ref (a 35) :: Value.ref (a 36) :: Value.ref (a 37) :: Value.int 0 :: Value.int 0 :: Value.int 0 :: Value.int 0 :: Value.int 0 :: Value.int 0 :: Value.int 0 :: [])))]) (q_R (some (.int (-1000000)))) 0 0 (fun _ => False) := by
  refine Met.ofW (cc := cX11_owed) (maxL := 2) (ret := (some .int)) (by decide) rfl ?_
  intro p e s m args below meth c s₁ B hml hv
  obtain ⟨rfl, hP, hK⟩ := hv
  have hx := B.exec
  have hb := B.bytes
  have hr := B.returns
  have hT := sw_in (atoms_spec (ws := sw_ws yX11_owed cX11_owed 2 (some .int)) B.pre)
  have hown : s.vm.findClass RX11 = some m.cls := findClass_of_methodNamed B.named
  have hlocks := B.notSynchronized
  have hl := lv_entry ([.ref h0, .int p0]) (n := 2) (Nat.le_of_ble_eq_true rfl)
  rw [lg_entry_eq]
  generalize (lg_sl ([.ref h0, .int p0]) ++ List.replicate (2 - (lg_sl ([.ref h0, .int p0])).length) Slot.unset).toArray = ls at hl ⊢
  have hl : lv_has ls 2 [(0, .ref h0), (1, .int p0)] := hl
  refine lv_aload_n hx hb dX11_owed_0 rfl (lv_at hl 0 rfl) ?_
  refine lv_iload_n hx hb dX11_owed_1 rfl (lv_at hl 1 rfl) ?_
  refine go_R (v := some (.int 0)) (st1 := [.int 0]) (run_V (As := [.int p0]) (rest := []) ⟨hx, hb, hml, hown, hT⟩ (kX11_isThing_0 l D cI h0 a p0) sw_830 lkv_X11_isThing (p_R_V (ci := 11) (q0 := 0) (hP.sub (ws' := [(h0, .inr (11, (Value.ref (a 0) :: Value.ref (a 1) :: Value.ref (a 2) :: Value.ref (a 3) :: Value.ref (a 4) :: Value.ref (a 5) :: Value.ref (a 6) :: Value.ref (a 7) :: Value.ref (a 8) :: Value.ref (a 9) :: Value.ref (a 10) :: Value.ref (a 11) :: Value.ref (a 12) :: Value.ref (a 13) :: Value.ref (a 14) :: Value.int 0 :: Value.int 0 :: Value.int 0 :: []))), ((a 5), .inr (5, (Value.ref (a 30) :: Value.ref (a 31) :: Value.ref (a 32) :: Value.ref (a 33) :: Value.ref (a 34) :: Value.ref (a 35) :: Value.ref (a 36) :: Value.ref (a 37) :: Value.int 0 :: Value.int 0 :: Value.int 0 :: Value.int 0 :: Value.int 0 :: Value.int 0 :: Value.int 0 :: [])))]) [0, 1] rfl) hK rfl rfl) rfl hl.1 rfl (Nat.le_of_ble_eq_true rfl) dX11_owed_2 ⟨⟨Nat.le_of_ble_eq_true rfl, Nat.le_of_ble_eq_true rfl⟩, Nat.le_of_ble_eq_true rfl, Nat.le_of_ble_eq_true rfl⟩) rfl ?_
  refine lv_if_eq (tgt := 18) hx hb dX11_owed_5 (by decide) (fun _ => ?_) (fun h9 => absurd (by decide) h9)
  refine lv_ldcw (own := RX11) (v := (-1000000)) hx hb hown (hT _ sw_915) dX11_owed_18 ?_
  exact W.iret (v := (-1000000)) hx hb hr (fun t ht _ => ⟨rfl, ht⟩) (fun _ h9 => nomatch h9) dX11_owed_21
set_option maxHeartbeats 4000000 in
set_option maxRecDepth 100000 in
theorem kX11_creditor_0 (l : Launch) (D : va_G) (cI : ClassId) (h0 : Nat) (a : Nat → Nat) (p0 : Int32) : Met l yX11_creditor (sw_ws yX11_creditor cX11_creditor 6 (some .int)) (rm_ 0 0 0 0) (p_R D vwCl [(cI, .int)] [.ref h0, .int p0] [(h0, .inr (11, (Value.ref (a 0) :: Value.ref (a 1) :: Value.ref (a 2) :: Value.ref (a 3) :: Value.ref (a 4) :: Value.ref (a 5) :: Value.ref (a 6) :: Value.ref (a 7) :: Value.ref (a 8) :: Value.ref (a 9) :: Value.ref (a 10) :: Value.ref (a 11) :: Value.ref (a 12) :: Value.ref (a 13) :: Value.ref (a 14) :: Value.int 0 :: Value.int 0 :: Value.int 0 :: []))), ((a 5), .inr (5, (Value.ref (a 30) :: Value.ref (a 31) :: Value.ref (a 32) :: Value.ref (a 33) :: Value.ref (a 34) :: Value.ref (a 35) :: Value.ref (a 36) :: Value.ref (a 37) :: Value.int 0 :: Value.int 0 :: Value.int 0 :: Value.int 0 :: Value.int 0 :: Value.int 0 :: Value.int 0 :: [])))]) (q_R (some (.int (-1)))) 0 0 (fun _ => False) := by
  refine Met.ofW (cc := cX11_creditor) (maxL := 6) (ret := (some .int)) (by decide) rfl ?_
  intro p e s m args below meth c s₁ B hml hv
  obtain ⟨rfl, hP, hK⟩ := hv
  have hx := B.exec
  have hb := B.bytes
  have hr := B.returns
  have hT := sw_in (atoms_spec (ws := sw_ws yX11_creditor cX11_creditor 6 (some .int)) B.pre)
  have hown : s.vm.findClass RX11 = some m.cls := findClass_of_methodNamed B.named
  have hlocks := B.notSynchronized
  have hl := lv_entry ([.ref h0, .int p0]) (n := 6) (Nat.le_of_ble_eq_true rfl)
  rw [lg_entry_eq]
  generalize (lg_sl ([.ref h0, .int p0]) ++ List.replicate (6 - (lg_sl ([.ref h0, .int p0])).length) Slot.unset).toArray = ls at hl ⊢
  have hl : lv_has ls 6 [(0, .ref h0), (1, .int p0)] := hl
  refine lv_aload_n hx hb dX11_creditor_0 rfl (lv_at hl 0 rfl) ?_
  refine va_get (D := D) (ci := 11) (v := .ref (a 5)) (C := RX11) (T := TX11) (N := 18) hx hb hT ix_11 hown hK hP 0 rfl rfl 5 (by decide) (hT _ sw_520) (fun _ h9 => h9) rfl dX11_creditor_1 ?_
  refine va_getN (D := D) (ci := 5) (v := .int 0) (C := RX5) (T := TX5) (N := 15) hx hb hT ix_5 hown hK hP 1 rfl rfl 9 (by decide) (hT _ sw_349) (fun _ h9 => h9) rfl dX11_creditor_4 ?_
  refine lv_if_le (tgt := 19) hx hb dX11_creditor_7 (by decide) (fun _ => ?_) (fun h9 => absurd (by decide) h9)
  refine lv_iconst (v := (-1)) hx hb dX11_creditor_19 (by decide) ?_
  exact W.iret (v := (-1)) hx hb hr (fun t ht _ => ⟨rfl, ht⟩) (fun _ h9 => nomatch h9) dX11_creditor_20
set_option maxHeartbeats 4000000 in
set_option maxRecDepth 100000 in
theorem kX11_isTeam_0 (l : Launch) (D : va_G) (cI : ClassId) (h0 : Nat) (a : Nat → Nat) (p0 : Int32) : Met l yX11_isTeam (sw_ws yX11_isTeam cX11_isTeam 2 (some .boolean)) (rm_ 0 0 0 0) (p_R D vwCl [(cI, .int)] [.ref h0, .int p0] [(h0, .inr (11, (Value.ref (a 0) :: Value.ref (a 1) :: Value.ref (a 2) :: Value.ref (a 3) :: Value.ref (a 4) :: Value.ref (a 5) :: Value.ref (a 6) :: Value.ref (a 7) :: Value.ref (a 8) :: Value.ref (a 9) :: Value.ref (a 10) :: Value.ref (a 11) :: Value.ref (a 12) :: Value.ref (a 13) :: Value.ref (a 14) :: Value.int 0 :: Value.int 0 :: Value.int 0 :: []))), ((a 1), .inr (3, [.ref (a 16), .ref (a 17), .ref (a 18), .ref (a 19), .int 0, .int 0, .int 0, .int 0]))]) (q_R (some (.int 0))) 0 0 (fun _ => False) := by
  refine Met.ofW (cc := cX11_isTeam) (maxL := 2) (ret := (some .boolean)) (by decide) rfl ?_
  intro p e s m args below meth c s₁ B hml hv
  obtain ⟨rfl, hP, hK⟩ := hv
  have hx := B.exec
  have hb := B.bytes
  have hr := B.returns
  have hT := sw_in (atoms_spec (ws := sw_ws yX11_isTeam cX11_isTeam 2 (some .boolean)) B.pre)
  have hown : s.vm.findClass RX11 = some m.cls := findClass_of_methodNamed B.named
  have hlocks := B.notSynchronized
  have hl := lv_entry ([.ref h0, .int p0]) (n := 2) (Nat.le_of_ble_eq_true rfl)
  rw [lg_entry_eq]
  generalize (lg_sl ([.ref h0, .int p0]) ++ List.replicate (2 - (lg_sl ([.ref h0, .int p0])).length) Slot.unset).toArray = ls at hl ⊢
  have hl : lv_has ls 2 [(0, .ref h0), (1, .int p0)] := hl
  refine lv_iload_n hx hb dX11_isTeam_0 rfl (lv_at hl 1 rfl) ?_
  refine lv_if_lt (tgt := 24) hx hb dX11_isTeam_1 (by decide) (fun c_1 => ?_) (fun c_1 => ?_)
  · refine lv_iconst (v := 0) hx hb dX11_isTeam_24 (by decide) ?_
    exact W.zret (v := 0) hx hb hr (by decide) (fun t ht _ => ⟨rfl, ht⟩) (fun _ h9 => nomatch h9) dX11_isTeam_25
  · refine lv_iload_n hx hb dX11_isTeam_4 rfl (lv_at hl 1 rfl) ?_
    refine lv_aload_n hx hb dX11_isTeam_5 rfl (lv_at hl 0 rfl) ?_
    refine va_get (D := D) (ci := 11) (v := .ref (a 1)) (C := RX11) (T := TX11) (N := 18) hx hb hT ix_11 hown hK hP 0 rfl rfl 1 (by decide) (hT _ sw_516) (fun _ h9 => h9) rfl dX11_isTeam_6 ?_
    refine va_getN (D := D) (ci := 3) (v := .int 0) (C := RX3) (T := TX3) (N := 8) hx hb hT ix_3 hown hK hP 1 rfl rfl 7 (by decide) (hT _ sw_189) (fun _ h9 => h9) rfl dX11_isTeam_9 ?_
    refine lv_icmp_ge (tgt := 24) hx hb dX11_isTeam_12 (by decide) (fun c_2 => ?_) (fun c_2 => ?_)
    · refine lv_iconst (v := 0) hx hb dX11_isTeam_24 (by decide) ?_
      exact W.zret (v := 0) hx hb hr (by decide) (fun t ht _ => ⟨rfl, ht⟩) (fun _ h9 => nomatch h9) dX11_isTeam_25
    · exact (pl_11 p0 c_1 c_2).elim
set_option maxHeartbeats 4000000 in
set_option maxRecDepth 100000 in
theorem kX11_team_0 (l : Launch) (D : va_G) (cI : ClassId) (h0 : Nat) (a : Nat → Nat) (p0 p1 : Int32) : Met l yX11_team (sw_ws yX11_team cX11_team 4 (some .int)) (rm_ 1 21 0 0) (p_R D vwCl [(cI, .int)] [.ref h0, .int p0, .int p1] [(h0, .inr (11, (Value.ref (a 0) :: Value.ref (a 1) :: Value.ref (a 2) :: Value.ref (a 3) :: Value.ref (a 4) :: Value.ref (a 5) :: Value.ref (a 6) :: Value.ref (a 7) :: Value.ref (a 8) :: Value.ref (a 9) :: Value.ref (a 10) :: Value.ref (a 11) :: Value.ref (a 12) :: Value.ref (a 13) :: Value.ref (a 14) :: Value.int 0 :: Value.int 0 :: Value.int 0 :: []))), ((a 1), .inr (3, [.ref (a 16), .ref (a 17), .ref (a 18), .ref (a 19), .int 0, .int 0, .int 0, .int 0]))]) (q_R (some (.int (-1)))) 0 0 (fun _ => False) := by
  refine Met.ofW (cc := cX11_team) (maxL := 4) (ret := (some .int)) (by decide) rfl ?_
  intro p e s m args below meth c s₁ B hml hv
  obtain ⟨rfl, hP, hK⟩ := hv
  have hx := B.exec
  have hb := B.bytes
  have hr := B.returns
  have hT := sw_in (atoms_spec (ws := sw_ws yX11_team cX11_team 4 (some .int)) B.pre)
  have hown : s.vm.findClass RX11 = some m.cls := findClass_of_methodNamed B.named
  have hlocks := B.notSynchronized
  have hl := lv_entry ([.ref h0, .int p0, .int p1]) (n := 4) (Nat.le_of_ble_eq_true rfl)
  rw [lg_entry_eq]
  generalize (lg_sl ([.ref h0, .int p0, .int p1]) ++ List.replicate (4 - (lg_sl ([.ref h0, .int p0, .int p1])).length) Slot.unset).toArray = ls at hl ⊢
  have hl : lv_has ls 4 [(0, .ref h0), (1, .int p0), (2, .int p1)] := hl
  refine lv_aload_n hx hb dX11_team_0 rfl (lv_at hl 0 rfl) ?_
  refine lv_iload_n hx hb dX11_team_1 rfl (lv_at hl 1 rfl) ?_
  refine go_R (v := some (.int 0)) (st1 := [.int 0]) (run_V (As := [.int p0]) (rest := []) ⟨hx, hb, hml, hown, hT⟩ (kX11_isTeam_0 l D cI h0 a p0) sw_928 lkv_X11_isTeam (p_R_V (ci := 11) (q0 := 0) (hP.sub (ws' := [(h0, .inr (11, (Value.ref (a 0) :: Value.ref (a 1) :: Value.ref (a 2) :: Value.ref (a 3) :: Value.ref (a 4) :: Value.ref (a 5) :: Value.ref (a 6) :: Value.ref (a 7) :: Value.ref (a 8) :: Value.ref (a 9) :: Value.ref (a 10) :: Value.ref (a 11) :: Value.ref (a 12) :: Value.ref (a 13) :: Value.ref (a 14) :: Value.int 0 :: Value.int 0 :: Value.int 0 :: []))), ((a 1), .inr (3, [.ref (a 16), .ref (a 17), .ref (a 18), .ref (a 19), .int 0, .int 0, .int 0, .int 0]))]) [0, 1] rfl) hK rfl rfl) rfl hl.1 rfl (Nat.le_of_ble_eq_true rfl) dX11_team_2 ⟨⟨Nat.le_of_ble_eq_true rfl, Nat.le_of_ble_eq_true rfl⟩, Nat.le_of_ble_eq_true rfl, Nat.le_of_ble_eq_true rfl⟩) rfl ?_
  refine lv_if_ne (tgt := 10) hx hb dX11_team_5 (by decide) (fun h9 => absurd (by decide) h9) (fun _ => ?_)
  refine lv_iconst (v := (-1)) hx hb dX11_team_8 (by decide) ?_
  exact W.iret (v := (-1)) hx hb hr (fun t ht _ => ⟨rfl, ht⟩) (fun _ h9 => nomatch h9) dX11_team_9
set_option maxHeartbeats 4000000 in
set_option maxRecDepth 100000 in
theorem kX11_called_0 (l : Launch) (D : va_G) (cI : ClassId) (h0 : Nat) (a : Nat → Nat) (p0 p1 : Int32) : Met l yX11_called (sw_ws yX11_called cX11_called 3 (some .int)) (rm_ 1 21 0 0) (p_R D vwCl [(cI, .int)] [.ref h0, .int p0, .int p1] [(h0, .inr (11, (Value.ref (a 0) :: Value.ref (a 1) :: Value.ref (a 2) :: Value.ref (a 3) :: Value.ref (a 4) :: Value.ref (a 5) :: Value.ref (a 6) :: Value.ref (a 7) :: Value.ref (a 8) :: Value.ref (a 9) :: Value.ref (a 10) :: Value.ref (a 11) :: Value.ref (a 12) :: Value.ref (a 13) :: Value.ref (a 14) :: Value.int 0 :: Value.int 0 :: Value.int 0 :: []))), ((a 1), .inr (3, [.ref (a 16), .ref (a 17), .ref (a 18), .ref (a 19), .int 0, .int 0, .int 0, .int 0]))]) (q_R (some (.int (-1)))) 0 0 (fun _ => False) := by
  refine Met.ofW (cc := cX11_called) (maxL := 3) (ret := (some .int)) (by decide) rfl ?_
  intro p e s m args below meth c s₁ B hml hv
  obtain ⟨rfl, hP, hK⟩ := hv
  have hx := B.exec
  have hb := B.bytes
  have hr := B.returns
  have hT := sw_in (atoms_spec (ws := sw_ws yX11_called cX11_called 3 (some .int)) B.pre)
  have hown : s.vm.findClass RX11 = some m.cls := findClass_of_methodNamed B.named
  have hlocks := B.notSynchronized
  have hl := lv_entry ([.ref h0, .int p0, .int p1]) (n := 3) (Nat.le_of_ble_eq_true rfl)
  rw [lg_entry_eq]
  generalize (lg_sl ([.ref h0, .int p0, .int p1]) ++ List.replicate (3 - (lg_sl ([.ref h0, .int p0, .int p1])).length) Slot.unset).toArray = ls at hl ⊢
  have hl : lv_has ls 3 [(0, .ref h0), (1, .int p0), (2, .int p1)] := hl
  refine lv_aload_n hx hb dX11_called_0 rfl (lv_at hl 0 rfl) ?_
  refine lv_iload_n hx hb dX11_called_1 rfl (lv_at hl 1 rfl) ?_
  refine go_R (v := some (.int 0)) (st1 := [.int 0]) (run_V (As := [.int p0]) (rest := []) ⟨hx, hb, hml, hown, hT⟩ (kX11_isTeam_0 l D cI h0 a p0) sw_928 lkv_X11_isTeam (p_R_V (ci := 11) (q0 := 0) (hP.sub (ws' := [(h0, .inr (11, (Value.ref (a 0) :: Value.ref (a 1) :: Value.ref (a 2) :: Value.ref (a 3) :: Value.ref (a 4) :: Value.ref (a 5) :: Value.ref (a 6) :: Value.ref (a 7) :: Value.ref (a 8) :: Value.ref (a 9) :: Value.ref (a 10) :: Value.ref (a 11) :: Value.ref (a 12) :: Value.ref (a 13) :: Value.ref (a 14) :: Value.int 0 :: Value.int 0 :: Value.int 0 :: []))), ((a 1), .inr (3, [.ref (a 16), .ref (a 17), .ref (a 18), .ref (a 19), .int 0, .int 0, .int 0, .int 0]))]) [0, 1] rfl) hK rfl rfl) rfl hl.1 rfl (Nat.le_of_ble_eq_true rfl) dX11_called_2 ⟨⟨Nat.le_of_ble_eq_true rfl, Nat.le_of_ble_eq_true rfl⟩, Nat.le_of_ble_eq_true rfl, Nat.le_of_ble_eq_true rfl⟩) rfl ?_
  refine lv_if_eq (tgt := 24) hx hb dX11_called_5 (by decide) (fun _ => ?_) (fun h9 => absurd (by decide) h9)
  refine lv_iconst (v := (-1)) hx hb dX11_called_24 (by decide) ?_
  exact W.iret (v := (-1)) hx hb hr (fun t ht _ => ⟨rfl, ht⟩) (fun _ h9 => nomatch h9) dX11_called_25
set_option maxHeartbeats 4000000 in
set_option maxRecDepth 100000 in
theorem kX11_inside_0 (l : Launch) (D : va_G) (cI : ClassId) (h0 : Nat) (a : Nat → Nat) (p0 p1 p2 : Int32) : Met l yX11_inside (sw_ws yX11_inside cX11_inside 4 (some .int)) (rm_ 1 21 0 0) (p_R D vwCl [(cI, .int)] [.ref h0, .int p0, .int p1, .int p2] [(h0, .inr (11, (Value.ref (a 0) :: Value.ref (a 1) :: Value.ref (a 2) :: Value.ref (a 3) :: Value.ref (a 4) :: Value.ref (a 5) :: Value.ref (a 6) :: Value.ref (a 7) :: Value.ref (a 8) :: Value.ref (a 9) :: Value.ref (a 10) :: Value.ref (a 11) :: Value.ref (a 12) :: Value.ref (a 13) :: Value.ref (a 14) :: Value.int 0 :: Value.int 0 :: Value.int 0 :: []))), ((a 1), .inr (3, [.ref (a 16), .ref (a 17), .ref (a 18), .ref (a 19), .int 0, .int 0, .int 0, .int 0]))]) (q_R (some (.int (-1)))) 0 0 (fun _ => False) := by
  refine Met.ofW (cc := cX11_inside) (maxL := 4) (ret := (some .int)) (by decide) rfl ?_
  intro p e s m args below meth c s₁ B hml hv
  obtain ⟨rfl, hP, hK⟩ := hv
  have hx := B.exec
  have hb := B.bytes
  have hr := B.returns
  have hT := sw_in (atoms_spec (ws := sw_ws yX11_inside cX11_inside 4 (some .int)) B.pre)
  have hown : s.vm.findClass RX11 = some m.cls := findClass_of_methodNamed B.named
  have hlocks := B.notSynchronized
  have hl := lv_entry ([.ref h0, .int p0, .int p1, .int p2]) (n := 4) (Nat.le_of_ble_eq_true rfl)
  rw [lg_entry_eq]
  generalize (lg_sl ([.ref h0, .int p0, .int p1, .int p2]) ++ List.replicate (4 - (lg_sl ([.ref h0, .int p0, .int p1, .int p2])).length) Slot.unset).toArray = ls at hl ⊢
  have hl : lv_has ls 4 [(0, .ref h0), (1, .int p0), (2, .int p1), (3, .int p2)] := hl
  refine lv_aload_n hx hb dX11_inside_0 rfl (lv_at hl 0 rfl) ?_
  refine lv_iload_n hx hb dX11_inside_1 rfl (lv_at hl 1 rfl) ?_
  refine go_R (v := some (.int 0)) (st1 := [.int 0]) (run_V (As := [.int p0]) (rest := []) ⟨hx, hb, hml, hown, hT⟩ (kX11_isTeam_0 l D cI h0 a p0) sw_928 lkv_X11_isTeam (p_R_V (ci := 11) (q0 := 0) (hP.sub (ws' := [(h0, .inr (11, (Value.ref (a 0) :: Value.ref (a 1) :: Value.ref (a 2) :: Value.ref (a 3) :: Value.ref (a 4) :: Value.ref (a 5) :: Value.ref (a 6) :: Value.ref (a 7) :: Value.ref (a 8) :: Value.ref (a 9) :: Value.ref (a 10) :: Value.ref (a 11) :: Value.ref (a 12) :: Value.ref (a 13) :: Value.ref (a 14) :: Value.int 0 :: Value.int 0 :: Value.int 0 :: []))), ((a 1), .inr (3, [.ref (a 16), .ref (a 17), .ref (a 18), .ref (a 19), .int 0, .int 0, .int 0, .int 0]))]) [0, 1] rfl) hK rfl rfl) rfl hl.1 rfl (Nat.le_of_ble_eq_true rfl) dX11_inside_2 ⟨⟨Nat.le_of_ble_eq_true rfl, Nat.le_of_ble_eq_true rfl⟩, Nat.le_of_ble_eq_true rfl, Nat.le_of_ble_eq_true rfl⟩) rfl ?_
  refine lv_if_eq (tgt := 32) hx hb dX11_inside_5 (by decide) (fun _ => ?_) (fun h9 => absurd (by decide) h9)
  refine lv_iconst (v := (-1)) hx hb dX11_inside_32 (by decide) ?_
  exact W.iret (v := (-1)) hx hb hr (fun t ht _ => ⟨rfl, ht⟩) (fun _ h9 => nomatch h9) dX11_inside_33
set_option maxHeartbeats 4000000 in
set_option maxRecDepth 100000 in
theorem kX5_together_0 (l : Launch) (D : va_G) (cI : ClassId) (h0 : Nat) (a : Nat → Nat) : Met l yX5_together (sw_ws yX5_together cX5_together 4 (some .int)) (rm_ 0 0 0 0) (p_R D vwCl [(cI, .int)] [.ref (a 5), .int 0] [((a 5), .inr (5, (Value.ref (a 30) :: Value.ref (a 31) :: Value.ref (a 32) :: Value.ref (a 33) :: Value.ref (a 34) :: Value.ref (a 35) :: Value.ref (a 36) :: Value.ref (a 37) :: Value.int 0 :: Value.int 0 :: Value.int 0 :: Value.int 0 :: Value.int 0 :: Value.int 0 :: Value.int 0 :: [])))]) (q_R (some (.int 0))) 0 0 (fun _ => False) := by
  refine Met.ofW (cc := cX5_together) (maxL := 4) (ret := (some .int)) (by decide) rfl ?_
  intro p e s m args below meth c s₁ B hml hv
  obtain ⟨rfl, hP, hK⟩ := hv
  have hx := B.exec
  have hb := B.bytes
  have hr := B.returns
  have hT := sw_in (atoms_spec (ws := sw_ws yX5_together cX5_together 4 (some .int)) B.pre)
  have hown : s.vm.findClass RX5 = some m.cls := findClass_of_methodNamed B.named
  have hlocks := B.notSynchronized
  have hl := lv_entry ([.ref (a 5), .int 0]) (n := 4) (Nat.le_of_ble_eq_true rfl)
  rw [lg_entry_eq]
  generalize (lg_sl ([.ref (a 5), .int 0]) ++ List.replicate (4 - (lg_sl ([.ref (a 5), .int 0])).length) Slot.unset).toArray = ls at hl ⊢
  have hl : lv_has ls 4 [(0, .ref (a 5)), (1, .int 0)] := hl
  refine lv_iconst (v := 0) hx hb dX5_together_0 (by decide) ?_
  refine lv_istore_n (lv' := [(2, .int 0), (0, .ref (a 5)), (1, .int 0)]) hx hb dX5_together_1 rfl hl (by decide) rfl (fun ls hl => ?_)
  refine lv_iconst (v := 0) hx hb dX5_together_2 (by decide) ?_
  refine lv_istore_n (lv' := [(3, .int 0), (2, .int 0), (0, .ref (a 5)), (1, .int 0)]) hx hb dX5_together_3 rfl hl (by decide) rfl (fun ls hl => ?_)
  refine lv_iload_n hx hb dX5_together_4 rfl (lv_at hl 0 rfl) ?_
  refine lv_aload_n hx hb dX5_together_5 rfl (lv_at hl 2 rfl) ?_
  refine va_get (D := D) (ci := 5) (v := .int 0) (C := RX5) (T := TX5) (N := 15) hx hb hT ix_5 hown hK hP 0 rfl rfl 8 (by decide) (hT _ sw_343) (fun _ h9 => h9) rfl dX5_together_6 ?_
  refine lv_icmp_ge (tgt := 39) hx hb dX5_together_9 (by decide) (fun _ => ?_) (fun h9 => absurd (by decide) h9)
  refine lv_iload_n hx hb dX5_together_39 rfl (lv_at hl 1 rfl) ?_
  exact W.iret (v := 0) hx hb hr (fun t ht _ => ⟨rfl, ht⟩) (fun _ h9 => nomatch h9) dX5_together_40
set_option maxHeartbeats 4000000 in
set_option maxRecDepth 100000 in
theorem kX11_triedOnTape_0 (l : Launch) (D : va_G) (cI : ClassId) (h0 : Nat) (a : Nat → Nat) (p0 : Int32) (sz : Nat) : Met l yX11_triedOnTape (sw_ws yX11_triedOnTape cX11_triedOnTape 6 (some .int)) (rm_ 1 23 0 0) (p_M D vwCl [(cI, .int)] [.ref h0, .int 1, .int 0, .int p0] [(h0, .inr (11, (Value.ref (a 0) :: Value.ref (a 1) :: Value.ref (a 2) :: Value.ref (a 3) :: Value.ref (a 4) :: Value.ref (a 5) :: Value.ref (a 6) :: Value.ref (a 7) :: Value.ref (a 8) :: Value.ref (a 9) :: Value.ref (a 10) :: Value.ref (a 11) :: Value.ref (a 12) :: Value.ref (a 13) :: Value.ref (a 14) :: Value.int 0 :: Value.int 0 :: Value.int 0 :: []))), ((a 0), .inr (9, [.ref (a 15), .int 0])), ((a 5), .inr (5, (Value.ref (a 30) :: Value.ref (a 31) :: Value.ref (a 32) :: Value.ref (a 33) :: Value.ref (a 34) :: Value.ref (a 35) :: Value.ref (a 36) :: Value.ref (a 37) :: Value.int 0 :: Value.int 0 :: Value.int 0 :: Value.int 0 :: Value.int 0 :: Value.int 0 :: Value.int 0 :: [])))] sz) (q_M D vwCl (some (.int (-1))) (fun u => [(h0, .inr (11, (Value.ref (a 0) :: Value.ref (a 1) :: Value.ref (a 2) :: Value.ref (a 3) :: Value.ref (a 4) :: Value.ref (a 5) :: Value.ref (a 6) :: Value.ref (a 7) :: Value.ref (a 8) :: Value.ref (a 9) :: Value.ref (a 10) :: Value.ref (a 11) :: Value.ref (a 12) :: Value.ref (a 13) :: Value.ref (a 14) :: Value.int 0 :: Value.int 0 :: Value.int 0 :: []))), ((a 0), .inr (9, [.ref (a 15), .int 0])), ((a 5), .inr (5, (Value.ref (a 30) :: Value.ref (a 31) :: Value.ref (a 32) :: Value.ref (a 33) :: Value.ref (a 34) :: Value.ref (a 35) :: Value.ref (a 36) :: Value.ref (a 37) :: Value.int 0 :: Value.int 0 :: Value.int 0 :: Value.int 0 :: Value.int 0 :: Value.int 0 :: Value.int 0 :: [])))]) (va_A [(h0, .inr (11, (Value.ref (a 0) :: Value.ref (a 1) :: Value.ref (a 2) :: Value.ref (a 3) :: Value.ref (a 4) :: Value.ref (a 5) :: Value.ref (a 6) :: Value.ref (a 7) :: Value.ref (a 8) :: Value.ref (a 9) :: Value.ref (a 10) :: Value.ref (a 11) :: Value.ref (a 12) :: Value.ref (a 13) :: Value.ref (a 14) :: Value.int 0 :: Value.int 0 :: Value.int 0 :: []))), ((a 0), .inr (9, [.ref (a 15), .int 0])), ((a 5), .inr (5, (Value.ref (a 30) :: Value.ref (a 31) :: Value.ref (a 32) :: Value.ref (a 33) :: Value.ref (a 34) :: Value.ref (a 35) :: Value.ref (a 36) :: Value.ref (a 37) :: Value.int 0 :: Value.int 0 :: Value.int 0 :: Value.int 0 :: Value.int 0 :: Value.int 0 :: Value.int 0 :: [])))] sz)) 0 0 (va_A [(h0, .inr (11, (Value.ref (a 0) :: Value.ref (a 1) :: Value.ref (a 2) :: Value.ref (a 3) :: Value.ref (a 4) :: Value.ref (a 5) :: Value.ref (a 6) :: Value.ref (a 7) :: Value.ref (a 8) :: Value.ref (a 9) :: Value.ref (a 10) :: Value.ref (a 11) :: Value.ref (a 12) :: Value.ref (a 13) :: Value.ref (a 14) :: Value.int 0 :: Value.int 0 :: Value.int 0 :: []))), ((a 0), .inr (9, [.ref (a 15), .int 0])), ((a 5), .inr (5, (Value.ref (a 30) :: Value.ref (a 31) :: Value.ref (a 32) :: Value.ref (a 33) :: Value.ref (a 34) :: Value.ref (a 35) :: Value.ref (a 36) :: Value.ref (a 37) :: Value.int 0 :: Value.int 0 :: Value.int 0 :: Value.int 0 :: Value.int 0 :: Value.int 0 :: Value.int 0 :: [])))] sz) := by
  refine Met.ofW (cc := cX11_triedOnTape) (maxL := 6) (ret := (some .int)) (by decide) rfl ?_
  intro p e s m args below meth c s₁ B hml hv
  obtain ⟨rfl, hsz, hP, hK, hD0⟩ := hv
  have hx := B.exec
  have hb := B.bytes
  have hr := B.returns
  have hT := sw_in (atoms_spec (ws := sw_ws yX11_triedOnTape cX11_triedOnTape 6 (some .int)) B.pre)
  have hown : s.vm.findClass RX11 = some m.cls := findClass_of_methodNamed B.named
  have hlocks := B.notSynchronized
  subst hsz
  have hD := hD0.self (sz := s.heap.size)
  generalize hAe : va_A [(h0, .inr (11, (Value.ref (a 0) :: Value.ref (a 1) :: Value.ref (a 2) :: Value.ref (a 3) :: Value.ref (a 4) :: Value.ref (a 5) :: Value.ref (a 6) :: Value.ref (a 7) :: Value.ref (a 8) :: Value.ref (a 9) :: Value.ref (a 10) :: Value.ref (a 11) :: Value.ref (a 12) :: Value.ref (a 13) :: Value.ref (a 14) :: Value.int 0 :: Value.int 0 :: Value.int 0 :: []))), ((a 0), .inr (9, [.ref (a 15), .int 0])), ((a 5), .inr (5, (Value.ref (a 30) :: Value.ref (a 31) :: Value.ref (a 32) :: Value.ref (a 33) :: Value.ref (a 34) :: Value.ref (a 35) :: Value.ref (a 36) :: Value.ref (a 37) :: Value.int 0 :: Value.int 0 :: Value.int 0 :: Value.int 0 :: Value.int 0 :: Value.int 0 :: Value.int 0 :: [])))] s.heap.size = A at hD ⊢
  have hA : ∀ q : Nat, s.heap.size ≤ q → A q := fun q h => by rw [← hAe]; exact Or.inr h
  have hS : va_S A s.heap s.heap [] := va_S.rf
  have hl := lv_entry ([.ref h0, .int 1, .int 0, .int p0]) (n := 6) (Nat.le_of_ble_eq_true rfl)
  rw [lg_entry_eq]
  generalize (lg_sl ([.ref h0, .int 1, .int 0, .int p0]) ++ List.replicate (6 - (lg_sl ([.ref h0, .int 1, .int 0, .int p0])).length) Slot.unset).toArray = ls at hl ⊢
  have hl : lv_has ls 6 [(0, .ref h0), (1, .int 1), (2, .int 0), (3, .int p0)] := hl
  refine lv_aload_n hx hb dX11_triedOnTape_0 rfl (lv_at hl 0 rfl) ?_
  refine va_get (D := D) (ci := 11) (v := .ref (a 0)) (C := RX11) (T := TX11) (N := 18) hx hb hT ix_11 hown hK hP 0 rfl rfl 0 (by decide) (hT _ sw_515) (fun _ h9 => h9) rfl dX11_triedOnTape_1 ?_
  refine va_getN (D := D) (ci := 9) (v := .int 0) (C := RX9) (T := TX9) (N := 2) hx hb hT ix_9 hown hK hP 1 rfl rfl 1 (by decide) (hT _ sw_157) (fun _ h9 => h9) rfl dX11_triedOnTape_4 ?_
  refine lv_istore (lv' := [(4, .int 0), (0, .ref h0), (1, .int 1), (2, .int 0), (3, .int p0)]) hx hb dX11_triedOnTape_7 hl (by decide) rfl (fun ls hl => ?_)
  refine lv_aload_n hx hb dX11_triedOnTape_9 rfl (lv_at hl 1 rfl) ?_
  refine va_get (D := D) (ci := 11) (v := .ref (a 0)) (C := RX11) (T := TX11) (N := 18) hx hb hT ix_11 hown hK hP 0 rfl rfl 0 (by decide) (hT _ sw_515) (fun _ h9 => h9) rfl dX11_triedOnTape_10 ?_
  refine lv_iconst (v := 0) hx hb dX11_triedOnTape_13 (by decide) ?_
  refine va_putN (D := D) (ci := 9) (v := .int 0) (ty := .int) (C := RX9) (T := TX9) (N := 2) hx hb hT ix_9 tyX9 tyX9_ok nmX9 hown hK hP hD hS 1 rfl rfl 1 (by decide) (hT _ sw_157) (fun _ h9 => h9) rfl (by decide +kernel) rfl rfl (Nat.le_of_ble_eq_true rfl) dX11_triedOnTape_14 (fun H locs hP hD hS => ?_)
  have hP : va_P D vwCl [(h0, .inr (11, (Value.ref (a 0) :: Value.ref (a 1) :: Value.ref (a 2) :: Value.ref (a 3) :: Value.ref (a 4) :: Value.ref (a 5) :: Value.ref (a 6) :: Value.ref (a 7) :: Value.ref (a 8) :: Value.ref (a 9) :: Value.ref (a 10) :: Value.ref (a 11) :: Value.ref (a 12) :: Value.ref (a 13) :: Value.ref (a 14) :: Value.int 0 :: Value.int 0 :: Value.int 0 :: []))), ((a 0), .inr (9, [.ref (a 15), .int 0])), ((a 5), .inr (5, (Value.ref (a 30) :: Value.ref (a 31) :: Value.ref (a 32) :: Value.ref (a 33) :: Value.ref (a 34) :: Value.ref (a 35) :: Value.ref (a 36) :: Value.ref (a 37) :: Value.int 0 :: Value.int 0 :: Value.int 0 :: Value.int 0 :: Value.int 0 :: Value.int 0 :: Value.int 0 :: [])))] H := hP
  have hD : va_D A [(h0, .inr (11, (Value.ref (a 0) :: Value.ref (a 1) :: Value.ref (a 2) :: Value.ref (a 3) :: Value.ref (a 4) :: Value.ref (a 5) :: Value.ref (a 6) :: Value.ref (a 7) :: Value.ref (a 8) :: Value.ref (a 9) :: Value.ref (a 10) :: Value.ref (a 11) :: Value.ref (a 12) :: Value.ref (a 13) :: Value.ref (a 14) :: Value.int 0 :: Value.int 0 :: Value.int 0 :: []))), ((a 0), .inr (9, [.ref (a 15), .int 0])), ((a 5), .inr (5, (Value.ref (a 30) :: Value.ref (a 31) :: Value.ref (a 32) :: Value.ref (a 33) :: Value.ref (a 34) :: Value.ref (a 35) :: Value.ref (a 36) :: Value.ref (a 37) :: Value.int 0 :: Value.int 0 :: Value.int 0 :: Value.int 0 :: Value.int 0 :: Value.int 0 :: Value.int 0 :: [])))] := hD
  refine lv_aload_n hx hb dX11_triedOnTape_17 rfl (lv_at hl 1 rfl) ?_
  refine va_get (D := D) (ci := 11) (v := .ref (a 5)) (C := RX11) (T := TX11) (N := 18) hx hb hT ix_11 hown hK hP 0 rfl rfl 5 (by decide) (hT _ sw_520) (fun _ h9 => h9) rfl dX11_triedOnTape_18 ?_
  refine lv_iload_n hx hb dX11_triedOnTape_21 rfl (lv_at hl 3 rfl) ?_
  refine go_R (v := some (.int 0)) (st1 := [.int 0]) (run_V (As := [.int 0]) (rest := []) ⟨hx, hb, hml, hown, hT⟩ (kX5_together_0 l D cI h0 a) sw_932 lkv_X5_together (p_R_V (ci := 5) (q0 := 0) (hP.sub (ws' := [((a 5), .inr (5, (Value.ref (a 30) :: Value.ref (a 31) :: Value.ref (a 32) :: Value.ref (a 33) :: Value.ref (a 34) :: Value.ref (a 35) :: Value.ref (a 36) :: Value.ref (a 37) :: Value.int 0 :: Value.int 0 :: Value.int 0 :: Value.int 0 :: Value.int 0 :: Value.int 0 :: Value.int 0 :: [])))]) [2] rfl) hK rfl rfl) rfl hl.1 rfl (Nat.le_of_ble_eq_true rfl) dX11_triedOnTape_22 ⟨⟨Nat.le_of_ble_eq_true rfl, Nat.le_of_ble_eq_true rfl⟩, Nat.le_of_ble_eq_true rfl, Nat.le_of_ble_eq_true rfl⟩) rfl ?_
  refine lv_if_eq (tgt := 44) hx hb dX11_triedOnTape_25 (by decide) (fun _ => ?_) (fun h9 => absurd (by decide) h9)
  refine lv_iconst (v := (-1)) hx hb dX11_triedOnTape_44 (by decide) ?_
  have hP9 := hP.sub (ws' := [(h0, .inr (11, (Value.ref (a 0) :: Value.ref (a 1) :: Value.ref (a 2) :: Value.ref (a 3) :: Value.ref (a 4) :: Value.ref (a 5) :: Value.ref (a 6) :: Value.ref (a 7) :: Value.ref (a 8) :: Value.ref (a 9) :: Value.ref (a 10) :: Value.ref (a 11) :: Value.ref (a 12) :: Value.ref (a 13) :: Value.ref (a 14) :: Value.int 0 :: Value.int 0 :: Value.int 0 :: []))), ((a 0), .inr (9, [.ref (a 15), .int 0])), ((a 5), .inr (5, (Value.ref (a 30) :: Value.ref (a 31) :: Value.ref (a 32) :: Value.ref (a 33) :: Value.ref (a 34) :: Value.ref (a 35) :: Value.ref (a 36) :: Value.ref (a 37) :: Value.int 0 :: Value.int 0 :: Value.int 0 :: Value.int 0 :: Value.int 0 :: Value.int 0 :: Value.int 0 :: [])))]) [0, 1, 2] rfl
  have hD9 := hD.sub (ws' := [(h0, .inr (11, (Value.ref (a 0) :: Value.ref (a 1) :: Value.ref (a 2) :: Value.ref (a 3) :: Value.ref (a 4) :: Value.ref (a 5) :: Value.ref (a 6) :: Value.ref (a 7) :: Value.ref (a 8) :: Value.ref (a 9) :: Value.ref (a 10) :: Value.ref (a 11) :: Value.ref (a 12) :: Value.ref (a 13) :: Value.ref (a 14) :: Value.int 0 :: Value.int 0 :: Value.int 0 :: []))), ((a 0), .inr (9, [.ref (a 15), .int 0])), ((a 5), .inr (5, (Value.ref (a 30) :: Value.ref (a 31) :: Value.ref (a 32) :: Value.ref (a 33) :: Value.ref (a 34) :: Value.ref (a 35) :: Value.ref (a 36) :: Value.ref (a 37) :: Value.int 0 :: Value.int 0 :: Value.int 0 :: Value.int 0 :: Value.int 0 :: Value.int 0 :: Value.int 0 :: [])))]) [0, 1, 2] (by decide) rfl
  exact W.iret (v := (-1)) hx hb hr (fun t ht _ => ⟨rfl, ⟨(fun k => [].getD k 0, fun k => [].getD k zI), by rw [ht]; exact hP9, hD9⟩, hS.F ht⟩) hS.2.2 dX11_triedOnTape_45
set_option maxHeartbeats 4000000 in
set_option maxRecDepth 100000 in
theorem kX11_triesIn_0 (l : Launch) (D : va_G) (cI : ClassId) (h0 : Nat) (a : Nat → Nat) (p0 p1 : Int32) (sz : Nat) : Met l yX11_triesIn (sw_ws yX11_triesIn cX11_triesIn 4 (some .int)) (rm_ 2 48 0 0) (p_M D vwCl [(cI, .int)] [.ref h0, .int p0, .int p1] [(h0, .inr (11, (Value.ref (a 0) :: Value.ref (a 1) :: Value.ref (a 2) :: Value.ref (a 3) :: Value.ref (a 4) :: Value.ref (a 5) :: Value.ref (a 6) :: Value.ref (a 7) :: Value.ref (a 8) :: Value.ref (a 9) :: Value.ref (a 10) :: Value.ref (a 11) :: Value.ref (a 12) :: Value.ref (a 13) :: Value.ref (a 14) :: Value.int 0 :: Value.int 0 :: Value.int 0 :: []))), ((a 0), .inr (9, [.ref (a 15), .int 0])), ((a 1), .inr (3, [.ref (a 16), .ref (a 17), .ref (a 18), .ref (a 19), .int 0, .int 0, .int 0, .int 0])), ((a 5), .inr (5, (Value.ref (a 30) :: Value.ref (a 31) :: Value.ref (a 32) :: Value.ref (a 33) :: Value.ref (a 34) :: Value.ref (a 35) :: Value.ref (a 36) :: Value.ref (a 37) :: Value.int 0 :: Value.int 0 :: Value.int 0 :: Value.int 0 :: Value.int 0 :: Value.int 0 :: Value.int 0 :: [])))] sz) (q_M D vwCl (some (.int (-1))) (fun u => []) (va_A [(h0, .inr (11, (Value.ref (a 0) :: Value.ref (a 1) :: Value.ref (a 2) :: Value.ref (a 3) :: Value.ref (a 4) :: Value.ref (a 5) :: Value.ref (a 6) :: Value.ref (a 7) :: Value.ref (a 8) :: Value.ref (a 9) :: Value.ref (a 10) :: Value.ref (a 11) :: Value.ref (a 12) :: Value.ref (a 13) :: Value.ref (a 14) :: Value.int 0 :: Value.int 0 :: Value.int 0 :: []))), ((a 0), .inr (9, [.ref (a 15), .int 0])), ((a 1), .inr (3, [.ref (a 16), .ref (a 17), .ref (a 18), .ref (a 19), .int 0, .int 0, .int 0, .int 0])), ((a 5), .inr (5, (Value.ref (a 30) :: Value.ref (a 31) :: Value.ref (a 32) :: Value.ref (a 33) :: Value.ref (a 34) :: Value.ref (a 35) :: Value.ref (a 36) :: Value.ref (a 37) :: Value.int 0 :: Value.int 0 :: Value.int 0 :: Value.int 0 :: Value.int 0 :: Value.int 0 :: Value.int 0 :: [])))] sz)) 0 0 (va_A [(h0, .inr (11, (Value.ref (a 0) :: Value.ref (a 1) :: Value.ref (a 2) :: Value.ref (a 3) :: Value.ref (a 4) :: Value.ref (a 5) :: Value.ref (a 6) :: Value.ref (a 7) :: Value.ref (a 8) :: Value.ref (a 9) :: Value.ref (a 10) :: Value.ref (a 11) :: Value.ref (a 12) :: Value.ref (a 13) :: Value.ref (a 14) :: Value.int 0 :: Value.int 0 :: Value.int 0 :: []))), ((a 0), .inr (9, [.ref (a 15), .int 0])), ((a 1), .inr (3, [.ref (a 16), .ref (a 17), .ref (a 18), .ref (a 19), .int 0, .int 0, .int 0, .int 0])), ((a 5), .inr (5, (Value.ref (a 30) :: Value.ref (a 31) :: Value.ref (a 32) :: Value.ref (a 33) :: Value.ref (a 34) :: Value.ref (a 35) :: Value.ref (a 36) :: Value.ref (a 37) :: Value.int 0 :: Value.int 0 :: Value.int 0 :: Value.int 0 :: Value.int 0 :: Value.int 0 :: Value.int 0 :: [])))] sz) := by
  refine Met.ofW (cc := cX11_triesIn) (maxL := 4) (ret := (some .int)) (by decide) rfl ?_
  intro p e s m args below meth c s₁ B hml hv
  obtain ⟨rfl, hsz, hP, hK, hD0⟩ := hv
  have hx := B.exec
  have hb := B.bytes
  have hr := B.returns
  have hT := sw_in (atoms_spec (ws := sw_ws yX11_triesIn cX11_triesIn 4 (some .int)) B.pre)
  have hown : s.vm.findClass RX11 = some m.cls := findClass_of_methodNamed B.named
  have hlocks := B.notSynchronized
  subst hsz
  have hD := hD0.self (sz := s.heap.size)
  generalize hAe : va_A [(h0, .inr (11, (Value.ref (a 0) :: Value.ref (a 1) :: Value.ref (a 2) :: Value.ref (a 3) :: Value.ref (a 4) :: Value.ref (a 5) :: Value.ref (a 6) :: Value.ref (a 7) :: Value.ref (a 8) :: Value.ref (a 9) :: Value.ref (a 10) :: Value.ref (a 11) :: Value.ref (a 12) :: Value.ref (a 13) :: Value.ref (a 14) :: Value.int 0 :: Value.int 0 :: Value.int 0 :: []))), ((a 0), .inr (9, [.ref (a 15), .int 0])), ((a 1), .inr (3, [.ref (a 16), .ref (a 17), .ref (a 18), .ref (a 19), .int 0, .int 0, .int 0, .int 0])), ((a 5), .inr (5, (Value.ref (a 30) :: Value.ref (a 31) :: Value.ref (a 32) :: Value.ref (a 33) :: Value.ref (a 34) :: Value.ref (a 35) :: Value.ref (a 36) :: Value.ref (a 37) :: Value.int 0 :: Value.int 0 :: Value.int 0 :: Value.int 0 :: Value.int 0 :: Value.int 0 :: Value.int 0 :: [])))] s.heap.size = A at hD ⊢
  have hA : ∀ q : Nat, s.heap.size ≤ q → A q := fun q h => by rw [← hAe]; exact Or.inr h
  have hS : va_S A s.heap s.heap [] := va_S.rf
  have hl := lv_entry ([.ref h0, .int p0, .int p1]) (n := 4) (Nat.le_of_ble_eq_true rfl)
  rw [lg_entry_eq]
  generalize (lg_sl ([.ref h0, .int p0, .int p1]) ++ List.replicate (4 - (lg_sl ([.ref h0, .int p0, .int p1])).length) Slot.unset).toArray = ls at hl ⊢
  have hl : lv_has ls 4 [(0, .ref h0), (1, .int p0), (2, .int p1)] := hl
  refine lv_aload_n hx hb dX11_triesIn_0 rfl (lv_at hl 0 rfl) ?_
  refine lv_iload_n hx hb dX11_triesIn_1 rfl (lv_at hl 1 rfl) ?_
  refine go_R (v := some (.int 0)) (st1 := [.int 0]) (run_V (As := [.int p0]) (rest := []) ⟨hx, hb, hml, hown, hT⟩ (kX11_isTeam_0 l D cI h0 a p0) sw_928 lkv_X11_isTeam (p_R_V (ci := 11) (q0 := 0) (hP.sub (ws' := [(h0, .inr (11, (Value.ref (a 0) :: Value.ref (a 1) :: Value.ref (a 2) :: Value.ref (a 3) :: Value.ref (a 4) :: Value.ref (a 5) :: Value.ref (a 6) :: Value.ref (a 7) :: Value.ref (a 8) :: Value.ref (a 9) :: Value.ref (a 10) :: Value.ref (a 11) :: Value.ref (a 12) :: Value.ref (a 13) :: Value.ref (a 14) :: Value.int 0 :: Value.int 0 :: Value.int 0 :: []))), ((a 1), .inr (3, [.ref (a 16), .ref (a 17), .ref (a 18), .ref (a 19), .int 0, .int 0, .int 0, .int 0]))]) [0, 2] rfl) hK rfl rfl) rfl hl.1 rfl (Nat.le_of_ble_eq_true rfl) dX11_triesIn_2 ⟨⟨Nat.le_of_ble_eq_true rfl, Nat.le_of_ble_eq_true rfl⟩, Nat.le_of_ble_eq_true rfl, Nat.le_of_ble_eq_true rfl⟩) rfl ?_
  refine lv_if_eq (tgt := 20) hx hb dX11_triesIn_5 (by decide) (fun _ => ?_) (fun h9 => absurd (by decide) h9)
  refine lv_iconst (v := 0) hx hb dX11_triesIn_20 (by decide) ?_
  refine lv_istore_n (lv' := [(3, .int 0), (0, .ref h0), (1, .int p0), (2, .int p1)]) hx hb dX11_triesIn_21 rfl hl (by decide) rfl (fun ls hl => ?_)
  refine lv_aload_n hx hb dX11_triesIn_22 rfl (lv_at hl 1 rfl) ?_
  refine lv_iconst (v := 1) hx hb dX11_triesIn_23 (by decide) ?_
  refine lv_iload_n hx hb dX11_triesIn_24 rfl (lv_at hl 0 rfl) ?_
  refine lv_iload_n hx hb dX11_triesIn_25 rfl (lv_at hl 3 rfl) ?_
  refine go_M (wc := [(h0, .inr (11, (Value.ref (a 0) :: Value.ref (a 1) :: Value.ref (a 2) :: Value.ref (a 3) :: Value.ref (a 4) :: Value.ref (a 5) :: Value.ref (a 6) :: Value.ref (a 7) :: Value.ref (a 8) :: Value.ref (a 9) :: Value.ref (a 10) :: Value.ref (a 11) :: Value.ref (a 12) :: Value.ref (a 13) :: Value.ref (a 14) :: Value.int 0 :: Value.int 0 :: Value.int 0 :: []))), ((a 0), .inr (9, [.ref (a 15), .int 0])), ((a 5), .inr (5, (Value.ref (a 30) :: Value.ref (a 31) :: Value.ref (a 32) :: Value.ref (a 33) :: Value.ref (a 34) :: Value.ref (a 35) :: Value.ref (a 36) :: Value.ref (a 37) :: Value.int 0 :: Value.int 0 :: Value.int 0 :: Value.int 0 :: Value.int 0 :: Value.int 0 :: Value.int 0 :: [])))]) (wr := [((a 1), .inr (3, [.ref (a 16), .ref (a 17), .ref (a 18), .ref (a 19), .int 0, .int 0, .int 0, .int 0]))]) (w1 := fun u => [(h0, .inr (11, (Value.ref (a 0) :: Value.ref (a 1) :: Value.ref (a 2) :: Value.ref (a 3) :: Value.ref (a 4) :: Value.ref (a 5) :: Value.ref (a 6) :: Value.ref (a 7) :: Value.ref (a 8) :: Value.ref (a 9) :: Value.ref (a 10) :: Value.ref (a 11) :: Value.ref (a 12) :: Value.ref (a 13) :: Value.ref (a 14) :: Value.int 0 :: Value.int 0 :: Value.int 0 :: []))), ((a 0), .inr (9, [.ref (a 15), .int 0])), ((a 5), .inr (5, (Value.ref (a 30) :: Value.ref (a 31) :: Value.ref (a 32) :: Value.ref (a 33) :: Value.ref (a 34) :: Value.ref (a 35) :: Value.ref (a 36) :: Value.ref (a 37) :: Value.int 0 :: Value.int 0 :: Value.int 0 :: Value.int 0 :: Value.int 0 :: Value.int 0 :: Value.int 0 :: [])))]) (v := some (.int (-1))) (st1 := [.int (-1)]) hP hD hS hA [0, 1, 3] [2] rfl rfl (by decide) (by decide) (by decide) (fun hPc hDc => run_V (As := [.int 1, .int 0, .int p1]) (rest := []) ⟨hx, hb, hml, hown, hT⟩ (kX11_triedOnTape_0 l D cI h0 a p1 _) sw_952 lkv_X11_triedOnTape (p_M_V (ci := 11) (q0 := 0) hPc hK hDc rfl rfl) rfl hl.1 rfl (Nat.le_of_ble_eq_true rfl) dX11_triesIn_26 ⟨⟨Nat.le_of_ble_eq_true rfl, Nat.le_of_ble_eq_true rfl⟩, Nat.le_of_ble_eq_true rfl, Nat.le_of_ble_eq_true rfl⟩) rfl (fun u_1 H locs hP hD hS => ?_)
  have hP : va_P D vwCl [((a 1), .inr (3, [.ref (a 16), .ref (a 17), .ref (a 18), .ref (a 19), .int 0, .int 0, .int 0, .int 0])), (h0, .inr (11, (Value.ref (a 0) :: Value.ref (a 1) :: Value.ref (a 2) :: Value.ref (a 3) :: Value.ref (a 4) :: Value.ref (a 5) :: Value.ref (a 6) :: Value.ref (a 7) :: Value.ref (a 8) :: Value.ref (a 9) :: Value.ref (a 10) :: Value.ref (a 11) :: Value.ref (a 12) :: Value.ref (a 13) :: Value.ref (a 14) :: Value.int 0 :: Value.int 0 :: Value.int 0 :: []))), ((a 0), .inr (9, [.ref (a 15), .int 0])), ((a 5), .inr (5, (Value.ref (a 30) :: Value.ref (a 31) :: Value.ref (a 32) :: Value.ref (a 33) :: Value.ref (a 34) :: Value.ref (a 35) :: Value.ref (a 36) :: Value.ref (a 37) :: Value.int 0 :: Value.int 0 :: Value.int 0 :: Value.int 0 :: Value.int 0 :: Value.int 0 :: Value.int 0 :: [])))] H := hP
  have hD : va_D A [((a 1), .inr (3, [.ref (a 16), .ref (a 17), .ref (a 18), .ref (a 19), .int 0, .int 0, .int 0, .int 0])), (h0, .inr (11, (Value.ref (a 0) :: Value.ref (a 1) :: Value.ref (a 2) :: Value.ref (a 3) :: Value.ref (a 4) :: Value.ref (a 5) :: Value.ref (a 6) :: Value.ref (a 7) :: Value.ref (a 8) :: Value.ref (a 9) :: Value.ref (a 10) :: Value.ref (a 11) :: Value.ref (a 12) :: Value.ref (a 13) :: Value.ref (a 14) :: Value.int 0 :: Value.int 0 :: Value.int 0 :: []))), ((a 0), .inr (9, [.ref (a 15), .int 0])), ((a 5), .inr (5, (Value.ref (a 30) :: Value.ref (a 31) :: Value.ref (a 32) :: Value.ref (a 33) :: Value.ref (a 34) :: Value.ref (a 35) :: Value.ref (a 36) :: Value.ref (a 37) :: Value.int 0 :: Value.int 0 :: Value.int 0 :: Value.int 0 :: Value.int 0 :: Value.int 0 :: Value.int 0 :: [])))] := hD
  have hP9 := hP.sub (ws' := []) [] rfl
  have hD9 := hD.sub (ws' := []) [] (by decide) rfl
  exact W.iret (v := (-1)) hx hb hr (fun t ht _ => ⟨rfl, ⟨(fun k => [].getD k 0, fun k => [].getD k zI), by rw [ht]; exact hP9, hD9⟩, hS.F ht⟩) hS.2.2 dX11_triesIn_29
set_option maxHeartbeats 4000000 in
set_option maxRecDepth 100000 in
theorem kX11_rowsIn_0 (l : Launch) (D : va_G) (cI : ClassId) (h0 : Nat) (a : Nat → Nat) (p0 p1 p2 : Int32) : Met l yX11_rowsIn (sw_ws yX11_rowsIn cX11_rowsIn 4 (some .int)) (rm_ 1 21 0 0) (p_R D vwCl [(cI, .int)] [.ref h0, .int p0, .int p1, .int p2] [(h0, .inr (11, (Value.ref (a 0) :: Value.ref (a 1) :: Value.ref (a 2) :: Value.ref (a 3) :: Value.ref (a 4) :: Value.ref (a 5) :: Value.ref (a 6) :: Value.ref (a 7) :: Value.ref (a 8) :: Value.ref (a 9) :: Value.ref (a 10) :: Value.ref (a 11) :: Value.ref (a 12) :: Value.ref (a 13) :: Value.ref (a 14) :: Value.int 0 :: Value.int 0 :: Value.int 0 :: []))), ((a 1), .inr (3, [.ref (a 16), .ref (a 17), .ref (a 18), .ref (a 19), .int 0, .int 0, .int 0, .int 0]))]) (q_R (some (.int (-1)))) 0 0 (fun _ => False) := by
  refine Met.ofW (cc := cX11_rowsIn) (maxL := 4) (ret := (some .int)) (by decide) rfl ?_
  intro p e s m args below meth c s₁ B hml hv
  obtain ⟨rfl, hP, hK⟩ := hv
  have hx := B.exec
  have hb := B.bytes
  have hr := B.returns
  have hT := sw_in (atoms_spec (ws := sw_ws yX11_rowsIn cX11_rowsIn 4 (some .int)) B.pre)
  have hown : s.vm.findClass RX11 = some m.cls := findClass_of_methodNamed B.named
  have hlocks := B.notSynchronized
  have hl := lv_entry ([.ref h0, .int p0, .int p1, .int p2]) (n := 4) (Nat.le_of_ble_eq_true rfl)
  rw [lg_entry_eq]
  generalize (lg_sl ([.ref h0, .int p0, .int p1, .int p2]) ++ List.replicate (4 - (lg_sl ([.ref h0, .int p0, .int p1, .int p2])).length) Slot.unset).toArray = ls at hl ⊢
  have hl : lv_has ls 4 [(0, .ref h0), (1, .int p0), (2, .int p1), (3, .int p2)] := hl
  refine lv_aload_n hx hb dX11_rowsIn_0 rfl (lv_at hl 0 rfl) ?_
  refine lv_iload_n hx hb dX11_rowsIn_1 rfl (lv_at hl 1 rfl) ?_
  refine go_R (v := some (.int 0)) (st1 := [.int 0]) (run_V (As := [.int p0]) (rest := []) ⟨hx, hb, hml, hown, hT⟩ (kX11_isTeam_0 l D cI h0 a p0) sw_928 lkv_X11_isTeam (p_R_V (ci := 11) (q0 := 0) (hP.sub (ws' := [(h0, .inr (11, (Value.ref (a 0) :: Value.ref (a 1) :: Value.ref (a 2) :: Value.ref (a 3) :: Value.ref (a 4) :: Value.ref (a 5) :: Value.ref (a 6) :: Value.ref (a 7) :: Value.ref (a 8) :: Value.ref (a 9) :: Value.ref (a 10) :: Value.ref (a 11) :: Value.ref (a 12) :: Value.ref (a 13) :: Value.ref (a 14) :: Value.int 0 :: Value.int 0 :: Value.int 0 :: []))), ((a 1), .inr (3, [.ref (a 16), .ref (a 17), .ref (a 18), .ref (a 19), .int 0, .int 0, .int 0, .int 0]))]) [0, 1] rfl) hK rfl rfl) rfl hl.1 rfl (Nat.le_of_ble_eq_true rfl) dX11_rowsIn_2 ⟨⟨Nat.le_of_ble_eq_true rfl, Nat.le_of_ble_eq_true rfl⟩, Nat.le_of_ble_eq_true rfl, Nat.le_of_ble_eq_true rfl⟩) rfl ?_
  refine lv_if_eq (tgt := 27) hx hb dX11_rowsIn_5 (by decide) (fun _ => ?_) (fun h9 => absurd (by decide) h9)
  refine lv_iconst (v := (-1)) hx hb dX11_rowsIn_27 (by decide) ?_
  exact W.iret (v := (-1)) hx hb hr (fun t ht _ => ⟨rfl, ht⟩) (fun _ h9 => nomatch h9) dX11_rowsIn_28
set_option maxHeartbeats 4000000 in
set_option maxRecDepth 100000 in
theorem kX11_quorum_0 (l : Launch) (D : va_G) (cI : ClassId) (h0 : Nat) (a : Nat → Nat) (p0 p1 p2 : Int32) : Met l yX11_quorum (sw_ws yX11_quorum cX11_quorum 11 (some .int)) (rm_ 0 0 0 0) (p_R D vwCl [(cI, .int)] [.ref h0, .int p0, .int p1, .int p2] [(h0, .inr (11, (Value.ref (a 0) :: Value.ref (a 1) :: Value.ref (a 2) :: Value.ref (a 3) :: Value.ref (a 4) :: Value.ref (a 5) :: Value.ref (a 6) :: Value.ref (a 7) :: Value.ref (a 8) :: Value.ref (a 9) :: Value.ref (a 10) :: Value.ref (a 11) :: Value.ref (a 12) :: Value.ref (a 13) :: Value.ref (a 14) :: Value.int 0 :: Value.int 0 :: Value.int 0 :: []))), ((a 5), .inr (5, (Value.ref (a 30) :: Value.ref (a 31) :: Value.ref (a 32) :: Value.ref (a 33) :: Value.ref (a 34) :: Value.ref (a 35) :: Value.ref (a 36) :: Value.ref (a 37) :: Value.int 0 :: Value.int 0 :: Value.int 0 :: Value.int 0 :: Value.int 0 :: Value.int 0 :: Value.int 0 :: [])))]) (q_R (some (.int (-1)))) 0 0 (fun _ => False) := by
  refine Met.ofW (cc := cX11_quorum) (maxL := 11) (ret := (some .int)) (by decide) rfl ?_
  intro p e s m args below meth c s₁ B hml hv
  obtain ⟨rfl, hP, hK⟩ := hv
  have hx := B.exec
  have hb := B.bytes
  have hr := B.returns
  have hT := sw_in (atoms_spec (ws := sw_ws yX11_quorum cX11_quorum 11 (some .int)) B.pre)
  have hown : s.vm.findClass RX11 = some m.cls := findClass_of_methodNamed B.named
  have hlocks := B.notSynchronized
  have hl := lv_entry ([.ref h0, .int p0, .int p1, .int p2]) (n := 11) (Nat.le_of_ble_eq_true rfl)
  rw [lg_entry_eq]
  generalize (lg_sl ([.ref h0, .int p0, .int p1, .int p2]) ++ List.replicate (11 - (lg_sl ([.ref h0, .int p0, .int p1, .int p2])).length) Slot.unset).toArray = ls at hl ⊢
  have hl : lv_has ls 11 [(0, .ref h0), (1, .int p0), (2, .int p1), (3, .int p2)] := hl
  refine lv_aload_n hx hb dX11_quorum_0 rfl (lv_at hl 0 rfl) ?_
  refine va_get (D := D) (ci := 11) (v := .ref (a 5)) (C := RX11) (T := TX11) (N := 18) hx hb hT ix_11 hown hK hP 0 rfl rfl 5 (by decide) (hT _ sw_520) (fun _ h9 => h9) rfl dX11_quorum_1 ?_
  refine va_getN (D := D) (ci := 5) (v := .int 0) (C := RX5) (T := TX5) (N := 15) hx hb hT ix_5 hown hK hP 1 rfl rfl 9 (by decide) (hT _ sw_349) (fun _ h9 => h9) rfl dX11_quorum_4 ?_
  refine lv_if_le (tgt := 27) hx hb dX11_quorum_7 (by decide) (fun _ => ?_) (fun h9 => absurd (by decide) h9)
  refine lv_iconst (v := (-1)) hx hb dX11_quorum_27 (by decide) ?_
  exact W.iret (v := (-1)) hx hb hr (fun t ht _ => ⟨rfl, ht⟩) (fun _ h9 => nomatch h9) dX11_quorum_28
set_option maxHeartbeats 4000000 in
set_option maxRecDepth 100000 in
theorem kX11_swings_0 (l : Launch) (D : va_G) (cI : ClassId) (h0 : Nat) (a : Nat → Nat) (p0 p1 p2 : Int32) : Met l yX11_swings (sw_ws yX11_swings cX11_swings 17 (some .int)) (rm_ 0 0 0 0) (p_R D vwCl [(cI, .int)] [.ref h0, .int p0, .int p1, .int p2] [(h0, .inr (11, (Value.ref (a 0) :: Value.ref (a 1) :: Value.ref (a 2) :: Value.ref (a 3) :: Value.ref (a 4) :: Value.ref (a 5) :: Value.ref (a 6) :: Value.ref (a 7) :: Value.ref (a 8) :: Value.ref (a 9) :: Value.ref (a 10) :: Value.ref (a 11) :: Value.ref (a 12) :: Value.ref (a 13) :: Value.ref (a 14) :: Value.int 0 :: Value.int 0 :: Value.int 0 :: []))), ((a 5), .inr (5, (Value.ref (a 30) :: Value.ref (a 31) :: Value.ref (a 32) :: Value.ref (a 33) :: Value.ref (a 34) :: Value.ref (a 35) :: Value.ref (a 36) :: Value.ref (a 37) :: Value.int 0 :: Value.int 0 :: Value.int 0 :: Value.int 0 :: Value.int 0 :: Value.int 0 :: Value.int 0 :: [])))]) (q_R (some (.int (-1)))) 0 0 (fun _ => False) := by
  refine Met.ofW (cc := cX11_swings) (maxL := 17) (ret := (some .int)) (by decide) rfl ?_
  intro p e s m args below meth c s₁ B hml hv
  obtain ⟨rfl, hP, hK⟩ := hv
  have hx := B.exec
  have hb := B.bytes
  have hr := B.returns
  have hT := sw_in (atoms_spec (ws := sw_ws yX11_swings cX11_swings 17 (some .int)) B.pre)
  have hown : s.vm.findClass RX11 = some m.cls := findClass_of_methodNamed B.named
  have hlocks := B.notSynchronized
  have hl := lv_entry ([.ref h0, .int p0, .int p1, .int p2]) (n := 17) (Nat.le_of_ble_eq_true rfl)
  rw [lg_entry_eq]
  generalize (lg_sl ([.ref h0, .int p0, .int p1, .int p2]) ++ List.replicate (17 - (lg_sl ([.ref h0, .int p0, .int p1, .int p2])).length) Slot.unset).toArray = ls at hl ⊢
  have hl : lv_has ls 17 [(0, .ref h0), (1, .int p0), (2, .int p1), (3, .int p2)] := hl
  refine lv_aload_n hx hb dX11_swings_0 rfl (lv_at hl 0 rfl) ?_
  refine va_get (D := D) (ci := 11) (v := .ref (a 5)) (C := RX11) (T := TX11) (N := 18) hx hb hT ix_11 hown hK hP 0 rfl rfl 5 (by decide) (hT _ sw_520) (fun _ h9 => h9) rfl dX11_swings_1 ?_
  refine va_getN (D := D) (ci := 5) (v := .int 0) (C := RX5) (T := TX5) (N := 15) hx hb hT ix_5 hown hK hP 1 rfl rfl 9 (by decide) (hT _ sw_349) (fun _ h9 => h9) rfl dX11_swings_4 ?_
  refine lv_if_le (tgt := 26) hx hb dX11_swings_7 (by decide) (fun _ => ?_) (fun h9 => absurd (by decide) h9)
  refine lv_iconst (v := (-1)) hx hb dX11_swings_26 (by decide) ?_
  exact W.iret (v := (-1)) hx hb hr (fun t ht _ => ⟨rfl, ht⟩) (fun _ h9 => nomatch h9) dX11_swings_27
set_option maxHeartbeats 4000000 in
set_option maxRecDepth 100000 in
theorem kX11_isWay_0 (l : Launch) (D : va_G) (cI : ClassId) (h0 : Nat) (a : Nat → Nat) (p0 : Int32) : Met l yX11_isWay (sw_ws yX11_isWay cX11_isWay 1 (some .boolean)) (rm_ 0 0 0 0) (p_R D vwCl [(cI, .int)] [.int p0] []) (q_R (some (.int (sp_isIn p0 0 2)))) 0 0 (fun _ => False) := by
  refine Met.ofW (cc := cX11_isWay) (maxL := 1) (ret := (some .boolean)) (by decide) rfl ?_
  intro p e s m args below meth c s₁ B hml hv
  obtain ⟨rfl, hP, hK⟩ := hv
  have hx := B.exec
  have hb := B.bytes
  have hr := B.returns
  have hT := sw_in (atoms_spec (ws := sw_ws yX11_isWay cX11_isWay 1 (some .boolean)) B.pre)
  have hown : s.vm.findClass RX11 = some m.cls := findClass_of_methodNamed B.named
  have hlocks := B.notSynchronized
  have hl := lv_entry ([.int p0]) (n := 1) (Nat.le_of_ble_eq_true rfl)
  rw [lg_entry_eq]
  generalize (lg_sl ([.int p0]) ++ List.replicate (1 - (lg_sl ([.int p0])).length) Slot.unset).toArray = ls at hl ⊢
  have hl : lv_has ls 1 [(0, .int p0)] := hl
  refine lv_iload_n hx hb dX11_isWay_0 rfl (lv_at hl 0 rfl) ?_
  refine lv_if_lt (tgt := 13) hx hb dX11_isWay_1 (by decide) (fun c_1 => ?_) (fun c_1 => ?_)
  · refine lv_iconst (v := 0) hx hb dX11_isWay_13 (by decide) ?_
    refine ct_i (z := sp_isIn p0 0 2) (pl_13 p0 c_1) ?_
    exact W.zret (v := sp_isIn p0 0 2) hx hb hr (nz_sp_isIn _ _ _) (fun t ht _ => ⟨rfl, ht⟩) (fun _ h9 => nomatch h9) dX11_isWay_14
  · refine lv_iload_n hx hb dX11_isWay_4 rfl (lv_at hl 0 rfl) ?_
    refine lv_iconst (v := 2) hx hb dX11_isWay_5 (by decide) ?_
    refine lv_icmp_gt (tgt := 13) hx hb dX11_isWay_6 (by decide) (fun c_2 => ?_) (fun c_2 => ?_)
    · refine lv_iconst (v := 0) hx hb dX11_isWay_13 (by decide) ?_
      refine ct_i (z := sp_isIn p0 0 2) (pl_14 p0 c_1 c_2) ?_
      exact W.zret (v := sp_isIn p0 0 2) hx hb hr (nz_sp_isIn _ _ _) (fun t ht _ => ⟨rfl, ht⟩) (fun _ h9 => nomatch h9) dX11_isWay_14
    · refine lv_iconst (v := 1) hx hb dX11_isWay_9 (by decide) ?_
      refine lv_goto (tgt := 14) hx hb dX11_isWay_10 (by decide) ?_
      refine ct_i (z := sp_isIn p0 0 2) (pl_15 p0 c_1 c_2) ?_
      exact W.zret (v := sp_isIn p0 0 2) hx hb hr (nz_sp_isIn _ _ _) (fun t ht _ => ⟨rfl, ht⟩) (fun _ h9 => nomatch h9) dX11_isWay_14
set_option maxHeartbeats 4000000 in
set_option maxRecDepth 100000 in
theorem kX5_together_1 (l : Launch) (D : va_G) (cI : ClassId) (h0 : Nat) (a : Nat → Nat) : Met l yX5_together (sw_ws yX5_together cX5_together 4 (some .int)) (rm_ 0 0 0 0) (p_R D vwCl [(cI, .int)] [.ref (a 5), .int 65535] [((a 5), .inr (5, (Value.ref (a 30) :: Value.ref (a 31) :: Value.ref (a 32) :: Value.ref (a 33) :: Value.ref (a 34) :: Value.ref (a 35) :: Value.ref (a 36) :: Value.ref (a 37) :: Value.int 0 :: Value.int 0 :: Value.int 0 :: Value.int 0 :: Value.int 0 :: Value.int 0 :: Value.int 0 :: [])))]) (q_R (some (.int 0))) 0 0 (fun _ => False) := by
  refine Met.ofW (cc := cX5_together) (maxL := 4) (ret := (some .int)) (by decide) rfl ?_
  intro p e s m args below meth c s₁ B hml hv
  obtain ⟨rfl, hP, hK⟩ := hv
  have hx := B.exec
  have hb := B.bytes
  have hr := B.returns
  have hT := sw_in (atoms_spec (ws := sw_ws yX5_together cX5_together 4 (some .int)) B.pre)
  have hown : s.vm.findClass RX5 = some m.cls := findClass_of_methodNamed B.named
  have hlocks := B.notSynchronized
  have hl := lv_entry ([.ref (a 5), .int 65535]) (n := 4) (Nat.le_of_ble_eq_true rfl)
  rw [lg_entry_eq]
  generalize (lg_sl ([.ref (a 5), .int 65535]) ++ List.replicate (4 - (lg_sl ([.ref (a 5), .int 65535])).length) Slot.unset).toArray = ls at hl ⊢
  have hl : lv_has ls 4 [(0, .ref (a 5)), (1, .int 65535)] := hl
  refine lv_iconst (v := 0) hx hb dX5_together_0 (by decide) ?_
  refine lv_istore_n (lv' := [(2, .int 0), (0, .ref (a 5)), (1, .int 65535)]) hx hb dX5_together_1 rfl hl (by decide) rfl (fun ls hl => ?_)
  refine lv_iconst (v := 0) hx hb dX5_together_2 (by decide) ?_
  refine lv_istore_n (lv' := [(3, .int 0), (2, .int 0), (0, .ref (a 5)), (1, .int 65535)]) hx hb dX5_together_3 rfl hl (by decide) rfl (fun ls hl => ?_)
  refine lv_iload_n hx hb dX5_together_4 rfl (lv_at hl 0 rfl) ?_
  refine lv_aload_n hx hb dX5_together_5 rfl (lv_at hl 2 rfl) ?_
  refine va_get (D := D) (ci := 5) (v := .int 0) (C := RX5) (T := TX5) (N := 15) hx hb hT ix_5 hown hK hP 0 rfl rfl 8 (by decide) (hT _ sw_343) (fun _ h9 => h9) rfl dX5_together_6 ?_
  refine lv_icmp_ge (tgt := 39) hx hb dX5_together_9 (by decide) (fun _ => ?_) (fun h9 => absurd (by decide) h9)
  refine lv_iload_n hx hb dX5_together_39 rfl (lv_at hl 1 rfl) ?_
  exact W.iret (v := 0) hx hb hr (fun t ht _ => ⟨rfl, ht⟩) (fun _ h9 => nomatch h9) dX5_together_40
set_option maxHeartbeats 4000000 in
set_option maxRecDepth 100000 in
theorem kX11_triedOnTape_1 (l : Launch) (D : va_G) (cI : ClassId) (h0 : Nat) (a : Nat → Nat) (p0 p1 : Int32) (sz : Nat) : Met l yX11_triedOnTape (sw_ws yX11_triedOnTape cX11_triedOnTape 6 (some .int)) (rm_ 1 23 0 0) (p_M D vwCl [(cI, .int)] [.ref h0, .int p0, .int 65535, .int p1] [(h0, .inr (11, (Value.ref (a 0) :: Value.ref (a 1) :: Value.ref (a 2) :: Value.ref (a 3) :: Value.ref (a 4) :: Value.ref (a 5) :: Value.ref (a 6) :: Value.ref (a 7) :: Value.ref (a 8) :: Value.ref (a 9) :: Value.ref (a 10) :: Value.ref (a 11) :: Value.ref (a 12) :: Value.ref (a 13) :: Value.ref (a 14) :: Value.int 0 :: Value.int 0 :: Value.int 0 :: []))), ((a 0), .inr (9, [.ref (a 15), .int 0])), ((a 5), .inr (5, (Value.ref (a 30) :: Value.ref (a 31) :: Value.ref (a 32) :: Value.ref (a 33) :: Value.ref (a 34) :: Value.ref (a 35) :: Value.ref (a 36) :: Value.ref (a 37) :: Value.int 0 :: Value.int 0 :: Value.int 0 :: Value.int 0 :: Value.int 0 :: Value.int 0 :: Value.int 0 :: [])))] sz) (q_M D vwCl (some (.int (-1))) (fun u => [(h0, .inr (11, (Value.ref (a 0) :: Value.ref (a 1) :: Value.ref (a 2) :: Value.ref (a 3) :: Value.ref (a 4) :: Value.ref (a 5) :: Value.ref (a 6) :: Value.ref (a 7) :: Value.ref (a 8) :: Value.ref (a 9) :: Value.ref (a 10) :: Value.ref (a 11) :: Value.ref (a 12) :: Value.ref (a 13) :: Value.ref (a 14) :: Value.int 0 :: Value.int 0 :: Value.int 0 :: []))), ((a 0), .inr (9, [.ref (a 15), .int 0])), ((a 5), .inr (5, (Value.ref (a 30) :: Value.ref (a 31) :: Value.ref (a 32) :: Value.ref (a 33) :: Value.ref (a 34) :: Value.ref (a 35) :: Value.ref (a 36) :: Value.ref (a 37) :: Value.int 0 :: Value.int 0 :: Value.int 0 :: Value.int 0 :: Value.int 0 :: Value.int 0 :: Value.int 0 :: [])))]) (va_A [(h0, .inr (11, (Value.ref (a 0) :: Value.ref (a 1) :: Value.ref (a 2) :: Value.ref (a 3) :: Value.ref (a 4) :: Value.ref (a 5) :: Value.ref (a 6) :: Value.ref (a 7) :: Value.ref (a 8) :: Value.ref (a 9) :: Value.ref (a 10) :: Value.ref (a 11) :: Value.ref (a 12) :: Value.ref (a 13) :: Value.ref (a 14) :: Value.int 0 :: Value.int 0 :: Value.int 0 :: []))), ((a 0), .inr (9, [.ref (a 15), .int 0])), ((a 5), .inr (5, (Value.ref (a 30) :: Value.ref (a 31) :: Value.ref (a 32) :: Value.ref (a 33) :: Value.ref (a 34) :: Value.ref (a 35) :: Value.ref (a 36) :: Value.ref (a 37) :: Value.int 0 :: Value.int 0 :: Value.int 0 :: Value.int 0 :: Value.int 0 :: Value.int 0 :: Value.int 0 :: [])))] sz)) 0 0 (va_A [(h0, .inr (11, (Value.ref (a 0) :: Value.ref (a 1) :: Value.ref (a 2) :: Value.ref (a 3) :: Value.ref (a 4) :: Value.ref (a 5) :: Value.ref (a 6) :: Value.ref (a 7) :: Value.ref (a 8) :: Value.ref (a 9) :: Value.ref (a 10) :: Value.ref (a 11) :: Value.ref (a 12) :: Value.ref (a 13) :: Value.ref (a 14) :: Value.int 0 :: Value.int 0 :: Value.int 0 :: []))), ((a 0), .inr (9, [.ref (a 15), .int 0])), ((a 5), .inr (5, (Value.ref (a 30) :: Value.ref (a 31) :: Value.ref (a 32) :: Value.ref (a 33) :: Value.ref (a 34) :: Value.ref (a 35) :: Value.ref (a 36) :: Value.ref (a 37) :: Value.int 0 :: Value.int 0 :: Value.int 0 :: Value.int 0 :: Value.int 0 :: Value.int 0 :: Value.int 0 :: [])))] sz) := by
  refine Met.ofW (cc := cX11_triedOnTape) (maxL := 6) (ret := (some .int)) (by decide) rfl ?_
  intro p e s m args below meth c s₁ B hml hv
  obtain ⟨rfl, hsz, hP, hK, hD0⟩ := hv
  have hx := B.exec
  have hb := B.bytes
  have hr := B.returns
  have hT := sw_in (atoms_spec (ws := sw_ws yX11_triedOnTape cX11_triedOnTape 6 (some .int)) B.pre)
  have hown : s.vm.findClass RX11 = some m.cls := findClass_of_methodNamed B.named
  have hlocks := B.notSynchronized
  subst hsz
  have hD := hD0.self (sz := s.heap.size)
  generalize hAe : va_A [(h0, .inr (11, (Value.ref (a 0) :: Value.ref (a 1) :: Value.ref (a 2) :: Value.ref (a 3) :: Value.ref (a 4) :: Value.ref (a 5) :: Value.ref (a 6) :: Value.ref (a 7) :: Value.ref (a 8) :: Value.ref (a 9) :: Value.ref (a 10) :: Value.ref (a 11) :: Value.ref (a 12) :: Value.ref (a 13) :: Value.ref (a 14) :: Value.int 0 :: Value.int 0 :: Value.int 0 :: []))), ((a 0), .inr (9, [.ref (a 15), .int 0])), ((a 5), .inr (5, (Value.ref (a 30) :: Value.ref (a 31) :: Value.ref (a 32) :: Value.ref (a 33) :: Value.ref (a 34) :: Value.ref (a 35) :: Value.ref (a 36) :: Value.ref (a 37) :: Value.int 0 :: Value.int 0 :: Value.int 0 :: Value.int 0 :: Value.int 0 :: Value.int 0 :: Value.int 0 :: [])))] s.heap.size = A at hD ⊢
  have hA : ∀ q : Nat, s.heap.size ≤ q → A q := fun q h => by rw [← hAe]; exact Or.inr h
  have hS : va_S A s.heap s.heap [] := va_S.rf
  have hl := lv_entry ([.ref h0, .int p0, .int 65535, .int p1]) (n := 6) (Nat.le_of_ble_eq_true rfl)
  rw [lg_entry_eq]
  generalize (lg_sl ([.ref h0, .int p0, .int 65535, .int p1]) ++ List.replicate (6 - (lg_sl ([.ref h0, .int p0, .int 65535, .int p1])).length) Slot.unset).toArray = ls at hl ⊢
  have hl : lv_has ls 6 [(0, .ref h0), (1, .int p0), (2, .int 65535), (3, .int p1)] := hl
  refine lv_aload_n hx hb dX11_triedOnTape_0 rfl (lv_at hl 0 rfl) ?_
  refine va_get (D := D) (ci := 11) (v := .ref (a 0)) (C := RX11) (T := TX11) (N := 18) hx hb hT ix_11 hown hK hP 0 rfl rfl 0 (by decide) (hT _ sw_515) (fun _ h9 => h9) rfl dX11_triedOnTape_1 ?_
  refine va_getN (D := D) (ci := 9) (v := .int 0) (C := RX9) (T := TX9) (N := 2) hx hb hT ix_9 hown hK hP 1 rfl rfl 1 (by decide) (hT _ sw_157) (fun _ h9 => h9) rfl dX11_triedOnTape_4 ?_
  refine lv_istore (lv' := [(4, .int 0), (0, .ref h0), (1, .int p0), (2, .int 65535), (3, .int p1)]) hx hb dX11_triedOnTape_7 hl (by decide) rfl (fun ls hl => ?_)
  refine lv_aload_n hx hb dX11_triedOnTape_9 rfl (lv_at hl 1 rfl) ?_
  refine va_get (D := D) (ci := 11) (v := .ref (a 0)) (C := RX11) (T := TX11) (N := 18) hx hb hT ix_11 hown hK hP 0 rfl rfl 0 (by decide) (hT _ sw_515) (fun _ h9 => h9) rfl dX11_triedOnTape_10 ?_
  refine lv_iconst (v := 0) hx hb dX11_triedOnTape_13 (by decide) ?_
  refine va_putN (D := D) (ci := 9) (v := .int 0) (ty := .int) (C := RX9) (T := TX9) (N := 2) hx hb hT ix_9 tyX9 tyX9_ok nmX9 hown hK hP hD hS 1 rfl rfl 1 (by decide) (hT _ sw_157) (fun _ h9 => h9) rfl (by decide +kernel) rfl rfl (Nat.le_of_ble_eq_true rfl) dX11_triedOnTape_14 (fun H locs hP hD hS => ?_)
  have hP : va_P D vwCl [(h0, .inr (11, (Value.ref (a 0) :: Value.ref (a 1) :: Value.ref (a 2) :: Value.ref (a 3) :: Value.ref (a 4) :: Value.ref (a 5) :: Value.ref (a 6) :: Value.ref (a 7) :: Value.ref (a 8) :: Value.ref (a 9) :: Value.ref (a 10) :: Value.ref (a 11) :: Value.ref (a 12) :: Value.ref (a 13) :: Value.ref (a 14) :: Value.int 0 :: Value.int 0 :: Value.int 0 :: []))), ((a 0), .inr (9, [.ref (a 15), .int 0])), ((a 5), .inr (5, (Value.ref (a 30) :: Value.ref (a 31) :: Value.ref (a 32) :: Value.ref (a 33) :: Value.ref (a 34) :: Value.ref (a 35) :: Value.ref (a 36) :: Value.ref (a 37) :: Value.int 0 :: Value.int 0 :: Value.int 0 :: Value.int 0 :: Value.int 0 :: Value.int 0 :: Value.int 0 :: [])))] H := hP
  have hD : va_D A [(h0, .inr (11, (Value.ref (a 0) :: Value.ref (a 1) :: Value.ref (a 2) :: Value.ref (a 3) :: Value.ref (a 4) :: Value.ref (a 5) :: Value.ref (a 6) :: Value.ref (a 7) :: Value.ref (a 8) :: Value.ref (a 9) :: Value.ref (a 10) :: Value.ref (a 11) :: Value.ref (a 12) :: Value.ref (a 13) :: Value.ref (a 14) :: Value.int 0 :: Value.int 0 :: Value.int 0 :: []))), ((a 0), .inr (9, [.ref (a 15), .int 0])), ((a 5), .inr (5, (Value.ref (a 30) :: Value.ref (a 31) :: Value.ref (a 32) :: Value.ref (a 33) :: Value.ref (a 34) :: Value.ref (a 35) :: Value.ref (a 36) :: Value.ref (a 37) :: Value.int 0 :: Value.int 0 :: Value.int 0 :: Value.int 0 :: Value.int 0 :: Value.int 0 :: Value.int 0 :: [])))] := hD
  refine lv_aload_n hx hb dX11_triedOnTape_17 rfl (lv_at hl 1 rfl) ?_
  refine va_get (D := D) (ci := 11) (v := .ref (a 5)) (C := RX11) (T := TX11) (N := 18) hx hb hT ix_11 hown hK hP 0 rfl rfl 5 (by decide) (hT _ sw_520) (fun _ h9 => h9) rfl dX11_triedOnTape_18 ?_
  refine lv_iload_n hx hb dX11_triedOnTape_21 rfl (lv_at hl 3 rfl) ?_
  refine go_R (v := some (.int 0)) (st1 := [.int 0]) (run_V (As := [.int 65535]) (rest := []) ⟨hx, hb, hml, hown, hT⟩ (kX5_together_1 l D cI h0 a) sw_932 lkv_X5_together (p_R_V (ci := 5) (q0 := 0) (hP.sub (ws' := [((a 5), .inr (5, (Value.ref (a 30) :: Value.ref (a 31) :: Value.ref (a 32) :: Value.ref (a 33) :: Value.ref (a 34) :: Value.ref (a 35) :: Value.ref (a 36) :: Value.ref (a 37) :: Value.int 0 :: Value.int 0 :: Value.int 0 :: Value.int 0 :: Value.int 0 :: Value.int 0 :: Value.int 0 :: [])))]) [2] rfl) hK rfl rfl) rfl hl.1 rfl (Nat.le_of_ble_eq_true rfl) dX11_triedOnTape_22 ⟨⟨Nat.le_of_ble_eq_true rfl, Nat.le_of_ble_eq_true rfl⟩, Nat.le_of_ble_eq_true rfl, Nat.le_of_ble_eq_true rfl⟩) rfl ?_
  refine lv_if_eq (tgt := 44) hx hb dX11_triedOnTape_25 (by decide) (fun _ => ?_) (fun h9 => absurd (by decide) h9)
  refine lv_iconst (v := (-1)) hx hb dX11_triedOnTape_44 (by decide) ?_
  have hP9 := hP.sub (ws' := [(h0, .inr (11, (Value.ref (a 0) :: Value.ref (a 1) :: Value.ref (a 2) :: Value.ref (a 3) :: Value.ref (a 4) :: Value.ref (a 5) :: Value.ref (a 6) :: Value.ref (a 7) :: Value.ref (a 8) :: Value.ref (a 9) :: Value.ref (a 10) :: Value.ref (a 11) :: Value.ref (a 12) :: Value.ref (a 13) :: Value.ref (a 14) :: Value.int 0 :: Value.int 0 :: Value.int 0 :: []))), ((a 0), .inr (9, [.ref (a 15), .int 0])), ((a 5), .inr (5, (Value.ref (a 30) :: Value.ref (a 31) :: Value.ref (a 32) :: Value.ref (a 33) :: Value.ref (a 34) :: Value.ref (a 35) :: Value.ref (a 36) :: Value.ref (a 37) :: Value.int 0 :: Value.int 0 :: Value.int 0 :: Value.int 0 :: Value.int 0 :: Value.int 0 :: Value.int 0 :: [])))]) [0, 1, 2] rfl
  have hD9 := hD.sub (ws' := [(h0, .inr (11, (Value.ref (a 0) :: Value.ref (a 1) :: Value.ref (a 2) :: Value.ref (a 3) :: Value.ref (a 4) :: Value.ref (a 5) :: Value.ref (a 6) :: Value.ref (a 7) :: Value.ref (a 8) :: Value.ref (a 9) :: Value.ref (a 10) :: Value.ref (a 11) :: Value.ref (a 12) :: Value.ref (a 13) :: Value.ref (a 14) :: Value.int 0 :: Value.int 0 :: Value.int 0 :: []))), ((a 0), .inr (9, [.ref (a 15), .int 0])), ((a 5), .inr (5, (Value.ref (a 30) :: Value.ref (a 31) :: Value.ref (a 32) :: Value.ref (a 33) :: Value.ref (a 34) :: Value.ref (a 35) :: Value.ref (a 36) :: Value.ref (a 37) :: Value.int 0 :: Value.int 0 :: Value.int 0 :: Value.int 0 :: Value.int 0 :: Value.int 0 :: Value.int 0 :: [])))]) [0, 1, 2] (by decide) rfl
  exact W.iret (v := (-1)) hx hb hr (fun t ht _ => ⟨rfl, ⟨(fun k => [].getD k 0, fun k => [].getD k zI), by rw [ht]; exact hP9, hD9⟩, hS.F ht⟩) hS.2.2 dX11_triedOnTape_45
