set_option maxHeartbeats 4000000 in
set_option maxRecDepth 100000 in
theorem kX11_owed_0 (l : Launch) (D : va_G) (cI : ClassId) (h0 : Nat) (a : Nat → Nat) (p0 : Int32) : Met l yX11_owed (sw_ws yX11_owed cX11_owed 2 (some .int)) (rm_ 1 21 0 0) (p_R D vwCl [(cI, .int)] [.ref h0, .int p0] [(h0, .inr (11, (Value.ref (a 0) :: Value.ref (a 1) :: Value.ref (a 2) :: Value.ref (a 3) :: Value.ref (a 4) :: Value.ref (a 5) :: Value.ref (a 6) :: Value.ref (a 7) :: Value.ref (a 8) :: Value.ref (a 9) :: Value.ref (a 10) :: Value.ref (a 11) :: Value.ref (a 12) :: Value.ref (a 13) :: Value.ref (a 14) :: Value.int 0 :: Value.int 0 :: Value.int 0 :: []))), ((a 5), .inr (5, (Value.ref (a 30) :: Value.ref (a 31) :: Value.ref (a 32) :: Value.ref (a 33) :: Value.ref (a 34) :: Value.ref (a 35) :: Value.ref (a 36) :: Value.ref (a 37) :: Value.int 0 :: Value.int 0 :: Value.int 0 :: Value.int 0 :: Value.int 0 :: Value.int 0 :: Value.int 0 :: [])))]) (q_R (some (.int (-1000000)))) 0 0 (fun _ => False) := by
  refine Met.ofW (cc := cX11_owed) (maxL := 2) (ret := (some .int)) (by decide) rfl ?_
  intro p e s m args below meth c s₁ B hml hv
  obtain ⟨rfl, hP, hK⟩ := hv
  have hx := B.exec
  have hb := B.bytes
  have hr := B.returns
  have hT := sw_in (atoms_spec (ws := sw_ws yX11_owed cX11_owed 2 (some .int)) B.pre)
  have hown : s.vm.findClass RX11 = some m.cls := findClass_of_methodNamed B.named
  have hlocks := B.notSynchronized
  have hl := lv_entry ([.ref h0, .int p0]) (n := 2) (Nat.le_of_ble_eq_true rfl)
  rw [lg_entry_eq]
  generalize (lg_sl ([.ref h0, .int p0]) ++ List.replicate (2 - (lg_sl ([.ref h0, .int p0])).length) Slot.unset).toArray = ls at hl ⊢
  have hl : lv_has ls 2 [(0, .ref h0), (1, .int p0)] := hl
  refine lv_aload_n hx hb dX11_owed_0 rfl (lv_at hl 0 rfl) ?_
  refine lv_iload_n hx hb dX11_owed_1 rfl (lv_at hl 1 rfl) ?_
  refine go_R (v := some (.int 0)) (st1 := [.int 0]) (run_V (As := [.int p0]) (rest := []) ⟨hx, hb, hml, hown, hT⟩ (kX11_isThing_0 l D cI h0 a p0) sw_830 lkv_X11_isThing (p_R_V (ci := 11) (q0 := 0) (hP.sub (ws' := [(h0, .inr (11, (Value.ref (a 0) :: Value.ref (a 1) :: Value.ref (a 2) :: Value.ref (a 3) :: Value.ref (a 4) :: Value.ref (a 5) :: Value.ref (a 6) :: Value.ref (a 7) :: Value.ref (a 8) :: Value.ref (a 9) :: Value.ref (a 10) :: Value.ref (a 11) :: Value.ref (a 12) :: Value.ref (a 13) :: Value.ref (a 14) :: Value.int 0 :: Value.int 0 :: Value.int 0 :: []))), ((a 5), .inr (5, (Value.ref (a 30) :: Value.ref (a 31) :: Value.ref (a 32) :: Value.ref (a 33) :: Value.ref (a 34) :: Value.ref (a 35) :: Value.ref (a 36) :: Value.ref (a 37) :: Value.int 0 :: Value.int 0 :: Value.int 0 :: Value.int 0 :: Value.int 0 :: Value.int 0 :: Value.int 0 :: [])))]) [0, 1] rfl) hK rfl rfl) rfl hl.1 rfl (Nat.le_of_ble_eq_true rfl) dX11_owed_2 ⟨⟨Nat.le_of_ble_eq_true rfl, Nat.le_of_ble_eq_true rfl⟩, Nat.le_of_ble_eq_true rfl, Nat.le_of_ble_eq_true rfl⟩) rfl ?_
  refine lv_if_eq (tgt := 18) hx hb dX11_owed_5 (by decide) (fun _ => ?_) (fun h9 => absurd (by decide) h9)
  refine lv_ldcw (own := RX11) (v := (-1000000)) hx hb hown (hT _ sw_915) dX11_owed_18 ?_
  exact W.iret (v := (-1000000)) hx hb hr (fun t ht _ => ⟨rfl, ht⟩) (fun _ h9 => nomatch h9) dX11_owed_21
set_option maxHeartbeats 4000000 in
set_option maxRecDepth 100000 in
theorem kX11_creditor_0 (l : Launch) (D : va_G) (cI : ClassId) (h0 : Nat) (a : Nat → Nat) (p0 : Int32) : Met l yX11_creditor (sw_ws yX11_creditor cX11_creditor 6 (some .int)) (rm_ 0 0 0 0) (p_R D vwCl [(cI, .int)] [.ref h0, .int p0] [(h0, .inr (11, (Value.ref (a 0) :: Value.ref (a 1) :: Value.ref (a 2) :: Value.ref (a 3) :: Value.ref (a 4) :: Value.ref (a 5) :: Value.ref (a 6) :: Value.ref (a 7) :: Value.ref (a 8) :: Value.ref (a 9) :: Value.ref (a 10) :: Value.ref (a 11) :: Value.ref (a 12) :: Value.ref (a 13) :: Value.ref (a 14) :: Value.int 0 :: Value.int 0 :: Value.int 0 :: []))), ((a 5), .inr (5, (Value.ref (a 30) :: Value.ref (a 31) :: Value.ref (a 32) :: Value.ref (a 33) :: Value.ref (a 34) :: Value.ref (a 35) :: Value.ref (a 36) :: Value.ref (a 37) :: Value.int 0 :: Value.int 0 :: Value.int 0 :: Value.int 0 :: Value.int 0 :: Value.int 0 :: Value.int 0 :: [])))]) (q_R (some (.int (-1)))) 0 0 (fun _ => False) := by
  refine Met.ofW (cc := cX11_creditor) (maxL := 6) (ret := (some .int)) (by decide) rfl ?_
  intro p e s m args below meth c s₁ B hml hv
  obtain ⟨rfl, hP, hK⟩ := hv
  have hx := B.exec
  have hb := B.bytes
  have hr := B.returns
  have hT := sw_in (atoms_spec (ws := sw_ws yX11_creditor cX11_creditor 6 (some .int)) B.pre)
  have hown : s.vm.findClass RX11 = some m.cls := findClass_of_methodNamed B.named
  have hlocks := B.notSynchronized
  have hl := lv_entry ([.ref h0, .int p0]) (n := 6) (Nat.le_of_ble_eq_true rfl)
  rw [lg_entry_eq]
  generalize (lg_sl ([.ref h0, .int p0]) ++ List.replicate (6 - (lg_sl ([.ref h0, .int p0])).length) Slot.unset).toArray = ls at hl ⊢
  have hl : lv_has ls 6 [(0, .ref h0), (1, .int p0)] := hl
  refine lv_aload_n hx hb dX11_creditor_0 rfl (lv_at hl 0 rfl) ?_
  refine va_get (D := D) (ci := 11) (v := .ref (a 5)) (C := RX11) (T := TX11) (N := 18) hx hb hT ix_11 hown hK hP 0 rfl rfl 5 (by decide) (hT _ sw_520) (fun _ h9 => h9) rfl dX11_creditor_1 ?_
  refine va_getN (D := D) (ci := 5) (v := .int 0) (C := RX5) (T := TX5) (N := 15) hx hb hT ix_5 hown hK hP 1 rfl rfl 9 (by decide) (hT _ sw_349) (fun _ h9 => h9) rfl dX11_creditor_4 ?_
  refine lv_if_le (tgt := 19) hx hb dX11_creditor_7 (by decide) (fun _ => ?_) (fun h9 => absurd (by decide) h9)
  refine lv_iconst (v := (-1)) hx hb dX11_creditor_19 (by decide) ?_
  exact W.iret (v := (-1)) hx hb hr (fun t ht _ => ⟨rfl, ht⟩) (fun _ h9 => nomatch h9) dX11_creditor_20
set_option maxHeartbeats 4000000 in
set_option maxRecDepth 100000 in
theorem kX11_isTeam_0 (l : Launch) (D : va_G) (cI : ClassId) (h0 : Nat) (a : Nat → Nat) (p0 : Int32) : Met l yX11_isTeam (sw_ws yX11_isTeam cX11_isTeam 2 (some .boolean)) (rm_ 0 0 0 0) (p_R D vwCl [(cI, .int)] [.ref h0, .int p0] [(h0, .inr (11, (Value.ref (a 0) :: Value.ref (a 1) :: Value.ref (a 2) :: Value.ref (a 3) :: Value.ref (a 4) :: Value.ref (a 5) :: Value.ref (a 6) :: Value.ref (a 7) :: Value.ref (a 8) :: Value.ref (a 9) :: Value.ref (a 10) :: Value.ref (a 11) :: Value.ref (a 12) :: Value.ref (a 13) :: Value.ref (a 14) :: Value.int 0 :: Value.int 0 :: Value.int 0 :: []))), ((a 1), .inr (3, [.ref (a 16), .ref (a 17), .ref (a 18), .ref (a 19), .int 0, .int 0, .int 0, .int 0]))]) (q_R (some (.int 0))) 0 0 (fun _ => False) := by
  refine Met.ofW (cc := cX11_isTeam) (maxL := 2) (ret := (some .boolean)) (by decide) rfl ?_
  intro p e s m args below meth c s₁ B hml hv
  obtain ⟨rfl, hP, hK⟩ := hv
  have hx := B.exec
  have hb := B.bytes
  have hr := B.returns
  have hT := sw_in (atoms_spec (ws := sw_ws yX11_isTeam cX11_isTeam 2 (some .boolean)) B.pre)
  have hown : s.vm.findClass RX11 = some m.cls := findClass_of_methodNamed B.named
  have hlocks := B.notSynchronized
  have hl := lv_entry ([.ref h0, .int p0]) (n := 2) (Nat.le_of_ble_eq_true rfl)
  rw [lg_entry_eq]
  generalize (lg_sl ([.ref h0, .int p0]) ++ List.replicate (2 - (lg_sl ([.ref h0, .int p0])).length) Slot.unset).toArray = ls at hl ⊢
  have hl : lv_has ls 2 [(0, .ref h0), (1, .int p0)] := hl
  refine lv_iload_n hx hb dX11_isTeam_0 rfl (lv_at hl 1 rfl) ?_
  refine lv_if_lt (tgt := 24) hx hb dX11_isTeam_1 (by decide) (fun c_1 => ?_) (fun c_1 => ?_)
  · refine lv_iconst (v := 0) hx hb dX11_isTeam_24 (by decide) ?_
    exact W.zret (v := 0) hx hb hr (by decide) (fun t ht _ => ⟨rfl, ht⟩) (fun _ h9 => nomatch h9) dX11_isTeam_25
  · refine lv_iload_n hx hb dX11_isTeam_4 rfl (lv_at hl 1 rfl) ?_
    refine lv_aload_n hx hb dX11_isTeam_5 rfl (lv_at hl 0 rfl) ?_
    refine va_get (D := D) (ci := 11) (v := .ref (a 1)) (C := RX11) (T := TX11) (N := 18) hx hb hT ix_11 hown hK hP 0 rfl rfl 1 (by decide) (hT _ sw_516) (fun _ h9 => h9) rfl dX11_isTeam_6 ?_
    refine va_getN (D := D) (ci := 3) (v := .int 0) (C := RX3) (T := TX3) (N := 8) hx hb hT ix_3 hown hK hP 1 rfl rfl 7 (by decide) (hT _ sw_189) (fun _ h9 => h9) rfl dX11_isTeam_9 ?_
    refine lv_icmp_ge (tgt := 24) hx hb dX11_isTeam_12 (by decide) (fun c_2 => ?_) (fun c_2 => ?_)
    · refine lv_iconst (v := 0) hx hb dX11_isTeam_24 (by decide) ?_
      exact W.zret (v := 0) hx hb hr (by decide) (fun t ht _ => ⟨rfl, ht⟩) (fun _ h9 => nomatch h9) dX11_isTeam_25
    · exact (pl_11 p0 c_1 c_2).elim
set_option maxHeartbeats 4000000 in
set_option maxRecDepth 100000 in
theorem kX11_team_0 (l : Launch) (D : va_G) (cI : ClassId) (h0 : Nat) (a : Nat → Nat) (p0 p1 : Int32) : Met l yX11_team (sw_ws yX11_team cX11_team 4 (some .int)) (rm_ 1 21 0 0) (p_R D vwCl [(cI, .int)] [.ref h0, .int p0, .int p1] [(h0, .inr (11, (Value.ref (a 0) :: Value.ref (a 1) :: Value.ref (a 2) :: Value.ref (a 3) :: Value.ref (a 4) :: Value.ref (a 5) :: Value.ref (a 6) :: Value.ref (a 7) :: Value.ref (a 8) :: Value.ref (a 9) :: Value.ref (a 10) :: Value.ref (a 11) :: Value.ref (a 12) :: Value.ref (a 13) :: Value.ref (a 14) :: Value.int 0 :: Value.int 0 :: Value.int 0 :: []))), ((a 1), .inr (3, [.ref (a 16), .ref (a 17), .ref (a 18), .ref (a 19), .int 0, .int 0, .int 0, .int 0]))]) (q_R (some (.int (-1)))) 0 0 (fun _ => False) := by
  refine Met.ofW (cc := cX11_team) (maxL := 4) (ret := (some .int)) (by decide) rfl ?_
  intro p e s m args below meth c s₁ B hml hv
  obtain ⟨rfl, hP, hK⟩ := hv
  have hx := B.exec
  have hb := B.bytes
  have hr := B.returns
  have hT := sw_in (atoms_spec (ws := sw_ws yX11_team cX11_team 4 (some .int)) B.pre)
  have hown : s.vm.findClass RX11 = some m.cls := findClass_of_methodNamed B.named
  have hlocks := B.notSynchronized
  have hl := lv_entry ([.ref h0, .int p0, .int p1]) (n := 4) (Nat.le_of_ble_eq_true rfl)
  rw [lg_entry_eq]
  generalize (lg_sl ([.ref h0, .int p0, .int p1]) ++ List.replicate (4 - (lg_sl ([.ref h0, .int p0, .int p1])).length) Slot.unset).toArray = ls at hl ⊢
  have hl : lv_has ls 4 [(0, .ref h0), (1, .int p0), (2, .int p1)] := hl
  refine lv_aload_n hx hb dX11_team_0 rfl (lv_at hl 0 rfl) ?_
  refine lv_iload_n hx hb dX11_team_1 rfl (lv_at hl 1 rfl) ?_
  refine go_R (v := some (.int 0)) (st1 := [.int 0]) (run_V (As := [.int p0]) (rest := []) ⟨hx, hb, hml, hown, hT⟩ (kX11_isTeam_0 l D cI h0 a p0) sw_928 lkv_X11_isTeam (p_R_V (ci := 11) (q0 := 0) (hP.sub (ws' := [(h0, .inr (11, (Value.ref (a 0) :: Value.ref (a 1) :: Value.ref (a 2) :: Value.ref (a 3) :: Value.ref (a 4) :: Value.ref (a 5) :: Value.ref (a 6) :: Value.ref (a 7) :: Value.ref (a 8) :: Value.ref (a 9) :: Value.ref (a 10) :: Value.ref (a 11) :: Value.ref (a 12) :: Value.ref (a 13) :: Value.ref (a 14) :: Value.int 0 :: Value.int 0 :: Value.int 0 :: []))), ((a 1), .inr (3, [.ref (a 16), .ref (a 17), .ref (a 18), .ref (a 19), .int 0, .int 0, .int 0, .int 0]))]) [0, 1] rfl) hK rfl rfl) rfl hl.1 rfl (Nat.le_of_ble_eq_true rfl) dX11_team_2 ⟨⟨Nat.le_of_ble_eq_true rfl, Nat.le_of_ble_eq_true rfl⟩, Nat.le_of_ble_eq_true rfl, Nat.le_of_ble_eq_true rfl⟩) rfl ?_
  refine lv_if_ne (tgt := 10) hx hb dX11_team_5 (by decide) (fun h9 => absurd (by decide) h9) (fun _ => ?_)
  refine lv_iconst (v := (-1)) hx hb dX11_team_8 (by decide) ?_
  exact W.iret (v := (-1)) hx hb hr (fun t ht _ => ⟨rfl, ht⟩) (fun _ h9 => nomatch h9) dX11_team_9
set_option maxHeartbeats 4000000 in
set_option maxRecDepth 100000 in
theorem kX11_called_0 (l : Launch) (D : va_G) (cI : ClassId) (h0 : Nat) (a : Nat → Nat) (p0 p1 : Int32) : Met l yX11_called (sw_ws yX11_called cX11_called 3 (some .int)) (rm_ 1 21 0 0) (p_R D vwCl [(cI, .int)] [.ref h0, .int p0, .int p1] [(h0, .inr (11, (Value.ref (a 0) :: Value.ref (a 1) :: Value.ref (a 2) :: Value.ref (a 3) :: Value.ref (a 4) :: Value.ref (a 5) :: Value.ref (a 6) :: Value.ref (a 7) :: Value.ref (a 8) :: Value.ref (a 9) :: Value.ref (a 10) :: Value.ref (a 11) :: Value.ref (a 12) :: Value.ref (a 13) :: Value.ref (a 14) :: Value.int 0 :: Value.int 0 :: Value.int 0 :: []))), ((a 1), .inr (3, [.ref (a 16), .ref (a 17), .ref (a 18), .ref (a 19), .int 0, .int 0, .int 0, .int 0]))]) (q_R (some (.int (-1)))) 0 0 (fun _ => False) := by
  refine Met.ofW (cc := cX11_called) (maxL := 3) (ret := (some .int)) (by decide) rfl ?_
  intro p e s m args below meth c s₁ B hml hv
  obtain ⟨rfl, hP, hK⟩ := hv
  have hx := B.exec
  have hb := B.bytes
  have hr := B.returns
  have hT := sw_in (atoms_spec (ws := sw_ws yX11_called cX11_called 3 (some .int)) B.pre)
  have hown : s.vm.findClass RX11 = some m.cls := findClass_of_methodNamed B.named
  have hlocks := B.notSynchronized
  have hl := lv_entry ([.ref h0, .int p0, .int p1]) (n := 3) (Nat.le_of_ble_eq_true rfl)
  rw [lg_entry_eq]
  generalize (lg_sl ([.ref h0, .int p0, .int p1]) ++ List.replicate (3 - (lg_sl ([.ref h0, .int p0, .int p1])).length) Slot.unset).toArray = ls at hl ⊢
  have hl : lv_has ls 3 [(0, .ref h0), (1, .int p0), (2, .int p1)] := hl
  refine lv_aload_n hx hb dX11_called_0 rfl (lv_at hl 0 rfl) ?_
  refine lv_iload_n hx hb dX11_called_1 rfl (lv_at hl 1 rfl) ?_
  refine go_R (v := some (.int 0)) (st1 := [.int 0]) (run_V (As := [.int p0]) (rest := []) ⟨hx, hb, hml, hown, hT⟩ (kX11_isTeam_0 l D cI h0 a p0) sw_928 lkv_X11_isTeam (p_R_V (ci := 11) (q0 := 0) (hP.sub (ws' := [(h0, .inr (11, (Value.ref (a 0) :: Value.ref (a 1) :: Value.ref (a 2) :: Value.ref (a 3) :: Value.ref (a 4) :: Value.ref (a 5) :: Value.ref (a 6) :: Value.ref (a 7) :: Value.ref (a 8) :: Value.ref (a 9) :: Value.ref (a 10) :: Value.ref (a 11) :: Value.ref (a 12) :: Value.ref (a 13) :: Value.ref (a 14) :: Value.int 0 :: Value.int 0 :: Value.int 0 :: []))), ((a 1), .inr (3, [.ref (a 16), .ref (a 17), .ref (a 18), .ref (a 19), .int 0, .int 0, .int 0, .int 0]))]) [0, 1] rfl) hK rfl rfl) rfl hl.1 rfl (Nat.le_of_ble_eq_true rfl) dX11_called_2 ⟨⟨Nat.le_of_ble_eq_true rfl, Nat.le_of_ble_eq_true rfl⟩, Nat.le_of_ble_eq_true rfl, Nat.le_of_ble_eq_true rfl⟩) rfl ?_
  refine lv_if_eq (tgt := 24) hx hb dX11_called_5 (by decide) (fun _ => ?_) (fun h9 => absurd (by decide) h9)
  refine lv_iconst (v := (-1)) hx hb dX11_called_24 (by decide) ?_
  exact W.iret (v := (-1)) hx hb hr (fun t ht _ => ⟨rfl, ht⟩) (fun _ h9 => nomatch h9) dX11_called_25
set_option maxHeartbeats 4000000 in
set_option maxRecDepth 100000 in
theorem kX11_inside_0 (l : Launch) (D : va_G) (cI : ClassId) (h0 : Nat) (a : Nat → Nat) (p0 p1 p2 : Int32) : Met l yX11_inside (sw_ws yX11_inside cX11_inside 4 (some .int)) (rm_ 1 21 0 0) (p_R D vwCl [(cI, .int)] [.ref h0, .int p0, .int p1, .int p2] [(h0, .inr (11, (Value.ref (a 0) :: Value.ref (a 1) :: Value.ref (a 2) :: Value.ref (a 3) :: Value.ref (a 4) :: Value.ref (a 5) :: Value.ref (a 6) :: Value.ref (a 7) :: Value.ref (a 8) :: Value.ref (a 9) :: Value.ref (a 10) :: Value.ref (a 11) :: Value.ref (a 12) :: Value.ref (a 13) :: Value.ref (a 14) :: Value.int 0 :: Value.int 0 :: Value.int 0 :: []))), ((a 1), .inr (3, [.ref (a 16), .ref (a 17), .ref (a 18), .ref (a 19), .int 0, .int 0, .int 0, .int 0]))]) (q_R (some (.int (-1)))) 0 0 (fun _ => False) := by
  refine Met.ofW (cc := cX11_inside) (maxL := 4) (ret := (some .int)) (by decide) rfl ?_
  intro p e s m args below meth c s₁ B hml hv
  obtain ⟨rfl, hP, hK⟩ := hv
  have hx := B.exec
  have hb := B.bytes
  have hr := B.returns
  have hT := sw_in (atoms_spec (ws := sw_ws yX11_inside cX11_inside 4 (some .int)) B.pre)
  have hown : s.vm.findClass RX11 = some m.cls := findClass_of_methodNamed B.named
  have hlocks := B.notSynchronized
  have hl := lv_entry ([.ref h0, .int p0, .int p1, .int p2]) (n := 4) (Nat.le_of_ble_eq_true rfl)
  rw [lg_entry_eq]
  generalize (lg_sl ([.ref h0, .int p0, .int p1, .int p2]) ++ List.replicate (4 - (lg_sl ([.ref h0, .int p0, .int p1, .int p2])).length) Slot.unset).toArray = ls at hl ⊢
  have hl : lv_has ls 4 [(0, .ref h0), (1, .int p0), (2, .int p1), (3, .int p2)] := hl
  refine lv_aload_n hx hb dX11_inside_0 rfl (lv_at hl 0 rfl) ?_
  refine lv_iload_n hx hb dX11_inside_1 rfl (lv_at hl 1 rfl) ?_
  refine go_R (v := some (.int 0)) (st1 := [.int 0]) (run_V (As := [.int p0]) (rest := []) ⟨hx, hb, hml, hown, hT⟩ (kX11_isTeam_0 l D cI h0 a p0) sw_928 lkv_X11_isTeam (p_R_V (ci := 11) (q0 := 0) (hP.sub (ws' := [(h0, .inr (11, (Value.ref (a 0) :: Value.ref (a 1) :: Value.ref (a 2) :: Value.ref (a 3) :: Value.ref (a 4) :: Value.ref (a 5) :: Value.ref (a 6) :: Value.ref (a 7) :: Value.ref (a 8) :: Value.ref (a 9) :: Value.ref (a 10) :: Value.ref (a 11) :: Value.ref (a 12) :: Value.ref (a 13) :: Value.ref (a 14) :: Value.int 0 :: Value.int 0 :: Value.int 0 :: []))), ((a 1), .inr (3, [.ref (a 16), .ref (a 17), .ref (a 18), .ref (a 19), .int 0, .int 0, .int 0, .int 0]))]) [0, 1] rfl) hK rfl rfl) rfl hl.1 rfl (Nat.le_of_ble_eq_true rfl) dX11_inside_2 ⟨⟨Nat.le_of_ble_eq_true rfl, Nat.le_of_ble_eq_true rfl⟩, Nat.le_of_ble_eq_true rfl, Nat.le_of_ble_eq_true rfl⟩) rfl ?_
  refine lv_if_eq (tgt := 32) hx hb dX11_inside_5 (by decide) (fun _ => ?_) (fun h9 => absurd (by decide) h9)
  refine lv_iconst (v := (-1)) hx hb dX11_inside_32 (by decide) ?_
  exact W.iret (v := (-1)) hx hb hr (fun t ht _ => ⟨rfl, ht⟩) (fun _ h9 => nomatch h9) dX11_inside_33
set_option maxHeartbeats 4000000 in
set_option maxRecDepth 100000 in
theorem kX5_together_0 (l : Launch) (D : va_G) (cI : ClassId) (h0 : Nat) (a : Nat → Nat) : Met l yX5_together (sw_ws yX5_together cX5_together 4 (some .int)) (rm_ 0 0 0 0) (p_R D vwCl [(cI, .int)] [.ref (a 5), .int 0] [((a 5), .inr (5, (Value.ref (a 30) :: Value.ref (a 31) :: Value.ref (a 32) :: Value.ref (a 33) :: Value.ref (a 34) :: Value.ref (a 35) :: Value.ref (a 36) :: Value.ref (a 37) :: Value.int 0 :: Value.int 0 :: Value.int 0 :: Value.int 0 :: Value.int 0 :: Value.int 0 :: Value.int 0 :: [])))]) (q_R (some (.int 0))) 0 0 (fun _ => False) := by
  refine Met.ofW (cc := cX5_together) (maxL := 4) (ret := (some .int)) (by decide) rfl ?_
  intro p e s m args below meth c s₁ B hml hv
  obtain ⟨rfl, hP, hK⟩ := hv
  have hx := B.exec
  have hb := B.bytes
  have hr := B.returns
  have hT := sw_in (atoms_spec (ws := sw_ws yX5_together cX5_together 4 (some .int)) B.pre)
  have hown : s.vm.findClass RX5 = some m.cls := findClass_of_methodNamed B.named
  have hlocks := B.notSynchronized
  have hl := lv_entry ([.ref (a 5), .int 0]) (n := 4) (Nat.le_of_ble_eq_true rfl)
  rw [lg_entry_eq]
  generalize (lg_sl ([.ref (a 5), .int 0]) ++ List.replicate (4 - (lg_sl ([.ref (a 5), .int 0])).length) Slot.unset).toArray = ls at hl ⊢
  have hl : lv_has ls 4 [(0, .ref (a 5)), (1, .int 0)] := hl
  refine lv_iconst (v := 0) hx hb dX5_together_0 (by decide) ?_
  refine lv_istore_n (lv' := [(2, .int 0), (0, .ref (a 5)), (1, .int 0)]) hx hb dX5_together_1 rfl hl (by decide) rfl (fun ls hl => ?_)
  refine lv_iconst (v := 0) hx hb dX5_together_2 (by decide) ?_
  refine lv_istore_n (lv' := [(3, .int 0), (2, .int 0), (0, .ref (a 5)), (1, .int 0)]) hx hb dX5_together_3 rfl hl (by decide) rfl (fun ls hl => ?_)
  refine lv_iload_n hx hb dX5_together_4 rfl (lv_at hl 0 rfl) ?_
  refine lv_aload_n hx hb dX5_together_5 rfl (lv_at hl 2 rfl) ?_
  refine va_get (D := D) (ci := 5) (v := .int 0) (C := RX5) (T := TX5) (N := 15) hx hb hT ix_5 hown hK hP 0 rfl rfl 8 (by decide) (hT _ sw_343) (fun _ h9 => h9) rfl dX5_together_6 ?_
  refine lv_icmp_ge (tgt := 39) hx hb dX5_together_9 (by decide) (fun _ => ?_) (fun h9 => absurd (by decide) h9)
  refine lv_iload_n hx hb dX5_together_39 rfl (lv_at hl 1 rfl) ?_
  exact W.iret (v := 0) hx hb hr (fun t ht _ => ⟨rfl, ht⟩) (fun _ h9 => nomatch h9) dX5_together_40
set_option maxHeartbeats 4000000 in
set_option maxRecDepth 100000 in
theorem kX11_triedOnTape_0 (l : Launch) (D : va_G) (cI : ClassId) (h0 : Nat) (a : Nat → Nat) (p0 : Int32) (sz : Nat) : Met l yX11_triedOnTape (sw_ws yX11_triedOnTape cX11_triedOnTape 6 (some .int)) (rm_ 1 23 0 0) (p_M D vwCl [(cI, .int)] [.ref h0, .int 1, .int 0, .int p0] [(h0, .inr (11, (Value.ref (a 0) :: Value.ref (a 1) :: Value.ref (a 2) :: Value.ref (a 3) :: Value.ref (a 4) :: Value.ref (a 5) :: Value.ref (a 6) :: Value.ref (a 7) :: Value.ref (a 8) :: Value.ref (a 9) :: Value.ref (a 10) :: Value.ref (a 11) :: Value.ref (a 12) :: Value.ref (a 13) :: Value.ref (a 14) :: Value.int 0 :: Value.int 0 :: Value.int 0 :: []))), ((a 0), .inr (9, [.ref (a 15), .int 0])), ((a 5), .inr (5, (Value.ref (a 30) :: Value.ref (a 31) :: Value.ref (a 32) :: Value.ref (a 33) :: Value.ref (a 34) :: Value.ref (a 35) :: Value.ref (a 36) :: Value.ref (a 37) :: Value.int 0 :: Value.int 0 :: Value.int 0 :: Value.int 0 :: Value.int 0 :: Value.int 0 :: Value.int 0 :: [])))] sz) (q_M D vwCl (some (.int (-1))) (fun u => [(h0, .inr (11, (Value.ref (a 0) :: Value.ref (a 1) :: Value.ref (a 2) :: Value.ref (a 3) :: Value.ref (a 4) :: Value.ref (a 5) :: Value.ref (a 6) :: Value.ref (a 7) :: Value.ref (a 8) :: Value.ref (a 9) :: Value.ref (a 10) :: Value.ref (a 11) :: Value.ref (a 12) :: Value.ref (a 13) :: Value.ref (a 14) :: Value.int 0 :: Value.int 0 :: Value.int 0 :: []))), ((a 0), .inr (9, [.ref (a 15), .int 0])), ((a 5), .inr (5, (Value.ref (a 30) :: Value.ref (a 31) :: Value.ref (a 32) :: Value.ref (a 33) :: Value.ref (a 34) :: Value.ref (a 35) :: Value.ref (a 36) :: Value.ref (a 37) :: Value.int 0 :: Value.int 0 :: Value.int 0 :: Value.int 0 :: Value.int 0 :: Value.int 0 :: Value.int 0 :: [])))]) (va_A [(h0, .inr (11, (Value.ref (a 0) :: Value.ref (a 1) :: Value.ref (a 2) :: Value.ref (a 3) :: Value.ref (a 4) :: Value.ref (a 5) :: Value.ref (a 6) :: Value.ref (a 7) :: Value.ref (a 8) :: Value.ref (a 9) :: Value.ref (a 10) :: Value.ref (a 11) :: Value.ref (a 12) :: Value.ref (a 13) :: Value.ref (a 14) :: Value.int 0 :: Value.int 0 :: Value.int 0 :: []))), ((a 0), .inr (9, [.ref (a 15), .int 0])), ((a 5), .inr (5, (Value.ref (a 30) :: Value.ref (a 31) :: Value.ref (a 32) :: Value.ref (a 33) :: Value.ref (a 34) :: Value.ref (a 35) :: Value.ref (a 36) :: Value.ref (a 37) :: Value.int 0 :: Value.int 0 :: Value.int 0 :: Value.int 0 :: Value.int 0 :: Value.int 0 :: Value.int 0 :: [])))] sz)) 0 0 (va_A [(h0, .inr (11, (Value.ref (a 0) :: Value.ref (a 1) :: Value.ref (a 2) :: Value.ref (a 3) :: Value.ref (a 4) :: Value.ref (a 5) :: Value.ref (a 6) :: Value.ref (a 7) :: Value.ref (a 8) :: Value.ref (a 9) :: Value.ref (a 10) :: Value.ref (a 11) :: Value.ref (a 12) :: Value.ref (a 13) :: Value.ref (a 14) :: Value.int 0 :: Value.int 0 :: Value.int 0 :: []))), ((a 0), .inr (9, [.ref (a 15), .int 0])), ((a 5), .inr (5, (Value.ref (a 30) :: Value.ref (a 31) :: Value.ref (a 32) :: Value.ref (a 33) :: Value.ref (a 34) :: Value.ref (a 35) :: Value.ref (a 36) :: Value.ref (a 37) :: Value.int 0 :: Value.int 0 :: Value.int 0 :: Value.int 0 :: Value.int 0 :: Value.int 0 :: Value.int 0 :: [])))] sz) := by
  refine Met.ofW (cc := cX11_triedOnTape) (maxL := 6) (ret := (some .int)) (by decide) rfl ?_
  intro p e s m args below meth c s₁ B hml hv
  obtain ⟨rfl, hsz, hP, hK, hD0⟩ := hv
  have hx := B.exec
  have hb := B.bytes
  have hr := B.returns
  have hT := sw_in (atoms_spec (ws := sw_ws yX11_triedOnTape cX11_triedOnTape 6 (some .int)) B.pre)
  have hown : s.vm.findClass RX11 = some m.cls := findClass_of_methodNamed B.named
  have hlocks := B.notSynchronized
  subst hsz
  have hD := hD0.self (sz := s.heap.size)
  generalize hAe : va_A [(h0, .inr (11, (Value.ref (a 0) :: Value.ref (a 1) :: Value.ref (a 2) :: Value.ref (a 3) :: Value.ref (a 4) :: Value.ref (a 5) :: Value.ref (a 6) :: Value.ref (a 7) :: Value.ref (a 8) :: Value.ref (a 9) :: Value.ref (a 10) :: Value.ref (a 11) :: Value.ref (a 12) :: Value.ref (a 13) :: Value.ref (a 14) :: Value.int 0 :: Value.int 0 :: Value.int 0 :: []))), ((a 0), .inr (9, [.ref (a 15), .int 0])), ((a 5), .inr (5, (Value.ref (a 30) :: Value.ref (a 31) :: Value.ref (a 32) :: Value.ref (a 33) :: Value.ref (a 34) :: Value.ref (a 35) :: Value.ref (a 36) :: Value.ref (a 37) :: Value.int 0 :: Value.int 0 :: Value.int 0 :: Value.int 0 :: Value.int 0 :: Value.int 0 :: Value.int 0 :: [])))] s.heap.size = A at hD ⊢
  have hA : ∀ q : Nat, s.heap.size ≤ q → A q := fun q h => by rw [← hAe]; exact Or.inr h
  have hS : va_S A s.heap s.heap [] := va_S.rf
  have hl := lv_entry ([.ref h0, .int 1, .int 0, .int p0]) (n := 6) (Nat.le_of_ble_eq_true rfl)
  rw [lg_entry_eq]
  generalize (lg_sl ([.ref h0, .int 1, .int 0, .int p0]) ++ List.replicate (6 - (lg_sl ([.ref h0, .int 1, .int 0, .int p0])).length) Slot.unset).toArray = ls at hl ⊢
  have hl : lv_has ls 6 [(0, .ref h0), (1, .int 1), (2, .int 0), (3, .int p0)] := hl
  refine lv_aload_n hx hb dX11_triedOnTape_0 rfl (lv_at hl 0 rfl) ?_
  refine va_get (D := D) (ci := 11) (v := .ref (a 0)) (C := RX11) (T := TX11) (N := 18) hx hb hT ix_11 hown hK hP 0 rfl rfl 0 (by decide) (hT _ sw_515) (fun _ h9 => h9) rfl dX11_triedOnTape_1 ?_
  refine va_getN (D := D) (ci := 9) (v := .int 0) (C := RX9) (T := TX9) (N := 2) hx hb hT ix_9 hown hK hP 1 rfl rfl 1 (by decide) (hT _ sw_157) (fun _ h9 => h9) rfl dX11_triedOnTape_4 ?_
  refine lv_istore (lv' := [(4, .int 0), (0, .ref h0), (1, .int 1), (2, .int 0), (3, .int p0)]) hx hb dX11_triedOnTape_7 hl (by decide) rfl (fun ls hl => ?_)
  refine lv_aload_n hx hb dX11_triedOnTape_9 rfl (lv_at hl 1 rfl) ?_
  refine va_get (D := D) (ci := 11) (v := .ref (a 0)) (C := RX11) (T := TX11) (N := 18) hx hb hT ix_11 hown hK hP 0 rfl rfl 0 (by decide) (hT _ sw_515) (fun _ h9 => h9) rfl dX11_triedOnTape_10 ?_
  refine lv_iconst (v := 0) hx hb dX11_triedOnTape_13 (by decide) ?_
  refine va_putN (D := D) (ci := 9) (v := .int 0) (ty := .int) (C := RX9) (T := TX9) (N := 2) hx hb hT ix_9 tyX9 tyX9_ok nmX9 hown hK hP hD hS 1 rfl rfl 1 (by decide) (hT _ sw_157) (fun _ h9 => h9) rfl (by decide +kernel) rfl rfl (Nat.le_of_ble_eq_true rfl) dX11_triedOnTape_14 (fun H locs hP hD hS => ?_)
  have hP : va_P D vwCl [(h0, .inr (11, (Value.ref (a 0) :: Value.ref (a 1) :: Value.ref (a 2) :: Value.ref (a 3) :: Value.ref (a 4) :: Value.ref (a 5) :: Value.ref (a 6) :: Value.ref (a 7) :: Value.ref (a 8) :: Value.ref (a 9) :: Value.ref (a 10) :: Value.ref (a 11) :: Value.ref (a 12) :: Value.ref (a 13) :: Value.ref (a 14) :: Value.int 0 :: Value.int 0 :: Value.int 0 :: []))), ((a 0), .inr (9, [.ref (a 15), .int 0])), ((a 5), .inr (5, (Value.ref (a 30) :: Value.ref (a 31) :: Value.ref (a 32) :: Value.ref (a 33) :: Value.ref (a 34) :: Value.ref (a 35) :: Value.ref (a 36) :: Value.ref (a 37) :: Value.int 0 :: Value.int 0 :: Value.int 0 :: Value.int 0 :: Value.int 0 :: Value.int 0 :: Value.int 0 :: [])))] H := hP
  have hD : va_D A [(h0, .inr (11, (Value.ref (a 0) :: Value.ref (a 1) :: Value.ref (a 2) :: Value.ref (a 3) :: Value.ref (a 4) :: Value.ref (a 5) :: Value.ref (a 6) :: Value.ref (a 7) :: Value.ref (a 8) :: Value.ref (a 9) :: Value.ref (a 10) :: Value.ref (a 11) :: Value.ref (a 12) :: Value.ref (a 13) :: Value.ref (a 14) :: Value.int 0 :: Value.int 0 :: Value.int 0 :: []))), ((a 0), .inr (9, [.ref (a 15), .int 0])), ((a 5), .inr (5, (Value.ref (a 30) :: Value.ref (a 31) :: Value.ref (a 32) :: Value.ref (a 33) :: Value.ref (a 34) :: Value.ref (a 35) :: Value.ref (a 36) :: Value.ref (a 37) :: Value.int 0 :: Value.int 0 :: Value.int 0 :: Value.int 0 :: Value.int 0 :: Value.int 0 :: Value.int 0 :: [])))] := hD
  refine lv_aload_n hx hb dX11_triedOnTape_17 rfl (lv_at hl 1 rfl) ?_
  refine va_get (D := D) (ci := 11) (v := .ref (a 5)) (C := RX11) (T := TX11) (N := 18) hx hb hT ix_11 hown hK hP 0 rfl rfl 5 (by decide) (hT _ sw_520) (fun _ h9 => h9) rfl dX11_triedOnTape_18 ?_
  refine lv_iload_n hx hb dX11_triedOnTape_21 rfl (lv_at hl 3 rfl) ?_
  refine go_R (v := some (.int 0)) (st1 := [.int 0]) (run_V (As := [.int 0]) (rest := []) ⟨hx, hb, hml, hown, hT⟩ (kX5_together_0 l D cI h0 a) sw_932 lkv_X5_together (p_R_V (ci := 5) (q0 := 0) (hP.sub (ws' := [((a 5), .inr (5, (Value.ref (a 30) :: Value.ref (a 31) :: Value.ref (a 32) :: Value.ref (a 33) :: Value.ref (a 34) :: Value.ref (a 35) :: Value.ref (a 36) :: Value.ref (a 37) :: Value.int 0 :: Value.int 0 :: Value.int 0 :: Value.int 0 :: Value.int 0 :: Value.int 0 :: Value.int 0 :: [])))]) [2] rfl) hK rfl rfl) rfl hl.1 rfl (Nat.le_of_ble_eq_true rfl) dX11_triedOnTape_22 ⟨⟨Nat.le_of_ble_eq_true rfl, Nat.le_of_ble_eq_true rfl⟩, Nat.le_of_ble_eq_true rfl, Nat.le_of_ble_eq_true rfl⟩) rfl ?_
  refine lv_if_eq (tgt := 44) hx hb dX11_triedOnTape_25 (by decide) (fun _ => ?_) (fun h9 => absurd (by decide) h9)
  refine lv_iconst (v := (-1)) hx hb dX11_triedOnTape_44 (by decide) ?_
  have hP9 := hP.sub (ws' := [(h0, .inr (11, (Value.ref (a 0) :: Value.ref (a 1) :: Value.ref (a 2) :: Value.ref (a 3) :: Value.ref (a 4) :: Value.ref (a 5) :: Value.ref (a 6) :: Value.ref (a 7) :: Value.ref (a 8) :: Value.ref (a 9) :: Value.ref (a 10) :: Value.ref (a 11) :: Value.ref (a 12) :: Value.ref (a 13) :: Value.ref (a 14) :: Value.int 0 :: Value.int 0 :: Value.int 0 :: []))), ((a 0), .inr (9, [.ref (a 15), .int 0])), ((a 5), .inr (5, (Value.ref (a 30) :: Value.ref (a 31) :: Value.ref (a 32) :: Value.ref (a 33) :: Value.ref (a 34) :: Value.ref (a 35) :: Value.ref (a 36) :: Value.ref (a 37) :: Value.int 0 :: Value.int 0 :: Value.int 0 :: Value.int 0 :: Value.int 0 :: Value.int 0 :: Value.int 0 :: [])))]) [0, 1, 2] rfl
  have hD9 := hD.sub (ws' := [(h0, .inr (11, (Value.ref (a 0) :: Value.ref (a 1) :: Value.ref (a 2) :: Value.ref (a 3) :: Value.ref (a 4) :: Value.ref (a 5) :: Value.ref (a 6) :: Value.ref (a 7) :: Value.ref (a 8) :: Value.ref (a 9) :: Value.ref (a 10) :: Value.ref (a 11) :: Value.ref (a 12) :: Value.ref (a 13) :: Value.ref (a 14) :: Value.int 0 :: Value.int 0 :: Value.int 0 :: []))), ((a 0), .inr (9, [.ref (a 15), .int 0])), ((a 5), .inr (5, (Value.ref (a 30) :: Value.ref (a 31) :: Value.ref (a 32) :: Value.ref (a 33) :: Value.ref (a 34) :: Value.ref (a 35) :: Value.ref (a 36) :: Value.ref (a 37) :: Value.int 0 :: Value.int 0 :: Value.int 0 :: Value.int 0 :: Value.int 0 :: Value.int 0 :: Value.int 0 :: [])))]) [0, 1, 2] (by decide) rfl
  exact W.iret (v := (-1)) hx hb hr (fun t ht _ => ⟨rfl, ⟨(fun k => [].getD k 0, fun k => [].getD k zI), by rw [ht]; exact hP9, hD9⟩, hS.F ht⟩) hS.2.2 dX11_triedOnTape_45
set_option maxHeartbeats 4000000 in
set_option maxRecDepth 100000 in
theorem kX11_triesIn_0 (l : Launch) (D : va_G) (cI : ClassId) (h0 : Nat) (a : Nat → Nat) (p0 p1 : Int32) (sz : Nat) : Met l yX11_triesIn (sw_ws yX11_triesIn cX11_triesIn 4 (some .int)) (rm_ 2 48 0 0) (p_M D vwCl [(cI, .int)] [.ref h0, .int p0, .int p1] [(h0, .inr (11, (Value.ref (a 0) :: Value.ref (a 1) :: Value.ref (a 2) :: Value.ref (a 3) :: Value.ref (a 4) :: Value.ref (a 5) :: Value.ref (a 6) :: Value.ref (a 7) :: Value.ref (a 8) :: Value.ref (a 9) :: Value.ref (a 10) :: Value.ref (a 11) :: Value.ref (a 12) :: Value.ref (a 13) :: Value.ref (a 14) :: Value.int 0 :: Value.int 0 :: Value.int 0 :: []))), ((a 0), .inr (9, [.ref (a 15), .int 0])), ((a 1), .inr (3, [.ref (a 16), .ref (a 17), .ref (a 18), .ref (a 19), .int 0, .int 0, .int 0, .int 0])), ((a 5), .inr (5, (Value.ref (a 30) :: Value.ref (a 31) :: Value.ref (a 32) :: Value.ref (a 33) :: Value.ref (a 34) :: Value.ref (a 35) :: Value.ref (a 36) :: Value.ref (a 37) :: Value.int 0 :: Value.int 0 :: Value.int 0 :: Value.int 0 :: Value.int 0 :: Value.int 0 :: Value.int 0 :: [])))] sz) (q_M D vwCl (some (.int (-1))) (fun u => []) (va_A [(h0, .inr (11, (Value.ref (a 0) :: Value.ref (a 1) :: Value.ref (a 2) :: Value.ref (a 3) :: Value.ref (a 4) :: Value.ref (a 5) :: Value.ref (a 6) :: Value.ref (a 7) :: Value.ref (a 8) :: Value.ref (a 9) :: Value.ref (a 10) :: Value.ref (a 11) :: Value.ref (a 12) :: Value.ref (a 13) :: Value.ref (a 14) :: Value.int 0 :: Value.int 0 :: Value.int 0 :: []))), ((a 0), .inr (9, [.ref (a 15), .int 0])), ((a 1), .inr (3, [.ref (a 16), .ref (a 17), .ref (a 18), .ref (a 19), .int 0, .int 0, .int 0, .int 0])), ((a 5), .inr (5, (Value.ref (a 30) :: Value.ref (a 31) :: Value.ref (a 32) :: Value.ref (a 33) :: Value.ref (a 34) :: Value.ref (a 35) :: Value.ref (a 36) :: Value.ref (a 37) :: Value.int 0 :: Value.int 0 :: Value.int 0 :: Value.int 0 :: Value.int 0 :: Value.int 0 :: Value.int 0 :: [])))] sz)) 0 0 (va_A [(h0, .inr (11, (Value.ref (a 0) :: Value.ref (a 1) :: Value.ref (a 2) :: Value.ref (a 3) :: Value.ref (a 4) :: Value.ref (a 5) :: Value.ref (a 6) :: Value.ref (a 7) :: Value.ref (a 8) :: Value.ref (a 9) :: Value.ref (a 10) :: Value.ref (a 11) :: Value.ref (a 12) :: Value.ref (a 13) :: Value.ref (a 14) :: Value.int 0 :: Value.int 0 :: Value.int 0 :: []))), ((a 0), .inr (9, [.ref (a 15), .int 0])), ((a 1), .inr (3, [.ref (a 16), .ref (a 17), .ref (a 18), .ref (a 19), .int 0, .int 0, .int 0, .int 0])), ((a 5), .inr (5, (Value.ref (a 30) :: Value.ref (a 31) :: Value.ref (a 32) :: Value.ref (a 33) :: Value.ref (a 34) :: Value.ref (a 35) :: Value.ref (a 36) :: Value.ref (a 37) :: Value.int 0 :: Value.int 0 :: Value.int 0 :: Value.int 0 :: Value.int 0 :: Value.int 0 :: Value.int 0 :: [])))] sz) := by
  refine Met.ofW (cc := cX11_triesIn) (maxL := 4) (ret := (some .int)) (by decide) rfl ?_
  intro p e s m args below meth c s₁ B hml hv
  obtain ⟨rfl, hsz, hP, hK, hD0⟩ := hv
  have hx := B.exec
  have hb := B.bytes
  have hr := B.returns
  have hT := sw_in (atoms_spec (ws := sw_ws yX11_triesIn cX11_triesIn 4 (some .int)) B.pre)
  have hown : s.vm.findClass RX11 = some m.cls := findClass_of_methodNamed B.named
  have hlocks := B.notSynchronized
  subst hsz
  have hD := hD0.self (sz := s.heap.size)
  generalize hAe : va_A [(h0, .inr (11, (Value.ref (a 0) :: Value.ref (a 1) :: Value.ref (a 2) :: Value.ref (a 3) :: Value.ref (a 4) :: Value.ref (a 5) :: Value.ref (a 6) :: Value.ref (a 7) :: Value.ref (a 8) :: Value.ref (a 9) :: Value.ref (a 10) :: Value.ref (a 11) :: Value.ref (a 12) :: Value.ref (a 13) :: Value.ref (a 14) :: Value.int 0 :: Value.int 0 :: Value.int 0 :: []))), ((a 0), .inr (9, [.ref (a 15), .int 0])), ((a 1), .inr (3, [.ref (a 16), .ref (a 17), .ref (a 18), .ref (a 19), .int 0, .int 0, .int 0, .int 0])), ((a 5), .inr (5, (Value.ref (a 30) :: Value.ref (a 31) :: Value.ref (a 32) :: Value.ref (a 33) :: Value.ref (a 34) :: Value.ref (a 35) :: Value.ref (a 36) :: Value.ref (a 37) :: Value.int 0 :: Value.int 0 :: Value.int 0 :: Value.int 0 :: Value.int 0 :: Value.int 0 :: Value.int 0 :: [])))] s.heap.size = A at hD ⊢
  have hA : ∀ q : Nat, s.heap.size ≤ q → A q := fun q h => by rw [← hAe]; exact Or.inr h
  have hS : va_S A s.heap s.heap [] := va_S.rf
  have hl := lv_entry ([.ref h0, .int p0, .int p1]) (n := 4) (Nat.le_of_ble_eq_true rfl)
  rw [lg_entry_eq]
  generalize (lg_sl ([.ref h0, .int p0, .int p1]) ++ List.replicate (4 - (lg_sl ([.ref h0, .int p0, .int p1])).length) Slot.unset).toArray = ls at hl ⊢
  have hl : lv_has ls 4 [(0, .ref h0), (1, .int p0), (2, .int p1)] := hl
  refine lv_aload_n hx hb dX11_triesIn_0 rfl (lv_at hl 0 rfl) ?_
  refine lv_iload_n hx hb dX11_triesIn_1 rfl (lv_at hl 1 rfl) ?_
  refine go_R (v := some (.int 0)) (st1 := [.int 0]) (run_V (As := [.int p0]) (rest := []) ⟨hx, hb, hml, hown, hT⟩ (kX11_isTeam_0 l D cI h0 a p0) sw_928 lkv_X11_isTeam (p_R_V (ci := 11) (q0 := 0) (hP.sub (ws' := [(h0, .inr (11, (Value.ref (a 0) :: Value.ref (a 1) :: Value.ref (a 2) :: Value.ref (a 3) :: Value.ref (a 4) :: Value.ref (a 5) :: Value.ref (a 6) :: Value.ref (a 7) :: Value.ref (a 8) :: Value.ref (a 9) :: Value.ref (a 10) :: Value.ref (a 11) :: Value.ref (a 12) :: Value.ref (a 13) :: Value.ref (a 14) :: Value.int 0 :: Value.int 0 :: Value.int 0 :: []))), ((a 1), .inr (3, [.ref (a 16), .ref (a 17), .ref (a 18), .ref (a 19), .int 0, .int 0, .int 0, .int 0]))]) [0, 2] rfl) hK rfl rfl) rfl hl.1 rfl (Nat.le_of_ble_eq_true rfl) dX11_triesIn_2 ⟨⟨Nat.le_of_ble_eq_true rfl, Nat.le_of_ble_eq_true rfl⟩, Nat.le_of_ble_eq_true rfl, Nat.le_of_ble_eq_true rfl⟩) rfl ?_
  refine lv_if_eq (tgt := 20) hx hb dX11_triesIn_5 (by decide) (fun _ => ?_) (fun h9 => absurd (by decide) h9)
  refine lv_iconst (v := 0) hx hb dX11_triesIn_20 (by decide) ?_
  refine lv_istore_n (lv' := [(3, .int 0), (0, .ref h0), (1, .int p0), (2, .int p1)]) hx hb dX11_triesIn_21 rfl hl (by decide) rfl (fun ls hl => ?_)
  refine lv_aload_n hx hb dX11_triesIn_22 rfl (lv_at hl 1 rfl) ?_
  refine lv_iconst (v := 1) hx hb dX11_triesIn_23 (by decide) ?_
  refine lv_iload_n hx hb dX11_triesIn_24 rfl (lv_at hl 0 rfl) ?_
  refine lv_iload_n hx hb dX11_triesIn_25 rfl (lv_at hl 3 rfl) ?_
  refine go_M (wc := [(h0, .inr (11, (Value.ref (a 0) :: Value.ref (a 1) :: Value.ref (a 2) :: Value.ref (a 3) :: Value.ref (a 4) :: Value.ref (a 5) :: Value.ref (a 6) :: Value.ref (a 7) :: Value.ref (a 8) :: Value.ref (a 9) :: Value.ref (a 10) :: Value.ref (a 11) :: Value.ref (a 12) :: Value.ref (a 13) :: Value.ref (a 14) :: Value.int 0 :: Value.int 0 :: Value.int 0 :: []))), ((a 0), .inr (9, [.ref (a 15), .int 0])), ((a 5), .inr (5, (Value.ref (a 30) :: Value.ref (a 31) :: Value.ref (a 32) :: Value.ref (a 33) :: Value.ref (a 34) :: Value.ref (a 35) :: Value.ref (a 36) :: Value.ref (a 37) :: Value.int 0 :: Value.int 0 :: Value.int 0 :: Value.int 0 :: Value.int 0 :: Value.int 0 :: Value.int 0 :: [])))]) (wr := [((a 1), .inr (3, [.ref (a 16), .ref (a 17), .ref (a 18), .ref (a 19), .int 0, .int 0, .int 0, .int 0]))]) (w1 := fun u => [(h0, .inr (11, (Value.ref (a 0) :: Value.ref (a 1) :: Value.ref (a 2) :: Value.ref (a 3) :: Value.ref (a 4) :: Value.ref (a 5) :: Value.ref (a 6) :: Value.ref (a 7) :: Value.ref (a 8) :: Value.ref (a 9) :: Value.ref (a 10) :: Value.ref (a 11) :: Value.ref (a 12) :: Value.ref (a 13) :: Value.ref (a 14) :: Value.int 0 :: Value.int 0 :: Value.int 0 :: []))), ((a 0), .inr (9, [.ref (a 15), .int 0])), ((a 5), .inr (5, (Value.ref (a 30) :: Value.ref (a 31) :: Value.ref (a 32) :: Value.ref (a 33) :: Value.ref (a 34) :: Value.ref (a 35) :: Value.ref (a 36) :: Value.ref (a 37) :: Value.int 0 :: Value.int 0 :: Value.int 0 :: Value.int 0 :: Value.int 0 :: Value.int 0 :: Value.int 0 :: [])))]) (v := some (.int (-1))) (st1 := [.int (-1)]) hP hD hS hA [0, 1, 3] [2] rfl rfl (by decide) (by decide) (by decide) (fun hPc hDc => run_V (As := [.int 1, .int 0, .int p1]) (rest := []) ⟨hx, hb, hml, hown, hT⟩ (kX11_triedOnTape_0 l D cI h0 a p1 _) sw_952 lkv_X11_triedOnTape (p_M_V (ci := 11) (q0 := 0) hPc hK hDc rfl rfl) rfl hl.1 rfl (Nat.le_of_ble_eq_true rfl) dX11_triesIn_26 ⟨⟨Nat.le_of_ble_eq_true rfl, Nat.le_of_ble_eq_true rfl⟩, Nat.le_of_ble_eq_true rfl, Nat.le_of_ble_eq_true rfl⟩) rfl (fun u_1 H locs hP hD hS => ?_)
  have hP : va_P D vwCl [((a 1), .inr (3, [.ref (a 16), .ref (a 17), .ref (a 18), .ref (a 19), .int 0, .int 0, .int 0, .int 0])), (h0, .inr (11, (Value.ref (a 0) :: Value.ref (a 1) :: Value.ref (a 2) :: Value.ref (a 3) :: Value.ref (a 4) :: Value.ref (a 5) :: Value.ref (a 6) :: Value.ref (a 7) :: Value.ref (a 8) :: Value.ref (a 9) :: Value.ref (a 10) :: Value.ref (a 11) :: Value.ref (a 12) :: Value.ref (a 13) :: Value.ref (a 14) :: Value.int 0 :: Value.int 0 :: Value.int 0 :: []))), ((a 0), .inr (9, [.ref (a 15), .int 0])), ((a 5), .inr (5, (Value.ref (a 30) :: Value.ref (a 31) :: Value.ref (a 32) :: Value.ref (a 33) :: Value.ref (a 34) :: Value.ref (a 35) :: Value.ref (a 36) :: Value.ref (a 37) :: Value.int 0 :: Value.int 0 :: Value.int 0 :: Value.int 0 :: Value.int 0 :: Value.int 0 :: Value.int 0 :: [])))] H := hP
  have hD : va_D A [((a 1), .inr (3, [.ref (a 16), .ref (a 17), .ref (a 18), .ref (a 19), .int 0, .int 0, .int 0, .int 0])), (h0, .inr (11, (Value.ref (a 0) :: Value.ref (a 1) :: Value.ref (a 2) :: Value.ref (a 3) :: Value.ref (a 4) :: Value.ref (a 5) :: Value.ref (a 6) :: Value.ref (a 7) :: Value.ref (a 8) :: Value.ref (a 9) :: Value.ref (a 10) :: Value.ref (a 11) :: Value.ref (a 12) :: Value.ref (a 13) :: Value.ref (a 14) :: Value.int 0 :: Value.int 0 :: Value.int 0 :: []))), ((a 0), .inr (9, [.ref (a 15), .int 0])), ((a 5), .inr (5, (Value.ref (a 30) :: Value.ref (a 31) :: Value.ref (a 32) :: Value.ref (a 33) :: Value.ref (a 34) :: Value.ref (a 35) :: Value.ref (a 36) :: Value.ref (a 37) :: Value.int 0 :: Value.int 0 :: Value.int 0 :: Value.int 0 :: Value.int 0 :: Value.int 0 :: Value.int 0 :: [])))] := hD
  have hP9 := hP.sub (ws' := []) [] rfl
  have hD9 := hD.sub (ws' := []) [] (by decide) rfl
  exact W.iret (v := (-1)) hx hb hr (fun t ht _ => ⟨rfl, ⟨(fun k => [].getD k 0, fun k => [].getD k zI), by rw [ht]; exact hP9, hD9⟩, hS.F ht⟩) hS.2.2 dX11_triesIn_29
set_option maxHeartbeats 4000000 in
set_option maxRecDepth 100000 in
theorem kX11_rowsIn_0 (l : Launch) (D : va_G) (cI : ClassId) (h0 : Nat) (a : Nat → Nat) (p0 p1 p2 : Int32) : Met l yX11_rowsIn (sw_ws yX11_rowsIn cX11_rowsIn 4 (some .int)) (rm_ 1 21 0 0) (p_R D vwCl [(cI, .int)] [.ref h0, .int p0, .int p1, .int p2] [(h0, .inr (11, (Value.ref (a 0) :: Value.ref (a 1) :: Value.ref (a 2) :: Value.ref (a 3) :: Value.ref (a 4) :: Value.ref (a 5) :: Value.ref (a 6) :: Value.ref (a 7) :: Value.ref (a 8) :: Value.ref (a 9) :: Value.ref (a 10) :: Value.ref (a 11) :: Value.ref (a 12) :: Value.ref (a 13) :: Value.ref (a 14) :: Value.int 0 :: Value.int 0 :: Value.int 0 :: []))), ((a 1), .inr (3, [.ref (a 16), .ref (a 17), .ref (a 18), .ref (a 19), .int 0, .int 0, .int 0, .int 0]))]) (q_R (some (.int (-1)))) 0 0 (fun _ => False) := by
  refine Met.ofW (cc := cX11_rowsIn) (maxL := 4) (ret := (some .int)) (by decide) rfl ?_
  intro p e s m args below meth c s₁ B hml hv
  obtain ⟨rfl, hP, hK⟩ := hv
  have hx := B.exec
  have hb := B.bytes
  have hr := B.returns
  have hT := sw_in (atoms_spec (ws := sw_ws yX11_rowsIn cX11_rowsIn 4 (some .int)) B.pre)
  have hown : s.vm.findClass RX11 = some m.cls := findClass_of_methodNamed B.named
  have hlocks := B.notSynchronized
  have hl := lv_entry ([.ref h0, .int p0, .int p1, .int p2]) (n := 4) (Nat.le_of_ble_eq_true rfl)
  rw [lg_entry_eq]
  generalize (lg_sl ([.ref h0, .int p0, .int p1, .int p2]) ++ List.replicate (4 - (lg_sl ([.ref h0, .int p0, .int p1, .int p2])).length) Slot.unset).toArray = ls at hl ⊢
  have hl : lv_has ls 4 [(0, .ref h0), (1, .int p0), (2, .int p1), (3, .int p2)] := hl
  refine lv_aload_n hx hb dX11_rowsIn_0 rfl (lv_at hl 0 rfl) ?_
  refine lv_iload_n hx hb dX11_rowsIn_1 rfl (lv_at hl 1 rfl) ?_
  refine go_R (v := some (.int 0)) (st1 := [.int 0]) (run_V (As := [.int p0]) (rest := []) ⟨hx, hb, hml, hown, hT⟩ (kX11_isTeam_0 l D cI h0 a p0) sw_928 lkv_X11_isTeam (p_R_V (ci := 11) (q0 := 0) (hP.sub (ws' := [(h0, .inr (11, (Value.ref (a 0) :: Value.ref (a 1) :: Value.ref (a 2) :: Value.ref (a 3) :: Value.ref (a 4) :: Value.ref (a 5) :: Value.ref (a 6) :: Value.ref (a 7) :: Value.ref (a 8) :: Value.ref (a 9) :: Value.ref (a 10) :: Value.ref (a 11) :: Value.ref (a 12) :: Value.ref (a 13) :: Value.ref (a 14) :: Value.int 0 :: Value.int 0 :: Value.int 0 :: []))), ((a 1), .inr (3, [.ref (a 16), .ref (a 17), .ref (a 18), .ref (a 19), .int 0, .int 0, .int 0, .int 0]))]) [0, 1] rfl) hK rfl rfl) rfl hl.1 rfl (Nat.le_of_ble_eq_true rfl) dX11_rowsIn_2 ⟨⟨Nat.le_of_ble_eq_true rfl, Nat.le_of_ble_eq_true rfl⟩, Nat.le_of_ble_eq_true rfl, Nat.le_of_ble_eq_true rfl⟩) rfl ?_
  refine lv_if_eq (tgt := 27) hx hb dX11_rowsIn_5 (by decide) (fun _ => ?_) (fun h9 => absurd (by decide) h9)
  refine lv_iconst (v := (-1)) hx hb dX11_rowsIn_27 (by decide) ?_
  exact W.iret (v := (-1)) hx hb hr (fun t ht _ => ⟨rfl, ht⟩) (fun _ h9 => nomatch h9) dX11_rowsIn_28
set_option maxHeartbeats 4000000 in
set_option maxRecDepth 100000 in
theorem kX11_quorum_0 (l : Launch) (D : va_G) (cI : ClassId) (h0 : Nat) (a : Nat → Nat) (p0 p1 p2 : Int32) : Met l yX11_quorum (sw_ws yX11_quorum cX11_quorum 11 (some .int)) (rm_ 0 0 0 0) (p_R D vwCl [(cI, .int)] [.ref h0, .int p0, .int p1, .int p2] [(h0, .inr (11, (Value.ref (a 0) :: Value.ref (a 1) :: Value.ref (a 2) :: Value.ref (a 3) :: Value.ref (a 4) :: Value.ref (a 5) :: Value.ref (a 6) :: Value.ref (a 7) :: Value.ref (a 8) :: Value.ref (a 9) :: Value.ref (a 10) :: Value.ref (a 11) :: Value.ref (a 12) :: Value.ref (a 13) :: Value.ref (a 14) :: Value.int 0 :: Value.int 0 :: Value.int 0 :: []))), ((a 5), .inr (5, (Value.ref (a 30) :: Value.ref (a 31) :: Value.ref (a 32) :: Value.ref (a 33) :: Value.ref (a 34) :: Value.ref (a 35) :: Value.ref (a 36) :: Value.ref (a 37) :: Value.int 0 :: Value.int 0 :: Value.int 0 :: Value.int 0 :: Value.int 0 :: Value.int 0 :: Value.int 0 :: [])))]) (q_R (some (.int (-1)))) 0 0 (fun _ => False) := by
  refine Met.ofW (cc := cX11_quorum) (maxL := 11) (ret := (some .int)) (by decide) rfl ?_
  intro p e s m args below meth c s₁ B hml hv
  obtain ⟨rfl, hP, hK⟩ := hv
  have hx := B.exec
  have hb := B.bytes
  have hr := B.returns
  have hT := sw_in (atoms_spec (ws := sw_ws yX11_quorum cX11_quorum 11 (some .int)) B.pre)
  have hown : s.vm.findClass RX11 = some m.cls := findClass_of_methodNamed B.named
  have hlocks := B.notSynchronized
  have hl := lv_entry ([.ref h0, .int p0, .int p1, .int p2]) (n := 11) (Nat.le_of_ble_eq_true rfl)
  rw [lg_entry_eq]
  generalize (lg_sl ([.ref h0, .int p0, .int p1, .int p2]) ++ List.replicate (11 - (lg_sl ([.ref h0, .int p0, .int p1, .int p2])).length) Slot.unset).toArray = ls at hl ⊢
  have hl : lv_has ls 11 [(0, .ref h0), (1, .int p0), (2, .int p1), (3, .int p2)] := hl
  refine lv_aload_n hx hb dX11_quorum_0 rfl (lv_at hl 0 rfl) ?_
  refine va_get (D := D) (ci := 11) (v := .ref (a 5)) (C := RX11) (T := TX11) (N := 18) hx hb hT ix_11 hown hK hP 0 rfl rfl 5 (by decide) (hT _ sw_520) (fun _ h9 => h9) rfl dX11_quorum_1 ?_
  refine va_getN (D := D) (ci := 5) (v := .int 0) (C := RX5) (T := TX5) (N := 15) hx hb hT ix_5 hown hK hP 1 rfl rfl 9 (by decide) (hT _ sw_349) (fun _ h9 => h9) rfl dX11_quorum_4 ?_
  refine lv_if_le (tgt := 27) hx hb dX11_quorum_7 (by decide) (fun _ => ?_) (fun h9 => absurd (by decide) h9)
  refine lv_iconst (v := (-1)) hx hb dX11_quorum_27 (by decide) ?_
  exact W.iret (v := (-1)) hx hb hr (fun t ht _ => ⟨rfl, ht⟩) (fun _ h9 => nomatch h9) dX11_quorum_28
set_option maxHeartbeats 4000000 in
set_option maxRecDepth 100000 in
theorem kX11_swings_0 (l : Launch) (D : va_G) (cI : ClassId) (h0 : Nat) (a : Nat → Nat) (p0 p1 p2 : Int32) : Met l yX11_swings (sw_ws yX11_swings cX11_swings 17 (some .int)) (rm_ 0 0 0 0) (p_R D vwCl [(cI, .int)] [.ref h0, .int p0, .int p1, .int p2] [(h0, .inr (11, (Value.ref (a 0) :: Value.ref (a 1) :: Value.ref (a 2) :: Value.ref (a 3) :: Value.ref (a 4) :: Value.ref (a 5) :: Value.ref (a 6) :: Value.ref (a 7) :: Value.ref (a 8) :: Value.ref (a 9) :: Value.ref (a 10) :: Value.ref (a 11) :: Value.ref (a 12) :: Value.ref (a 13) :: Value.ref (a 14) :: Value.int 0 :: Value.int 0 :: Value.int 0 :: []))), ((a 5), .inr (5, (Value.ref (a 30) :: Value.ref (a 31) :: Value.ref (a 32) :: Value.ref (a 33) :: Value.ref (a 34) :: Value.ref (a 35) :: Value.ref (a 36) :: Value.ref (a 37) :: Value.int 0 :: Value.int 0 :: Value.int 0 :: Value.int 0 :: Value.int 0 :: Value.int 0 :: Value.int 0 :: [])))]) (q_R (some (.int (-1)))) 0 0 (fun _ => False) := by
  refine Met.ofW (cc := cX11_swings) (maxL := 17) (ret := (some .int)) (by decide) rfl ?_
  intro p e s m args below meth c s₁ B hml hv
  obtain ⟨rfl, hP, hK⟩ := hv
  have hx := B.exec
  have hb := B.bytes
  have hr := B.returns
  have hT := sw_in (atoms_spec (ws := sw_ws yX11_swings cX11_swings 17 (some .int)) B.pre)
  have hown : s.vm.findClass RX11 = some m.cls := findClass_of_methodNamed B.named
  have hlocks := B.notSynchronized
  have hl := lv_entry ([.ref h0, .int p0, .int p1, .int p2]) (n := 17) (Nat.le_of_ble_eq_true rfl)
  rw [lg_entry_eq]
  generalize (lg_sl ([.ref h0, .int p0, .int p1, .int p2]) ++ List.replicate (17 - (lg_sl ([.ref h0, .int p0, .int p1, .int p2])).length) Slot.unset).toArray = ls at hl ⊢
  have hl : lv_has ls 17 [(0, .ref h0), (1, .int p0), (2, .int p1), (3, .int p2)] := hl
  refine lv_aload_n hx hb dX11_swings_0 rfl (lv_at hl 0 rfl) ?_
  refine va_get (D := D) (ci := 11) (v := .ref (a 5)) (C := RX11) (T := TX11) (N := 18) hx hb hT ix_11 hown hK hP 0 rfl rfl 5 (by decide) (hT _ sw_520) (fun _ h9 => h9) rfl dX11_swings_1 ?_
  refine va_getN (D := D) (ci := 5) (v := .int 0) (C := RX5) (T := TX5) (N := 15) hx hb hT ix_5 hown hK hP 1 rfl rfl 9 (by decide) (hT _ sw_349) (fun _ h9 => h9) rfl dX11_swings_4 ?_
  refine lv_if_le (tgt := 26) hx hb dX11_swings_7 (by decide) (fun _ => ?_) (fun h9 => absurd (by decide) h9)
  refine lv_iconst (v := (-1)) hx hb dX11_swings_26 (by decide) ?_
  exact W.iret (v := (-1)) hx hb hr (fun t ht _ => ⟨rfl, ht⟩) (fun _ h9 => nomatch h9) dX11_swings_27
set_option maxHeartbeats 4000000 in
set_option maxRecDepth 100000 in
theorem kX11_isWay_0 (l : Launch) (D : va_G) (cI : ClassId) (h0 : Nat) (a : Nat → Nat) (p0 : Int32) : Met l yX11_isWay (sw_ws yX11_isWay cX11_isWay 1 (some .boolean)) (rm_ 0 0 0 0) (p_R D vwCl [(cI, .int)] [.int p0] []) (q_R (some (.int (sp_isIn p0 0 2)))) 0 0 (fun _ => False) := by
  refine Met.ofW (cc := cX11_isWay) (maxL := 1) (ret := (some .boolean)) (by decide) rfl ?_
  intro p e s m args below meth c s₁ B hml hv
  obtain ⟨rfl, hP, hK⟩ := hv
  have hx := B.exec
  have hb := B.bytes
  have hr := B.returns
  have hT := sw_in (atoms_spec (ws := sw_ws yX11_isWay cX11_isWay 1 (some .boolean)) B.pre)
  have hown : s.vm.findClass RX11 = some m.cls := findClass_of_methodNamed B.named
  have hlocks := B.notSynchronized
  have hl := lv_entry ([.int p0]) (n := 1) (Nat.le_of_ble_eq_true rfl)
  rw [lg_entry_eq]
  generalize (lg_sl ([.int p0]) ++ List.replicate (1 - (lg_sl ([.int p0])).length) Slot.unset).toArray = ls at hl ⊢
  have hl : lv_has ls 1 [(0, .int p0)] := hl
  refine lv_iload_n hx hb dX11_isWay_0 rfl (lv_at hl 0 rfl) ?_
  refine lv_if_lt (tgt := 13) hx hb dX11_isWay_1 (by decide) (fun c_1 => ?_) (fun c_1 => ?_)
  · refine lv_iconst (v := 0) hx hb dX11_isWay_13 (by decide) ?_
    refine ct_i (z := sp_isIn p0 0 2) (pl_13 p0 c_1) ?_
    exact W.zret (v := sp_isIn p0 0 2) hx hb hr (nz_sp_isIn _ _ _) (fun t ht _ => ⟨rfl, ht⟩) (fun _ h9 => nomatch h9) dX11_isWay_14
  · refine lv_iload_n hx hb dX11_isWay_4 rfl (lv_at hl 0 rfl) ?_
    refine lv_iconst (v := 2) hx hb dX11_isWay_5 (by decide) ?_
    refine lv_icmp_gt (tgt := 13) hx hb dX11_isWay_6 (by decide) (fun c_2 => ?_) (fun c_2 => ?_)
    · refine lv_iconst (v := 0) hx hb dX11_isWay_13 (by decide) ?_
      refine ct_i (z := sp_isIn p0 0 2) (pl_14 p0 c_1 c_2) ?_
      exact W.zret (v := sp_isIn p0 0 2) hx hb hr (nz_sp_isIn _ _ _) (fun t ht _ => ⟨rfl, ht⟩) (fun _ h9 => nomatch h9) dX11_isWay_14
    · refine lv_iconst (v := 1) hx hb dX11_isWay_9 (by decide) ?_
      refine lv_goto (tgt := 14) hx hb dX11_isWay_10 (by decide) ?_
      refine ct_i (z := sp_isIn p0 0 2) (pl_15 p0 c_1 c_2) ?_
      exact W.zret (v := sp_isIn p0 0 2) hx hb hr (nz_sp_isIn _ _ _) (fun t ht _ => ⟨rfl, ht⟩) (fun _ h9 => nomatch h9) dX11_isWay_14
set_option maxHeartbeats 4000000 in
set_option maxRecDepth 100000 in
theorem kX5_together_1 (l : Launch) (D : va_G) (cI : ClassId) (h0 : Nat) (a : Nat → Nat) : Met l yX5_together (sw_ws yX5_together cX5_together 4 (some .int)) (rm_ 0 0 0 0) (p_R D vwCl [(cI, .int)] [.ref (a 5), .int 65535] [((a 5), .inr (5, (Value.ref (a 30) :: Value.ref (a 31) :: Value.ref (a 32) :: Value.ref (a 33) :: Value.ref (a 34) :: Value.ref (a 35) :: Value.ref (a 36) :: Value.ref (a 37) :: Value.int 0 :: Value.int 0 :: Value.int 0 :: Value.int 0 :: Value.int 0 :: Value.int 0 :: Value.int 0 :: [])))]) (q_R (some (.int 0))) 0 0 (fun _ => False) := by
  refine Met.ofW (cc := cX5_together) (maxL := 4) (ret := (some .int)) (by decide) rfl ?_
  intro p e s m args below meth c s₁ B hml hv
  obtain ⟨rfl, hP, hK⟩ := hv
  have hx := B.exec
  have hb := B.bytes
  have hr := B.returns
  have hT := sw_in (atoms_spec (ws := sw_ws yX5_together cX5_together 4 (some .int)) B.pre)
  have hown : s.vm.findClass RX5 = some m.cls := findClass_of_methodNamed B.named
  have hlocks := B.notSynchronized
  have hl := lv_entry ([.ref (a 5), .int 65535]) (n := 4) (Nat.le_of_ble_eq_true rfl)
  rw [lg_entry_eq]
  generalize (lg_sl ([.ref (a 5), .int 65535]) ++ List.replicate (4 - (lg_sl ([.ref (a 5), .int 65535])).length) Slot.unset).toArray = ls at hl ⊢
  have hl : lv_has ls 4 [(0, .ref (a 5)), (1, .int 65535)] := hl
  refine lv_iconst (v := 0) hx hb dX5_together_0 (by decide) ?_
  refine lv_istore_n (lv' := [(2, .int 0), (0, .ref (a 5)), (1, .int 65535)]) hx hb dX5_together_1 rfl hl (by decide) rfl (fun ls hl => ?_)
  refine lv_iconst (v := 0) hx hb dX5_together_2 (by decide) ?_
  refine lv_istore_n (lv' := [(3, .int 0), (2, .int 0), (0, .ref (a 5)), (1, .int 65535)]) hx hb dX5_together_3 rfl hl (by decide) rfl (fun ls hl => ?_)
  refine lv_iload_n hx hb dX5_together_4 rfl (lv_at hl 0 rfl) ?_
  refine lv_aload_n hx hb dX5_together_5 rfl (lv_at hl 2 rfl) ?_
  refine va_get (D := D) (ci := 5) (v := .int 0) (C := RX5) (T := TX5) (N := 15) hx hb hT ix_5 hown hK hP 0 rfl rfl 8 (by decide) (hT _ sw_343) (fun _ h9 => h9) rfl dX5_together_6 ?_
  refine lv_icmp_ge (tgt := 39) hx hb dX5_together_9 (by decide) (fun _ => ?_) (fun h9 => absurd (by decide) h9)
  refine lv_iload_n hx hb dX5_together_39 rfl (lv_at hl 1 rfl) ?_
  exact W.iret (v := 0) hx hb hr (fun t ht _ => ⟨rfl, ht⟩) (fun _ h9 => nomatch h9) dX5_together_40
set_option maxHeartbeats 4000000 in
set_option maxRecDepth 100000 in
theorem kX11_triedOnTape_1 (l : Launch) (D : va_G) (cI : ClassId) (h0 : Nat) (a : Nat → Nat) (p0 p1 : Int32) (sz : Nat) : Met l yX11_triedOnTape (sw_ws yX11_triedOnTape cX11_triedOnTape 6 (some .int)) (rm_ 1 23 0 0) (p_M D vwCl [(cI, .int)] [.ref h0, .int p0, .int 65535, .int p1] [(h0, .inr (11, (Value.ref (a 0) :: Value.ref (a 1) :: Value.ref (a 2) :: Value.ref (a 3) :: Value.ref (a 4) :: Value.ref (a 5) :: Value.ref (a 6) :: Value.ref (a 7) :: Value.ref (a 8) :: Value.ref (a 9) :: Value.ref (a 10) :: Value.ref (a 11) :: Value.ref (a 12) :: Value.ref (a 13) :: Value.ref (a 14) :: Value.int 0 :: Value.int 0 :: Value.int 0 :: []))), ((a 0), .inr (9, [.ref (a 15), .int 0])), ((a 5), .inr (5, (Value.ref (a 30) :: Value.ref (a 31) :: Value.ref (a 32) :: Value.ref (a 33) :: Value.ref (a 34) :: Value.ref (a 35) :: Value.ref (a 36) :: Value.ref (a 37) :: Value.int 0 :: Value.int 0 :: Value.int 0 :: Value.int 0 :: Value.int 0 :: Value.int 0 :: Value.int 0 :: [])))] sz) (q_M D vwCl (some (.int (-1))) (fun u => [(h0, .inr (11, (Value.ref (a 0) :: Value.ref (a 1) :: Value.ref (a 2) :: Value.ref (a 3) :: Value.ref (a 4) :: Value.ref (a 5) :: Value.ref (a 6) :: Value.ref (a 7) :: Value.ref (a 8) :: Value.ref (a 9) :: Value.ref (a 10) :: Value.ref (a 11) :: Value.ref (a 12) :: Value.ref (a 13) :: Value.ref (a 14) :: Value.int 0 :: Value.int 0 :: Value.int 0 :: []))), ((a 0), .inr (9, [.ref (a 15), .int 0])), ((a 5), .inr (5, (Value.ref (a 30) :: Value.ref (a 31) :: Value.ref (a 32) :: Value.ref (a 33) :: Value.ref (a 34) :: Value.ref (a 35) :: Value.ref (a 36) :: Value.ref (a 37) :: Value.int 0 :: Value.int 0 :: Value.int 0 :: Value.int 0 :: Value.int 0 :: Value.int 0 :: Value.int 0 :: [])))]) (va_A [(h0, .inr (11, (Value.ref (a 0) :: Value.ref (a 1) :: Value.ref (a 2) :: Value.ref (a 3) :: Value.ref (a 4) :: Value.ref (a 5) :: Value.ref (a 6) :: Value.ref (a 7) :: Value.ref (a 8) :: Value.ref (a 9) :: Value.ref (a 10) :: Value.ref (a 11) :: Value.ref (a 12) :: Value.ref (a 13) :: Value.ref (a 14) :: Value.int 0 :: Value.int 0 :: Value.int 0 :: []))), ((a 0), .inr (9, [.ref (a 15), .int 0])), ((a 5), .inr (5, (Value.ref (a 30) :: Value.ref (a 31) :: Value.ref (a 32) :: Value.ref (a 33) :: Value.ref (a 34) :: Value.ref (a 35) :: Value.ref (a 36) :: Value.ref (a 37) :: Value.int 0 :: Value.int 0 :: Value.int 0 :: Value.int 0 :: Value.int 0 :: Value.int 0 :: Value.int 0 :: [])))] sz)) 0 0 (va_A [(h0, .inr (11, (Value.ref (a 0) :: Value.ref (a 1) :: Value.ref (a 2) :: Value.ref (a 3) :: Value.ref (a 4) :: Value.ref (a 5) :: Value.ref (a 6) :: Value.ref (a 7) :: Value.ref (a 8) :: Value.ref (a 9) :: Value.ref (a 10) :: Value.ref (a 11) :: Value.ref (a 12) :: Value.ref (a 13) :: Value.ref (a 14) :: Value.int 0 :: Value.int 0 :: Value.int 0 :: []))), ((a 0), .inr (9, [.ref (a 15), .int 0])), ((a 5), .inr (5, (Value.ref (a 30) :: Value.ref (a 31) :: Value.ref (a 32) :: Value.ref (a 33) :: Value.ref (a 34) :: Value.ref (a 35) :: Value.ref (a 36) :: Value.ref (a 37) :: Value.int 0 :: Value.int 0 :: Value.int 0 :: Value.int 0 :: Value.int 0 :: Value.int 0 :: Value.int 0 :: [])))] sz) := by
  refine Met.ofW (cc := cX11_triedOnTape) (maxL := 6) (ret := (some .int)) (by decide) rfl ?_
  intro p e s m args below meth c s₁ B hml hv
  obtain ⟨rfl, hsz, hP, hK, hD0⟩ := hv
  have hx := B.exec
  have hb := B.bytes
  have hr := B.returns
  have hT := sw_in (atoms_spec (ws := sw_ws yX11_triedOnTape cX11_triedOnTape 6 (some .int)) B.pre)
  have hown : s.vm.findClass RX11 = some m.cls := findClass_of_methodNamed B.named
  have hlocks := B.notSynchronized
  subst hsz
  have hD := hD0.self (sz := s.heap.size)
  generalize hAe : va_A [(h0, .inr (11, (Value.ref (a 0) :: Value.ref (a 1) :: Value.ref (a 2) :: Value.ref (a 3) :: Value.ref (a 4) :: Value.ref (a 5) :: Value.ref (a 6) :: Value.ref (a 7) :: Value.ref (a 8) :: Value.ref (a 9) :: Value.ref (a 10) :: Value.ref (a 11) :: Value.ref (a 12) :: Value.ref (a 13) :: Value.ref (a 14) :: Value.int 0 :: Value.int 0 :: Value.int 0 :: []))), ((a 0), .inr (9, [.ref (a 15), .int 0])), ((a 5), .inr (5, (Value.ref (a 30) :: Value.ref (a 31) :: Value.ref (a 32) :: Value.ref (a 33) :: Value.ref (a 34) :: Value.ref (a 35) :: Value.ref (a 36) :: Value.ref (a 37) :: Value.int 0 :: Value.int 0 :: Value.int 0 :: Value.int 0 :: Value.int 0 :: Value.int 0 :: Value.int 0 :: [])))] s.heap.size = A at hD ⊢
  have hA : ∀ q : Nat, s.heap.size ≤ q → A q := fun q h => by rw [← hAe]; exact Or.inr h
  have hS : va_S A s.heap s.heap [] := va_S.rf
  have hl := lv_entry ([.ref h0, .int p0, .int 65535, .int p1]) (n := 6) (Nat.le_of_ble_eq_true rfl)
  rw [lg_entry_eq]
  generalize (lg_sl ([.ref h0, .int p0, .int 65535, .int p1]) ++ List.replicate (6 - (lg_sl ([.ref h0, .int p0, .int 65535, .int p1])).length) Slot.unset).toArray = ls at hl ⊢
  have hl : lv_has ls 6 [(0, .ref h0), (1, .int p0), (2, .int 65535), (3, .int p1)] := hl
  refine lv_aload_n hx hb dX11_triedOnTape_0 rfl (lv_at hl 0 rfl) ?_
  refine va_get (D := D) (ci := 11) (v := .ref (a 0)) (C := RX11) (T := TX11) (N := 18) hx hb hT ix_11 hown hK hP 0 rfl rfl 0 (by decide) (hT _ sw_515) (fun _ h9 => h9) rfl dX11_triedOnTape_1 ?_
  refine va_getN (D := D) (ci := 9) (v := .int 0) (C := RX9) (T := TX9) (N := 2) hx hb hT ix_9 hown hK hP 1 rfl rfl 1 (by decide) (hT _ sw_157) (fun _ h9 => h9) rfl dX11_triedOnTape_4 ?_
  refine lv_istore (lv' := [(4, .int 0), (0, .ref h0), (1, .int p0), (2, .int 65535), (3, .int p1)]) hx hb dX11_triedOnTape_7 hl (by decide) rfl (fun ls hl => ?_)
  refine lv_aload_n hx hb dX11_triedOnTape_9 rfl (lv_at hl 1 rfl) ?_
  refine va_get (D := D) (ci := 11) (v := .ref (a 0)) (C := RX11) (T := TX11) (N := 18) hx hb hT ix_11 hown hK hP 0 rfl rfl 0 (by decide) (hT _ sw_515) (fun _ h9 => h9) rfl dX11_triedOnTape_10 ?_
  refine lv_iconst (v := 0) hx hb dX11_triedOnTape_13 (by decide) ?_
  refine va_putN (D := D) (ci := 9) (v := .int 0) (ty := .int) (C := RX9) (T := TX9) (N := 2) hx hb hT ix_9 tyX9 tyX9_ok nmX9 hown hK hP hD hS 1 rfl rfl 1 (by decide) (hT _ sw_157) (fun _ h9 => h9) rfl (by decide +kernel) rfl rfl (Nat.le_of_ble_eq_true rfl) dX11_triedOnTape_14 (fun H locs hP hD hS => ?_)
  have hP : va_P D vwCl [(h0, .inr (11, (Value.ref (a 0) :: Value.ref (a 1) :: Value.ref (a 2) :: Value.ref (a 3) :: Value.ref (a 4) :: Value.ref (a 5) :: Value.ref (a 6) :: Value.ref (a 7) :: Value.ref (a 8) :: Value.ref (a 9) :: Value.ref (a 10) :: Value.ref (a 11) :: Value.ref (a 12) :: Value.ref (a 13) :: Value.ref (a 14) :: Value.int 0 :: Value.int 0 :: Value.int 0 :: []))), ((a 0), .inr (9, [.ref (a 15), .int 0])), ((a 5), .inr (5, (Value.ref (a 30) :: Value.ref (a 31) :: Value.ref (a 32) :: Value.ref (a 33) :: Value.ref (a 34) :: Value.ref (a 35) :: Value.ref (a 36) :: Value.ref (a 37) :: Value.int 0 :: Value.int 0 :: Value.int 0 :: Value.int 0 :: Value.int 0 :: Value.int 0 :: Value.int 0 :: [])))] H := hP
  have hD : va_D A [(h0, .inr (11, (Value.ref (a 0) :: Value.ref (a 1) :: Value.ref (a 2) :: Value.ref (a 3) :: Value.ref (a 4) :: Value.ref (a 5) :: Value.ref (a 6) :: Value.ref (a 7) :: Value.ref (a 8) :: Value.ref (a 9) :: Value.ref (a 10) :: Value.ref (a 11) :: Value.ref (a 12) :: Value.ref (a 13) :: Value.ref (a 14) :: Value.int 0 :: Value.int 0 :: Value.int 0 :: []))), ((a 0), .inr (9, [.ref (a 15), .int 0])), ((a 5), .inr (5, (Value.ref (a 30) :: Value.ref (a 31) :: Value.ref (a 32) :: Value.ref (a 33) :: Value.ref (a 34) :: Value.ref (a 35) :: Value.ref (a 36) :: Value.ref (a 37) :: Value.int 0 :: Value.int 0 :: Value.int 0 :: Value.int 0 :: Value.int 0 :: Value.int 0 :: Value.int 0 :: [])))] := hD
  refine lv_aload_n hx hb dX11_triedOnTape_17 rfl (lv_at hl 1 rfl) ?_
  refine va_get (D := D) (ci := 11) (v := .ref (a 5)) (C := RX11) (T := TX11) (N := 18) hx hb hT ix_11 hown hK hP 0 rfl rfl 5 (by decide) (hT _ sw_520) (fun _ h9 => h9) rfl dX11_triedOnTape_18 ?_
  refine lv_iload_n hx hb dX11_triedOnTape_21 rfl (lv_at hl 3 rfl) ?_
  refine go_R (v := some (.int 0)) (st1 := [.int 0]) (run_V (As := [.int 65535]) (rest := []) ⟨hx, hb, hml, hown, hT⟩ (kX5_together_1 l D cI h0 a) sw_932 lkv_X5_together (p_R_V (ci := 5) (q0 := 0) (hP.sub (ws' := [((a 5), .inr (5, (Value.ref (a 30) :: Value.ref (a 31) :: Value.ref (a 32) :: Value.ref (a 33) :: Value.ref (a 34) :: Value.ref (a 35) :: Value.ref (a 36) :: Value.ref (a 37) :: Value.int 0 :: Value.int 0 :: Value.int 0 :: Value.int 0 :: Value.int 0 :: Value.int 0 :: Value.int 0 :: [])))]) [2] rfl) hK rfl rfl) rfl hl.1 rfl (Nat.le_of_ble_eq_true rfl) dX11_triedOnTape_22 ⟨⟨Nat.le_of_ble_eq_true rfl, Nat.le_of_ble_eq_true rfl⟩, Nat.le_of_ble_eq_true rfl, Nat.le_of_ble_eq_true rfl⟩) rfl ?_
  refine lv_if_eq (tgt := 44) hx hb dX11_triedOnTape_25 (by decide) (fun _ => ?_) (fun h9 => absurd (by decide) h9)
  refine lv_iconst (v := (-1)) hx hb dX11_triedOnTape_44 (by decide) ?_
  have hP9 := hP.sub (ws' := [(h0, .inr (11, (Value.ref (a 0) :: Value.ref (a 1) :: Value.ref (a 2) :: Value.ref (a 3) :: Value.ref (a 4) :: Value.ref (a 5) :: Value.ref (a 6) :: Value.ref (a 7) :: Value.ref (a 8) :: Value.ref (a 9) :: Value.ref (a 10) :: Value.ref (a 11) :: Value.ref (a 12) :: Value.ref (a 13) :: Value.ref (a 14) :: Value.int 0 :: Value.int 0 :: Value.int 0 :: []))), ((a 0), .inr (9, [.ref (a 15), .int 0])), ((a 5), .inr (5, (Value.ref (a 30) :: Value.ref (a 31) :: Value.ref (a 32) :: Value.ref (a 33) :: Value.ref (a 34) :: Value.ref (a 35) :: Value.ref (a 36) :: Value.ref (a 37) :: Value.int 0 :: Value.int 0 :: Value.int 0 :: Value.int 0 :: Value.int 0 :: Value.int 0 :: Value.int 0 :: [])))]) [0, 1, 2] rfl
  have hD9 := hD.sub (ws' := [(h0, .inr (11, (Value.ref (a 0) :: Value.ref (a 1) :: Value.ref (a 2) :: Value.ref (a 3) :: Value.ref (a 4) :: Value.ref (a 5) :: Value.ref (a 6) :: Value.ref (a 7) :: Value.ref (a 8) :: Value.ref (a 9) :: Value.ref (a 10) :: Value.ref (a 11) :: Value.ref (a 12) :: Value.ref (a 13) :: Value.ref (a 14) :: Value.int 0 :: Value.int 0 :: Value.int 0 :: []))), ((a 0), .inr (9, [.ref (a 15), .int 0])), ((a 5), .inr (5, (Value.ref (a 30) :: Value.ref (a 31) :: Value.ref (a 32) :: Value.ref (a 33) :: Value.ref (a 34) :: Value.ref (a 35) :: Value.ref (a 36) :: Value.ref (a 37) :: Value.int 0 :: Value.int 0 :: Value.int 0 :: Value.int 0 :: Value.int 0 :: Value.int 0 :: Value.int 0 :: [])))]) [0, 1, 2] (by decide) rfl
  exact W.iret (v := (-1)) hx hb hr (fun t ht _ => ⟨rfl, ⟨(fun k => [].getD k 0, fun k => [].getD k zI), by rw [ht]; exact hP9, hD9⟩, hS.F ht⟩) hS.2.2 dX11_triedOnTape_45
set_option maxHeartbeats 4000000 in
set_option maxRecDepth 100000 in
theorem kX11_triedOnTape_2 (l : Launch) (D : va_G) (cI : ClassId) (h0 : Nat) (a : Nat → Nat) (p0 p1 : Int32) (sz : Nat) : Met l yX11_triedOnTape (sw_ws yX11_triedOnTape cX11_triedOnTape 6 (some .int)) (rm_ 1 23 0 0) (p_M D vwCl [(cI, .int)] [.ref h0, .int p0, .int 0, .int p1] [(h0, .inr (11, (Value.ref (a 0) :: Value.ref (a 1) :: Value.ref (a 2) :: Value.ref (a 3) :: Value.ref (a 4) :: Value.ref (a 5) :: Value.ref (a 6) :: Value.ref (a 7) :: Value.ref (a 8) :: Value.ref (a 9) :: Value.ref (a 10) :: Value.ref (a 11) :: Value.ref (a 12) :: Value.ref (a 13) :: Value.ref (a 14) :: Value.int 0 :: Value.int 0 :: Value.int 0 :: []))), ((a 0), .inr (9, [.ref (a 15), .int 0])), ((a 5), .inr (5, (Value.ref (a 30) :: Value.ref (a 31) :: Value.ref (a 32) :: Value.ref (a 33) :: Value.ref (a 34) :: Value.ref (a 35) :: Value.ref (a 36) :: Value.ref (a 37) :: Value.int 0 :: Value.int 0 :: Value.int 0 :: Value.int 0 :: Value.int 0 :: Value.int 0 :: Value.int 0 :: [])))] sz) (q_M D vwCl (some (.int (-1))) (fun u => [(h0, .inr (11, (Value.ref (a 0) :: Value.ref (a 1) :: Value.ref (a 2) :: Value.ref (a 3) :: Value.ref (a 4) :: Value.ref (a 5) :: Value.ref (a 6) :: Value.ref (a 7) :: Value.ref (a 8) :: Value.ref (a 9) :: Value.ref (a 10) :: Value.ref (a 11) :: Value.ref (a 12) :: Value.ref (a 13) :: Value.ref (a 14) :: Value.int 0 :: Value.int 0 :: Value.int 0 :: []))), ((a 0), .inr (9, [.ref (a 15), .int 0])), ((a 5), .inr (5, (Value.ref (a 30) :: Value.ref (a 31) :: Value.ref (a 32) :: Value.ref (a 33) :: Value.ref (a 34) :: Value.ref (a 35) :: Value.ref (a 36) :: Value.ref (a 37) :: Value.int 0 :: Value.int 0 :: Value.int 0 :: Value.int 0 :: Value.int 0 :: Value.int 0 :: Value.int 0 :: [])))]) (va_A [(h0, .inr (11, (Value.ref (a 0) :: Value.ref (a 1) :: Value.ref (a 2) :: Value.ref (a 3) :: Value.ref (a 4) :: Value.ref (a 5) :: Value.ref (a 6) :: Value.ref (a 7) :: Value.ref (a 8) :: Value.ref (a 9) :: Value.ref (a 10) :: Value.ref (a 11) :: Value.ref (a 12) :: Value.ref (a 13) :: Value.ref (a 14) :: Value.int 0 :: Value.int 0 :: Value.int 0 :: []))), ((a 0), .inr (9, [.ref (a 15), .int 0])), ((a 5), .inr (5, (Value.ref (a 30) :: Value.ref (a 31) :: Value.ref (a 32) :: Value.ref (a 33) :: Value.ref (a 34) :: Value.ref (a 35) :: Value.ref (a 36) :: Value.ref (a 37) :: Value.int 0 :: Value.int 0 :: Value.int 0 :: Value.int 0 :: Value.int 0 :: Value.int 0 :: Value.int 0 :: [])))] sz)) 0 0 (va_A [(h0, .inr (11, (Value.ref (a 0) :: Value.ref (a 1) :: Value.ref (a 2) :: Value.ref (a 3) :: Value.ref (a 4) :: Value.ref (a 5) :: Value.ref (a 6) :: Value.ref (a 7) :: Value.ref (a 8) :: Value.ref (a 9) :: Value.ref (a 10) :: Value.ref (a 11) :: Value.ref (a 12) :: Value.ref (a 13) :: Value.ref (a 14) :: Value.int 0 :: Value.int 0 :: Value.int 0 :: []))), ((a 0), .inr (9, [.ref (a 15), .int 0])), ((a 5), .inr (5, (Value.ref (a 30) :: Value.ref (a 31) :: Value.ref (a 32) :: Value.ref (a 33) :: Value.ref (a 34) :: Value.ref (a 35) :: Value.ref (a 36) :: Value.ref (a 37) :: Value.int 0 :: Value.int 0 :: Value.int 0 :: Value.int 0 :: Value.int 0 :: Value.int 0 :: Value.int 0 :: [])))] sz) := by
  refine Met.ofW (cc := cX11_triedOnTape) (maxL := 6) (ret := (some .int)) (by decide) rfl ?_
  intro p e s m args below meth c s₁ B hml hv
  obtain ⟨rfl, hsz, hP, hK, hD0⟩ := hv
  have hx := B.exec
  have hb := B.bytes
  have hr := B.returns
  have hT := sw_in (atoms_spec (ws := sw_ws yX11_triedOnTape cX11_triedOnTape 6 (some .int)) B.pre)
  have hown : s.vm.findClass RX11 = some m.cls := findClass_of_methodNamed B.named
  have hlocks := B.notSynchronized
  subst hsz
  have hD := hD0.self (sz := s.heap.size)
  generalize hAe : va_A [(h0, .inr (11, (Value.ref (a 0) :: Value.ref (a 1) :: Value.ref (a 2) :: Value.ref (a 3) :: Value.ref (a 4) :: Value.ref (a 5) :: Value.ref (a 6) :: Value.ref (a 7) :: Value.ref (a 8) :: Value.ref (a 9) :: Value.ref (a 10) :: Value.ref (a 11) :: Value.ref (a 12) :: Value.ref (a 13) :: Value.ref (a 14) :: Value.int 0 :: Value.int 0 :: Value.int 0 :: []))), ((a 0), .inr (9, [.ref (a 15), .int 0])), ((a 5), .inr (5, (Value.ref (a 30) :: Value.ref (a 31) :: Value.ref (a 32) :: Value.ref (a 33) :: Value.ref (a 34) :: Value.ref (a 35) :: Value.ref (a 36) :: Value.ref (a 37) :: Value.int 0 :: Value.int 0 :: Value.int 0 :: Value.int 0 :: Value.int 0 :: Value.int 0 :: Value.int 0 :: [])))] s.heap.size = A at hD ⊢
  have hA : ∀ q : Nat, s.heap.size ≤ q → A q := fun q h => by rw [← hAe]; exact Or.inr h
  have hS : va_S A s.heap s.heap [] := va_S.rf
  have hl := lv_entry ([.ref h0, .int p0, .int 0, .int p1]) (n := 6) (Nat.le_of_ble_eq_true rfl)
  rw [lg_entry_eq]
  generalize (lg_sl ([.ref h0, .int p0, .int 0, .int p1]) ++ List.replicate (6 - (lg_sl ([.ref h0, .int p0, .int 0, .int p1])).length) Slot.unset).toArray = ls at hl ⊢
  have hl : lv_has ls 6 [(0, .ref h0), (1, .int p0), (2, .int 0), (3, .int p1)] := hl
  refine lv_aload_n hx hb dX11_triedOnTape_0 rfl (lv_at hl 0 rfl) ?_
  refine va_get (D := D) (ci := 11) (v := .ref (a 0)) (C := RX11) (T := TX11) (N := 18) hx hb hT ix_11 hown hK hP 0 rfl rfl 0 (by decide) (hT _ sw_515) (fun _ h9 => h9) rfl dX11_triedOnTape_1 ?_
  refine va_getN (D := D) (ci := 9) (v := .int 0) (C := RX9) (T := TX9) (N := 2) hx hb hT ix_9 hown hK hP 1 rfl rfl 1 (by decide) (hT _ sw_157) (fun _ h9 => h9) rfl dX11_triedOnTape_4 ?_
  refine lv_istore (lv' := [(4, .int 0), (0, .ref h0), (1, .int p0), (2, .int 0), (3, .int p1)]) hx hb dX11_triedOnTape_7 hl (by decide) rfl (fun ls hl => ?_)
  refine lv_aload_n hx hb dX11_triedOnTape_9 rfl (lv_at hl 1 rfl) ?_
  refine va_get (D := D) (ci := 11) (v := .ref (a 0)) (C := RX11) (T := TX11) (N := 18) hx hb hT ix_11 hown hK hP 0 rfl rfl 0 (by decide) (hT _ sw_515) (fun _ h9 => h9) rfl dX11_triedOnTape_10 ?_
  refine lv_iconst (v := 0) hx hb dX11_triedOnTape_13 (by decide) ?_
  refine va_putN (D := D) (ci := 9) (v := .int 0) (ty := .int) (C := RX9) (T := TX9) (N := 2) hx hb hT ix_9 tyX9 tyX9_ok nmX9 hown hK hP hD hS 1 rfl rfl 1 (by decide) (hT _ sw_157) (fun _ h9 => h9) rfl (by decide +kernel) rfl rfl (Nat.le_of_ble_eq_true rfl) dX11_triedOnTape_14 (fun H locs hP hD hS => ?_)
  have hP : va_P D vwCl [(h0, .inr (11, (Value.ref (a 0) :: Value.ref (a 1) :: Value.ref (a 2) :: Value.ref (a 3) :: Value.ref (a 4) :: Value.ref (a 5) :: Value.ref (a 6) :: Value.ref (a 7) :: Value.ref (a 8) :: Value.ref (a 9) :: Value.ref (a 10) :: Value.ref (a 11) :: Value.ref (a 12) :: Value.ref (a 13) :: Value.ref (a 14) :: Value.int 0 :: Value.int 0 :: Value.int 0 :: []))), ((a 0), .inr (9, [.ref (a 15), .int 0])), ((a 5), .inr (5, (Value.ref (a 30) :: Value.ref (a 31) :: Value.ref (a 32) :: Value.ref (a 33) :: Value.ref (a 34) :: Value.ref (a 35) :: Value.ref (a 36) :: Value.ref (a 37) :: Value.int 0 :: Value.int 0 :: Value.int 0 :: Value.int 0 :: Value.int 0 :: Value.int 0 :: Value.int 0 :: [])))] H := hP
  have hD : va_D A [(h0, .inr (11, (Value.ref (a 0) :: Value.ref (a 1) :: Value.ref (a 2) :: Value.ref (a 3) :: Value.ref (a 4) :: Value.ref (a 5) :: Value.ref (a 6) :: Value.ref (a 7) :: Value.ref (a 8) :: Value.ref (a 9) :: Value.ref (a 10) :: Value.ref (a 11) :: Value.ref (a 12) :: Value.ref (a 13) :: Value.ref (a 14) :: Value.int 0 :: Value.int 0 :: Value.int 0 :: []))), ((a 0), .inr (9, [.ref (a 15), .int 0])), ((a 5), .inr (5, (Value.ref (a 30) :: Value.ref (a 31) :: Value.ref (a 32) :: Value.ref (a 33) :: Value.ref (a 34) :: Value.ref (a 35) :: Value.ref (a 36) :: Value.ref (a 37) :: Value.int 0 :: Value.int 0 :: Value.int 0 :: Value.int 0 :: Value.int 0 :: Value.int 0 :: Value.int 0 :: [])))] := hD
  refine lv_aload_n hx hb dX11_triedOnTape_17 rfl (lv_at hl 1 rfl) ?_
  refine va_get (D := D) (ci := 11) (v := .ref (a 5)) (C := RX11) (T := TX11) (N := 18) hx hb hT ix_11 hown hK hP 0 rfl rfl 5 (by decide) (hT _ sw_520) (fun _ h9 => h9) rfl dX11_triedOnTape_18 ?_
  refine lv_iload_n hx hb dX11_triedOnTape_21 rfl (lv_at hl 3 rfl) ?_
  refine go_R (v := some (.int 0)) (st1 := [.int 0]) (run_V (As := [.int 0]) (rest := []) ⟨hx, hb, hml, hown, hT⟩ (kX5_together_0 l D cI h0 a) sw_932 lkv_X5_together (p_R_V (ci := 5) (q0 := 0) (hP.sub (ws' := [((a 5), .inr (5, (Value.ref (a 30) :: Value.ref (a 31) :: Value.ref (a 32) :: Value.ref (a 33) :: Value.ref (a 34) :: Value.ref (a 35) :: Value.ref (a 36) :: Value.ref (a 37) :: Value.int 0 :: Value.int 0 :: Value.int 0 :: Value.int 0 :: Value.int 0 :: Value.int 0 :: Value.int 0 :: [])))]) [2] rfl) hK rfl rfl) rfl hl.1 rfl (Nat.le_of_ble_eq_true rfl) dX11_triedOnTape_22 ⟨⟨Nat.le_of_ble_eq_true rfl, Nat.le_of_ble_eq_true rfl⟩, Nat.le_of_ble_eq_true rfl, Nat.le_of_ble_eq_true rfl⟩) rfl ?_
  refine lv_if_eq (tgt := 44) hx hb dX11_triedOnTape_25 (by decide) (fun _ => ?_) (fun h9 => absurd (by decide) h9)
  refine lv_iconst (v := (-1)) hx hb dX11_triedOnTape_44 (by decide) ?_
  have hP9 := hP.sub (ws' := [(h0, .inr (11, (Value.ref (a 0) :: Value.ref (a 1) :: Value.ref (a 2) :: Value.ref (a 3) :: Value.ref (a 4) :: Value.ref (a 5) :: Value.ref (a 6) :: Value.ref (a 7) :: Value.ref (a 8) :: Value.ref (a 9) :: Value.ref (a 10) :: Value.ref (a 11) :: Value.ref (a 12) :: Value.ref (a 13) :: Value.ref (a 14) :: Value.int 0 :: Value.int 0 :: Value.int 0 :: []))), ((a 0), .inr (9, [.ref (a 15), .int 0])), ((a 5), .inr (5, (Value.ref (a 30) :: Value.ref (a 31) :: Value.ref (a 32) :: Value.ref (a 33) :: Value.ref (a 34) :: Value.ref (a 35) :: Value.ref (a 36) :: Value.ref (a 37) :: Value.int 0 :: Value.int 0 :: Value.int 0 :: Value.int 0 :: Value.int 0 :: Value.int 0 :: Value.int 0 :: [])))]) [0, 1, 2] rfl
  have hD9 := hD.sub (ws' := [(h0, .inr (11, (Value.ref (a 0) :: Value.ref (a 1) :: Value.ref (a 2) :: Value.ref (a 3) :: Value.ref (a 4) :: Value.ref (a 5) :: Value.ref (a 6) :: Value.ref (a 7) :: Value.ref (a 8) :: Value.ref (a 9) :: Value.ref (a 10) :: Value.ref (a 11) :: Value.ref (a 12) :: Value.ref (a 13) :: Value.ref (a 14) :: Value.int 0 :: Value.int 0 :: Value.int 0 :: []))), ((a 0), .inr (9, [.ref (a 15), .int 0])), ((a 5), .inr (5, (Value.ref (a 30) :: Value.ref (a 31) :: Value.ref (a 32) :: Value.ref (a 33) :: Value.ref (a 34) :: Value.ref (a 35) :: Value.ref (a 36) :: Value.ref (a 37) :: Value.int 0 :: Value.int 0 :: Value.int 0 :: Value.int 0 :: Value.int 0 :: Value.int 0 :: Value.int 0 :: [])))]) [0, 1, 2] (by decide) rfl
  exact W.iret (v := (-1)) hx hb hr (fun t ht _ => ⟨rfl, ⟨(fun k => [].getD k 0, fun k => [].getD k zI), by rw [ht]; exact hP9, hD9⟩, hS.F ht⟩) hS.2.2 dX11_triedOnTape_45
set_option maxHeartbeats 4000000 in
set_option maxRecDepth 100000 in
theorem kX11_tries_0 (l : Launch) (D : va_G) (cI : ClassId) (h0 : Nat) (a : Nat → Nat) (p0 p1 : Int32) (sz : Nat) : Met l yX11_tries (sw_ws yX11_tries cX11_tries 3 (some .int)) (rm_ 2 48 0 0) (p_M D vwCl [(cI, .int)] [.ref h0, .int p0, .int p1] [(h0, .inr (11, (Value.ref (a 0) :: Value.ref (a 1) :: Value.ref (a 2) :: Value.ref (a 3) :: Value.ref (a 4) :: Value.ref (a 5) :: Value.ref (a 6) :: Value.ref (a 7) :: Value.ref (a 8) :: Value.ref (a 9) :: Value.ref (a 10) :: Value.ref (a 11) :: Value.ref (a 12) :: Value.ref (a 13) :: Value.ref (a 14) :: Value.int 0 :: Value.int 0 :: Value.int 0 :: []))), ((a 0), .inr (9, [.ref (a 15), .int 0])), ((a 5), .inr (5, (Value.ref (a 30) :: Value.ref (a 31) :: Value.ref (a 32) :: Value.ref (a 33) :: Value.ref (a 34) :: Value.ref (a 35) :: Value.ref (a 36) :: Value.ref (a 37) :: Value.int 0 :: Value.int 0 :: Value.int 0 :: Value.int 0 :: Value.int 0 :: Value.int 0 :: Value.int 0 :: [])))] sz) (q_M D vwCl (some (.int (-1))) (fun u => []) (va_A [(h0, .inr (11, (Value.ref (a 0) :: Value.ref (a 1) :: Value.ref (a 2) :: Value.ref (a 3) :: Value.ref (a 4) :: Value.ref (a 5) :: Value.ref (a 6) :: Value.ref (a 7) :: Value.ref (a 8) :: Value.ref (a 9) :: Value.ref (a 10) :: Value.ref (a 11) :: Value.ref (a 12) :: Value.ref (a 13) :: Value.ref (a 14) :: Value.int 0 :: Value.int 0 :: Value.int 0 :: []))), ((a 0), .inr (9, [.ref (a 15), .int 0])), ((a 5), .inr (5, (Value.ref (a 30) :: Value.ref (a 31) :: Value.ref (a 32) :: Value.ref (a 33) :: Value.ref (a 34) :: Value.ref (a 35) :: Value.ref (a 36) :: Value.ref (a 37) :: Value.int 0 :: Value.int 0 :: Value.int 0 :: Value.int 0 :: Value.int 0 :: Value.int 0 :: Value.int 0 :: [])))] sz)) 0 0 (va_A [(h0, .inr (11, (Value.ref (a 0) :: Value.ref (a 1) :: Value.ref (a 2) :: Value.ref (a 3) :: Value.ref (a 4) :: Value.ref (a 5) :: Value.ref (a 6) :: Value.ref (a 7) :: Value.ref (a 8) :: Value.ref (a 9) :: Value.ref (a 10) :: Value.ref (a 11) :: Value.ref (a 12) :: Value.ref (a 13) :: Value.ref (a 14) :: Value.int 0 :: Value.int 0 :: Value.int 0 :: []))), ((a 0), .inr (9, [.ref (a 15), .int 0])), ((a 5), .inr (5, (Value.ref (a 30) :: Value.ref (a 31) :: Value.ref (a 32) :: Value.ref (a 33) :: Value.ref (a 34) :: Value.ref (a 35) :: Value.ref (a 36) :: Value.ref (a 37) :: Value.int 0 :: Value.int 0 :: Value.int 0 :: Value.int 0 :: Value.int 0 :: Value.int 0 :: Value.int 0 :: [])))] sz) := by
  refine Met.ofW (cc := cX11_tries) (maxL := 3) (ret := (some .int)) (by decide) rfl ?_
  intro p e s m args below meth c s₁ B hml hv
  obtain ⟨rfl, hsz, hP, hK, hD0⟩ := hv
  have hx := B.exec
  have hb := B.bytes
  have hr := B.returns
  have hT := sw_in (atoms_spec (ws := sw_ws yX11_tries cX11_tries 3 (some .int)) B.pre)
  have hown : s.vm.findClass RX11 = some m.cls := findClass_of_methodNamed B.named
  have hlocks := B.notSynchronized
  subst hsz
  have hD := hD0.self (sz := s.heap.size)
  generalize hAe : va_A [(h0, .inr (11, (Value.ref (a 0) :: Value.ref (a 1) :: Value.ref (a 2) :: Value.ref (a 3) :: Value.ref (a 4) :: Value.ref (a 5) :: Value.ref (a 6) :: Value.ref (a 7) :: Value.ref (a 8) :: Value.ref (a 9) :: Value.ref (a 10) :: Value.ref (a 11) :: Value.ref (a 12) :: Value.ref (a 13) :: Value.ref (a 14) :: Value.int 0 :: Value.int 0 :: Value.int 0 :: []))), ((a 0), .inr (9, [.ref (a 15), .int 0])), ((a 5), .inr (5, (Value.ref (a 30) :: Value.ref (a 31) :: Value.ref (a 32) :: Value.ref (a 33) :: Value.ref (a 34) :: Value.ref (a 35) :: Value.ref (a 36) :: Value.ref (a 37) :: Value.int 0 :: Value.int 0 :: Value.int 0 :: Value.int 0 :: Value.int 0 :: Value.int 0 :: Value.int 0 :: [])))] s.heap.size = A at hD ⊢
  have hA : ∀ q : Nat, s.heap.size ≤ q → A q := fun q h => by rw [← hAe]; exact Or.inr h
  have hS : va_S A s.heap s.heap [] := va_S.rf
  have hl := lv_entry ([.ref h0, .int p0, .int p1]) (n := 3) (Nat.le_of_ble_eq_true rfl)
  rw [lg_entry_eq]
  generalize (lg_sl ([.ref h0, .int p0, .int p1]) ++ List.replicate (3 - (lg_sl ([.ref h0, .int p0, .int p1])).length) Slot.unset).toArray = ls at hl ⊢
  have hl : lv_has ls 3 [(0, .ref h0), (1, .int p0), (2, .int p1)] := hl
  refine lv_aload_n hx hb dX11_tries_0 rfl (lv_at hl 0 rfl) ?_
  refine lv_iload_n hx hb dX11_tries_1 rfl (lv_at hl 1 rfl) ?_
  refine lv_iload_n hx hb dX11_tries_2 rfl (lv_at hl 1 rfl) ?_
  refine go_R (v := some (.int (sp_isIn p0 0 2))) (st1 := [.int (sp_isIn p0 0 2), .int p0, .ref h0]) (run_S (As := [.int p0]) (rest := [.int p0, .ref h0]) ⟨hx, hb, hml, hown, hT⟩ (kX11_isWay_0 l D cI h0 a p0) sw_1068 lks_X11_isWay (p_R_S (hP.sub (ws' := []) [] rfl) hK) rfl hl.1 rfl (Nat.le_of_ble_eq_true rfl) dX11_tries_3 ⟨⟨Nat.le_of_ble_eq_true rfl, Nat.le_of_ble_eq_true rfl⟩, Nat.le_of_ble_eq_true rfl, Nat.le_of_ble_eq_true rfl⟩) rfl ?_
  rcases sp_isIn_or p0 0 2 with ⟨e_1, c_2, c_3⟩ | ⟨e_1, c_2⟩
  · refine ct_i (z := 1) e_1 ?_
    refine lv_if_eq (tgt := 14) hx hb dX11_tries_6 (by decide) (fun h9 => absurd h9 (by decide)) (fun _ => ?_)
    refine lv_ldc (own := RX11) (v := 65535) hx hb hown (hT _ sw_821) dX11_tries_9 ?_
    refine lv_goto (tgt := 15) hx hb dX11_tries_11 (by decide) ?_
    refine lv_iload_n hx hb dX11_tries_15 rfl (lv_at hl 2 rfl) ?_
    refine go_M (wc := [(h0, .inr (11, (Value.ref (a 0) :: Value.ref (a 1) :: Value.ref (a 2) :: Value.ref (a 3) :: Value.ref (a 4) :: Value.ref (a 5) :: Value.ref (a 6) :: Value.ref (a 7) :: Value.ref (a 8) :: Value.ref (a 9) :: Value.ref (a 10) :: Value.ref (a 11) :: Value.ref (a 12) :: Value.ref (a 13) :: Value.ref (a 14) :: Value.int 0 :: Value.int 0 :: Value.int 0 :: []))), ((a 0), .inr (9, [.ref (a 15), .int 0])), ((a 5), .inr (5, (Value.ref (a 30) :: Value.ref (a 31) :: Value.ref (a 32) :: Value.ref (a 33) :: Value.ref (a 34) :: Value.ref (a 35) :: Value.ref (a 36) :: Value.ref (a 37) :: Value.int 0 :: Value.int 0 :: Value.int 0 :: Value.int 0 :: Value.int 0 :: Value.int 0 :: Value.int 0 :: [])))]) (wr := []) (w1 := fun u => [(h0, .inr (11, (Value.ref (a 0) :: Value.ref (a 1) :: Value.ref (a 2) :: Value.ref (a 3) :: Value.ref (a 4) :: Value.ref (a 5) :: Value.ref (a 6) :: Value.ref (a 7) :: Value.ref (a 8) :: Value.ref (a 9) :: Value.ref (a 10) :: Value.ref (a 11) :: Value.ref (a 12) :: Value.ref (a 13) :: Value.ref (a 14) :: Value.int 0 :: Value.int 0 :: Value.int 0 :: []))), ((a 0), .inr (9, [.ref (a 15), .int 0])), ((a 5), .inr (5, (Value.ref (a 30) :: Value.ref (a 31) :: Value.ref (a 32) :: Value.ref (a 33) :: Value.ref (a 34) :: Value.ref (a 35) :: Value.ref (a 36) :: Value.ref (a 37) :: Value.int 0 :: Value.int 0 :: Value.int 0 :: Value.int 0 :: Value.int 0 :: Value.int 0 :: Value.int 0 :: [])))]) (v := some (.int (-1))) (st1 := [.int (-1)]) hP hD hS hA [0, 1, 2] [] rfl rfl (by decide) (by decide) (by decide) (fun hPc hDc => run_V (As := [.int p0, .int 65535, .int p1]) (rest := []) ⟨hx, hb, hml, hown, hT⟩ (kX11_triedOnTape_1 l D cI h0 a p0 p1 _) sw_952 lkv_X11_triedOnTape (p_M_V (ci := 11) (q0 := 0) hPc hK hDc rfl rfl) rfl hl.1 rfl (Nat.le_of_ble_eq_true rfl) dX11_tries_16 ⟨⟨Nat.le_of_ble_eq_true rfl, Nat.le_of_ble_eq_true rfl⟩, Nat.le_of_ble_eq_true rfl, Nat.le_of_ble_eq_true rfl⟩) rfl (fun u_4 H locs hP hD hS => ?_)
    have hP : va_P D vwCl [(h0, .inr (11, (Value.ref (a 0) :: Value.ref (a 1) :: Value.ref (a 2) :: Value.ref (a 3) :: Value.ref (a 4) :: Value.ref (a 5) :: Value.ref (a 6) :: Value.ref (a 7) :: Value.ref (a 8) :: Value.ref (a 9) :: Value.ref (a 10) :: Value.ref (a 11) :: Value.ref (a 12) :: Value.ref (a 13) :: Value.ref (a 14) :: Value.int 0 :: Value.int 0 :: Value.int 0 :: []))), ((a 0), .inr (9, [.ref (a 15), .int 0])), ((a 5), .inr (5, (Value.ref (a 30) :: Value.ref (a 31) :: Value.ref (a 32) :: Value.ref (a 33) :: Value.ref (a 34) :: Value.ref (a 35) :: Value.ref (a 36) :: Value.ref (a 37) :: Value.int 0 :: Value.int 0 :: Value.int 0 :: Value.int 0 :: Value.int 0 :: Value.int 0 :: Value.int 0 :: [])))] H := hP
    have hD : va_D A [(h0, .inr (11, (Value.ref (a 0) :: Value.ref (a 1) :: Value.ref (a 2) :: Value.ref (a 3) :: Value.ref (a 4) :: Value.ref (a 5) :: Value.ref (a 6) :: Value.ref (a 7) :: Value.ref (a 8) :: Value.ref (a 9) :: Value.ref (a 10) :: Value.ref (a 11) :: Value.ref (a 12) :: Value.ref (a 13) :: Value.ref (a 14) :: Value.int 0 :: Value.int 0 :: Value.int 0 :: []))), ((a 0), .inr (9, [.ref (a 15), .int 0])), ((a 5), .inr (5, (Value.ref (a 30) :: Value.ref (a 31) :: Value.ref (a 32) :: Value.ref (a 33) :: Value.ref (a 34) :: Value.ref (a 35) :: Value.ref (a 36) :: Value.ref (a 37) :: Value.int 0 :: Value.int 0 :: Value.int 0 :: Value.int 0 :: Value.int 0 :: Value.int 0 :: Value.int 0 :: [])))] := hD
    have hP9 := hP.sub (ws' := []) [] rfl
    have hD9 := hD.sub (ws' := []) [] (by decide) rfl
    exact W.iret (v := (-1)) hx hb hr (fun t ht _ => ⟨rfl, ⟨(fun k => [].getD k 0, fun k => [].getD k zI), by rw [ht]; exact hP9, hD9⟩, hS.F ht⟩) hS.2.2 dX11_tries_19
  · refine ct_i (z := 0) e_1 ?_
    refine lv_if_eq (tgt := 14) hx hb dX11_tries_6 (by decide) (fun _ => ?_) (fun h9 => absurd (by decide) h9)
    refine lv_iconst (v := 0) hx hb dX11_tries_14 (by decide) ?_
    refine lv_iload_n hx hb dX11_tries_15 rfl (lv_at hl 2 rfl) ?_
    refine go_M (wc := [(h0, .inr (11, (Value.ref (a 0) :: Value.ref (a 1) :: Value.ref (a 2) :: Value.ref (a 3) :: Value.ref (a 4) :: Value.ref (a 5) :: Value.ref (a 6) :: Value.ref (a 7) :: Value.ref (a 8) :: Value.ref (a 9) :: Value.ref (a 10) :: Value.ref (a 11) :: Value.ref (a 12) :: Value.ref (a 13) :: Value.ref (a 14) :: Value.int 0 :: Value.int 0 :: Value.int 0 :: []))), ((a 0), .inr (9, [.ref (a 15), .int 0])), ((a 5), .inr (5, (Value.ref (a 30) :: Value.ref (a 31) :: Value.ref (a 32) :: Value.ref (a 33) :: Value.ref (a 34) :: Value.ref (a 35) :: Value.ref (a 36) :: Value.ref (a 37) :: Value.int 0 :: Value.int 0 :: Value.int 0 :: Value.int 0 :: Value.int 0 :: Value.int 0 :: Value.int 0 :: [])))]) (wr := []) (w1 := fun u => [(h0, .inr (11, (Value.ref (a 0) :: Value.ref (a 1) :: Value.ref (a 2) :: Value.ref (a 3) :: Value.ref (a 4) :: Value.ref (a 5) :: Value.ref (a 6) :: Value.ref (a 7) :: Value.ref (a 8) :: Value.ref (a 9) :: Value.ref (a 10) :: Value.ref (a 11) :: Value.ref (a 12) :: Value.ref (a 13) :: Value.ref (a 14) :: Value.int 0 :: Value.int 0 :: Value.int 0 :: []))), ((a 0), .inr (9, [.ref (a 15), .int 0])), ((a 5), .inr (5, (Value.ref (a 30) :: Value.ref (a 31) :: Value.ref (a 32) :: Value.ref (a 33) :: Value.ref (a 34) :: Value.ref (a 35) :: Value.ref (a 36) :: Value.ref (a 37) :: Value.int 0 :: Value.int 0 :: Value.int 0 :: Value.int 0 :: Value.int 0 :: Value.int 0 :: Value.int 0 :: [])))]) (v := some (.int (-1))) (st1 := [.int (-1)]) hP hD hS hA [0, 1, 2] [] rfl rfl (by decide) (by decide) (by decide) (fun hPc hDc => run_V (As := [.int p0, .int 0, .int p1]) (rest := []) ⟨hx, hb, hml, hown, hT⟩ (kX11_triedOnTape_2 l D cI h0 a p0 p1 _) sw_952 lkv_X11_triedOnTape (p_M_V (ci := 11) (q0 := 0) hPc hK hDc rfl rfl) rfl hl.1 rfl (Nat.le_of_ble_eq_true rfl) dX11_tries_16 ⟨⟨Nat.le_of_ble_eq_true rfl, Nat.le_of_ble_eq_true rfl⟩, Nat.le_of_ble_eq_true rfl, Nat.le_of_ble_eq_true rfl⟩) rfl (fun u_5 H locs hP hD hS => ?_)
    have hP : va_P D vwCl [(h0, .inr (11, (Value.ref (a 0) :: Value.ref (a 1) :: Value.ref (a 2) :: Value.ref (a 3) :: Value.ref (a 4) :: Value.ref (a 5) :: Value.ref (a 6) :: Value.ref (a 7) :: Value.ref (a 8) :: Value.ref (a 9) :: Value.ref (a 10) :: Value.ref (a 11) :: Value.ref (a 12) :: Value.ref (a 13) :: Value.ref (a 14) :: Value.int 0 :: Value.int 0 :: Value.int 0 :: []))), ((a 0), .inr (9, [.ref (a 15), .int 0])), ((a 5), .inr (5, (Value.ref (a 30) :: Value.ref (a 31) :: Value.ref (a 32) :: Value.ref (a 33) :: Value.ref (a 34) :: Value.ref (a 35) :: Value.ref (a 36) :: Value.ref (a 37) :: Value.int 0 :: Value.int 0 :: Value.int 0 :: Value.int 0 :: Value.int 0 :: Value.int 0 :: Value.int 0 :: [])))] H := hP
    have hD : va_D A [(h0, .inr (11, (Value.ref (a 0) :: Value.ref (a 1) :: Value.ref (a 2) :: Value.ref (a 3) :: Value.ref (a 4) :: Value.ref (a 5) :: Value.ref (a 6) :: Value.ref (a 7) :: Value.ref (a 8) :: Value.ref (a 9) :: Value.ref (a 10) :: Value.ref (a 11) :: Value.ref (a 12) :: Value.ref (a 13) :: Value.ref (a 14) :: Value.int 0 :: Value.int 0 :: Value.int 0 :: []))), ((a 0), .inr (9, [.ref (a 15), .int 0])), ((a 5), .inr (5, (Value.ref (a 30) :: Value.ref (a 31) :: Value.ref (a 32) :: Value.ref (a 33) :: Value.ref (a 34) :: Value.ref (a 35) :: Value.ref (a 36) :: Value.ref (a 37) :: Value.int 0 :: Value.int 0 :: Value.int 0 :: Value.int 0 :: Value.int 0 :: Value.int 0 :: Value.int 0 :: [])))] := hD
    have hP9 := hP.sub (ws' := []) [] rfl
    have hD9 := hD.sub (ws' := []) [] (by decide) rfl
    exact W.iret (v := (-1)) hx hb hr (fun t ht _ => ⟨rfl, ⟨(fun k => [].getD k 0, fun k => [].getD k zI), by rw [ht]; exact hP9, hD9⟩, hS.F ht⟩) hS.2.2 dX11_tries_19
set_option maxHeartbeats 4000000 in
set_option maxRecDepth 100000 in
theorem kX11_band_0 (l : Launch) (D : va_G) (cI : ClassId) (h0 : Nat) (a : Nat → Nat) (p0 p1 : Int32) : Met l yX11_band (sw_ws yX11_band cX11_band 4 (some .int)) (rm_ 1 21 0 0) (p_R D vwCl [(cI, .int)] [.ref h0, .int p0, .int p1] [(h0, .inr (11, (Value.ref (a 0) :: Value.ref (a 1) :: Value.ref (a 2) :: Value.ref (a 3) :: Value.ref (a 4) :: Value.ref (a 5) :: Value.ref (a 6) :: Value.ref (a 7) :: Value.ref (a 8) :: Value.ref (a 9) :: Value.ref (a 10) :: Value.ref (a 11) :: Value.ref (a 12) :: Value.ref (a 13) :: Value.ref (a 14) :: Value.int 0 :: Value.int 0 :: Value.int 0 :: []))), ((a 5), .inr (5, (Value.ref (a 30) :: Value.ref (a 31) :: Value.ref (a 32) :: Value.ref (a 33) :: Value.ref (a 34) :: Value.ref (a 35) :: Value.ref (a 36) :: Value.ref (a 37) :: Value.int 0 :: Value.int 0 :: Value.int 0 :: Value.int 0 :: Value.int 0 :: Value.int 0 :: Value.int 0 :: [])))]) (q_R (some (.int (-1)))) 0 0 (fun _ => False) := by
  refine Met.ofW (cc := cX11_band) (maxL := 4) (ret := (some .int)) (by decide) rfl ?_
  intro p e s m args below meth c s₁ B hml hv
  obtain ⟨rfl, hP, hK⟩ := hv
  have hx := B.exec
  have hb := B.bytes
  have hr := B.returns
  have hT := sw_in (atoms_spec (ws := sw_ws yX11_band cX11_band 4 (some .int)) B.pre)
  have hown : s.vm.findClass RX11 = some m.cls := findClass_of_methodNamed B.named
  have hlocks := B.notSynchronized
  have hl := lv_entry ([.ref h0, .int p0, .int p1]) (n := 4) (Nat.le_of_ble_eq_true rfl)
  rw [lg_entry_eq]
  generalize (lg_sl ([.ref h0, .int p0, .int p1]) ++ List.replicate (4 - (lg_sl ([.ref h0, .int p0, .int p1])).length) Slot.unset).toArray = ls at hl ⊢
  have hl : lv_has ls 4 [(0, .ref h0), (1, .int p0), (2, .int p1)] := hl
  refine lv_aload_n hx hb dX11_band_0 rfl (lv_at hl 0 rfl) ?_
  refine lv_iload_n hx hb dX11_band_1 rfl (lv_at hl 1 rfl) ?_
  refine go_R (v := some (.int 0)) (st1 := [.int 0]) (run_V (As := [.int p0]) (rest := []) ⟨hx, hb, hml, hown, hT⟩ (kX11_isThing_0 l D cI h0 a p0) sw_830 lkv_X11_isThing (p_R_V (ci := 11) (q0 := 0) (hP.sub (ws' := [(h0, .inr (11, (Value.ref (a 0) :: Value.ref (a 1) :: Value.ref (a 2) :: Value.ref (a 3) :: Value.ref (a 4) :: Value.ref (a 5) :: Value.ref (a 6) :: Value.ref (a 7) :: Value.ref (a 8) :: Value.ref (a 9) :: Value.ref (a 10) :: Value.ref (a 11) :: Value.ref (a 12) :: Value.ref (a 13) :: Value.ref (a 14) :: Value.int 0 :: Value.int 0 :: Value.int 0 :: []))), ((a 5), .inr (5, (Value.ref (a 30) :: Value.ref (a 31) :: Value.ref (a 32) :: Value.ref (a 33) :: Value.ref (a 34) :: Value.ref (a 35) :: Value.ref (a 36) :: Value.ref (a 37) :: Value.int 0 :: Value.int 0 :: Value.int 0 :: Value.int 0 :: Value.int 0 :: Value.int 0 :: Value.int 0 :: [])))]) [0, 1] rfl) hK rfl rfl) rfl hl.1 rfl (Nat.le_of_ble_eq_true rfl) dX11_band_2 ⟨⟨Nat.le_of_ble_eq_true rfl, Nat.le_of_ble_eq_true rfl⟩, Nat.le_of_ble_eq_true rfl, Nat.le_of_ble_eq_true rfl⟩) rfl ?_
  refine lv_if_eq (tgt := 20) hx hb dX11_band_5 (by decide) (fun _ => ?_) (fun h9 => absurd (by decide) h9)
  refine lv_iconst (v := (-1)) hx hb dX11_band_20 (by decide) ?_
  refine lv_istore_n (lv' := [(3, .int (-1)), (0, .ref h0), (1, .int p0), (2, .int p1)]) hx hb dX11_band_21 rfl hl (by decide) rfl (fun ls hl => ?_)
  refine lv_iload_n hx hb dX11_band_22 rfl (lv_at hl 0 rfl) ?_
  refine lv_if_lt (tgt := 32) hx hb dX11_band_23 (by decide) (fun _ => ?_) (fun h9 => absurd (by decide) h9)
  refine lv_iconst (v := (-1)) hx hb dX11_band_32 (by decide) ?_
  exact W.iret (v := (-1)) hx hb hr (fun t ht _ => ⟨rfl, ht⟩) (fun _ h9 => nomatch h9) dX11_band_33
set_option maxHeartbeats 4000000 in
set_option maxRecDepth 100000 in
theorem kX11_deals_0 (l : Launch) (D : va_G) (cI : ClassId) (h0 : Nat) (a : Nat → Nat) (p0 : Int32) (sz : Nat) : Met l yX11_deals (sw_ws yX11_deals cX11_deals 6 (some .int)) (rm_ 0 0 0 0) (p_M D vwCl [(cI, .int)] [.ref h0, .int p0] [(h0, .inr (11, (Value.ref (a 0) :: Value.ref (a 1) :: Value.ref (a 2) :: Value.ref (a 3) :: Value.ref (a 4) :: Value.ref (a 5) :: Value.ref (a 6) :: Value.ref (a 7) :: Value.ref (a 8) :: Value.ref (a 9) :: Value.ref (a 10) :: Value.ref (a 11) :: Value.ref (a 12) :: Value.ref (a 13) :: Value.ref (a 14) :: Value.int 0 :: Value.int 0 :: Value.int 0 :: []))), ((a 0), .inr (9, [.ref (a 15), .int 0])), ((a 5), .inr (5, (Value.ref (a 30) :: Value.ref (a 31) :: Value.ref (a 32) :: Value.ref (a 33) :: Value.ref (a 34) :: Value.ref (a 35) :: Value.ref (a 36) :: Value.ref (a 37) :: Value.int 0 :: Value.int 0 :: Value.int 0 :: Value.int 0 :: Value.int 0 :: Value.int 0 :: Value.int 0 :: [])))] sz) (q_M D vwCl (some (.int (-1))) (fun u => []) (va_A [(h0, .inr (11, (Value.ref (a 0) :: Value.ref (a 1) :: Value.ref (a 2) :: Value.ref (a 3) :: Value.ref (a 4) :: Value.ref (a 5) :: Value.ref (a 6) :: Value.ref (a 7) :: Value.ref (a 8) :: Value.ref (a 9) :: Value.ref (a 10) :: Value.ref (a 11) :: Value.ref (a 12) :: Value.ref (a 13) :: Value.ref (a 14) :: Value.int 0 :: Value.int 0 :: Value.int 0 :: []))), ((a 0), .inr (9, [.ref (a 15), .int 0])), ((a 5), .inr (5, (Value.ref (a 30) :: Value.ref (a 31) :: Value.ref (a 32) :: Value.ref (a 33) :: Value.ref (a 34) :: Value.ref (a 35) :: Value.ref (a 36) :: Value.ref (a 37) :: Value.int 0 :: Value.int 0 :: Value.int 0 :: Value.int 0 :: Value.int 0 :: Value.int 0 :: Value.int 0 :: [])))] sz)) 0 0 (va_A [(h0, .inr (11, (Value.ref (a 0) :: Value.ref (a 1) :: Value.ref (a 2) :: Value.ref (a 3) :: Value.ref (a 4) :: Value.ref (a 5) :: Value.ref (a 6) :: Value.ref (a 7) :: Value.ref (a 8) :: Value.ref (a 9) :: Value.ref (a 10) :: Value.ref (a 11) :: Value.ref (a 12) :: Value.ref (a 13) :: Value.ref (a 14) :: Value.int 0 :: Value.int 0 :: Value.int 0 :: []))), ((a 0), .inr (9, [.ref (a 15), .int 0])), ((a 5), .inr (5, (Value.ref (a 30) :: Value.ref (a 31) :: Value.ref (a 32) :: Value.ref (a 33) :: Value.ref (a 34) :: Value.ref (a 35) :: Value.ref (a 36) :: Value.ref (a 37) :: Value.int 0 :: Value.int 0 :: Value.int 0 :: Value.int 0 :: Value.int 0 :: Value.int 0 :: Value.int 0 :: [])))] sz) := by
  refine Met.ofW (cc := cX11_deals) (maxL := 6) (ret := (some .int)) (by decide) rfl ?_
  intro p e s m args below meth c s₁ B hml hv
  obtain ⟨rfl, hsz, hP, hK, hD0⟩ := hv
  have hx := B.exec
  have hb := B.bytes
  have hr := B.returns
  have hT := sw_in (atoms_spec (ws := sw_ws yX11_deals cX11_deals 6 (some .int)) B.pre)
  have hown : s.vm.findClass RX11 = some m.cls := findClass_of_methodNamed B.named
  have hlocks := B.notSynchronized
  subst hsz
  have hD := hD0.self (sz := s.heap.size)
  generalize hAe : va_A [(h0, .inr (11, (Value.ref (a 0) :: Value.ref (a 1) :: Value.ref (a 2) :: Value.ref (a 3) :: Value.ref (a 4) :: Value.ref (a 5) :: Value.ref (a 6) :: Value.ref (a 7) :: Value.ref (a 8) :: Value.ref (a 9) :: Value.ref (a 10) :: Value.ref (a 11) :: Value.ref (a 12) :: Value.ref (a 13) :: Value.ref (a 14) :: Value.int 0 :: Value.int 0 :: Value.int 0 :: []))), ((a 0), .inr (9, [.ref (a 15), .int 0])), ((a 5), .inr (5, (Value.ref (a 30) :: Value.ref (a 31) :: Value.ref (a 32) :: Value.ref (a 33) :: Value.ref (a 34) :: Value.ref (a 35) :: Value.ref (a 36) :: Value.ref (a 37) :: Value.int 0 :: Value.int 0 :: Value.int 0 :: Value.int 0 :: Value.int 0 :: Value.int 0 :: Value.int 0 :: [])))] s.heap.size = A at hD ⊢
  have hA : ∀ q : Nat, s.heap.size ≤ q → A q := fun q h => by rw [← hAe]; exact Or.inr h
  have hS : va_S A s.heap s.heap [] := va_S.rf
  have hl := lv_entry ([.ref h0, .int p0]) (n := 6) (Nat.le_of_ble_eq_true rfl)
  rw [lg_entry_eq]
  generalize (lg_sl ([.ref h0, .int p0]) ++ List.replicate (6 - (lg_sl ([.ref h0, .int p0])).length) Slot.unset).toArray = ls at hl ⊢
  have hl : lv_has ls 6 [(0, .ref h0), (1, .int p0)] := hl
  refine lv_aload_n hx hb dX11_deals_0 rfl (lv_at hl 0 rfl) ?_
  refine va_get (D := D) (ci := 11) (v := .ref (a 0)) (C := RX11) (T := TX11) (N := 18) hx hb hT ix_11 hown hK hP 0 rfl rfl 0 (by decide) (hT _ sw_515) (fun _ h9 => h9) rfl dX11_deals_1 ?_
  refine va_getN (D := D) (ci := 9) (v := .int 0) (C := RX9) (T := TX9) (N := 2) hx hb hT ix_9 hown hK hP 1 rfl rfl 1 (by decide) (hT _ sw_157) (fun _ h9 => h9) rfl dX11_deals_4 ?_
  refine lv_istore_n (lv' := [(2, .int 0), (0, .ref h0), (1, .int p0)]) hx hb dX11_deals_7 rfl hl (by decide) rfl (fun ls hl => ?_)
  refine lv_aload_n hx hb dX11_deals_8 rfl (lv_at hl 1 rfl) ?_
  refine va_get (D := D) (ci := 11) (v := .ref (a 0)) (C := RX11) (T := TX11) (N := 18) hx hb hT ix_11 hown hK hP 0 rfl rfl 0 (by decide) (hT _ sw_515) (fun _ h9 => h9) rfl dX11_deals_9 ?_
  refine lv_iconst (v := 0) hx hb dX11_deals_12 (by decide) ?_
  refine va_putN (D := D) (ci := 9) (v := .int 0) (ty := .int) (C := RX9) (T := TX9) (N := 2) hx hb hT ix_9 tyX9 tyX9_ok nmX9 hown hK hP hD hS 1 rfl rfl 1 (by decide) (hT _ sw_157) (fun _ h9 => h9) rfl (by decide +kernel) rfl rfl (Nat.le_of_ble_eq_true rfl) dX11_deals_13 (fun H locs hP hD hS => ?_)
  have hP : va_P D vwCl [(h0, .inr (11, (Value.ref (a 0) :: Value.ref (a 1) :: Value.ref (a 2) :: Value.ref (a 3) :: Value.ref (a 4) :: Value.ref (a 5) :: Value.ref (a 6) :: Value.ref (a 7) :: Value.ref (a 8) :: Value.ref (a 9) :: Value.ref (a 10) :: Value.ref (a 11) :: Value.ref (a 12) :: Value.ref (a 13) :: Value.ref (a 14) :: Value.int 0 :: Value.int 0 :: Value.int 0 :: []))), ((a 0), .inr (9, [.ref (a 15), .int 0])), ((a 5), .inr (5, (Value.ref (a 30) :: Value.ref (a 31) :: Value.ref (a 32) :: Value.ref (a 33) :: Value.ref (a 34) :: Value.ref (a 35) :: Value.ref (a 36) :: Value.ref (a 37) :: Value.int 0 :: Value.int 0 :: Value.int 0 :: Value.int 0 :: Value.int 0 :: Value.int 0 :: Value.int 0 :: [])))] H := hP
  have hD : va_D A [(h0, .inr (11, (Value.ref (a 0) :: Value.ref (a 1) :: Value.ref (a 2) :: Value.ref (a 3) :: Value.ref (a 4) :: Value.ref (a 5) :: Value.ref (a 6) :: Value.ref (a 7) :: Value.ref (a 8) :: Value.ref (a 9) :: Value.ref (a 10) :: Value.ref (a 11) :: Value.ref (a 12) :: Value.ref (a 13) :: Value.ref (a 14) :: Value.int 0 :: Value.int 0 :: Value.int 0 :: []))), ((a 0), .inr (9, [.ref (a 15), .int 0])), ((a 5), .inr (5, (Value.ref (a 30) :: Value.ref (a 31) :: Value.ref (a 32) :: Value.ref (a 33) :: Value.ref (a 34) :: Value.ref (a 35) :: Value.ref (a 36) :: Value.ref (a 37) :: Value.int 0 :: Value.int 0 :: Value.int 0 :: Value.int 0 :: Value.int 0 :: Value.int 0 :: Value.int 0 :: [])))] := hD
  refine lv_aload_n hx hb dX11_deals_16 rfl (lv_at hl 1 rfl) ?_
  refine va_get (D := D) (ci := 11) (v := .ref (a 5)) (C := RX11) (T := TX11) (N := 18) hx hb hT ix_11 hown hK hP 0 rfl rfl 5 (by decide) (hT _ sw_520) (fun _ h9 => h9) rfl dX11_deals_17 ?_
  refine va_getN (D := D) (ci := 5) (v := .int 0) (C := RX5) (T := TX5) (N := 15) hx hb hT ix_5 hown hK hP 2 rfl rfl 9 (by decide) (hT _ sw_349) (fun _ h9 => h9) rfl dX11_deals_20 ?_
  refine lv_if_le (tgt := 36) hx hb dX11_deals_23 (by decide) (fun _ => ?_) (fun h9 => absurd (by decide) h9)
  refine lv_iconst (v := (-1)) hx hb dX11_deals_36 (by decide) ?_
  have hP9 := hP.sub (ws' := []) [] rfl
  have hD9 := hD.sub (ws' := []) [] (by decide) rfl
  exact W.iret (v := (-1)) hx hb hr (fun t ht _ => ⟨rfl, ⟨(fun k => [].getD k 0, fun k => [].getD k zI), by rw [ht]; exact hP9, hD9⟩, hS.F ht⟩) hS.2.2 dX11_deals_37
set_option maxHeartbeats 4000000 in
set_option maxRecDepth 100000 in
theorem kX11_pairs_0 (l : Launch) (D : va_G) (cI : ClassId) (h0 : Nat) (a : Nat → Nat) (p0 p1 p2 : Int32) : Met l yX11_pairs (sw_ws yX11_pairs cX11_pairs 4 (some .int)) (rm_ 0 0 0 0) (p_R D vwCl [(cI, .int)] [.ref h0, .int p0, .int p1, .int p2] [(h0, .inr (11, (Value.ref (a 0) :: Value.ref (a 1) :: Value.ref (a 2) :: Value.ref (a 3) :: Value.ref (a 4) :: Value.ref (a 5) :: Value.ref (a 6) :: Value.ref (a 7) :: Value.ref (a 8) :: Value.ref (a 9) :: Value.ref (a 10) :: Value.ref (a 11) :: Value.ref (a 12) :: Value.ref (a 13) :: Value.ref (a 14) :: Value.int 0 :: Value.int 0 :: Value.int 0 :: []))), ((a 5), .inr (5, (Value.ref (a 30) :: Value.ref (a 31) :: Value.ref (a 32) :: Value.ref (a 33) :: Value.ref (a 34) :: Value.ref (a 35) :: Value.ref (a 36) :: Value.ref (a 37) :: Value.int 0 :: Value.int 0 :: Value.int 0 :: Value.int 0 :: Value.int 0 :: Value.int 0 :: Value.int 0 :: [])))]) (q_R (some (.int (-1)))) 0 0 (fun _ => False) := by
  refine Met.ofW (cc := cX11_pairs) (maxL := 4) (ret := (some .int)) (by decide) rfl ?_
  intro p e s m args below meth c s₁ B hml hv
  obtain ⟨rfl, hP, hK⟩ := hv
  have hx := B.exec
  have hb := B.bytes
  have hr := B.returns
  have hT := sw_in (atoms_spec (ws := sw_ws yX11_pairs cX11_pairs 4 (some .int)) B.pre)
  have hown : s.vm.findClass RX11 = some m.cls := findClass_of_methodNamed B.named
  have hlocks := B.notSynchronized
  have hl := lv_entry ([.ref h0, .int p0, .int p1, .int p2]) (n := 4) (Nat.le_of_ble_eq_true rfl)
  rw [lg_entry_eq]
  generalize (lg_sl ([.ref h0, .int p0, .int p1, .int p2]) ++ List.replicate (4 - (lg_sl ([.ref h0, .int p0, .int p1, .int p2])).length) Slot.unset).toArray = ls at hl ⊢
  have hl : lv_has ls 4 [(0, .ref h0), (1, .int p0), (2, .int p1), (3, .int p2)] := hl
  refine lv_aload_n hx hb dX11_pairs_0 rfl (lv_at hl 0 rfl) ?_
  refine va_get (D := D) (ci := 11) (v := .ref (a 5)) (C := RX11) (T := TX11) (N := 18) hx hb hT ix_11 hown hK hP 0 rfl rfl 5 (by decide) (hT _ sw_520) (fun _ h9 => h9) rfl dX11_pairs_1 ?_
  refine va_getN (D := D) (ci := 5) (v := .int 0) (C := RX5) (T := TX5) (N := 15) hx hb hT ix_5 hown hK hP 1 rfl rfl 9 (by decide) (hT _ sw_349) (fun _ h9 => h9) rfl dX11_pairs_4 ?_
  refine lv_if_le (tgt := 33) hx hb dX11_pairs_7 (by decide) (fun _ => ?_) (fun h9 => absurd (by decide) h9)
  refine lv_iconst (v := (-1)) hx hb dX11_pairs_33 (by decide) ?_
  exact W.iret (v := (-1)) hx hb hr (fun t ht _ => ⟨rfl, ht⟩) (fun _ h9 => nomatch h9) dX11_pairs_34
set_option maxHeartbeats 4000000 in
set_option maxRecDepth 100000 in
theorem kX11_rows_0 (l : Launch) (D : va_G) (cI : ClassId) (h0 : Nat) (a : Nat → Nat) (p0 p1 p2 : Int32) : Met l yX11_rows (sw_ws yX11_rows cX11_rows 4 (some .int)) (rm_ 0 0 0 0) (p_R D vwCl [(cI, .int)] [.ref h0, .int p0, .int p1, .int p2] [(h0, .inr (11, (Value.ref (a 0) :: Value.ref (a 1) :: Value.ref (a 2) :: Value.ref (a 3) :: Value.ref (a 4) :: Value.ref (a 5) :: Value.ref (a 6) :: Value.ref (a 7) :: Value.ref (a 8) :: Value.ref (a 9) :: Value.ref (a 10) :: Value.ref (a 11) :: Value.ref (a 12) :: Value.ref (a 13) :: Value.ref (a 14) :: Value.int 0 :: Value.int 0 :: Value.int 0 :: []))), ((a 5), .inr (5, (Value.ref (a 30) :: Value.ref (a 31) :: Value.ref (a 32) :: Value.ref (a 33) :: Value.ref (a 34) :: Value.ref (a 35) :: Value.ref (a 36) :: Value.ref (a 37) :: Value.int 0 :: Value.int 0 :: Value.int 0 :: Value.int 0 :: Value.int 0 :: Value.int 0 :: Value.int 0 :: [])))]) (q_R (some (.int (-1)))) 0 0 (fun _ => False) := by
  refine Met.ofW (cc := cX11_rows) (maxL := 4) (ret := (some .int)) (by decide) rfl ?_
  intro p e s m args below meth c s₁ B hml hv
  obtain ⟨rfl, hP, hK⟩ := hv
  have hx := B.exec
  have hb := B.bytes
  have hr := B.returns
  have hT := sw_in (atoms_spec (ws := sw_ws yX11_rows cX11_rows 4 (some .int)) B.pre)
  have hown : s.vm.findClass RX11 = some m.cls := findClass_of_methodNamed B.named
  have hlocks := B.notSynchronized
  have hl := lv_entry ([.ref h0, .int p0, .int p1, .int p2]) (n := 4) (Nat.le_of_ble_eq_true rfl)
  rw [lg_entry_eq]
  generalize (lg_sl ([.ref h0, .int p0, .int p1, .int p2]) ++ List.replicate (4 - (lg_sl ([.ref h0, .int p0, .int p1, .int p2])).length) Slot.unset).toArray = ls at hl ⊢
  have hl : lv_has ls 4 [(0, .ref h0), (1, .int p0), (2, .int p1), (3, .int p2)] := hl
  refine lv_aload_n hx hb dX11_rows_0 rfl (lv_at hl 0 rfl) ?_
  refine va_get (D := D) (ci := 11) (v := .ref (a 5)) (C := RX11) (T := TX11) (N := 18) hx hb hT ix_11 hown hK hP 0 rfl rfl 5 (by decide) (hT _ sw_520) (fun _ h9 => h9) rfl dX11_rows_1 ?_
  refine va_getN (D := D) (ci := 5) (v := .int 0) (C := RX5) (T := TX5) (N := 15) hx hb hT ix_5 hown hK hP 1 rfl rfl 9 (by decide) (hT _ sw_349) (fun _ h9 => h9) rfl dX11_rows_4 ?_
  refine lv_if_le (tgt := 37) hx hb dX11_rows_7 (by decide) (fun _ => ?_) (fun h9 => absurd (by decide) h9)
  refine lv_iconst (v := (-1)) hx hb dX11_rows_37 (by decide) ?_
  exact W.iret (v := (-1)) hx hb hr (fun t ht _ => ⟨rfl, ht⟩) (fun _ h9 => nomatch h9) dX11_rows_38
set_option maxHeartbeats 4000000 in
set_option maxRecDepth 100000 in
theorem kX11_fewest_0 (l : Launch) (D : va_G) (cI : ClassId) (h0 : Nat) (a : Nat → Nat) (p0 p1 p2 : Int32) : Met l yX11_fewest (sw_ws yX11_fewest cX11_fewest 7 (some .int)) (rm_ 0 0 0 0) (p_R D vwCl [(cI, .int)] [.ref h0, .int p0, .int p1, .int p2] [(h0, .inr (11, (Value.ref (a 0) :: Value.ref (a 1) :: Value.ref (a 2) :: Value.ref (a 3) :: Value.ref (a 4) :: Value.ref (a 5) :: Value.ref (a 6) :: Value.ref (a 7) :: Value.ref (a 8) :: Value.ref (a 9) :: Value.ref (a 10) :: Value.ref (a 11) :: Value.ref (a 12) :: Value.ref (a 13) :: Value.ref (a 14) :: Value.int 0 :: Value.int 0 :: Value.int 0 :: []))), ((a 5), .inr (5, (Value.ref (a 30) :: Value.ref (a 31) :: Value.ref (a 32) :: Value.ref (a 33) :: Value.ref (a 34) :: Value.ref (a 35) :: Value.ref (a 36) :: Value.ref (a 37) :: Value.int 0 :: Value.int 0 :: Value.int 0 :: Value.int 0 :: Value.int 0 :: Value.int 0 :: Value.int 0 :: [])))]) (q_R (some (.int (-1)))) 0 0 (fun _ => False) := by
  refine Met.ofW (cc := cX11_fewest) (maxL := 7) (ret := (some .int)) (by decide) rfl ?_
  intro p e s m args below meth c s₁ B hml hv
  obtain ⟨rfl, hP, hK⟩ := hv
  have hx := B.exec
  have hb := B.bytes
  have hr := B.returns
  have hT := sw_in (atoms_spec (ws := sw_ws yX11_fewest cX11_fewest 7 (some .int)) B.pre)
  have hown : s.vm.findClass RX11 = some m.cls := findClass_of_methodNamed B.named
  have hlocks := B.notSynchronized
  have hl := lv_entry ([.ref h0, .int p0, .int p1, .int p2]) (n := 7) (Nat.le_of_ble_eq_true rfl)
  rw [lg_entry_eq]
  generalize (lg_sl ([.ref h0, .int p0, .int p1, .int p2]) ++ List.replicate (7 - (lg_sl ([.ref h0, .int p0, .int p1, .int p2])).length) Slot.unset).toArray = ls at hl ⊢
  have hl : lv_has ls 7 [(0, .ref h0), (1, .int p0), (2, .int p1), (3, .int p2)] := hl
  refine lv_aload_n hx hb dX11_fewest_0 rfl (lv_at hl 0 rfl) ?_
  refine va_get (D := D) (ci := 11) (v := .ref (a 5)) (C := RX11) (T := TX11) (N := 18) hx hb hT ix_11 hown hK hP 0 rfl rfl 5 (by decide) (hT _ sw_520) (fun _ h9 => h9) rfl dX11_fewest_1 ?_
  refine va_getN (D := D) (ci := 5) (v := .int 0) (C := RX5) (T := TX5) (N := 15) hx hb hT ix_5 hown hK hP 1 rfl rfl 9 (by decide) (hT _ sw_349) (fun _ h9 => h9) rfl dX11_fewest_4 ?_
  refine lv_if_le (tgt := 34) hx hb dX11_fewest_7 (by decide) (fun _ => ?_) (fun h9 => absurd (by decide) h9)
  refine lv_iconst (v := (-1)) hx hb dX11_fewest_34 (by decide) ?_
  exact W.iret (v := (-1)) hx hb hr (fun t ht _ => ⟨rfl, ht⟩) (fun _ h9 => nomatch h9) dX11_fewest_35
set_option maxHeartbeats 4000000 in
set_option maxRecDepth 100000 in
theorem kX11_longest_0 (l : Launch) (D : va_G) (cI : ClassId) (h0 : Nat) (a : Nat → Nat) (p0 p1 p2 : Int32) : Met l yX11_longest (sw_ws yX11_longest cX11_longest 7 (some .int)) (rm_ 0 0 0 0) (p_R D vwCl [(cI, .int)] [.ref h0, .int p0, .int p1, .int p2] [(h0, .inr (11, (Value.ref (a 0) :: Value.ref (a 1) :: Value.ref (a 2) :: Value.ref (a 3) :: Value.ref (a 4) :: Value.ref (a 5) :: Value.ref (a 6) :: Value.ref (a 7) :: Value.ref (a 8) :: Value.ref (a 9) :: Value.ref (a 10) :: Value.ref (a 11) :: Value.ref (a 12) :: Value.ref (a 13) :: Value.ref (a 14) :: Value.int 0 :: Value.int 0 :: Value.int 0 :: []))), ((a 5), .inr (5, (Value.ref (a 30) :: Value.ref (a 31) :: Value.ref (a 32) :: Value.ref (a 33) :: Value.ref (a 34) :: Value.ref (a 35) :: Value.ref (a 36) :: Value.ref (a 37) :: Value.int 0 :: Value.int 0 :: Value.int 0 :: Value.int 0 :: Value.int 0 :: Value.int 0 :: Value.int 0 :: [])))]) (q_R (some (.int (-1)))) 0 0 (fun _ => False) := by
  refine Met.ofW (cc := cX11_longest) (maxL := 7) (ret := (some .int)) (by decide) rfl ?_
  intro p e s m args below meth c s₁ B hml hv
  obtain ⟨rfl, hP, hK⟩ := hv
  have hx := B.exec
  have hb := B.bytes
  have hr := B.returns
  have hT := sw_in (atoms_spec (ws := sw_ws yX11_longest cX11_longest 7 (some .int)) B.pre)
  have hown : s.vm.findClass RX11 = some m.cls := findClass_of_methodNamed B.named
  have hlocks := B.notSynchronized
  have hl := lv_entry ([.ref h0, .int p0, .int p1, .int p2]) (n := 7) (Nat.le_of_ble_eq_true rfl)
  rw [lg_entry_eq]
  generalize (lg_sl ([.ref h0, .int p0, .int p1, .int p2]) ++ List.replicate (7 - (lg_sl ([.ref h0, .int p0, .int p1, .int p2])).length) Slot.unset).toArray = ls at hl ⊢
  have hl : lv_has ls 7 [(0, .ref h0), (1, .int p0), (2, .int p1), (3, .int p2)] := hl
  refine lv_aload_n hx hb dX11_longest_0 rfl (lv_at hl 0 rfl) ?_
  refine va_get (D := D) (ci := 11) (v := .ref (a 5)) (C := RX11) (T := TX11) (N := 18) hx hb hT ix_11 hown hK hP 0 rfl rfl 5 (by decide) (hT _ sw_520) (fun _ h9 => h9) rfl dX11_longest_1 ?_
  refine va_getN (D := D) (ci := 5) (v := .int 0) (C := RX5) (T := TX5) (N := 15) hx hb hT ix_5 hown hK hP 1 rfl rfl 9 (by decide) (hT _ sw_349) (fun _ h9 => h9) rfl dX11_longest_4 ?_
  refine lv_if_le (tgt := 33) hx hb dX11_longest_7 (by decide) (fun _ => ?_) (fun h9 => absurd (by decide) h9)
  refine lv_iconst (v := (-1)) hx hb dX11_longest_33 (by decide) ?_
  exact W.iret (v := (-1)) hx hb hr (fun t ht _ => ⟨rfl, ht⟩) (fun _ h9 => nomatch h9) dX11_longest_34
set_option maxHeartbeats 4000000 in
set_option maxRecDepth 100000 in
theorem kX11_refuse_2 (l : Launch) (D : va_G) (cI : ClassId) (h0 : Nat) (a : Nat → Nat) (g0 : Nat → Int32) (sz : Nat) : Met l yX11_refuse (sw_ws yX11_refuse cX11_refuse 2 (some .int)) (rm_ 0 0 0 0) (p_M D vwCl [(cI, .int)] [.ref h0, .int 5] [(h0, .inr (11, (Value.ref (a 0) :: Value.ref (a 1) :: Value.ref (a 2) :: Value.ref (a 3) :: Value.ref (a 4) :: Value.ref (a 5) :: Value.ref (a 6) :: Value.ref (a 7) :: Value.ref (a 8) :: Value.ref (a 9) :: Value.ref (a 10) :: Value.ref (a 11) :: Value.ref (a 12) :: Value.ref (a 13) :: Value.ref (a 14) :: Value.int 0 :: Value.int 0 :: Value.int 0 :: []))), ((a 13), .inl (cI, 6, .inl g0))] sz) (q_M D vwCl (some (.int (-1))) (fun u => [(h0, .inr (11, (Value.ref (a 0) :: Value.ref (a 1) :: Value.ref (a 2) :: Value.ref (a 3) :: Value.ref (a 4) :: Value.ref (a 5) :: Value.ref (a 6) :: Value.ref (a 7) :: Value.ref (a 8) :: Value.ref (a 9) :: Value.ref (a 10) :: Value.ref (a 11) :: Value.ref (a 12) :: Value.ref (a 13) :: Value.ref (a 14) :: Value.int 0 :: Value.int 0 :: Value.int 0 :: []))), ((a 13), .inl (cI, 6, .inl (u.2 0)))]) (va_A [(h0, .inr (11, (Value.ref (a 0) :: Value.ref (a 1) :: Value.ref (a 2) :: Value.ref (a 3) :: Value.ref (a 4) :: Value.ref (a 5) :: Value.ref (a 6) :: Value.ref (a 7) :: Value.ref (a 8) :: Value.ref (a 9) :: Value.ref (a 10) :: Value.ref (a 11) :: Value.ref (a 12) :: Value.ref (a 13) :: Value.ref (a 14) :: Value.int 0 :: Value.int 0 :: Value.int 0 :: []))), ((a 13), .inl (cI, 6, .inl g0))] sz)) 0 0 (va_A [(h0, .inr (11, (Value.ref (a 0) :: Value.ref (a 1) :: Value.ref (a 2) :: Value.ref (a 3) :: Value.ref (a 4) :: Value.ref (a 5) :: Value.ref (a 6) :: Value.ref (a 7) :: Value.ref (a 8) :: Value.ref (a 9) :: Value.ref (a 10) :: Value.ref (a 11) :: Value.ref (a 12) :: Value.ref (a 13) :: Value.ref (a 14) :: Value.int 0 :: Value.int 0 :: Value.int 0 :: []))), ((a 13), .inl (cI, 6, .inl g0))] sz) := by
  refine Met.ofW (cc := cX11_refuse) (maxL := 2) (ret := (some .int)) (by decide) rfl ?_
  intro p e s m args below meth c s₁ B hml hv
  obtain ⟨rfl, hsz, hP, hK, hD0⟩ := hv
  have hx := B.exec
  have hb := B.bytes
  have hr := B.returns
  have hT := sw_in (atoms_spec (ws := sw_ws yX11_refuse cX11_refuse 2 (some .int)) B.pre)
  have hown : s.vm.findClass RX11 = some m.cls := findClass_of_methodNamed B.named
  have hlocks := B.notSynchronized
  subst hsz
  have hD := hD0.self (sz := s.heap.size)
  generalize hAe : va_A [(h0, .inr (11, (Value.ref (a 0) :: Value.ref (a 1) :: Value.ref (a 2) :: Value.ref (a 3) :: Value.ref (a 4) :: Value.ref (a 5) :: Value.ref (a 6) :: Value.ref (a 7) :: Value.ref (a 8) :: Value.ref (a 9) :: Value.ref (a 10) :: Value.ref (a 11) :: Value.ref (a 12) :: Value.ref (a 13) :: Value.ref (a 14) :: Value.int 0 :: Value.int 0 :: Value.int 0 :: []))), ((a 13), .inl (cI, 6, .inl g0))] s.heap.size = A at hD ⊢
  have hA : ∀ q : Nat, s.heap.size ≤ q → A q := fun q h => by rw [← hAe]; exact Or.inr h
  have hS : va_S A s.heap s.heap [] := va_S.rf
  have hl := lv_entry ([.ref h0, .int 5]) (n := 2) (Nat.le_of_ble_eq_true rfl)
  rw [lg_entry_eq]
  generalize (lg_sl ([.ref h0, .int 5]) ++ List.replicate (2 - (lg_sl ([.ref h0, .int 5])).length) Slot.unset).toArray = ls at hl ⊢
  have hl : lv_has ls 2 [(0, .ref h0), (1, .int 5)] := hl
  refine lv_iload_n hx hb dX11_refuse_0 rfl (lv_at hl 1 rfl) ?_
  refine lv_if_lt (tgt := 23) hx hb dX11_refuse_1 (by decide) (fun h9 => absurd h9 (by decide)) (fun _ => ?_)
  refine lv_iload_n hx hb dX11_refuse_4 rfl (lv_at hl 1 rfl) ?_
  refine lv_aload_n hx hb dX11_refuse_5 rfl (lv_at hl 0 rfl) ?_
  refine va_get (D := D) (ci := 11) (v := .ref (a 13)) (C := RX11) (T := TX11) (N := 18) hx hb hT ix_11 hown hK hP 0 rfl rfl 13 (by decide) (hT _ sw_528) (fun _ h9 => h9) rfl dX11_refuse_6 ?_
  refine va_alen (v := 6) hx hb hK hP 1 0 rfl rfl (show Int32.ofNat 6 = 6 by decide) dX11_refuse_9 ?_
  refine lv_icmp_ge (tgt := 23) hx hb dX11_refuse_10 (by decide) (fun h9 => absurd h9 (by decide)) (fun _ => ?_)
  refine lv_aload_n hx hb dX11_refuse_13 rfl (lv_at hl 0 rfl) ?_
  refine va_get (D := D) (ci := 11) (v := .ref (a 13)) (C := RX11) (T := TX11) (N := 18) hx hb hT ix_11 hown hK hP 0 rfl rfl 13 (by decide) (hT _ sw_528) (fun _ h9 => h9) rfl dX11_refuse_14 ?_
  refine lv_iload_n hx hb dX11_refuse_17 rfl (lv_at hl 1 rfl) ?_
  refine lv_dup2_11 hx hb dX11_refuse_18 rfl rfl ?_
  refine va_iald hx hb hK hP 1 0 rfl rfl (vi_c (by decide +kernel)) dX11_refuse_19 ?_
  refine lv_topi (fun v_1 _ => ?_)
  refine lv_iconst (v := 1) hx hb dX11_refuse_20 (by decide) ?_
  refine lv_iadd hx hb dX11_refuse_21 ?_
  refine lv_topi (fun v_2 _ => ?_)
  refine va_iast hx hb hK hP hD hS 1 0 rfl rfl (vi_c (by decide +kernel)) dX11_refuse_22 (fun H locs hP hD hS => ?_)
  obtain ⟨f_3, hP, hD⟩ : ∃ f_3 : Nat → Int32, va_P D vwCl [(h0, .inr (11, (Value.ref (a 0) :: Value.ref (a 1) :: Value.ref (a 2) :: Value.ref (a 3) :: Value.ref (a 4) :: Value.ref (a 5) :: Value.ref (a 6) :: Value.ref (a 7) :: Value.ref (a 8) :: Value.ref (a 9) :: Value.ref (a 10) :: Value.ref (a 11) :: Value.ref (a 12) :: Value.ref (a 13) :: Value.ref (a 14) :: Value.int 0 :: Value.int 0 :: Value.int 0 :: []))), ((a 13), .inl (cI, 6, .inl f_3))] H ∧ va_D A [(h0, .inr (11, (Value.ref (a 0) :: Value.ref (a 1) :: Value.ref (a 2) :: Value.ref (a 3) :: Value.ref (a 4) :: Value.ref (a 5) :: Value.ref (a 6) :: Value.ref (a 7) :: Value.ref (a 8) :: Value.ref (a 9) :: Value.ref (a 10) :: Value.ref (a 11) :: Value.ref (a 12) :: Value.ref (a 13) :: Value.ref (a 14) :: Value.int 0 :: Value.int 0 :: Value.int 0 :: []))), ((a 13), .inl (cI, 6, .inl f_3))] := ⟨upd g0 (5 : Int32).toNatClampNeg v_2, hP, hD⟩
  refine lv_iconst (v := (-1)) hx hb dX11_refuse_23 (by decide) ?_
  have hP9 := hP.sub (ws' := [(h0, .inr (11, (Value.ref (a 0) :: Value.ref (a 1) :: Value.ref (a 2) :: Value.ref (a 3) :: Value.ref (a 4) :: Value.ref (a 5) :: Value.ref (a 6) :: Value.ref (a 7) :: Value.ref (a 8) :: Value.ref (a 9) :: Value.ref (a 10) :: Value.ref (a 11) :: Value.ref (a 12) :: Value.ref (a 13) :: Value.ref (a 14) :: Value.int 0 :: Value.int 0 :: Value.int 0 :: []))), ((a 13), .inl (cI, 6, .inl f_3))]) [0, 1] rfl
  have hD9 := hD.sub (ws' := [(h0, .inr (11, (Value.ref (a 0) :: Value.ref (a 1) :: Value.ref (a 2) :: Value.ref (a 3) :: Value.ref (a 4) :: Value.ref (a 5) :: Value.ref (a 6) :: Value.ref (a 7) :: Value.ref (a 8) :: Value.ref (a 9) :: Value.ref (a 10) :: Value.ref (a 11) :: Value.ref (a 12) :: Value.ref (a 13) :: Value.ref (a 14) :: Value.int 0 :: Value.int 0 :: Value.int 0 :: []))), ((a 13), .inl (cI, 6, .inl f_3))]) [0, 1] (by decide) rfl
  exact W.iret (v := (-1)) hx hb hr (fun t ht _ => ⟨rfl, ⟨(fun k => [].getD k 0, fun k => [f_3].getD k zI), by rw [ht]; exact hP9, hD9⟩, hS.F ht⟩) hS.2.2 dX11_refuse_24
