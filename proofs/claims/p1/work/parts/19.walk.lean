set_option maxHeartbeats 4000000 in
set_option maxRecDepth 100000 in
theorem kX12_chance_0 (l : Launch) (D : va_G) (cI : ClassId) (h0 : Nat) (a : Nat → Nat) (p0 p1 : Int32) (g0 : Nat → Int32) (sz : Nat) : Met l yX12_chance (sw_ws yX12_chance cX12_chance 5 (some .int)) (rm_ 2 43 0 0) (p_M D vwCl [(cI, .int)] [.ref h0, .int p0, .int p1] [(h0, .inr (12, [.int 0, .int 0, .ref (a 0), .int 0, .int 0, .ref (a 1), .ref (a 2), .int 0, .ref (a 3), .ref (a 4), .int 0, .ref (a 5), .ref (a 6), .ref (a 7), .int 0, .ref (a 8), .int 0, .int (-1), .int 0, .int 0, .int 0, .int 0, .int (-1), .ref (a 9), .ref (a 10), .ref (a 11), .int 0, .ref (a 12), .ref (a 13), .ref (a 14), .ref (a 15), .int 0, .int 0, .int 0, .int 0, .int 0, .int 0, .int 0, .int 0, .ref (a 16), .ref (a 17), .ref (a 18), .ref (a 19), .int 0, .int 0, .int 1, .ref (a 20), .int 0])), ((a 8), .inl (cI, 6, .inl g0))] sz) (q_M D vwCl (some (.int (-1))) (fun u => []) (va_A [(h0, .inr (12, [.int 0, .int 0, .ref (a 0), .int 0, .int 0, .ref (a 1), .ref (a 2), .int 0, .ref (a 3), .ref (a 4), .int 0, .ref (a 5), .ref (a 6), .ref (a 7), .int 0, .ref (a 8), .int 0, .int (-1), .int 0, .int 0, .int 0, .int 0, .int (-1), .ref (a 9), .ref (a 10), .ref (a 11), .int 0, .ref (a 12), .ref (a 13), .ref (a 14), .ref (a 15), .int 0, .int 0, .int 0, .int 0, .int 0, .int 0, .int 0, .int 0, .ref (a 16), .ref (a 17), .ref (a 18), .ref (a 19), .int 0, .int 0, .int 1, .ref (a 20), .int 0])), ((a 8), .inl (cI, 6, .inl g0))] sz)) 0 0 (va_A [(h0, .inr (12, [.int 0, .int 0, .ref (a 0), .int 0, .int 0, .ref (a 1), .ref (a 2), .int 0, .ref (a 3), .ref (a 4), .int 0, .ref (a 5), .ref (a 6), .ref (a 7), .int 0, .ref (a 8), .int 0, .int (-1), .int 0, .int 0, .int 0, .int 0, .int (-1), .ref (a 9), .ref (a 10), .ref (a 11), .int 0, .ref (a 12), .ref (a 13), .ref (a 14), .ref (a 15), .int 0, .int 0, .int 0, .int 0, .int 0, .int 0, .int 0, .int 0, .ref (a 16), .ref (a 17), .ref (a 18), .ref (a 19), .int 0, .int 0, .int 1, .ref (a 20), .int 0])), ((a 8), .inl (cI, 6, .inl g0))] sz) := by
  refine Met.ofW (cc := cX12_chance) (maxL := 5) (ret := (some .int)) (by decide) rfl ?_
  intro p e s m args below meth c s₁ B hml hv
  obtain ⟨rfl, hsz, hP, hK, hD0⟩ := hv
  have hx := B.exec
  have hb := B.bytes
  have hr := B.returns
  have hT := sw_in (atoms_spec (ws := sw_ws yX12_chance cX12_chance 5 (some .int)) B.pre)
  have hown : s.vm.findClass RX12 = some m.cls := findClass_of_methodNamed B.named
  have hlocks := B.notSynchronized
  subst hsz
  have hD := hD0.self (sz := s.heap.size)
  generalize hAe : va_A [(h0, .inr (12, [.int 0, .int 0, .ref (a 0), .int 0, .int 0, .ref (a 1), .ref (a 2), .int 0, .ref (a 3), .ref (a 4), .int 0, .ref (a 5), .ref (a 6), .ref (a 7), .int 0, .ref (a 8), .int 0, .int (-1), .int 0, .int 0, .int 0, .int 0, .int (-1), .ref (a 9), .ref (a 10), .ref (a 11), .int 0, .ref (a 12), .ref (a 13), .ref (a 14), .ref (a 15), .int 0, .int 0, .int 0, .int 0, .int 0, .int 0, .int 0, .int 0, .ref (a 16), .ref (a 17), .ref (a 18), .ref (a 19), .int 0, .int 0, .int 1, .ref (a 20), .int 0])), ((a 8), .inl (cI, 6, .inl g0))] s.heap.size = A at hD ⊢
  have hA : ∀ q : Nat, s.heap.size ≤ q → A q := fun q h => by rw [← hAe]; exact Or.inr h
  have hS : va_S A s.heap s.heap [] := va_S.rf
  have hl := lv_entry ([.ref h0, .int p0, .int p1]) (n := 5) (Nat.le_of_ble_eq_true rfl)
  rw [lg_entry_eq]
  generalize (lg_sl ([.ref h0, .int p0, .int p1]) ++ List.replicate (5 - (lg_sl ([.ref h0, .int p0, .int p1])).length) Slot.unset).toArray = ls at hl ⊢
  have hl : lv_has ls 5 [(0, .ref h0), (1, .int p0), (2, .int p1)] := hl
  refine lv_aload_n hx hb dX12_chance_0 rfl (lv_at hl 0 rfl) ?_
  refine go_R (v := some (.int 0)) (st1 := [.int 0]) (run_V (As := []) (rest := []) ⟨hx, hb, hml, hown, hT⟩ (kX12_isTotal_0 l D cI h0 a) sw_1650 lkv_X12_isTotal (p_R_V (ci := 12) (q0 := 0) (hP.sub (ws' := [(h0, .inr (12, [.int 0, .int 0, .ref (a 0), .int 0, .int 0, .ref (a 1), .ref (a 2), .int 0, .ref (a 3), .ref (a 4), .int 0, .ref (a 5), .ref (a 6), .ref (a 7), .int 0, .ref (a 8), .int 0, .int (-1), .int 0, .int 0, .int 0, .int 0, .int (-1), .ref (a 9), .ref (a 10), .ref (a 11), .int 0, .ref (a 12), .ref (a 13), .ref (a 14), .ref (a 15), .int 0, .int 0, .int 0, .int 0, .int 0, .int 0, .int 0, .int 0, .ref (a 16), .ref (a 17), .ref (a 18), .ref (a 19), .int 0, .int 0, .int 1, .ref (a 20), .int 0]))]) [0] rfl) hK rfl rfl) rfl hl.1 rfl (Nat.le_of_ble_eq_true rfl) dX12_chance_1 ⟨⟨Nat.le_of_ble_eq_true rfl, Nat.le_of_ble_eq_true rfl⟩, Nat.le_of_ble_eq_true rfl, Nat.le_of_ble_eq_true rfl⟩) rfl ?_
  refine lv_if_eq (tgt := 25) hx hb dX12_chance_4 (by decide) (fun _ => ?_) (fun h9 => absurd (by decide) h9)
  refine lv_aload_n hx hb dX12_chance_25 rfl (lv_at hl 0 rfl) ?_
  refine lv_iconst (v := 2) hx hb dX12_chance_26 (by decide) ?_
  refine go_M (wc := [(h0, .inr (12, [.int 0, .int 0, .ref (a 0), .int 0, .int 0, .ref (a 1), .ref (a 2), .int 0, .ref (a 3), .ref (a 4), .int 0, .ref (a 5), .ref (a 6), .ref (a 7), .int 0, .ref (a 8), .int 0, .int (-1), .int 0, .int 0, .int 0, .int 0, .int (-1), .ref (a 9), .ref (a 10), .ref (a 11), .int 0, .ref (a 12), .ref (a 13), .ref (a 14), .ref (a 15), .int 0, .int 0, .int 0, .int 0, .int 0, .int 0, .int 0, .int 0, .ref (a 16), .ref (a 17), .ref (a 18), .ref (a 19), .int 0, .int 0, .int 1, .ref (a 20), .int 0])), ((a 8), .inl (cI, 6, .inl g0))]) (wr := []) (w1 := fun u => [(h0, .inr (12, [.int 0, .int 0, .ref (a 0), .int 0, .int 0, .ref (a 1), .ref (a 2), .int 0, .ref (a 3), .ref (a 4), .int 0, .ref (a 5), .ref (a 6), .ref (a 7), .int 0, .ref (a 8), .int 0, .int (-1), .int 0, .int 0, .int 0, .int 0, .int (-1), .ref (a 9), .ref (a 10), .ref (a 11), .int 0, .ref (a 12), .ref (a 13), .ref (a 14), .ref (a 15), .int 0, .int 0, .int 0, .int 0, .int 0, .int 0, .int 0, .int 0, .ref (a 16), .ref (a 17), .ref (a 18), .ref (a 19), .int 0, .int 0, .int 1, .ref (a 20), .int 0])), ((a 8), .inl (cI, 6, .inl (u.2 0)))]) (v := some (.int (-1))) (st1 := [.int (-1)]) hP hD hS hA [0, 1] [] rfl rfl (by decide) (by decide) (by decide) (fun hPc hDc => run_V (As := [.int 2]) (rest := []) ⟨hx, hb, hml, hown, hT⟩ (kX12_refuses_4 l D cI h0 a g0 _) sw_1438 lkv_X12_refuses (p_M_V (ci := 12) (q0 := 0) hPc hK hDc rfl rfl) rfl hl.1 rfl (Nat.le_of_ble_eq_true rfl) dX12_chance_27 ⟨⟨Nat.le_of_ble_eq_true rfl, Nat.le_of_ble_eq_true rfl⟩, Nat.le_of_ble_eq_true rfl, Nat.le_of_ble_eq_true rfl⟩) rfl (fun u_1 H locs hP hD hS => ?_)
  have hP : va_P D vwCl [(h0, .inr (12, [.int 0, .int 0, .ref (a 0), .int 0, .int 0, .ref (a 1), .ref (a 2), .int 0, .ref (a 3), .ref (a 4), .int 0, .ref (a 5), .ref (a 6), .ref (a 7), .int 0, .ref (a 8), .int 0, .int (-1), .int 0, .int 0, .int 0, .int 0, .int (-1), .ref (a 9), .ref (a 10), .ref (a 11), .int 0, .ref (a 12), .ref (a 13), .ref (a 14), .ref (a 15), .int 0, .int 0, .int 0, .int 0, .int 0, .int 0, .int 0, .int 0, .ref (a 16), .ref (a 17), .ref (a 18), .ref (a 19), .int 0, .int 0, .int 1, .ref (a 20), .int 0])), ((a 8), .inl (cI, 6, .inl (u_1.2 0)))] H := hP
  have hD : va_D A [(h0, .inr (12, [.int 0, .int 0, .ref (a 0), .int 0, .int 0, .ref (a 1), .ref (a 2), .int 0, .ref (a 3), .ref (a 4), .int 0, .ref (a 5), .ref (a 6), .ref (a 7), .int 0, .ref (a 8), .int 0, .int (-1), .int 0, .int 0, .int 0, .int 0, .int (-1), .ref (a 9), .ref (a 10), .ref (a 11), .int 0, .ref (a 12), .ref (a 13), .ref (a 14), .ref (a 15), .int 0, .int 0, .int 0, .int 0, .int 0, .int 0, .int 0, .int 0, .ref (a 16), .ref (a 17), .ref (a 18), .ref (a 19), .int 0, .int 0, .int 1, .ref (a 20), .int 0])), ((a 8), .inl (cI, 6, .inl (u_1.2 0)))] := hD
  have hP9 := hP.sub (ws' := []) [] rfl
  have hD9 := hD.sub (ws' := []) [] (by decide) rfl
  exact W.iret (v := (-1)) hx hb hr (fun t ht _ => ⟨rfl, ⟨(fun k => [].getD k 0, fun k => [].getD k zI), by rw [ht]; exact hP9, hD9⟩, hS.F ht⟩) hS.2.2 dX12_chance_30
set_option maxHeartbeats 4000000 in
set_option maxRecDepth 100000 in
theorem kX12_isRefused_2 (l : Launch) (D : va_G) (cI : ClassId) (h0 : Nat) (a : Nat → Nat) (g0 : Nat → Int32) (sz : Nat) : Met l yX12_isRefused (sw_ws yX12_isRefused cX12_isRefused 2 (some .boolean)) (rm_ 0 0 0 0) (p_M D vwCl [(cI, .int)] [.ref h0, .int 4] [(h0, .inr (12, [.int 0, .int 0, .ref (a 0), .int 0, .int 0, .ref (a 1), .ref (a 2), .int 0, .ref (a 3), .ref (a 4), .int 0, .ref (a 5), .ref (a 6), .ref (a 7), .int 0, .ref (a 8), .int 0, .int (-1), .int 0, .int 0, .int 0, .int 0, .int (-1), .ref (a 9), .ref (a 10), .ref (a 11), .int 0, .ref (a 12), .ref (a 13), .ref (a 14), .ref (a 15), .int 0, .int 0, .int 0, .int 0, .int 0, .int 0, .int 0, .int 0, .ref (a 16), .ref (a 17), .ref (a 18), .ref (a 19), .int 0, .int 0, .int 1, .ref (a 20), .int 0])), ((a 8), .inl (cI, 6, .inl g0))] sz) (q_M D vwCl (some (.int 0)) (fun u => [(h0, .inr (12, [.int 0, .int 0, .ref (a 0), .int 0, .int 0, .ref (a 1), .ref (a 2), .int 0, .ref (a 3), .ref (a 4), .int 0, .ref (a 5), .ref (a 6), .ref (a 7), .int 0, .ref (a 8), .int 0, .int (-1), .int 0, .int 0, .int 0, .int 0, .int (-1), .ref (a 9), .ref (a 10), .ref (a 11), .int 0, .ref (a 12), .ref (a 13), .ref (a 14), .ref (a 15), .int 0, .int 0, .int 0, .int 0, .int 0, .int 0, .int 0, .int 0, .ref (a 16), .ref (a 17), .ref (a 18), .ref (a 19), .int 0, .int 0, .int 1, .ref (a 20), .int 0])), ((a 8), .inl (cI, 6, .inl (u.2 0)))]) (va_A [(h0, .inr (12, [.int 0, .int 0, .ref (a 0), .int 0, .int 0, .ref (a 1), .ref (a 2), .int 0, .ref (a 3), .ref (a 4), .int 0, .ref (a 5), .ref (a 6), .ref (a 7), .int 0, .ref (a 8), .int 0, .int (-1), .int 0, .int 0, .int 0, .int 0, .int (-1), .ref (a 9), .ref (a 10), .ref (a 11), .int 0, .ref (a 12), .ref (a 13), .ref (a 14), .ref (a 15), .int 0, .int 0, .int 0, .int 0, .int 0, .int 0, .int 0, .int 0, .ref (a 16), .ref (a 17), .ref (a 18), .ref (a 19), .int 0, .int 0, .int 1, .ref (a 20), .int 0])), ((a 8), .inl (cI, 6, .inl g0))] sz)) 0 0 (va_A [(h0, .inr (12, [.int 0, .int 0, .ref (a 0), .int 0, .int 0, .ref (a 1), .ref (a 2), .int 0, .ref (a 3), .ref (a 4), .int 0, .ref (a 5), .ref (a 6), .ref (a 7), .int 0, .ref (a 8), .int 0, .int (-1), .int 0, .int 0, .int 0, .int 0, .int (-1), .ref (a 9), .ref (a 10), .ref (a 11), .int 0, .ref (a 12), .ref (a 13), .ref (a 14), .ref (a 15), .int 0, .int 0, .int 0, .int 0, .int 0, .int 0, .int 0, .int 0, .ref (a 16), .ref (a 17), .ref (a 18), .ref (a 19), .int 0, .int 0, .int 1, .ref (a 20), .int 0])), ((a 8), .inl (cI, 6, .inl g0))] sz) := by
  refine Met.ofW (cc := cX12_isRefused) (maxL := 2) (ret := (some .boolean)) (by decide) rfl ?_
  intro p e s m args below meth c s₁ B hml hv
  obtain ⟨rfl, hsz, hP, hK, hD0⟩ := hv
  have hx := B.exec
  have hb := B.bytes
  have hr := B.returns
  have hT := sw_in (atoms_spec (ws := sw_ws yX12_isRefused cX12_isRefused 2 (some .boolean)) B.pre)
  have hown : s.vm.findClass RX12 = some m.cls := findClass_of_methodNamed B.named
  have hlocks := B.notSynchronized
  subst hsz
  have hD := hD0.self (sz := s.heap.size)
  generalize hAe : va_A [(h0, .inr (12, [.int 0, .int 0, .ref (a 0), .int 0, .int 0, .ref (a 1), .ref (a 2), .int 0, .ref (a 3), .ref (a 4), .int 0, .ref (a 5), .ref (a 6), .ref (a 7), .int 0, .ref (a 8), .int 0, .int (-1), .int 0, .int 0, .int 0, .int 0, .int (-1), .ref (a 9), .ref (a 10), .ref (a 11), .int 0, .ref (a 12), .ref (a 13), .ref (a 14), .ref (a 15), .int 0, .int 0, .int 0, .int 0, .int 0, .int 0, .int 0, .int 0, .ref (a 16), .ref (a 17), .ref (a 18), .ref (a 19), .int 0, .int 0, .int 1, .ref (a 20), .int 0])), ((a 8), .inl (cI, 6, .inl g0))] s.heap.size = A at hD ⊢
  have hA : ∀ q : Nat, s.heap.size ≤ q → A q := fun q h => by rw [← hAe]; exact Or.inr h
  have hS : va_S A s.heap s.heap [] := va_S.rf
  have hl := lv_entry ([.ref h0, .int 4]) (n := 2) (Nat.le_of_ble_eq_true rfl)
  rw [lg_entry_eq]
  generalize (lg_sl ([.ref h0, .int 4]) ++ List.replicate (2 - (lg_sl ([.ref h0, .int 4])).length) Slot.unset).toArray = ls at hl ⊢
  have hl : lv_has ls 2 [(0, .ref h0), (1, .int 4)] := hl
  refine lv_aload_n hx hb dX12_isRefused_0 rfl (lv_at hl 0 rfl) ?_
  refine va_get (D := D) (ci := 12) (v := .ref (a 8)) (C := RX12) (T := TX12) (N := 48) hx hb hT ix_12 hown hK hP 0 rfl rfl 15 (by decide) (hT _ sw_1303) (fun _ h9 => h9) rfl dX12_isRefused_1 ?_
  refine lv_iload_n hx hb dX12_isRefused_4 rfl (lv_at hl 1 rfl) ?_
  refine lv_dup2_11 hx hb dX12_isRefused_5 rfl rfl ?_
  refine va_iald hx hb hK hP 1 0 rfl rfl (vi_c (by decide +kernel)) dX12_isRefused_6 ?_
  refine lv_topi (fun v_1 _ => ?_)
  refine lv_iconst (v := 1) hx hb dX12_isRefused_7 (by decide) ?_
  refine lv_iadd hx hb dX12_isRefused_8 ?_
  refine lv_topi (fun v_2 _ => ?_)
  refine va_iast hx hb hK hP hD hS 1 0 rfl rfl (vi_c (by decide +kernel)) dX12_isRefused_9 (fun H locs hP hD hS => ?_)
  obtain ⟨f_3, hP, hD⟩ : ∃ f_3 : Nat → Int32, va_P D vwCl [(h0, .inr (12, [.int 0, .int 0, .ref (a 0), .int 0, .int 0, .ref (a 1), .ref (a 2), .int 0, .ref (a 3), .ref (a 4), .int 0, .ref (a 5), .ref (a 6), .ref (a 7), .int 0, .ref (a 8), .int 0, .int (-1), .int 0, .int 0, .int 0, .int 0, .int (-1), .ref (a 9), .ref (a 10), .ref (a 11), .int 0, .ref (a 12), .ref (a 13), .ref (a 14), .ref (a 15), .int 0, .int 0, .int 0, .int 0, .int 0, .int 0, .int 0, .int 0, .ref (a 16), .ref (a 17), .ref (a 18), .ref (a 19), .int 0, .int 0, .int 1, .ref (a 20), .int 0])), ((a 8), .inl (cI, 6, .inl f_3))] H ∧ va_D A [(h0, .inr (12, [.int 0, .int 0, .ref (a 0), .int 0, .int 0, .ref (a 1), .ref (a 2), .int 0, .ref (a 3), .ref (a 4), .int 0, .ref (a 5), .ref (a 6), .ref (a 7), .int 0, .ref (a 8), .int 0, .int (-1), .int 0, .int 0, .int 0, .int 0, .int (-1), .ref (a 9), .ref (a 10), .ref (a 11), .int 0, .ref (a 12), .ref (a 13), .ref (a 14), .ref (a 15), .int 0, .int 0, .int 0, .int 0, .int 0, .int 0, .int 0, .int 0, .ref (a 16), .ref (a 17), .ref (a 18), .ref (a 19), .int 0, .int 0, .int 1, .ref (a 20), .int 0])), ((a 8), .inl (cI, 6, .inl f_3))] := ⟨_, hP, hD⟩
  refine lv_iconst (v := 0) hx hb dX12_isRefused_10 (by decide) ?_
  have hP9 := hP.sub (ws' := [(h0, .inr (12, [.int 0, .int 0, .ref (a 0), .int 0, .int 0, .ref (a 1), .ref (a 2), .int 0, .ref (a 3), .ref (a 4), .int 0, .ref (a 5), .ref (a 6), .ref (a 7), .int 0, .ref (a 8), .int 0, .int (-1), .int 0, .int 0, .int 0, .int 0, .int (-1), .ref (a 9), .ref (a 10), .ref (a 11), .int 0, .ref (a 12), .ref (a 13), .ref (a 14), .ref (a 15), .int 0, .int 0, .int 0, .int 0, .int 0, .int 0, .int 0, .int 0, .ref (a 16), .ref (a 17), .ref (a 18), .ref (a 19), .int 0, .int 0, .int 1, .ref (a 20), .int 0])), ((a 8), .inl (cI, 6, .inl f_3))]) [0, 1] rfl
  have hD9 := hD.sub (ws' := [(h0, .inr (12, [.int 0, .int 0, .ref (a 0), .int 0, .int 0, .ref (a 1), .ref (a 2), .int 0, .ref (a 3), .ref (a 4), .int 0, .ref (a 5), .ref (a 6), .ref (a 7), .int 0, .ref (a 8), .int 0, .int (-1), .int 0, .int 0, .int 0, .int 0, .int (-1), .ref (a 9), .ref (a 10), .ref (a 11), .int 0, .ref (a 12), .ref (a 13), .ref (a 14), .ref (a 15), .int 0, .int 0, .int 0, .int 0, .int 0, .int 0, .int 0, .int 0, .ref (a 16), .ref (a 17), .ref (a 18), .ref (a 19), .int 0, .int 0, .int 1, .ref (a 20), .int 0])), ((a 8), .inl (cI, 6, .inl f_3))]) [0, 1] (by decide) rfl
  exact W.zret (v := 0) hx hb hr (by decide) (fun t ht _ => ⟨rfl, ⟨(fun k => [].getD k 0, fun k => [f_3].getD k zI), by rw [ht]; exact hP9, hD9⟩, hS.F ht⟩) hS.2.2 dX12_isRefused_11
set_option maxHeartbeats 4000000 in
set_option maxRecDepth 100000 in
theorem kX12_undo_0 (l : Launch) (D : va_G) (cI : ClassId) (h0 : Nat) (a : Nat → Nat) (g0 : Nat → Int32) (sz : Nat) : Met l yX12_undo (sw_ws yX12_undo cX12_undo 2 (some .boolean)) (rm_ 1 21 0 0) (p_M D vwCl [(cI, .int)] [.ref h0] [(h0, .inr (12, [.int 0, .int 0, .ref (a 0), .int 0, .int 0, .ref (a 1), .ref (a 2), .int 0, .ref (a 3), .ref (a 4), .int 0, .ref (a 5), .ref (a 6), .ref (a 7), .int 0, .ref (a 8), .int 0, .int (-1), .int 0, .int 0, .int 0, .int 0, .int (-1), .ref (a 9), .ref (a 10), .ref (a 11), .int 0, .ref (a 12), .ref (a 13), .ref (a 14), .ref (a 15), .int 0, .int 0, .int 0, .int 0, .int 0, .int 0, .int 0, .int 0, .ref (a 16), .ref (a 17), .ref (a 18), .ref (a 19), .int 0, .int 0, .int 1, .ref (a 20), .int 0])), ((a 8), .inl (cI, 6, .inl g0))] sz) (q_M D vwCl (some (.int 0)) (fun u => []) (va_A [(h0, .inr (12, [.int 0, .int 0, .ref (a 0), .int 0, .int 0, .ref (a 1), .ref (a 2), .int 0, .ref (a 3), .ref (a 4), .int 0, .ref (a 5), .ref (a 6), .ref (a 7), .int 0, .ref (a 8), .int 0, .int (-1), .int 0, .int 0, .int 0, .int 0, .int (-1), .ref (a 9), .ref (a 10), .ref (a 11), .int 0, .ref (a 12), .ref (a 13), .ref (a 14), .ref (a 15), .int 0, .int 0, .int 0, .int 0, .int 0, .int 0, .int 0, .int 0, .ref (a 16), .ref (a 17), .ref (a 18), .ref (a 19), .int 0, .int 0, .int 1, .ref (a 20), .int 0])), ((a 8), .inl (cI, 6, .inl g0))] sz)) 0 0 (va_A [(h0, .inr (12, [.int 0, .int 0, .ref (a 0), .int 0, .int 0, .ref (a 1), .ref (a 2), .int 0, .ref (a 3), .ref (a 4), .int 0, .ref (a 5), .ref (a 6), .ref (a 7), .int 0, .ref (a 8), .int 0, .int (-1), .int 0, .int 0, .int 0, .int 0, .int (-1), .ref (a 9), .ref (a 10), .ref (a 11), .int 0, .ref (a 12), .ref (a 13), .ref (a 14), .ref (a 15), .int 0, .int 0, .int 0, .int 0, .int 0, .int 0, .int 0, .int 0, .ref (a 16), .ref (a 17), .ref (a 18), .ref (a 19), .int 0, .int 0, .int 1, .ref (a 20), .int 0])), ((a 8), .inl (cI, 6, .inl g0))] sz) := by
  refine Met.ofW (cc := cX12_undo) (maxL := 2) (ret := (some .boolean)) (by decide) rfl ?_
  intro p e s m args below meth c s₁ B hml hv
  obtain ⟨rfl, hsz, hP, hK, hD0⟩ := hv
  have hx := B.exec
  have hb := B.bytes
  have hr := B.returns
  have hT := sw_in (atoms_spec (ws := sw_ws yX12_undo cX12_undo 2 (some .boolean)) B.pre)
  have hown : s.vm.findClass RX12 = some m.cls := findClass_of_methodNamed B.named
  have hlocks := B.notSynchronized
  subst hsz
  have hD := hD0.self (sz := s.heap.size)
  generalize hAe : va_A [(h0, .inr (12, [.int 0, .int 0, .ref (a 0), .int 0, .int 0, .ref (a 1), .ref (a 2), .int 0, .ref (a 3), .ref (a 4), .int 0, .ref (a 5), .ref (a 6), .ref (a 7), .int 0, .ref (a 8), .int 0, .int (-1), .int 0, .int 0, .int 0, .int 0, .int (-1), .ref (a 9), .ref (a 10), .ref (a 11), .int 0, .ref (a 12), .ref (a 13), .ref (a 14), .ref (a 15), .int 0, .int 0, .int 0, .int 0, .int 0, .int 0, .int 0, .int 0, .ref (a 16), .ref (a 17), .ref (a 18), .ref (a 19), .int 0, .int 0, .int 1, .ref (a 20), .int 0])), ((a 8), .inl (cI, 6, .inl g0))] s.heap.size = A at hD ⊢
  have hA : ∀ q : Nat, s.heap.size ≤ q → A q := fun q h => by rw [← hAe]; exact Or.inr h
  have hS : va_S A s.heap s.heap [] := va_S.rf
  have hl := lv_entry ([.ref h0]) (n := 2) (Nat.le_of_ble_eq_true rfl)
  rw [lg_entry_eq]
  generalize (lg_sl ([.ref h0]) ++ List.replicate (2 - (lg_sl ([.ref h0])).length) Slot.unset).toArray = ls at hl ⊢
  have hl : lv_has ls 2 [(0, .ref h0)] := hl
  refine lv_aload_n hx hb dX12_undo_0 rfl (lv_at hl 0 rfl) ?_
  refine va_get (D := D) (ci := 12) (v := .int 0) (C := RX12) (T := TX12) (N := 48) hx hb hT ix_12 hown hK hP 0 rfl rfl 26 (by decide) (hT _ sw_1314) (fun _ h9 => h9) rfl dX12_undo_1 ?_
  refine lv_if_ne (tgt := 13) hx hb dX12_undo_4 (by decide) (fun h9 => absurd h9 (by decide)) (fun _ => ?_)
  refine lv_aload_n hx hb dX12_undo_7 rfl (lv_at hl 0 rfl) ?_
  refine lv_iconst (v := 4) hx hb dX12_undo_8 (by decide) ?_
  refine go_M (wc := [(h0, .inr (12, [.int 0, .int 0, .ref (a 0), .int 0, .int 0, .ref (a 1), .ref (a 2), .int 0, .ref (a 3), .ref (a 4), .int 0, .ref (a 5), .ref (a 6), .ref (a 7), .int 0, .ref (a 8), .int 0, .int (-1), .int 0, .int 0, .int 0, .int 0, .int (-1), .ref (a 9), .ref (a 10), .ref (a 11), .int 0, .ref (a 12), .ref (a 13), .ref (a 14), .ref (a 15), .int 0, .int 0, .int 0, .int 0, .int 0, .int 0, .int 0, .int 0, .ref (a 16), .ref (a 17), .ref (a 18), .ref (a 19), .int 0, .int 0, .int 1, .ref (a 20), .int 0])), ((a 8), .inl (cI, 6, .inl g0))]) (wr := []) (w1 := fun u => [(h0, .inr (12, [.int 0, .int 0, .ref (a 0), .int 0, .int 0, .ref (a 1), .ref (a 2), .int 0, .ref (a 3), .ref (a 4), .int 0, .ref (a 5), .ref (a 6), .ref (a 7), .int 0, .ref (a 8), .int 0, .int (-1), .int 0, .int 0, .int 0, .int 0, .int (-1), .ref (a 9), .ref (a 10), .ref (a 11), .int 0, .ref (a 12), .ref (a 13), .ref (a 14), .ref (a 15), .int 0, .int 0, .int 0, .int 0, .int 0, .int 0, .int 0, .int 0, .ref (a 16), .ref (a 17), .ref (a 18), .ref (a 19), .int 0, .int 0, .int 1, .ref (a 20), .int 0])), ((a 8), .inl (cI, 6, .inl (u.2 0)))]) (v := some (.int 0)) (st1 := [.int 0]) hP hD hS hA [0, 1] [] rfl rfl (by decide) (by decide) (by decide) (fun hPc hDc => run_V (As := [.int 4]) (rest := []) ⟨hx, hb, hml, hown, hT⟩ (kX12_isRefused_2 l D cI h0 a g0 _) sw_1450 lkv_X12_isRefused (p_M_V (ci := 12) (q0 := 0) hPc hK hDc rfl rfl) rfl hl.1 rfl (Nat.le_of_ble_eq_true rfl) dX12_undo_9 ⟨⟨Nat.le_of_ble_eq_true rfl, Nat.le_of_ble_eq_true rfl⟩, Nat.le_of_ble_eq_true rfl, Nat.le_of_ble_eq_true rfl⟩) rfl (fun u_1 H locs hP hD hS => ?_)
  have hP : va_P D vwCl [(h0, .inr (12, [.int 0, .int 0, .ref (a 0), .int 0, .int 0, .ref (a 1), .ref (a 2), .int 0, .ref (a 3), .ref (a 4), .int 0, .ref (a 5), .ref (a 6), .ref (a 7), .int 0, .ref (a 8), .int 0, .int (-1), .int 0, .int 0, .int 0, .int 0, .int (-1), .ref (a 9), .ref (a 10), .ref (a 11), .int 0, .ref (a 12), .ref (a 13), .ref (a 14), .ref (a 15), .int 0, .int 0, .int 0, .int 0, .int 0, .int 0, .int 0, .int 0, .ref (a 16), .ref (a 17), .ref (a 18), .ref (a 19), .int 0, .int 0, .int 1, .ref (a 20), .int 0])), ((a 8), .inl (cI, 6, .inl (u_1.2 0)))] H := hP
  have hD : va_D A [(h0, .inr (12, [.int 0, .int 0, .ref (a 0), .int 0, .int 0, .ref (a 1), .ref (a 2), .int 0, .ref (a 3), .ref (a 4), .int 0, .ref (a 5), .ref (a 6), .ref (a 7), .int 0, .ref (a 8), .int 0, .int (-1), .int 0, .int 0, .int 0, .int 0, .int (-1), .ref (a 9), .ref (a 10), .ref (a 11), .int 0, .ref (a 12), .ref (a 13), .ref (a 14), .ref (a 15), .int 0, .int 0, .int 0, .int 0, .int 0, .int 0, .int 0, .int 0, .ref (a 16), .ref (a 17), .ref (a 18), .ref (a 19), .int 0, .int 0, .int 1, .ref (a 20), .int 0])), ((a 8), .inl (cI, 6, .inl (u_1.2 0)))] := hD
  have hP9 := hP.sub (ws' := []) [] rfl
  have hD9 := hD.sub (ws' := []) [] (by decide) rfl
  exact W.zret (v := 0) hx hb hr (by decide) (fun t ht _ => ⟨rfl, ⟨(fun k => [].getD k 0, fun k => [].getD k zI), by rw [ht]; exact hP9, hD9⟩, hS.F ht⟩) hS.2.2 dX12_undo_12
set_option maxHeartbeats 4000000 in
set_option maxRecDepth 100000 in
theorem kX12_isRefused_3 (l : Launch) (D : va_G) (cI : ClassId) (h0 : Nat) (a : Nat → Nat) (g0 : Nat → Int32) (sz : Nat) : Met l yX12_isRefused (sw_ws yX12_isRefused cX12_isRefused 2 (some .boolean)) (rm_ 0 0 0 0) (p_M D vwCl [(cI, .int)] [.ref h0, .int 5] [(h0, .inr (12, [.int 0, .int 0, .ref (a 0), .int 0, .int 0, .ref (a 1), .ref (a 2), .int 0, .ref (a 3), .ref (a 4), .int 0, .ref (a 5), .ref (a 6), .ref (a 7), .int 0, .ref (a 8), .int 0, .int (-1), .int 0, .int 0, .int 0, .int 0, .int (-1), .ref (a 9), .ref (a 10), .ref (a 11), .int 0, .ref (a 12), .ref (a 13), .ref (a 14), .ref (a 15), .int 0, .int 0, .int 0, .int 0, .int 0, .int 0, .int 0, .int 0, .ref (a 16), .ref (a 17), .ref (a 18), .ref (a 19), .int 0, .int 0, .int 1, .ref (a 20), .int 0])), ((a 8), .inl (cI, 6, .inl g0))] sz) (q_M D vwCl (some (.int 0)) (fun u => [(h0, .inr (12, [.int 0, .int 0, .ref (a 0), .int 0, .int 0, .ref (a 1), .ref (a 2), .int 0, .ref (a 3), .ref (a 4), .int 0, .ref (a 5), .ref (a 6), .ref (a 7), .int 0, .ref (a 8), .int 0, .int (-1), .int 0, .int 0, .int 0, .int 0, .int (-1), .ref (a 9), .ref (a 10), .ref (a 11), .int 0, .ref (a 12), .ref (a 13), .ref (a 14), .ref (a 15), .int 0, .int 0, .int 0, .int 0, .int 0, .int 0, .int 0, .int 0, .ref (a 16), .ref (a 17), .ref (a 18), .ref (a 19), .int 0, .int 0, .int 1, .ref (a 20), .int 0])), ((a 8), .inl (cI, 6, .inl (u.2 0)))]) (va_A [(h0, .inr (12, [.int 0, .int 0, .ref (a 0), .int 0, .int 0, .ref (a 1), .ref (a 2), .int 0, .ref (a 3), .ref (a 4), .int 0, .ref (a 5), .ref (a 6), .ref (a 7), .int 0, .ref (a 8), .int 0, .int (-1), .int 0, .int 0, .int 0, .int 0, .int (-1), .ref (a 9), .ref (a 10), .ref (a 11), .int 0, .ref (a 12), .ref (a 13), .ref (a 14), .ref (a 15), .int 0, .int 0, .int 0, .int 0, .int 0, .int 0, .int 0, .int 0, .ref (a 16), .ref (a 17), .ref (a 18), .ref (a 19), .int 0, .int 0, .int 1, .ref (a 20), .int 0])), ((a 8), .inl (cI, 6, .inl g0))] sz)) 0 0 (va_A [(h0, .inr (12, [.int 0, .int 0, .ref (a 0), .int 0, .int 0, .ref (a 1), .ref (a 2), .int 0, .ref (a 3), .ref (a 4), .int 0, .ref (a 5), .ref (a 6), .ref (a 7), .int 0, .ref (a 8), .int 0, .int (-1), .int 0, .int 0, .int 0, .int 0, .int (-1), .ref (a 9), .ref (a 10), .ref (a 11), .int 0, .ref (a 12), .ref (a 13), .ref (a 14), .ref (a 15), .int 0, .int 0, .int 0, .int 0, .int 0, .int 0, .int 0, .int 0, .ref (a 16), .ref (a 17), .ref (a 18), .ref (a 19), .int 0, .int 0, .int 1, .ref (a 20), .int 0])), ((a 8), .inl (cI, 6, .inl g0))] sz) := by
  refine Met.ofW (cc := cX12_isRefused) (maxL := 2) (ret := (some .boolean)) (by decide) rfl ?_
  intro p e s m args below meth c s₁ B hml hv
  obtain ⟨rfl, hsz, hP, hK, hD0⟩ := hv
  have hx := B.exec
  have hb := B.bytes
  have hr := B.returns
  have hT := sw_in (atoms_spec (ws := sw_ws yX12_isRefused cX12_isRefused 2 (some .boolean)) B.pre)
  have hown : s.vm.findClass RX12 = some m.cls := findClass_of_methodNamed B.named
  have hlocks := B.notSynchronized
  subst hsz
  have hD := hD0.self (sz := s.heap.size)
  generalize hAe : va_A [(h0, .inr (12, [.int 0, .int 0, .ref (a 0), .int 0, .int 0, .ref (a 1), .ref (a 2), .int 0, .ref (a 3), .ref (a 4), .int 0, .ref (a 5), .ref (a 6), .ref (a 7), .int 0, .ref (a 8), .int 0, .int (-1), .int 0, .int 0, .int 0, .int 0, .int (-1), .ref (a 9), .ref (a 10), .ref (a 11), .int 0, .ref (a 12), .ref (a 13), .ref (a 14), .ref (a 15), .int 0, .int 0, .int 0, .int 0, .int 0, .int 0, .int 0, .int 0, .ref (a 16), .ref (a 17), .ref (a 18), .ref (a 19), .int 0, .int 0, .int 1, .ref (a 20), .int 0])), ((a 8), .inl (cI, 6, .inl g0))] s.heap.size = A at hD ⊢
  have hA : ∀ q : Nat, s.heap.size ≤ q → A q := fun q h => by rw [← hAe]; exact Or.inr h
  have hS : va_S A s.heap s.heap [] := va_S.rf
  have hl := lv_entry ([.ref h0, .int 5]) (n := 2) (Nat.le_of_ble_eq_true rfl)
  rw [lg_entry_eq]
  generalize (lg_sl ([.ref h0, .int 5]) ++ List.replicate (2 - (lg_sl ([.ref h0, .int 5])).length) Slot.unset).toArray = ls at hl ⊢
  have hl : lv_has ls 2 [(0, .ref h0), (1, .int 5)] := hl
  refine lv_aload_n hx hb dX12_isRefused_0 rfl (lv_at hl 0 rfl) ?_
  refine va_get (D := D) (ci := 12) (v := .ref (a 8)) (C := RX12) (T := TX12) (N := 48) hx hb hT ix_12 hown hK hP 0 rfl rfl 15 (by decide) (hT _ sw_1303) (fun _ h9 => h9) rfl dX12_isRefused_1 ?_
  refine lv_iload_n hx hb dX12_isRefused_4 rfl (lv_at hl 1 rfl) ?_
  refine lv_dup2_11 hx hb dX12_isRefused_5 rfl rfl ?_
  refine va_iald hx hb hK hP 1 0 rfl rfl (vi_c (by decide +kernel)) dX12_isRefused_6 ?_
  refine lv_topi (fun v_1 _ => ?_)
  refine lv_iconst (v := 1) hx hb dX12_isRefused_7 (by decide) ?_
  refine lv_iadd hx hb dX12_isRefused_8 ?_
  refine lv_topi (fun v_2 _ => ?_)
  refine va_iast hx hb hK hP hD hS 1 0 rfl rfl (vi_c (by decide +kernel)) dX12_isRefused_9 (fun H locs hP hD hS => ?_)
  obtain ⟨f_3, hP, hD⟩ : ∃ f_3 : Nat → Int32, va_P D vwCl [(h0, .inr (12, [.int 0, .int 0, .ref (a 0), .int 0, .int 0, .ref (a 1), .ref (a 2), .int 0, .ref (a 3), .ref (a 4), .int 0, .ref (a 5), .ref (a 6), .ref (a 7), .int 0, .ref (a 8), .int 0, .int (-1), .int 0, .int 0, .int 0, .int 0, .int (-1), .ref (a 9), .ref (a 10), .ref (a 11), .int 0, .ref (a 12), .ref (a 13), .ref (a 14), .ref (a 15), .int 0, .int 0, .int 0, .int 0, .int 0, .int 0, .int 0, .int 0, .ref (a 16), .ref (a 17), .ref (a 18), .ref (a 19), .int 0, .int 0, .int 1, .ref (a 20), .int 0])), ((a 8), .inl (cI, 6, .inl f_3))] H ∧ va_D A [(h0, .inr (12, [.int 0, .int 0, .ref (a 0), .int 0, .int 0, .ref (a 1), .ref (a 2), .int 0, .ref (a 3), .ref (a 4), .int 0, .ref (a 5), .ref (a 6), .ref (a 7), .int 0, .ref (a 8), .int 0, .int (-1), .int 0, .int 0, .int 0, .int 0, .int (-1), .ref (a 9), .ref (a 10), .ref (a 11), .int 0, .ref (a 12), .ref (a 13), .ref (a 14), .ref (a 15), .int 0, .int 0, .int 0, .int 0, .int 0, .int 0, .int 0, .int 0, .ref (a 16), .ref (a 17), .ref (a 18), .ref (a 19), .int 0, .int 0, .int 1, .ref (a 20), .int 0])), ((a 8), .inl (cI, 6, .inl f_3))] := ⟨_, hP, hD⟩
  refine lv_iconst (v := 0) hx hb dX12_isRefused_10 (by decide) ?_
  have hP9 := hP.sub (ws' := [(h0, .inr (12, [.int 0, .int 0, .ref (a 0), .int 0, .int 0, .ref (a 1), .ref (a 2), .int 0, .ref (a 3), .ref (a 4), .int 0, .ref (a 5), .ref (a 6), .ref (a 7), .int 0, .ref (a 8), .int 0, .int (-1), .int 0, .int 0, .int 0, .int 0, .int (-1), .ref (a 9), .ref (a 10), .ref (a 11), .int 0, .ref (a 12), .ref (a 13), .ref (a 14), .ref (a 15), .int 0, .int 0, .int 0, .int 0, .int 0, .int 0, .int 0, .int 0, .ref (a 16), .ref (a 17), .ref (a 18), .ref (a 19), .int 0, .int 0, .int 1, .ref (a 20), .int 0])), ((a 8), .inl (cI, 6, .inl f_3))]) [0, 1] rfl
  have hD9 := hD.sub (ws' := [(h0, .inr (12, [.int 0, .int 0, .ref (a 0), .int 0, .int 0, .ref (a 1), .ref (a 2), .int 0, .ref (a 3), .ref (a 4), .int 0, .ref (a 5), .ref (a 6), .ref (a 7), .int 0, .ref (a 8), .int 0, .int (-1), .int 0, .int 0, .int 0, .int 0, .int (-1), .ref (a 9), .ref (a 10), .ref (a 11), .int 0, .ref (a 12), .ref (a 13), .ref (a 14), .ref (a 15), .int 0, .int 0, .int 0, .int 0, .int 0, .int 0, .int 0, .int 0, .ref (a 16), .ref (a 17), .ref (a 18), .ref (a 19), .int 0, .int 0, .int 1, .ref (a 20), .int 0])), ((a 8), .inl (cI, 6, .inl f_3))]) [0, 1] (by decide) rfl
  exact W.zret (v := 0) hx hb hr (by decide) (fun t ht _ => ⟨rfl, ⟨(fun k => [].getD k 0, fun k => [f_3].getD k zI), by rw [ht]; exact hP9, hD9⟩, hS.F ht⟩) hS.2.2 dX12_isRefused_11
set_option maxHeartbeats 4000000 in
set_option maxRecDepth 100000 in
theorem kX12_seed_0 (l : Launch) (D : va_G) (cI : ClassId) (h0 : Nat) (a : Nat → Nat) (p0 : Int32) (g0 : Nat → Int32) (sz : Nat) : Met l yX12_seed (sw_ws yX12_seed cX12_seed 2 (some .boolean)) (rm_ 1 21 0 0) (p_M D vwCl [(cI, .int)] [.ref h0, .int p0] [(h0, .inr (12, [.int 0, .int 0, .ref (a 0), .int 0, .int 0, .ref (a 1), .ref (a 2), .int 0, .ref (a 3), .ref (a 4), .int 0, .ref (a 5), .ref (a 6), .ref (a 7), .int 0, .ref (a 8), .int 0, .int (-1), .int 0, .int 0, .int 0, .int 0, .int (-1), .ref (a 9), .ref (a 10), .ref (a 11), .int 0, .ref (a 12), .ref (a 13), .ref (a 14), .ref (a 15), .int 0, .int 0, .int 0, .int 0, .int 0, .int 0, .int 0, .int 0, .ref (a 16), .ref (a 17), .ref (a 18), .ref (a 19), .int 0, .int 0, .int 1, .ref (a 20), .int 0])), ((a 8), .inl (cI, 6, .inl g0))] sz) (q_M D vwCl (some (.int sp_seed p0)) (fun u => []) (va_A [(h0, .inr (12, [.int 0, .int 0, .ref (a 0), .int 0, .int 0, .ref (a 1), .ref (a 2), .int 0, .ref (a 3), .ref (a 4), .int 0, .ref (a 5), .ref (a 6), .ref (a 7), .int 0, .ref (a 8), .int 0, .int (-1), .int 0, .int 0, .int 0, .int 0, .int (-1), .ref (a 9), .ref (a 10), .ref (a 11), .int 0, .ref (a 12), .ref (a 13), .ref (a 14), .ref (a 15), .int 0, .int 0, .int 0, .int 0, .int 0, .int 0, .int 0, .int 0, .ref (a 16), .ref (a 17), .ref (a 18), .ref (a 19), .int 0, .int 0, .int 1, .ref (a 20), .int 0])), ((a 8), .inl (cI, 6, .inl g0))] sz)) 0 0 (va_A [(h0, .inr (12, [.int 0, .int 0, .ref (a 0), .int 0, .int 0, .ref (a 1), .ref (a 2), .int 0, .ref (a 3), .ref (a 4), .int 0, .ref (a 5), .ref (a 6), .ref (a 7), .int 0, .ref (a 8), .int 0, .int (-1), .int 0, .int 0, .int 0, .int 0, .int (-1), .ref (a 9), .ref (a 10), .ref (a 11), .int 0, .ref (a 12), .ref (a 13), .ref (a 14), .ref (a 15), .int 0, .int 0, .int 0, .int 0, .int 0, .int 0, .int 0, .int 0, .ref (a 16), .ref (a 17), .ref (a 18), .ref (a 19), .int 0, .int 0, .int 1, .ref (a 20), .int 0])), ((a 8), .inl (cI, 6, .inl g0))] sz) := by
  refine Met.ofW (cc := cX12_seed) (maxL := 2) (ret := (some .boolean)) (by decide) rfl ?_
  intro p e s m args below meth c s₁ B hml hv
  obtain ⟨rfl, hsz, hP, hK, hD0⟩ := hv
  have hx := B.exec
  have hb := B.bytes
  have hr := B.returns
  have hT := sw_in (atoms_spec (ws := sw_ws yX12_seed cX12_seed 2 (some .boolean)) B.pre)
  have hown : s.vm.findClass RX12 = some m.cls := findClass_of_methodNamed B.named
  have hlocks := B.notSynchronized
  subst hsz
  have hD := hD0.self (sz := s.heap.size)
  generalize hAe : va_A [(h0, .inr (12, [.int 0, .int 0, .ref (a 0), .int 0, .int 0, .ref (a 1), .ref (a 2), .int 0, .ref (a 3), .ref (a 4), .int 0, .ref (a 5), .ref (a 6), .ref (a 7), .int 0, .ref (a 8), .int 0, .int (-1), .int 0, .int 0, .int 0, .int 0, .int (-1), .ref (a 9), .ref (a 10), .ref (a 11), .int 0, .ref (a 12), .ref (a 13), .ref (a 14), .ref (a 15), .int 0, .int 0, .int 0, .int 0, .int 0, .int 0, .int 0, .int 0, .ref (a 16), .ref (a 17), .ref (a 18), .ref (a 19), .int 0, .int 0, .int 1, .ref (a 20), .int 0])), ((a 8), .inl (cI, 6, .inl g0))] s.heap.size = A at hD ⊢
  have hA : ∀ q : Nat, s.heap.size ≤ q → A q := fun q h => by rw [← hAe]; exact Or.inr h
  have hS : va_S A s.heap s.heap [] := va_S.rf
  have hl := lv_entry ([.ref h0, .int p0]) (n := 2) (Nat.le_of_ble_eq_true rfl)
  rw [lg_entry_eq]
  generalize (lg_sl ([.ref h0, .int p0]) ++ List.replicate (2 - (lg_sl ([.ref h0, .int p0])).length) Slot.unset).toArray = ls at hl ⊢
  have hl : lv_has ls 2 [(0, .ref h0), (1, .int p0)] := hl
  refine lv_iload_n hx hb dX12_seed_0 rfl (lv_at hl 1 rfl) ?_
  refine lv_if_ge (tgt := 10) hx hb dX12_seed_1 (by decide) (fun c_1 => ?_) (fun c_1 => ?_)
  · refine lv_aload_n hx hb dX12_seed_10 rfl (lv_at hl 0 rfl) ?_
    refine lv_iload_n hx hb dX12_seed_11 rfl (lv_at hl 1 rfl) ?_
    refine va_put (D := D) (ci := 12) (v := .int p0) (ty := .int) (C := RX12) (T := TX12) (N := 48) hx hb hT ix_12 tyX12 tyX12_ok nmX12 hown hK hP hD hS 0 rfl rfl 45 (by decide) (hT _ sw_1333) (fun _ h9 => h9) rfl (by decide +kernel) rfl rfl (Nat.le_of_ble_eq_true rfl) dX12_seed_12 (fun H locs hP hD hS => ?_)
    have hP : va_P D vwCl [(h0, .inr (12, [.int 0, .int 0, .ref (a 0), .int 0, .int 0, .ref (a 1), .ref (a 2), .int 0, .ref (a 3), .ref (a 4), .int 0, .ref (a 5), .ref (a 6), .ref (a 7), .int 0, .ref (a 8), .int 0, .int (-1), .int 0, .int 0, .int 0, .int 0, .int (-1), .ref (a 9), .ref (a 10), .ref (a 11), .int 0, .ref (a 12), .ref (a 13), .ref (a 14), .ref (a 15), .int 0, .int 0, .int 0, .int 0, .int 0, .int 0, .int 0, .int 0, .ref (a 16), .ref (a 17), .ref (a 18), .ref (a 19), .int 0, .int 0, .int p0, .ref (a 20), .int 0])), ((a 8), .inl (cI, 6, .inl g0))] H := hP
    have hD : va_D A [(h0, .inr (12, [.int 0, .int 0, .ref (a 0), .int 0, .int 0, .ref (a 1), .ref (a 2), .int 0, .ref (a 3), .ref (a 4), .int 0, .ref (a 5), .ref (a 6), .ref (a 7), .int 0, .ref (a 8), .int 0, .int (-1), .int 0, .int 0, .int 0, .int 0, .int (-1), .ref (a 9), .ref (a 10), .ref (a 11), .int 0, .ref (a 12), .ref (a 13), .ref (a 14), .ref (a 15), .int 0, .int 0, .int 0, .int 0, .int 0, .int 0, .int 0, .int 0, .ref (a 16), .ref (a 17), .ref (a 18), .ref (a 19), .int 0, .int 0, .int p0, .ref (a 20), .int 0])), ((a 8), .inl (cI, 6, .inl g0))] := hD
    refine lv_iconst (v := 1) hx hb dX12_seed_15 (by decide) ?_
    refine ct_i (z := sp_seed p0) (pl_19 p0 c_1) ?_
    have hP9 := hP.sub (ws' := []) [] rfl
    have hD9 := hD.sub (ws' := []) [] (by decide) rfl
    exact W.zret (v := sp_seed p0) hx hb hr (nz_sp_seed _) (fun t ht _ => ⟨rfl, ⟨(fun k => [].getD k 0, fun k => [].getD k zI), by rw [ht]; exact hP9, hD9⟩, hS.F ht⟩) hS.2.2 dX12_seed_16
  · refine lv_aload_n hx hb dX12_seed_4 rfl (lv_at hl 0 rfl) ?_
    refine lv_iconst (v := 5) hx hb dX12_seed_5 (by decide) ?_
    refine go_M (wc := [(h0, .inr (12, [.int 0, .int 0, .ref (a 0), .int 0, .int 0, .ref (a 1), .ref (a 2), .int 0, .ref (a 3), .ref (a 4), .int 0, .ref (a 5), .ref (a 6), .ref (a 7), .int 0, .ref (a 8), .int 0, .int (-1), .int 0, .int 0, .int 0, .int 0, .int (-1), .ref (a 9), .ref (a 10), .ref (a 11), .int 0, .ref (a 12), .ref (a 13), .ref (a 14), .ref (a 15), .int 0, .int 0, .int 0, .int 0, .int 0, .int 0, .int 0, .int 0, .ref (a 16), .ref (a 17), .ref (a 18), .ref (a 19), .int 0, .int 0, .int 1, .ref (a 20), .int 0])), ((a 8), .inl (cI, 6, .inl g0))]) (wr := []) (w1 := fun u => [(h0, .inr (12, [.int 0, .int 0, .ref (a 0), .int 0, .int 0, .ref (a 1), .ref (a 2), .int 0, .ref (a 3), .ref (a 4), .int 0, .ref (a 5), .ref (a 6), .ref (a 7), .int 0, .ref (a 8), .int 0, .int (-1), .int 0, .int 0, .int 0, .int 0, .int (-1), .ref (a 9), .ref (a 10), .ref (a 11), .int 0, .ref (a 12), .ref (a 13), .ref (a 14), .ref (a 15), .int 0, .int 0, .int 0, .int 0, .int 0, .int 0, .int 0, .int 0, .ref (a 16), .ref (a 17), .ref (a 18), .ref (a 19), .int 0, .int 0, .int 1, .ref (a 20), .int 0])), ((a 8), .inl (cI, 6, .inl (u.2 0)))]) (v := some (.int 0)) (st1 := [.int 0]) hP hD hS hA [0, 1] [] rfl rfl (by decide) (by decide) (by decide) (fun hPc hDc => run_V (As := [.int 5]) (rest := []) ⟨hx, hb, hml, hown, hT⟩ (kX12_isRefused_3 l D cI h0 a g0 _) sw_1450 lkv_X12_isRefused (p_M_V (ci := 12) (q0 := 0) hPc hK hDc rfl rfl) rfl hl.1 rfl (Nat.le_of_ble_eq_true rfl) dX12_seed_6 ⟨⟨Nat.le_of_ble_eq_true rfl, Nat.le_of_ble_eq_true rfl⟩, Nat.le_of_ble_eq_true rfl, Nat.le_of_ble_eq_true rfl⟩) rfl (fun u_2 H locs hP hD hS => ?_)
    have hP : va_P D vwCl [(h0, .inr (12, [.int 0, .int 0, .ref (a 0), .int 0, .int 0, .ref (a 1), .ref (a 2), .int 0, .ref (a 3), .ref (a 4), .int 0, .ref (a 5), .ref (a 6), .ref (a 7), .int 0, .ref (a 8), .int 0, .int (-1), .int 0, .int 0, .int 0, .int 0, .int (-1), .ref (a 9), .ref (a 10), .ref (a 11), .int 0, .ref (a 12), .ref (a 13), .ref (a 14), .ref (a 15), .int 0, .int 0, .int 0, .int 0, .int 0, .int 0, .int 0, .int 0, .ref (a 16), .ref (a 17), .ref (a 18), .ref (a 19), .int 0, .int 0, .int 1, .ref (a 20), .int 0])), ((a 8), .inl (cI, 6, .inl (u_2.2 0)))] H := hP
    have hD : va_D A [(h0, .inr (12, [.int 0, .int 0, .ref (a 0), .int 0, .int 0, .ref (a 1), .ref (a 2), .int 0, .ref (a 3), .ref (a 4), .int 0, .ref (a 5), .ref (a 6), .ref (a 7), .int 0, .ref (a 8), .int 0, .int (-1), .int 0, .int 0, .int 0, .int 0, .int (-1), .ref (a 9), .ref (a 10), .ref (a 11), .int 0, .ref (a 12), .ref (a 13), .ref (a 14), .ref (a 15), .int 0, .int 0, .int 0, .int 0, .int 0, .int 0, .int 0, .int 0, .ref (a 16), .ref (a 17), .ref (a 18), .ref (a 19), .int 0, .int 0, .int 1, .ref (a 20), .int 0])), ((a 8), .inl (cI, 6, .inl (u_2.2 0)))] := hD
    refine ct_i (z := sp_seed p0) (pl_20 p0 c_1) ?_
    have hP9 := hP.sub (ws' := []) [] rfl
    have hD9 := hD.sub (ws' := []) [] (by decide) rfl
    exact W.zret (v := sp_seed p0) hx hb hr (nz_sp_seed _) (fun t ht _ => ⟨rfl, ⟨(fun k => [].getD k 0, fun k => [].getD k zI), by rw [ht]; exact hP9, hD9⟩, hS.F ht⟩) hS.2.2 dX12_seed_9
set_option maxHeartbeats 4000000 in
set_option maxRecDepth 100000 in
theorem kX12_says_0 (l : Launch) (D : va_G) (cI : ClassId) (h0 : Nat) (a : Nat → Nat) (p0 : Int32) (g0 : Nat → Int32) (sz : Nat) : Met l yX12_says (sw_ws yX12_says cX12_says 2 none) (rm_ 0 0 0 0) (p_M D vwCl [(cI, .int)] [.ref h0, .int p0] [(h0, .inr (12, [.int 0, .int 0, .ref (a 0), .int 0, .int 0, .ref (a 1), .ref (a 2), .int 0, .ref (a 3), .ref (a 4), .int 0, .ref (a 5), .ref (a 6), .ref (a 7), .int 0, .ref (a 8), .int 0, .int (-1), .int 0, .int 0, .int 0, .int 0, .int (-1), .ref (a 9), .ref (a 10), .ref (a 11), .int 0, .ref (a 12), .ref (a 13), .ref (a 14), .ref (a 15), .int 0, .int 0, .int 0, .int 0, .int 0, .int 0, .int 0, .int 0, .ref (a 16), .ref (a 17), .ref (a 18), .ref (a 19), .int 0, .int 0, .int 1, .ref (a 20), .int 0])), ((a 20), .inl (cI, 130, .inl g0))] sz) (q_M D vwCl none (fun u => [(h0, .inr (12, [.int 0, .int 0, .ref (a 0), .int 0, .int 0, .ref (a 1), .ref (a 2), .int 0, .ref (a 3), .ref (a 4), .int 0, .ref (a 5), .ref (a 6), .ref (a 7), .int 0, .ref (a 8), .int 0, .int (-1), .int 0, .int 0, .int 0, .int 0, .int (-1), .ref (a 9), .ref (a 10), .ref (a 11), .int 0, .ref (a 12), .ref (a 13), .ref (a 14), .ref (a 15), .int 0, .int 0, .int 0, .int 0, .int 0, .int 0, .int 0, .int 0, .ref (a 16), .ref (a 17), .ref (a 18), .ref (a 19), .int 0, .int 0, .int 1, .ref (a 20), .int 1])), ((a 20), .inl (cI, 130, .inl (u.2 0)))]) (va_A [(h0, .inr (12, [.int 0, .int 0, .ref (a 0), .int 0, .int 0, .ref (a 1), .ref (a 2), .int 0, .ref (a 3), .ref (a 4), .int 0, .ref (a 5), .ref (a 6), .ref (a 7), .int 0, .ref (a 8), .int 0, .int (-1), .int 0, .int 0, .int 0, .int 0, .int (-1), .ref (a 9), .ref (a 10), .ref (a 11), .int 0, .ref (a 12), .ref (a 13), .ref (a 14), .ref (a 15), .int 0, .int 0, .int 0, .int 0, .int 0, .int 0, .int 0, .int 0, .ref (a 16), .ref (a 17), .ref (a 18), .ref (a 19), .int 0, .int 0, .int 1, .ref (a 20), .int 0])), ((a 20), .inl (cI, 130, .inl g0))] sz)) 0 0 (va_A [(h0, .inr (12, [.int 0, .int 0, .ref (a 0), .int 0, .int 0, .ref (a 1), .ref (a 2), .int 0, .ref (a 3), .ref (a 4), .int 0, .ref (a 5), .ref (a 6), .ref (a 7), .int 0, .ref (a 8), .int 0, .int (-1), .int 0, .int 0, .int 0, .int 0, .int (-1), .ref (a 9), .ref (a 10), .ref (a 11), .int 0, .ref (a 12), .ref (a 13), .ref (a 14), .ref (a 15), .int 0, .int 0, .int 0, .int 0, .int 0, .int 0, .int 0, .int 0, .ref (a 16), .ref (a 17), .ref (a 18), .ref (a 19), .int 0, .int 0, .int 1, .ref (a 20), .int 0])), ((a 20), .inl (cI, 130, .inl g0))] sz) := by
  refine Met.ofW (cc := cX12_says) (maxL := 2) (ret := none) (by decide) rfl ?_
  intro p e s m args below meth c s₁ B hml hv
  obtain ⟨rfl, hsz, hP, hK, hD0⟩ := hv
  have hx := B.exec
  have hb := B.bytes
  have hr := B.returns
  have hT := sw_in (atoms_spec (ws := sw_ws yX12_says cX12_says 2 none) B.pre)
  have hown : s.vm.findClass RX12 = some m.cls := findClass_of_methodNamed B.named
  have hlocks := B.notSynchronized
  subst hsz
  have hD := hD0.self (sz := s.heap.size)
  generalize hAe : va_A [(h0, .inr (12, [.int 0, .int 0, .ref (a 0), .int 0, .int 0, .ref (a 1), .ref (a 2), .int 0, .ref (a 3), .ref (a 4), .int 0, .ref (a 5), .ref (a 6), .ref (a 7), .int 0, .ref (a 8), .int 0, .int (-1), .int 0, .int 0, .int 0, .int 0, .int (-1), .ref (a 9), .ref (a 10), .ref (a 11), .int 0, .ref (a 12), .ref (a 13), .ref (a 14), .ref (a 15), .int 0, .int 0, .int 0, .int 0, .int 0, .int 0, .int 0, .int 0, .ref (a 16), .ref (a 17), .ref (a 18), .ref (a 19), .int 0, .int 0, .int 1, .ref (a 20), .int 0])), ((a 20), .inl (cI, 130, .inl g0))] s.heap.size = A at hD ⊢
  have hA : ∀ q : Nat, s.heap.size ≤ q → A q := fun q h => by rw [← hAe]; exact Or.inr h
  have hS : va_S A s.heap s.heap [] := va_S.rf
  have hl := lv_entry ([.ref h0, .int p0]) (n := 2) (Nat.le_of_ble_eq_true rfl)
  rw [lg_entry_eq]
  generalize (lg_sl ([.ref h0, .int p0]) ++ List.replicate (2 - (lg_sl ([.ref h0, .int p0])).length) Slot.unset).toArray = ls at hl ⊢
  have hl : lv_has ls 2 [(0, .ref h0), (1, .int p0)] := hl
  refine lv_aload_n hx hb dX12_says_0 rfl (lv_at hl 0 rfl) ?_
  refine va_get (D := D) (ci := 12) (v := .ref (a 20)) (C := RX12) (T := TX12) (N := 48) hx hb hT ix_12 hown hK hP 0 rfl rfl 46 (by decide) (hT _ sw_1334) (fun _ h9 => h9) rfl dX12_says_1 ?_
  refine lv_aload_n hx hb dX12_says_4 rfl (lv_at hl 0 rfl) ?_
  refine va_get (D := D) (ci := 12) (v := .int 0) (C := RX12) (T := TX12) (N := 48) hx hb hT ix_12 hown hK hP 0 rfl rfl 47 (by decide) (hT _ sw_1335) (fun _ h9 => h9) rfl dX12_says_5 ?_
  refine lv_iload_n hx hb dX12_says_8 rfl (lv_at hl 1 rfl) ?_
  refine lv_sipush (v := 255) hx hb dX12_says_9 (by decide) ?_
  refine lv_iand hx hb dX12_says_12 ?_
  refine lv_topi (fun v_1 _ => ?_)
  refine va_iast hx hb hK hP hD hS 1 0 rfl rfl (vi_c (by decide +kernel)) dX12_says_13 (fun H locs hP hD hS => ?_)
  obtain ⟨f_2, hP, hD⟩ : ∃ f_2 : Nat → Int32, va_P D vwCl [(h0, .inr (12, [.int 0, .int 0, .ref (a 0), .int 0, .int 0, .ref (a 1), .ref (a 2), .int 0, .ref (a 3), .ref (a 4), .int 0, .ref (a 5), .ref (a 6), .ref (a 7), .int 0, .ref (a 8), .int 0, .int (-1), .int 0, .int 0, .int 0, .int 0, .int (-1), .ref (a 9), .ref (a 10), .ref (a 11), .int 0, .ref (a 12), .ref (a 13), .ref (a 14), .ref (a 15), .int 0, .int 0, .int 0, .int 0, .int 0, .int 0, .int 0, .int 0, .ref (a 16), .ref (a 17), .ref (a 18), .ref (a 19), .int 0, .int 0, .int 1, .ref (a 20), .int 0])), ((a 20), .inl (cI, 130, .inl f_2))] H ∧ va_D A [(h0, .inr (12, [.int 0, .int 0, .ref (a 0), .int 0, .int 0, .ref (a 1), .ref (a 2), .int 0, .ref (a 3), .ref (a 4), .int 0, .ref (a 5), .ref (a 6), .ref (a 7), .int 0, .ref (a 8), .int 0, .int (-1), .int 0, .int 0, .int 0, .int 0, .int (-1), .ref (a 9), .ref (a 10), .ref (a 11), .int 0, .ref (a 12), .ref (a 13), .ref (a 14), .ref (a 15), .int 0, .int 0, .int 0, .int 0, .int 0, .int 0, .int 0, .int 0, .ref (a 16), .ref (a 17), .ref (a 18), .ref (a 19), .int 0, .int 0, .int 1, .ref (a 20), .int 0])), ((a 20), .inl (cI, 130, .inl f_2))] := ⟨_, hP, hD⟩
  refine lv_aload_n hx hb dX12_says_14 rfl (lv_at hl 0 rfl) ?_
  refine lv_dup hx hb dX12_says_15 rfl ?_
  refine va_get (D := D) (ci := 12) (v := .int 0) (C := RX12) (T := TX12) (N := 48) hx hb hT ix_12 hown hK hP 0 rfl rfl 47 (by decide) (hT _ sw_1335) (fun _ h9 => h9) rfl dX12_says_16 ?_
  refine lv_iconst (v := 1) hx hb dX12_says_19 (by decide) ?_
  refine lv_iadd hx hb dX12_says_20 ?_
  refine ct_i (z := 1) (by decide) ?_
  refine va_put (D := D) (ci := 12) (v := .int 1) (ty := .int) (C := RX12) (T := TX12) (N := 48) hx hb hT ix_12 tyX12 tyX12_ok nmX12 hown hK hP hD hS 0 rfl rfl 47 (by decide) (hT _ sw_1335) (fun _ h9 => h9) rfl (by decide +kernel) rfl rfl (Nat.le_of_ble_eq_true rfl) dX12_says_21 (fun H locs hP hD hS => ?_)
  have hP : va_P D vwCl [(h0, .inr (12, [.int 0, .int 0, .ref (a 0), .int 0, .int 0, .ref (a 1), .ref (a 2), .int 0, .ref (a 3), .ref (a 4), .int 0, .ref (a 5), .ref (a 6), .ref (a 7), .int 0, .ref (a 8), .int 0, .int (-1), .int 0, .int 0, .int 0, .int 0, .int (-1), .ref (a 9), .ref (a 10), .ref (a 11), .int 0, .ref (a 12), .ref (a 13), .ref (a 14), .ref (a 15), .int 0, .int 0, .int 0, .int 0, .int 0, .int 0, .int 0, .int 0, .ref (a 16), .ref (a 17), .ref (a 18), .ref (a 19), .int 0, .int 0, .int 1, .ref (a 20), .int 1])), ((a 20), .inl (cI, 130, .inl f_2))] H := hP
  have hD : va_D A [(h0, .inr (12, [.int 0, .int 0, .ref (a 0), .int 0, .int 0, .ref (a 1), .ref (a 2), .int 0, .ref (a 3), .ref (a 4), .int 0, .ref (a 5), .ref (a 6), .ref (a 7), .int 0, .ref (a 8), .int 0, .int (-1), .int 0, .int 0, .int 0, .int 0, .int (-1), .ref (a 9), .ref (a 10), .ref (a 11), .int 0, .ref (a 12), .ref (a 13), .ref (a 14), .ref (a 15), .int 0, .int 0, .int 0, .int 0, .int 0, .int 0, .int 0, .int 0, .ref (a 16), .ref (a 17), .ref (a 18), .ref (a 19), .int 0, .int 0, .int 1, .ref (a 20), .int 1])), ((a 20), .inl (cI, 130, .inl f_2))] := hD
  have hP9 := hP.sub (ws' := [(h0, .inr (12, [.int 0, .int 0, .ref (a 0), .int 0, .int 0, .ref (a 1), .ref (a 2), .int 0, .ref (a 3), .ref (a 4), .int 0, .ref (a 5), .ref (a 6), .ref (a 7), .int 0, .ref (a 8), .int 0, .int (-1), .int 0, .int 0, .int 0, .int 0, .int (-1), .ref (a 9), .ref (a 10), .ref (a 11), .int 0, .ref (a 12), .ref (a 13), .ref (a 14), .ref (a 15), .int 0, .int 0, .int 0, .int 0, .int 0, .int 0, .int 0, .int 0, .ref (a 16), .ref (a 17), .ref (a 18), .ref (a 19), .int 0, .int 0, .int 1, .ref (a 20), .int 1])), ((a 20), .inl (cI, 130, .inl f_2))]) [0, 1] rfl
  have hD9 := hD.sub (ws' := [(h0, .inr (12, [.int 0, .int 0, .ref (a 0), .int 0, .int 0, .ref (a 1), .ref (a 2), .int 0, .ref (a 3), .ref (a 4), .int 0, .ref (a 5), .ref (a 6), .ref (a 7), .int 0, .ref (a 8), .int 0, .int (-1), .int 0, .int 0, .int 0, .int 0, .int (-1), .ref (a 9), .ref (a 10), .ref (a 11), .int 0, .ref (a 12), .ref (a 13), .ref (a 14), .ref (a 15), .int 0, .int 0, .int 0, .int 0, .int 0, .int 0, .int 0, .int 0, .ref (a 16), .ref (a 17), .ref (a 18), .ref (a 19), .int 0, .int 0, .int 1, .ref (a 20), .int 1])), ((a 20), .inl (cI, 130, .inl f_2))]) [0, 1] (by decide) rfl
  exact W.vret hx hb hr (fun t ht _ => ⟨rfl, ⟨(fun k => [].getD k 0, fun k => [f_2].getD k zI), by rw [ht]; exact hP9, hD9⟩, hS.F ht⟩) hS.2.2 dX12_says_24
set_option maxHeartbeats 4000000 in
set_option maxRecDepth 100000 in
theorem kX12_says_1 (l : Launch) (D : va_G) (cI : ClassId) (h0 : Nat) (a : Nat → Nat) (p0 : Int32) (g0 : Nat → Int32) (sz : Nat) : Met l yX12_says (sw_ws yX12_says cX12_says 2 none) (rm_ 0 0 0 0) (p_M D vwCl [(cI, .int)] [.ref h0, .int p0] [(h0, .inr (12, [.int 0, .int 0, .ref (a 0), .int 0, .int 0, .ref (a 1), .ref (a 2), .int 0, .ref (a 3), .ref (a 4), .int 0, .ref (a 5), .ref (a 6), .ref (a 7), .int 0, .ref (a 8), .int 0, .int (-1), .int 0, .int 0, .int 0, .int 0, .int (-1), .ref (a 9), .ref (a 10), .ref (a 11), .int 0, .ref (a 12), .ref (a 13), .ref (a 14), .ref (a 15), .int 0, .int 0, .int 0, .int 0, .int 0, .int 0, .int 0, .int 0, .ref (a 16), .ref (a 17), .ref (a 18), .ref (a 19), .int 0, .int 0, .int 1, .ref (a 20), .int 1])), ((a 20), .inl (cI, 130, .inl g0))] sz) (q_M D vwCl none (fun u => [(h0, .inr (12, [.int 0, .int 0, .ref (a 0), .int 0, .int 0, .ref (a 1), .ref (a 2), .int 0, .ref (a 3), .ref (a 4), .int 0, .ref (a 5), .ref (a 6), .ref (a 7), .int 0, .ref (a 8), .int 0, .int (-1), .int 0, .int 0, .int 0, .int 0, .int (-1), .ref (a 9), .ref (a 10), .ref (a 11), .int 0, .ref (a 12), .ref (a 13), .ref (a 14), .ref (a 15), .int 0, .int 0, .int 0, .int 0, .int 0, .int 0, .int 0, .int 0, .ref (a 16), .ref (a 17), .ref (a 18), .ref (a 19), .int 0, .int 0, .int 1, .ref (a 20), .int 2])), ((a 20), .inl (cI, 130, .inl (u.2 0)))]) (va_A [(h0, .inr (12, [.int 0, .int 0, .ref (a 0), .int 0, .int 0, .ref (a 1), .ref (a 2), .int 0, .ref (a 3), .ref (a 4), .int 0, .ref (a 5), .ref (a 6), .ref (a 7), .int 0, .ref (a 8), .int 0, .int (-1), .int 0, .int 0, .int 0, .int 0, .int (-1), .ref (a 9), .ref (a 10), .ref (a 11), .int 0, .ref (a 12), .ref (a 13), .ref (a 14), .ref (a 15), .int 0, .int 0, .int 0, .int 0, .int 0, .int 0, .int 0, .int 0, .ref (a 16), .ref (a 17), .ref (a 18), .ref (a 19), .int 0, .int 0, .int 1, .ref (a 20), .int 1])), ((a 20), .inl (cI, 130, .inl g0))] sz)) 0 0 (va_A [(h0, .inr (12, [.int 0, .int 0, .ref (a 0), .int 0, .int 0, .ref (a 1), .ref (a 2), .int 0, .ref (a 3), .ref (a 4), .int 0, .ref (a 5), .ref (a 6), .ref (a 7), .int 0, .ref (a 8), .int 0, .int (-1), .int 0, .int 0, .int 0, .int 0, .int (-1), .ref (a 9), .ref (a 10), .ref (a 11), .int 0, .ref (a 12), .ref (a 13), .ref (a 14), .ref (a 15), .int 0, .int 0, .int 0, .int 0, .int 0, .int 0, .int 0, .int 0, .ref (a 16), .ref (a 17), .ref (a 18), .ref (a 19), .int 0, .int 0, .int 1, .ref (a 20), .int 1])), ((a 20), .inl (cI, 130, .inl g0))] sz) := by
  refine Met.ofW (cc := cX12_says) (maxL := 2) (ret := none) (by decide) rfl ?_
  intro p e s m args below meth c s₁ B hml hv
  obtain ⟨rfl, hsz, hP, hK, hD0⟩ := hv
  have hx := B.exec
  have hb := B.bytes
  have hr := B.returns
  have hT := sw_in (atoms_spec (ws := sw_ws yX12_says cX12_says 2 none) B.pre)
  have hown : s.vm.findClass RX12 = some m.cls := findClass_of_methodNamed B.named
  have hlocks := B.notSynchronized
  subst hsz
  have hD := hD0.self (sz := s.heap.size)
  generalize hAe : va_A [(h0, .inr (12, [.int 0, .int 0, .ref (a 0), .int 0, .int 0, .ref (a 1), .ref (a 2), .int 0, .ref (a 3), .ref (a 4), .int 0, .ref (a 5), .ref (a 6), .ref (a 7), .int 0, .ref (a 8), .int 0, .int (-1), .int 0, .int 0, .int 0, .int 0, .int (-1), .ref (a 9), .ref (a 10), .ref (a 11), .int 0, .ref (a 12), .ref (a 13), .ref (a 14), .ref (a 15), .int 0, .int 0, .int 0, .int 0, .int 0, .int 0, .int 0, .int 0, .ref (a 16), .ref (a 17), .ref (a 18), .ref (a 19), .int 0, .int 0, .int 1, .ref (a 20), .int 1])), ((a 20), .inl (cI, 130, .inl g0))] s.heap.size = A at hD ⊢
  have hA : ∀ q : Nat, s.heap.size ≤ q → A q := fun q h => by rw [← hAe]; exact Or.inr h
  have hS : va_S A s.heap s.heap [] := va_S.rf
  have hl := lv_entry ([.ref h0, .int p0]) (n := 2) (Nat.le_of_ble_eq_true rfl)
  rw [lg_entry_eq]
  generalize (lg_sl ([.ref h0, .int p0]) ++ List.replicate (2 - (lg_sl ([.ref h0, .int p0])).length) Slot.unset).toArray = ls at hl ⊢
  have hl : lv_has ls 2 [(0, .ref h0), (1, .int p0)] := hl
  refine lv_aload_n hx hb dX12_says_0 rfl (lv_at hl 0 rfl) ?_
  refine va_get (D := D) (ci := 12) (v := .ref (a 20)) (C := RX12) (T := TX12) (N := 48) hx hb hT ix_12 hown hK hP 0 rfl rfl 46 (by decide) (hT _ sw_1334) (fun _ h9 => h9) rfl dX12_says_1 ?_
  refine lv_aload_n hx hb dX12_says_4 rfl (lv_at hl 0 rfl) ?_
  refine va_get (D := D) (ci := 12) (v := .int 1) (C := RX12) (T := TX12) (N := 48) hx hb hT ix_12 hown hK hP 0 rfl rfl 47 (by decide) (hT _ sw_1335) (fun _ h9 => h9) rfl dX12_says_5 ?_
  refine lv_iload_n hx hb dX12_says_8 rfl (lv_at hl 1 rfl) ?_
  refine lv_sipush (v := 255) hx hb dX12_says_9 (by decide) ?_
  refine lv_iand hx hb dX12_says_12 ?_
  refine lv_topi (fun v_1 _ => ?_)
  refine va_iast hx hb hK hP hD hS 1 0 rfl rfl (vi_c (by decide +kernel)) dX12_says_13 (fun H locs hP hD hS => ?_)
  obtain ⟨f_2, hP, hD⟩ : ∃ f_2 : Nat → Int32, va_P D vwCl [(h0, .inr (12, [.int 0, .int 0, .ref (a 0), .int 0, .int 0, .ref (a 1), .ref (a 2), .int 0, .ref (a 3), .ref (a 4), .int 0, .ref (a 5), .ref (a 6), .ref (a 7), .int 0, .ref (a 8), .int 0, .int (-1), .int 0, .int 0, .int 0, .int 0, .int (-1), .ref (a 9), .ref (a 10), .ref (a 11), .int 0, .ref (a 12), .ref (a 13), .ref (a 14), .ref (a 15), .int 0, .int 0, .int 0, .int 0, .int 0, .int 0, .int 0, .int 0, .ref (a 16), .ref (a 17), .ref (a 18), .ref (a 19), .int 0, .int 0, .int 1, .ref (a 20), .int 1])), ((a 20), .inl (cI, 130, .inl f_2))] H ∧ va_D A [(h0, .inr (12, [.int 0, .int 0, .ref (a 0), .int 0, .int 0, .ref (a 1), .ref (a 2), .int 0, .ref (a 3), .ref (a 4), .int 0, .ref (a 5), .ref (a 6), .ref (a 7), .int 0, .ref (a 8), .int 0, .int (-1), .int 0, .int 0, .int 0, .int 0, .int (-1), .ref (a 9), .ref (a 10), .ref (a 11), .int 0, .ref (a 12), .ref (a 13), .ref (a 14), .ref (a 15), .int 0, .int 0, .int 0, .int 0, .int 0, .int 0, .int 0, .int 0, .ref (a 16), .ref (a 17), .ref (a 18), .ref (a 19), .int 0, .int 0, .int 1, .ref (a 20), .int 1])), ((a 20), .inl (cI, 130, .inl f_2))] := ⟨_, hP, hD⟩
  refine lv_aload_n hx hb dX12_says_14 rfl (lv_at hl 0 rfl) ?_
  refine lv_dup hx hb dX12_says_15 rfl ?_
  refine va_get (D := D) (ci := 12) (v := .int 1) (C := RX12) (T := TX12) (N := 48) hx hb hT ix_12 hown hK hP 0 rfl rfl 47 (by decide) (hT _ sw_1335) (fun _ h9 => h9) rfl dX12_says_16 ?_
  refine lv_iconst (v := 1) hx hb dX12_says_19 (by decide) ?_
  refine lv_iadd hx hb dX12_says_20 ?_
  refine ct_i (z := 2) (by decide) ?_
  refine va_put (D := D) (ci := 12) (v := .int 2) (ty := .int) (C := RX12) (T := TX12) (N := 48) hx hb hT ix_12 tyX12 tyX12_ok nmX12 hown hK hP hD hS 0 rfl rfl 47 (by decide) (hT _ sw_1335) (fun _ h9 => h9) rfl (by decide +kernel) rfl rfl (Nat.le_of_ble_eq_true rfl) dX12_says_21 (fun H locs hP hD hS => ?_)
  have hP : va_P D vwCl [(h0, .inr (12, [.int 0, .int 0, .ref (a 0), .int 0, .int 0, .ref (a 1), .ref (a 2), .int 0, .ref (a 3), .ref (a 4), .int 0, .ref (a 5), .ref (a 6), .ref (a 7), .int 0, .ref (a 8), .int 0, .int (-1), .int 0, .int 0, .int 0, .int 0, .int (-1), .ref (a 9), .ref (a 10), .ref (a 11), .int 0, .ref (a 12), .ref (a 13), .ref (a 14), .ref (a 15), .int 0, .int 0, .int 0, .int 0, .int 0, .int 0, .int 0, .int 0, .ref (a 16), .ref (a 17), .ref (a 18), .ref (a 19), .int 0, .int 0, .int 1, .ref (a 20), .int 2])), ((a 20), .inl (cI, 130, .inl f_2))] H := hP
  have hD : va_D A [(h0, .inr (12, [.int 0, .int 0, .ref (a 0), .int 0, .int 0, .ref (a 1), .ref (a 2), .int 0, .ref (a 3), .ref (a 4), .int 0, .ref (a 5), .ref (a 6), .ref (a 7), .int 0, .ref (a 8), .int 0, .int (-1), .int 0, .int 0, .int 0, .int 0, .int (-1), .ref (a 9), .ref (a 10), .ref (a 11), .int 0, .ref (a 12), .ref (a 13), .ref (a 14), .ref (a 15), .int 0, .int 0, .int 0, .int 0, .int 0, .int 0, .int 0, .int 0, .ref (a 16), .ref (a 17), .ref (a 18), .ref (a 19), .int 0, .int 0, .int 1, .ref (a 20), .int 2])), ((a 20), .inl (cI, 130, .inl f_2))] := hD
  have hP9 := hP.sub (ws' := [(h0, .inr (12, [.int 0, .int 0, .ref (a 0), .int 0, .int 0, .ref (a 1), .ref (a 2), .int 0, .ref (a 3), .ref (a 4), .int 0, .ref (a 5), .ref (a 6), .ref (a 7), .int 0, .ref (a 8), .int 0, .int (-1), .int 0, .int 0, .int 0, .int 0, .int (-1), .ref (a 9), .ref (a 10), .ref (a 11), .int 0, .ref (a 12), .ref (a 13), .ref (a 14), .ref (a 15), .int 0, .int 0, .int 0, .int 0, .int 0, .int 0, .int 0, .int 0, .ref (a 16), .ref (a 17), .ref (a 18), .ref (a 19), .int 0, .int 0, .int 1, .ref (a 20), .int 2])), ((a 20), .inl (cI, 130, .inl f_2))]) [0, 1] rfl
  have hD9 := hD.sub (ws' := [(h0, .inr (12, [.int 0, .int 0, .ref (a 0), .int 0, .int 0, .ref (a 1), .ref (a 2), .int 0, .ref (a 3), .ref (a 4), .int 0, .ref (a 5), .ref (a 6), .ref (a 7), .int 0, .ref (a 8), .int 0, .int (-1), .int 0, .int 0, .int 0, .int 0, .int (-1), .ref (a 9), .ref (a 10), .ref (a 11), .int 0, .ref (a 12), .ref (a 13), .ref (a 14), .ref (a 15), .int 0, .int 0, .int 0, .int 0, .int 0, .int 0, .int 0, .int 0, .ref (a 16), .ref (a 17), .ref (a 18), .ref (a 19), .int 0, .int 0, .int 1, .ref (a 20), .int 2])), ((a 20), .inl (cI, 130, .inl f_2))]) [0, 1] (by decide) rfl
  exact W.vret hx hb hr (fun t ht _ => ⟨rfl, ⟨(fun k => [].getD k 0, fun k => [f_2].getD k zI), by rw [ht]; exact hP9, hD9⟩, hS.F ht⟩) hS.2.2 dX12_says_24
set_option maxHeartbeats 4000000 in
set_option maxRecDepth 100000 in
theorem kX12_image_0 (l : Launch) (D : va_G) (cI : ClassId) (h0 : Nat) (a : Nat → Nat) (g0 g1 : Nat → Int32) (sz : Nat) : Met l yX12_image (sw_ws yX12_image cX12_image 3 (some .int)) (rm_ 1 21 0 0) (p_M D vwCl [(cI, .int)] [.ref h0] [(h0, .inr (12, [.int 0, .int 0, .ref (a 0), .int 0, .int 0, .ref (a 1), .ref (a 2), .int 0, .ref (a 3), .ref (a 4), .int 0, .ref (a 5), .ref (a 6), .ref (a 7), .int 0, .ref (a 8), .int 0, .int (-1), .int 0, .int 0, .int 0, .int 0, .int (-1), .ref (a 9), .ref (a 10), .ref (a 11), .int 0, .ref (a 12), .ref (a 13), .ref (a 14), .ref (a 15), .int 0, .int 0, .int 0, .int 0, .int 0, .int 0, .int 0, .int 0, .ref (a 16), .ref (a 17), .ref (a 18), .ref (a 19), .int 0, .int 0, .int 1, .ref (a 20), .int 0])), ((a 10), .inl (cI, 3252, .inl g0)), ((a 20), .inl (cI, 130, .inl g1))] sz) (q_M D vwCl (some (.int 2)) (fun u => []) (va_A [(h0, .inr (12, [.int 0, .int 0, .ref (a 0), .int 0, .int 0, .ref (a 1), .ref (a 2), .int 0, .ref (a 3), .ref (a 4), .int 0, .ref (a 5), .ref (a 6), .ref (a 7), .int 0, .ref (a 8), .int 0, .int (-1), .int 0, .int 0, .int 0, .int 0, .int (-1), .ref (a 9), .ref (a 10), .ref (a 11), .int 0, .ref (a 12), .ref (a 13), .ref (a 14), .ref (a 15), .int 0, .int 0, .int 0, .int 0, .int 0, .int 0, .int 0, .int 0, .ref (a 16), .ref (a 17), .ref (a 18), .ref (a 19), .int 0, .int 0, .int 1, .ref (a 20), .int 0])), ((a 10), .inl (cI, 3252, .inl g0)), ((a 20), .inl (cI, 130, .inl g1))] sz)) 0 0 (va_A [(h0, .inr (12, [.int 0, .int 0, .ref (a 0), .int 0, .int 0, .ref (a 1), .ref (a 2), .int 0, .ref (a 3), .ref (a 4), .int 0, .ref (a 5), .ref (a 6), .ref (a 7), .int 0, .ref (a 8), .int 0, .int (-1), .int 0, .int 0, .int 0, .int 0, .int (-1), .ref (a 9), .ref (a 10), .ref (a 11), .int 0, .ref (a 12), .ref (a 13), .ref (a 14), .ref (a 15), .int 0, .int 0, .int 0, .int 0, .int 0, .int 0, .int 0, .int 0, .ref (a 16), .ref (a 17), .ref (a 18), .ref (a 19), .int 0, .int 0, .int 1, .ref (a 20), .int 0])), ((a 10), .inl (cI, 3252, .inl g0)), ((a 20), .inl (cI, 130, .inl g1))] sz) := by
  refine Met.ofW (cc := cX12_image) (maxL := 3) (ret := (some .int)) (by decide) rfl ?_
  intro p e s m args below meth c s₁ B hml hv
  obtain ⟨rfl, hsz, hP, hK, hD0⟩ := hv
  have hx := B.exec
  have hb := B.bytes
  have hr := B.returns
  have hT := sw_in (atoms_spec (ws := sw_ws yX12_image cX12_image 3 (some .int)) B.pre)
  have hown : s.vm.findClass RX12 = some m.cls := findClass_of_methodNamed B.named
  have hlocks := B.notSynchronized
  subst hsz
  have hD := hD0.self (sz := s.heap.size)
  generalize hAe : va_A [(h0, .inr (12, [.int 0, .int 0, .ref (a 0), .int 0, .int 0, .ref (a 1), .ref (a 2), .int 0, .ref (a 3), .ref (a 4), .int 0, .ref (a 5), .ref (a 6), .ref (a 7), .int 0, .ref (a 8), .int 0, .int (-1), .int 0, .int 0, .int 0, .int 0, .int (-1), .ref (a 9), .ref (a 10), .ref (a 11), .int 0, .ref (a 12), .ref (a 13), .ref (a 14), .ref (a 15), .int 0, .int 0, .int 0, .int 0, .int 0, .int 0, .int 0, .int 0, .ref (a 16), .ref (a 17), .ref (a 18), .ref (a 19), .int 0, .int 0, .int 1, .ref (a 20), .int 0])), ((a 10), .inl (cI, 3252, .inl g0)), ((a 20), .inl (cI, 130, .inl g1))] s.heap.size = A at hD ⊢
  have hA : ∀ q : Nat, s.heap.size ≤ q → A q := fun q h => by rw [← hAe]; exact Or.inr h
  have hS : va_S A s.heap s.heap [] := va_S.rf
  have hl := lv_entry ([.ref h0]) (n := 3) (Nat.le_of_ble_eq_true rfl)
  rw [lg_entry_eq]
  generalize (lg_sl ([.ref h0]) ++ List.replicate (3 - (lg_sl ([.ref h0])).length) Slot.unset).toArray = ls at hl ⊢
  have hl : lv_has ls 3 [(0, .ref h0)] := hl
  refine lv_aload_n hx hb dX12_image_0 rfl (lv_at hl 0 rfl) ?_
  refine lv_iconst (v := 0) hx hb dX12_image_1 (by decide) ?_
  refine va_put (D := D) (ci := 12) (v := .int 0) (ty := .int) (C := RX12) (T := TX12) (N := 48) hx hb hT ix_12 tyX12 tyX12_ok nmX12 hown hK hP hD hS 0 rfl rfl 47 (by decide) (hT _ sw_1335) (fun _ h9 => h9) rfl (by decide +kernel) rfl rfl (Nat.le_of_ble_eq_true rfl) dX12_image_2 (fun H locs hP hD hS => ?_)
  have hP : va_P D vwCl [(h0, .inr (12, [.int 0, .int 0, .ref (a 0), .int 0, .int 0, .ref (a 1), .ref (a 2), .int 0, .ref (a 3), .ref (a 4), .int 0, .ref (a 5), .ref (a 6), .ref (a 7), .int 0, .ref (a 8), .int 0, .int (-1), .int 0, .int 0, .int 0, .int 0, .int (-1), .ref (a 9), .ref (a 10), .ref (a 11), .int 0, .ref (a 12), .ref (a 13), .ref (a 14), .ref (a 15), .int 0, .int 0, .int 0, .int 0, .int 0, .int 0, .int 0, .int 0, .ref (a 16), .ref (a 17), .ref (a 18), .ref (a 19), .int 0, .int 0, .int 1, .ref (a 20), .int 0])), ((a 10), .inl (cI, 3252, .inl g0)), ((a 20), .inl (cI, 130, .inl g1))] H := hP
  have hD : va_D A [(h0, .inr (12, [.int 0, .int 0, .ref (a 0), .int 0, .int 0, .ref (a 1), .ref (a 2), .int 0, .ref (a 3), .ref (a 4), .int 0, .ref (a 5), .ref (a 6), .ref (a 7), .int 0, .ref (a 8), .int 0, .int (-1), .int 0, .int 0, .int 0, .int 0, .int (-1), .ref (a 9), .ref (a 10), .ref (a 11), .int 0, .ref (a 12), .ref (a 13), .ref (a 14), .ref (a 15), .int 0, .int 0, .int 0, .int 0, .int 0, .int 0, .int 0, .int 0, .ref (a 16), .ref (a 17), .ref (a 18), .ref (a 19), .int 0, .int 0, .int 1, .ref (a 20), .int 0])), ((a 10), .inl (cI, 3252, .inl g0)), ((a 20), .inl (cI, 130, .inl g1))] := hD
  refine lv_aload_n hx hb dX12_image_5 rfl (lv_at hl 0 rfl) ?_
  refine lv_aload_n hx hb dX12_image_6 rfl (lv_at hl 0 rfl) ?_
  refine va_get (D := D) (ci := 12) (v := .ref (a 10)) (C := RX12) (T := TX12) (N := 48) hx hb hT ix_12 hown hK hP 0 rfl rfl 24 (by decide) (hT _ sw_1312) (fun _ h9 => h9) rfl dX12_image_7 ?_
  refine lv_iconst (v := 0) hx hb dX12_image_10 (by decide) ?_
  refine va_iald hx hb hK hP 1 0 rfl rfl (vi_c (by decide +kernel)) dX12_image_11 ?_
  refine lv_topi (fun v_1 _ => ?_)
  refine go_M (wc := [(h0, .inr (12, [.int 0, .int 0, .ref (a 0), .int 0, .int 0, .ref (a 1), .ref (a 2), .int 0, .ref (a 3), .ref (a 4), .int 0, .ref (a 5), .ref (a 6), .ref (a 7), .int 0, .ref (a 8), .int 0, .int (-1), .int 0, .int 0, .int 0, .int 0, .int (-1), .ref (a 9), .ref (a 10), .ref (a 11), .int 0, .ref (a 12), .ref (a 13), .ref (a 14), .ref (a 15), .int 0, .int 0, .int 0, .int 0, .int 0, .int 0, .int 0, .int 0, .ref (a 16), .ref (a 17), .ref (a 18), .ref (a 19), .int 0, .int 0, .int 1, .ref (a 20), .int 0])), ((a 20), .inl (cI, 130, .inl g1))]) (wr := [((a 10), .inl (cI, 3252, .inl g0))]) (w1 := fun u => [(h0, .inr (12, [.int 0, .int 0, .ref (a 0), .int 0, .int 0, .ref (a 1), .ref (a 2), .int 0, .ref (a 3), .ref (a 4), .int 0, .ref (a 5), .ref (a 6), .ref (a 7), .int 0, .ref (a 8), .int 0, .int (-1), .int 0, .int 0, .int 0, .int 0, .int (-1), .ref (a 9), .ref (a 10), .ref (a 11), .int 0, .ref (a 12), .ref (a 13), .ref (a 14), .ref (a 15), .int 0, .int 0, .int 0, .int 0, .int 0, .int 0, .int 0, .int 0, .ref (a 16), .ref (a 17), .ref (a 18), .ref (a 19), .int 0, .int 0, .int 1, .ref (a 20), .int 1])), ((a 20), .inl (cI, 130, .inl (u.2 0)))]) (v := none) (st1 := []) hP hD hS hA [0, 2] [1] rfl rfl (by decide) (by decide) (by decide) (fun hPc hDc => run_V (As := [.int v_1]) (rest := []) ⟨hx, hb, hml, hown, hT⟩ (kX12_says_0 l D cI h0 a v_1 g1 _) sw_1935 lkv_X12_says (p_M_V (ci := 12) (q0 := 0) hPc hK hDc rfl rfl) rfl hl.1 rfl (Nat.le_of_ble_eq_true rfl) dX12_image_12 ⟨⟨Nat.le_of_ble_eq_true rfl, Nat.le_of_ble_eq_true rfl⟩, Nat.le_of_ble_eq_true rfl, Nat.le_of_ble_eq_true rfl⟩) rfl (fun u_2 H locs hP hD hS => ?_)
  have hP : va_P D vwCl [((a 10), .inl (cI, 3252, .inl g0)), (h0, .inr (12, [.int 0, .int 0, .ref (a 0), .int 0, .int 0, .ref (a 1), .ref (a 2), .int 0, .ref (a 3), .ref (a 4), .int 0, .ref (a 5), .ref (a 6), .ref (a 7), .int 0, .ref (a 8), .int 0, .int (-1), .int 0, .int 0, .int 0, .int 0, .int (-1), .ref (a 9), .ref (a 10), .ref (a 11), .int 0, .ref (a 12), .ref (a 13), .ref (a 14), .ref (a 15), .int 0, .int 0, .int 0, .int 0, .int 0, .int 0, .int 0, .int 0, .ref (a 16), .ref (a 17), .ref (a 18), .ref (a 19), .int 0, .int 0, .int 1, .ref (a 20), .int 1])), ((a 20), .inl (cI, 130, .inl (u_2.2 0)))] H := hP
  have hD : va_D A [((a 10), .inl (cI, 3252, .inl g0)), (h0, .inr (12, [.int 0, .int 0, .ref (a 0), .int 0, .int 0, .ref (a 1), .ref (a 2), .int 0, .ref (a 3), .ref (a 4), .int 0, .ref (a 5), .ref (a 6), .ref (a 7), .int 0, .ref (a 8), .int 0, .int (-1), .int 0, .int 0, .int 0, .int 0, .int (-1), .ref (a 9), .ref (a 10), .ref (a 11), .int 0, .ref (a 12), .ref (a 13), .ref (a 14), .ref (a 15), .int 0, .int 0, .int 0, .int 0, .int 0, .int 0, .int 0, .int 0, .ref (a 16), .ref (a 17), .ref (a 18), .ref (a 19), .int 0, .int 0, .int 1, .ref (a 20), .int 1])), ((a 20), .inl (cI, 130, .inl (u_2.2 0)))] := hD
  refine lv_iconst (v := 0) hx hb dX12_image_15 (by decide) ?_
  refine lv_istore_n (lv' := [(1, .int 0), (0, .ref h0)]) hx hb dX12_image_16 rfl hl (by decide) rfl (fun ls hl => ?_)
  refine lv_iload_n hx hb dX12_image_17 rfl (lv_at hl 0 rfl) ?_
  refine lv_aload_n hx hb dX12_image_18 rfl (lv_at hl 1 rfl) ?_
  refine va_get (D := D) (ci := 12) (v := .int 0) (C := RX12) (T := TX12) (N := 48) hx hb hT ix_12 hown hK hP 1 rfl rfl 1 (by decide) (hT _ sw_1289) (fun _ h9 => h9) rfl dX12_image_19 ?_
  refine lv_icmp_ge (tgt := 56) hx hb dX12_image_22 (by decide) (fun _ => ?_) (fun h9 => absurd (by decide) h9)
  refine lv_sipush (v := 179) hx hb dX12_image_56 (by decide) ?_
  refine lv_istore_n (lv' := [(1, .int 179), (0, .ref h0)]) hx hb dX12_image_59 rfl hl (by decide) rfl (fun ls hl => ?_)
  refine lv_iconst (v := 0) hx hb dX12_image_60 (by decide) ?_
  refine lv_istore_n (lv' := [(2, .int 0), (1, .int 179), (0, .ref h0)]) hx hb dX12_image_61 rfl hl (by decide) rfl (fun ls hl => ?_)
  refine lv_iload_n hx hb dX12_image_62 rfl (lv_at hl 0 rfl) ?_
  refine lv_aload_n hx hb dX12_image_63 rfl (lv_at hl 2 rfl) ?_
  refine va_get (D := D) (ci := 12) (v := .int 1) (C := RX12) (T := TX12) (N := 48) hx hb hT ix_12 hown hK hP 1 rfl rfl 47 (by decide) (hT _ sw_1335) (fun _ h9 => h9) rfl dX12_image_64 ?_
  refine lv_icmp_ge (tgt := 91) hx hb dX12_image_67 (by decide) (fun h9 => absurd h9 (by decide)) (fun _ => ?_)
  refine lv_iconst (v := 3) hx hb dX12_image_70 (by decide) ?_
  refine lv_iload_n hx hb dX12_image_71 rfl (lv_at hl 1 rfl) ?_
  refine lv_imul hx hb dX12_image_72 ?_
  refine ct_i (z := 537) (by decide) ?_
  refine lv_aload_n hx hb dX12_image_73 rfl (lv_at hl 2 rfl) ?_
  refine va_get (D := D) (ci := 12) (v := .ref (a 20)) (C := RX12) (T := TX12) (N := 48) hx hb hT ix_12 hown hK hP 1 rfl rfl 46 (by decide) (hT _ sw_1334) (fun _ h9 => h9) rfl dX12_image_74 ?_
  refine lv_iload_n hx hb dX12_image_77 rfl (lv_at hl 0 rfl) ?_
  refine va_iald hx hb hK hP 2 0 rfl rfl (vi_c (by decide +kernel)) dX12_image_78 ?_
  refine lv_topi (fun v_3 _ => ?_)
  refine lv_iadd hx hb dX12_image_79 ?_
  refine lv_topi (fun v_4 _ => ?_)
  refine lv_sipush (v := 251) hx hb dX12_image_80 (by decide) ?_
  refine lv_irem hx hb dX12_image_83 (by decide) ?_
  refine lv_topi (fun v_5 _ => ?_)
  refine lv_istore_n (lv' := [(1, .int v_5), (2, .int 0), (0, .ref h0)]) hx hb dX12_image_84 rfl hl (by decide) rfl (fun ls hl => ?_)
  refine lv_iinc (v := 1) (lv' := [(2, .int 1), (1, .int v_5), (0, .ref h0)]) hx hb dX12_image_85 hl (k := 1) rfl (by decide) (by decide) rfl (fun ls hl => ?_)
  refine lv_goto (tgt := 62) hx hb dX12_image_88 (by decide) ?_
  refine lv_iload_n hx hb dX12_image_62 rfl (lv_at hl 0 rfl) ?_
  refine lv_aload_n hx hb dX12_image_63 rfl (lv_at hl 2 rfl) ?_
  refine va_get (D := D) (ci := 12) (v := .int 1) (C := RX12) (T := TX12) (N := 48) hx hb hT ix_12 hown hK hP 1 rfl rfl 47 (by decide) (hT _ sw_1335) (fun _ h9 => h9) rfl dX12_image_64 ?_
  refine lv_icmp_ge (tgt := 91) hx hb dX12_image_67 (by decide) (fun _ => ?_) (fun h9 => absurd (by decide) h9)
  refine lv_aload_n hx hb dX12_image_91 rfl (lv_at hl 2 rfl) ?_
  refine lv_iload_n hx hb dX12_image_92 rfl (lv_at hl 1 rfl) ?_
  refine go_M (wc := [(h0, .inr (12, [.int 0, .int 0, .ref (a 0), .int 0, .int 0, .ref (a 1), .ref (a 2), .int 0, .ref (a 3), .ref (a 4), .int 0, .ref (a 5), .ref (a 6), .ref (a 7), .int 0, .ref (a 8), .int 0, .int (-1), .int 0, .int 0, .int 0, .int 0, .int (-1), .ref (a 9), .ref (a 10), .ref (a 11), .int 0, .ref (a 12), .ref (a 13), .ref (a 14), .ref (a 15), .int 0, .int 0, .int 0, .int 0, .int 0, .int 0, .int 0, .int 0, .ref (a 16), .ref (a 17), .ref (a 18), .ref (a 19), .int 0, .int 0, .int 1, .ref (a 20), .int 1])), ((a 20), .inl (cI, 130, .inl (u_2.2 0)))]) (wr := [((a 10), .inl (cI, 3252, .inl g0))]) (w1 := fun u => [(h0, .inr (12, [.int 0, .int 0, .ref (a 0), .int 0, .int 0, .ref (a 1), .ref (a 2), .int 0, .ref (a 3), .ref (a 4), .int 0, .ref (a 5), .ref (a 6), .ref (a 7), .int 0, .ref (a 8), .int 0, .int (-1), .int 0, .int 0, .int 0, .int 0, .int (-1), .ref (a 9), .ref (a 10), .ref (a 11), .int 0, .ref (a 12), .ref (a 13), .ref (a 14), .ref (a 15), .int 0, .int 0, .int 0, .int 0, .int 0, .int 0, .int 0, .int 0, .ref (a 16), .ref (a 17), .ref (a 18), .ref (a 19), .int 0, .int 0, .int 1, .ref (a 20), .int 2])), ((a 20), .inl (cI, 130, .inl (u.2 0)))]) (v := none) (st1 := []) hP hD hS hA [1, 2] [0] rfl rfl (by decide) (by decide) (by decide) (fun hPc hDc => run_V (As := [.int v_5]) (rest := []) ⟨hx, hb, hml, hown, hT⟩ (kX12_says_1 l D cI h0 a v_5 (u_2.2 0) _) sw_1935 lkv_X12_says (p_M_V (ci := 12) (q0 := 0) hPc hK hDc rfl rfl) rfl hl.1 rfl (Nat.le_of_ble_eq_true rfl) dX12_image_93 ⟨⟨Nat.le_of_ble_eq_true rfl, Nat.le_of_ble_eq_true rfl⟩, Nat.le_of_ble_eq_true rfl, Nat.le_of_ble_eq_true rfl⟩) rfl (fun u_6 H locs hP hD hS => ?_)
  have hP : va_P D vwCl [((a 10), .inl (cI, 3252, .inl g0)), (h0, .inr (12, [.int 0, .int 0, .ref (a 0), .int 0, .int 0, .ref (a 1), .ref (a 2), .int 0, .ref (a 3), .ref (a 4), .int 0, .ref (a 5), .ref (a 6), .ref (a 7), .int 0, .ref (a 8), .int 0, .int (-1), .int 0, .int 0, .int 0, .int 0, .int (-1), .ref (a 9), .ref (a 10), .ref (a 11), .int 0, .ref (a 12), .ref (a 13), .ref (a 14), .ref (a 15), .int 0, .int 0, .int 0, .int 0, .int 0, .int 0, .int 0, .int 0, .ref (a 16), .ref (a 17), .ref (a 18), .ref (a 19), .int 0, .int 0, .int 1, .ref (a 20), .int 2])), ((a 20), .inl (cI, 130, .inl (u_6.2 0)))] H := hP
  have hD : va_D A [((a 10), .inl (cI, 3252, .inl g0)), (h0, .inr (12, [.int 0, .int 0, .ref (a 0), .int 0, .int 0, .ref (a 1), .ref (a 2), .int 0, .ref (a 3), .ref (a 4), .int 0, .ref (a 5), .ref (a 6), .ref (a 7), .int 0, .ref (a 8), .int 0, .int (-1), .int 0, .int 0, .int 0, .int 0, .int (-1), .ref (a 9), .ref (a 10), .ref (a 11), .int 0, .ref (a 12), .ref (a 13), .ref (a 14), .ref (a 15), .int 0, .int 0, .int 0, .int 0, .int 0, .int 0, .int 0, .int 0, .ref (a 16), .ref (a 17), .ref (a 18), .ref (a 19), .int 0, .int 0, .int 1, .ref (a 20), .int 2])), ((a 20), .inl (cI, 130, .inl (u_6.2 0)))] := hD
  refine lv_aload_n hx hb dX12_image_96 rfl (lv_at hl 2 rfl) ?_
  refine va_get (D := D) (ci := 12) (v := .int 2) (C := RX12) (T := TX12) (N := 48) hx hb hT ix_12 hown hK hP 1 rfl rfl 47 (by decide) (hT _ sw_1335) (fun _ h9 => h9) rfl dX12_image_97 ?_
  have hP9 := hP.sub (ws' := []) [] rfl
  have hD9 := hD.sub (ws' := []) [] (by decide) rfl
  exact W.iret (v := 2) hx hb hr (fun t ht _ => ⟨rfl, ⟨(fun k => [].getD k 0, fun k => [].getD k zI), by rw [ht]; exact hP9, hD9⟩, hS.F ht⟩) hS.2.2 dX12_image_100
set_option maxHeartbeats 4000000 in
set_option maxRecDepth 100000 in
theorem kX12_octet_0 (l : Launch) (D : va_G) (cI : ClassId) (h0 : Nat) (a : Nat → Nat) (p0 : Int32) : Met l yX12_octet (sw_ws yX12_octet cX12_octet 2 (some .int)) (rm_ 1 22 0 0) (p_R D vwCl [(cI, .int)] [.ref h0, .int p0] [(h0, .inr (12, [.int 0, .int 0, .ref (a 0), .int 0, .int 0, .ref (a 1), .ref (a 2), .int 0, .ref (a 3), .ref (a 4), .int 0, .ref (a 5), .ref (a 6), .ref (a 7), .int 0, .ref (a 8), .int 0, .int (-1), .int 0, .int 0, .int 0, .int 0, .int (-1), .ref (a 9), .ref (a 10), .ref (a 11), .int 0, .ref (a 12), .ref (a 13), .ref (a 14), .ref (a 15), .int 0, .int 0, .int 0, .int 0, .int 0, .int 0, .int 0, .int 0, .ref (a 16), .ref (a 17), .ref (a 18), .ref (a 19), .int 0, .int 0, .int 1, .ref (a 20), .int 0]))]) (q_R (some (.int (-1)))) 0 0 (fun _ => False) := by
  refine Met.ofW (cc := cX12_octet) (maxL := 2) (ret := (some .int)) (by decide) rfl ?_
  intro p e s m args below meth c s₁ B hml hv
  obtain ⟨rfl, hP, hK⟩ := hv
  have hx := B.exec
  have hb := B.bytes
  have hr := B.returns
  have hT := sw_in (atoms_spec (ws := sw_ws yX12_octet cX12_octet 2 (some .int)) B.pre)
  have hown : s.vm.findClass RX12 = some m.cls := findClass_of_methodNamed B.named
  have hlocks := B.notSynchronized
  have hl := lv_entry ([.ref h0, .int p0]) (n := 2) (Nat.le_of_ble_eq_true rfl)
  rw [lg_entry_eq]
  generalize (lg_sl ([.ref h0, .int p0]) ++ List.replicate (2 - (lg_sl ([.ref h0, .int p0])).length) Slot.unset).toArray = ls at hl ⊢
  have hl : lv_has ls 2 [(0, .ref h0), (1, .int p0)] := hl
  refine lv_iload_n hx hb dX12_octet_0 rfl (lv_at hl 1 rfl) ?_
  refine lv_iconst (v := 0) hx hb dX12_octet_1 (by decide) ?_
  refine lv_aload_n hx hb dX12_octet_2 rfl (lv_at hl 0 rfl) ?_
  refine va_get (D := D) (ci := 12) (v := .int 0) (C := RX12) (T := TX12) (N := 48) hx hb hT ix_12 hown hK hP 0 rfl rfl 47 (by decide) (hT _ sw_1335) (fun _ h9 => h9) rfl dX12_octet_3 ?_
  refine lv_iconst (v := 1) hx hb dX12_octet_6 (by decide) ?_
  refine lv_isub hx hb dX12_octet_7 ?_
  refine ct_i (z := (-1)) (by decide) ?_
  refine go_R (v := some (.int sp_isIn p0 0 (-1))) (st1 := [.int sp_isIn p0 0 (-1)]) (run_S (As := [.int p0, .int 0, .int (-1)]) (rest := []) ⟨hx, hb, hml, hown, hT⟩ (kX12_isIn_0 l D cI h0 a p0 0 (-1)) sw_1506 lks_X12_isIn (p_R_S (hP.sub (ws' := []) [] rfl) hK) rfl hl.1 rfl (Nat.le_of_ble_eq_true rfl) dX12_octet_8 ⟨⟨Nat.le_of_ble_eq_true rfl, Nat.le_of_ble_eq_true rfl⟩, Nat.le_of_ble_eq_true rfl, Nat.le_of_ble_eq_true rfl⟩) rfl ?_
  refine ct_i (z := 0) (sp_isIn_e (by decide)) ?_
  refine lv_if_eq (tgt := 23) hx hb dX12_octet_11 (by decide) (fun _ => ?_) (fun h9 => absurd (by decide) h9)
  refine lv_iconst (v := (-1)) hx hb dX12_octet_23 (by decide) ?_
  exact W.iret (v := (-1)) hx hb hr (fun t ht _ => ⟨rfl, ht⟩) (fun _ h9 => nomatch h9) dX12_octet_24
set_option maxHeartbeats 4000000 in
set_option maxRecDepth 100000 in
theorem kX12_isImage_0 (l : Launch) (D : va_G) (cI : ClassId) (h0 : Nat) (a : Nat → Nat) : Met l yX12_isImage (sw_ws yX12_isImage cX12_isImage 5 (some .boolean)) (rm_ 0 0 0 0) (p_R D vwCl [(cI, .int)] [.ref h0, .int 0] [(h0, .inr (12, [.int 0, .int 0, .ref (a 0), .int 0, .int 0, .ref (a 1), .ref (a 2), .int 0, .ref (a 3), .ref (a 4), .int 0, .ref (a 5), .ref (a 6), .ref (a 7), .int 0, .ref (a 8), .int 0, .int (-1), .int 0, .int 0, .int 0, .int 0, .int (-1), .ref (a 9), .ref (a 10), .ref (a 11), .int 0, .ref (a 12), .ref (a 13), .ref (a 14), .ref (a 15), .int 0, .int 0, .int 0, .int 0, .int 0, .int 0, .int 0, .int 0, .ref (a 16), .ref (a 17), .ref (a 18), .ref (a 19), .int 0, .int 0, .int 1, .ref (a 20), .int 0]))]) (q_R (some (.int 0))) 0 0 (fun _ => False) := by
  refine Met.ofW (cc := cX12_isImage) (maxL := 5) (ret := (some .boolean)) (by decide) rfl ?_
  intro p e s m args below meth c s₁ B hml hv
  obtain ⟨rfl, hP, hK⟩ := hv
  have hx := B.exec
  have hb := B.bytes
  have hr := B.returns
  have hT := sw_in (atoms_spec (ws := sw_ws yX12_isImage cX12_isImage 5 (some .boolean)) B.pre)
  have hown : s.vm.findClass RX12 = some m.cls := findClass_of_methodNamed B.named
  have hlocks := B.notSynchronized
  have hl := lv_entry ([.ref h0, .int 0]) (n := 5) (Nat.le_of_ble_eq_true rfl)
  rw [lg_entry_eq]
  generalize (lg_sl ([.ref h0, .int 0]) ++ List.replicate (5 - (lg_sl ([.ref h0, .int 0])).length) Slot.unset).toArray = ls at hl ⊢
  have hl : lv_has ls 5 [(0, .ref h0), (1, .int 0)] := hl
  refine lv_aload_n hx hb dX12_isImage_0 rfl (lv_at hl 0 rfl) ?_
  refine va_get (D := D) (ci := 12) (v := .int 0) (C := RX12) (T := TX12) (N := 48) hx hb hT ix_12 hown hK hP 0 rfl rfl 0 (by decide) (hT _ sw_1288) (fun _ h9 => h9) rfl dX12_isImage_1 ?_
  refine lv_if_eq (tgt := 20) hx hb dX12_isImage_4 (by decide) (fun _ => ?_) (fun h9 => absurd (by decide) h9)
  refine lv_iconst (v := 0) hx hb dX12_isImage_20 (by decide) ?_
  exact W.zret (v := 0) hx hb hr (by decide) (fun t ht _ => ⟨rfl, ht⟩) (fun _ h9 => nomatch h9) dX12_isImage_21
set_option maxHeartbeats 4000000 in
set_option maxRecDepth 100000 in
theorem kX12_isRefused_4 (l : Launch) (D : va_G) (cI : ClassId) (h0 : Nat) (a : Nat → Nat) (g0 : Nat → Int32) (sz : Nat) : Met l yX12_isRefused (sw_ws yX12_isRefused cX12_isRefused 2 (some .boolean)) (rm_ 0 0 0 0) (p_M D vwCl [(cI, .int)] [.ref h0, .int 5] [((a 8), .inl (cI, 6, .inl g0)), (h0, .inr (12, [.int 0, .int 0, .ref (a 0), .int 0, .int 0, .ref (a 1), .ref (a 2), .int 0, .ref (a 3), .ref (a 4), .int 0, .ref (a 5), .ref (a 6), .ref (a 7), .int 0, .ref (a 8), .int 0, .int (-1), .int 0, .int 0, .int 0, .int 0, .int (-1), .ref (a 9), .ref (a 10), .ref (a 11), .int 0, .ref (a 12), .ref (a 13), .ref (a 14), .ref (a 15), .int 0, .int 0, .int 0, .int 0, .int 0, .int 0, .int 0, .int 0, .ref (a 16), .ref (a 17), .ref (a 18), .ref (a 19), .int 0, .int 0, .int 1, .ref (a 20), .int 0]))] sz) (q_M D vwCl (some (.int 0)) (fun u => [((a 8), .inl (cI, 6, .inl (u.2 0))), (h0, .inr (12, [.int 0, .int 0, .ref (a 0), .int 0, .int 0, .ref (a 1), .ref (a 2), .int 0, .ref (a 3), .ref (a 4), .int 0, .ref (a 5), .ref (a 6), .ref (a 7), .int 0, .ref (a 8), .int 0, .int (-1), .int 0, .int 0, .int 0, .int 0, .int (-1), .ref (a 9), .ref (a 10), .ref (a 11), .int 0, .ref (a 12), .ref (a 13), .ref (a 14), .ref (a 15), .int 0, .int 0, .int 0, .int 0, .int 0, .int 0, .int 0, .int 0, .ref (a 16), .ref (a 17), .ref (a 18), .ref (a 19), .int 0, .int 0, .int 1, .ref (a 20), .int 0]))]) (va_A [((a 8), .inl (cI, 6, .inl g0)), (h0, .inr (12, [.int 0, .int 0, .ref (a 0), .int 0, .int 0, .ref (a 1), .ref (a 2), .int 0, .ref (a 3), .ref (a 4), .int 0, .ref (a 5), .ref (a 6), .ref (a 7), .int 0, .ref (a 8), .int 0, .int (-1), .int 0, .int 0, .int 0, .int 0, .int (-1), .ref (a 9), .ref (a 10), .ref (a 11), .int 0, .ref (a 12), .ref (a 13), .ref (a 14), .ref (a 15), .int 0, .int 0, .int 0, .int 0, .int 0, .int 0, .int 0, .int 0, .ref (a 16), .ref (a 17), .ref (a 18), .ref (a 19), .int 0, .int 0, .int 1, .ref (a 20), .int 0]))] sz)) 0 0 (va_A [((a 8), .inl (cI, 6, .inl g0)), (h0, .inr (12, [.int 0, .int 0, .ref (a 0), .int 0, .int 0, .ref (a 1), .ref (a 2), .int 0, .ref (a 3), .ref (a 4), .int 0, .ref (a 5), .ref (a 6), .ref (a 7), .int 0, .ref (a 8), .int 0, .int (-1), .int 0, .int 0, .int 0, .int 0, .int (-1), .ref (a 9), .ref (a 10), .ref (a 11), .int 0, .ref (a 12), .ref (a 13), .ref (a 14), .ref (a 15), .int 0, .int 0, .int 0, .int 0, .int 0, .int 0, .int 0, .int 0, .ref (a 16), .ref (a 17), .ref (a 18), .ref (a 19), .int 0, .int 0, .int 1, .ref (a 20), .int 0]))] sz) := by
  refine Met.ofW (cc := cX12_isRefused) (maxL := 2) (ret := (some .boolean)) (by decide) rfl ?_
  intro p e s m args below meth c s₁ B hml hv
  obtain ⟨rfl, hsz, hP, hK, hD0⟩ := hv
  have hx := B.exec
  have hb := B.bytes
  have hr := B.returns
  have hT := sw_in (atoms_spec (ws := sw_ws yX12_isRefused cX12_isRefused 2 (some .boolean)) B.pre)
  have hown : s.vm.findClass RX12 = some m.cls := findClass_of_methodNamed B.named
  have hlocks := B.notSynchronized
  subst hsz
  have hD := hD0.self (sz := s.heap.size)
  generalize hAe : va_A [((a 8), .inl (cI, 6, .inl g0)), (h0, .inr (12, [.int 0, .int 0, .ref (a 0), .int 0, .int 0, .ref (a 1), .ref (a 2), .int 0, .ref (a 3), .ref (a 4), .int 0, .ref (a 5), .ref (a 6), .ref (a 7), .int 0, .ref (a 8), .int 0, .int (-1), .int 0, .int 0, .int 0, .int 0, .int (-1), .ref (a 9), .ref (a 10), .ref (a 11), .int 0, .ref (a 12), .ref (a 13), .ref (a 14), .ref (a 15), .int 0, .int 0, .int 0, .int 0, .int 0, .int 0, .int 0, .int 0, .ref (a 16), .ref (a 17), .ref (a 18), .ref (a 19), .int 0, .int 0, .int 1, .ref (a 20), .int 0]))] s.heap.size = A at hD ⊢
  have hA : ∀ q : Nat, s.heap.size ≤ q → A q := fun q h => by rw [← hAe]; exact Or.inr h
  have hS : va_S A s.heap s.heap [] := va_S.rf
  have hl := lv_entry ([.ref h0, .int 5]) (n := 2) (Nat.le_of_ble_eq_true rfl)
  rw [lg_entry_eq]
  generalize (lg_sl ([.ref h0, .int 5]) ++ List.replicate (2 - (lg_sl ([.ref h0, .int 5])).length) Slot.unset).toArray = ls at hl ⊢
  have hl : lv_has ls 2 [(0, .ref h0), (1, .int 5)] := hl
  refine lv_aload_n hx hb dX12_isRefused_0 rfl (lv_at hl 0 rfl) ?_
  refine va_get (D := D) (ci := 12) (v := .ref (a 8)) (C := RX12) (T := TX12) (N := 48) hx hb hT ix_12 hown hK hP 1 rfl rfl 15 (by decide) (hT _ sw_1303) (fun _ h9 => h9) rfl dX12_isRefused_1 ?_
  refine lv_iload_n hx hb dX12_isRefused_4 rfl (lv_at hl 1 rfl) ?_
  refine lv_dup2_11 hx hb dX12_isRefused_5 rfl rfl ?_
  refine va_iald hx hb hK hP 0 0 rfl rfl (vi_c (by decide +kernel)) dX12_isRefused_6 ?_
  refine lv_topi (fun v_1 _ => ?_)
  refine lv_iconst (v := 1) hx hb dX12_isRefused_7 (by decide) ?_
  refine lv_iadd hx hb dX12_isRefused_8 ?_
  refine lv_topi (fun v_2 _ => ?_)
  refine va_iast hx hb hK hP hD hS 0 0 rfl rfl (vi_c (by decide +kernel)) dX12_isRefused_9 (fun H locs hP hD hS => ?_)
  obtain ⟨f_3, hP, hD⟩ : ∃ f_3 : Nat → Int32, va_P D vwCl [((a 8), .inl (cI, 6, .inl f_3)), (h0, .inr (12, [.int 0, .int 0, .ref (a 0), .int 0, .int 0, .ref (a 1), .ref (a 2), .int 0, .ref (a 3), .ref (a 4), .int 0, .ref (a 5), .ref (a 6), .ref (a 7), .int 0, .ref (a 8), .int 0, .int (-1), .int 0, .int 0, .int 0, .int 0, .int (-1), .ref (a 9), .ref (a 10), .ref (a 11), .int 0, .ref (a 12), .ref (a 13), .ref (a 14), .ref (a 15), .int 0, .int 0, .int 0, .int 0, .int 0, .int 0, .int 0, .int 0, .ref (a 16), .ref (a 17), .ref (a 18), .ref (a 19), .int 0, .int 0, .int 1, .ref (a 20), .int 0]))] H ∧ va_D A [((a 8), .inl (cI, 6, .inl f_3)), (h0, .inr (12, [.int 0, .int 0, .ref (a 0), .int 0, .int 0, .ref (a 1), .ref (a 2), .int 0, .ref (a 3), .ref (a 4), .int 0, .ref (a 5), .ref (a 6), .ref (a 7), .int 0, .ref (a 8), .int 0, .int (-1), .int 0, .int 0, .int 0, .int 0, .int (-1), .ref (a 9), .ref (a 10), .ref (a 11), .int 0, .ref (a 12), .ref (a 13), .ref (a 14), .ref (a 15), .int 0, .int 0, .int 0, .int 0, .int 0, .int 0, .int 0, .int 0, .ref (a 16), .ref (a 17), .ref (a 18), .ref (a 19), .int 0, .int 0, .int 1, .ref (a 20), .int 0]))] := ⟨_, hP, hD⟩
  refine lv_iconst (v := 0) hx hb dX12_isRefused_10 (by decide) ?_
  have hP9 := hP.sub (ws' := [((a 8), .inl (cI, 6, .inl f_3)), (h0, .inr (12, [.int 0, .int 0, .ref (a 0), .int 0, .int 0, .ref (a 1), .ref (a 2), .int 0, .ref (a 3), .ref (a 4), .int 0, .ref (a 5), .ref (a 6), .ref (a 7), .int 0, .ref (a 8), .int 0, .int (-1), .int 0, .int 0, .int 0, .int 0, .int (-1), .ref (a 9), .ref (a 10), .ref (a 11), .int 0, .ref (a 12), .ref (a 13), .ref (a 14), .ref (a 15), .int 0, .int 0, .int 0, .int 0, .int 0, .int 0, .int 0, .int 0, .ref (a 16), .ref (a 17), .ref (a 18), .ref (a 19), .int 0, .int 0, .int 1, .ref (a 20), .int 0]))]) [0, 1] rfl
  have hD9 := hD.sub (ws' := [((a 8), .inl (cI, 6, .inl f_3)), (h0, .inr (12, [.int 0, .int 0, .ref (a 0), .int 0, .int 0, .ref (a 1), .ref (a 2), .int 0, .ref (a 3), .ref (a 4), .int 0, .ref (a 5), .ref (a 6), .ref (a 7), .int 0, .ref (a 8), .int 0, .int (-1), .int 0, .int 0, .int 0, .int 0, .int (-1), .ref (a 9), .ref (a 10), .ref (a 11), .int 0, .ref (a 12), .ref (a 13), .ref (a 14), .ref (a 15), .int 0, .int 0, .int 0, .int 0, .int 0, .int 0, .int 0, .int 0, .ref (a 16), .ref (a 17), .ref (a 18), .ref (a 19), .int 0, .int 0, .int 1, .ref (a 20), .int 0]))]) [0, 1] (by decide) rfl
  exact W.zret (v := 0) hx hb hr (by decide) (fun t ht _ => ⟨rfl, ⟨(fun k => [].getD k 0, fun k => [f_3].getD k zI), by rw [ht]; exact hP9, hD9⟩, hS.F ht⟩) hS.2.2 dX12_isRefused_11
set_option maxHeartbeats 4000000 in
set_option maxRecDepth 100000 in
theorem kX12_on_0 (l : Launch) (D : va_G) (cI : ClassId) (h0 : Nat) (a : Nat → Nat) (g0 : Nat → Int32) (sz : Nat) : Met l yX12_on (sw_ws yX12_on cX12_on 3 (some .boolean)) (rm_ 1 24 0 0) (p_M D vwCl [(cI, .int)] [.ref h0] [(h0, .inr (12, [.int 0, .int 0, .ref (a 0), .int 0, .int 0, .ref (a 1), .ref (a 2), .int 0, .ref (a 3), .ref (a 4), .int 0, .ref (a 5), .ref (a 6), .ref (a 7), .int 0, .ref (a 8), .int 0, .int (-1), .int 0, .int 0, .int 0, .int 0, .int (-1), .ref (a 9), .ref (a 10), .ref (a 11), .int 0, .ref (a 12), .ref (a 13), .ref (a 14), .ref (a 15), .int 0, .int 0, .int 0, .int 0, .int 0, .int 0, .int 0, .int 0, .ref (a 16), .ref (a 17), .ref (a 18), .ref (a 19), .int 0, .int 0, .int 1, .ref (a 20), .int 0])), ((a 8), .inl (cI, 6, .inl g0))] sz) (q_M D vwCl (some (.int 0)) (fun u => []) (va_A [(h0, .inr (12, [.int 0, .int 0, .ref (a 0), .int 0, .int 0, .ref (a 1), .ref (a 2), .int 0, .ref (a 3), .ref (a 4), .int 0, .ref (a 5), .ref (a 6), .ref (a 7), .int 0, .ref (a 8), .int 0, .int (-1), .int 0, .int 0, .int 0, .int 0, .int (-1), .ref (a 9), .ref (a 10), .ref (a 11), .int 0, .ref (a 12), .ref (a 13), .ref (a 14), .ref (a 15), .int 0, .int 0, .int 0, .int 0, .int 0, .int 0, .int 0, .int 0, .ref (a 16), .ref (a 17), .ref (a 18), .ref (a 19), .int 0, .int 0, .int 1, .ref (a 20), .int 0])), ((a 8), .inl (cI, 6, .inl g0))] sz)) 0 0 (va_A [(h0, .inr (12, [.int 0, .int 0, .ref (a 0), .int 0, .int 0, .ref (a 1), .ref (a 2), .int 0, .ref (a 3), .ref (a 4), .int 0, .ref (a 5), .ref (a 6), .ref (a 7), .int 0, .ref (a 8), .int 0, .int (-1), .int 0, .int 0, .int 0, .int 0, .int (-1), .ref (a 9), .ref (a 10), .ref (a 11), .int 0, .ref (a 12), .ref (a 13), .ref (a 14), .ref (a 15), .int 0, .int 0, .int 0, .int 0, .int 0, .int 0, .int 0, .int 0, .ref (a 16), .ref (a 17), .ref (a 18), .ref (a 19), .int 0, .int 0, .int 1, .ref (a 20), .int 0])), ((a 8), .inl (cI, 6, .inl g0))] sz) := by
  refine Met.ofW (cc := cX12_on) (maxL := 3) (ret := (some .boolean)) (by decide) rfl ?_
  intro p e s m args below meth c s₁ B hml hv
  obtain ⟨rfl, hsz, hP, hK, hD0⟩ := hv
  have hx := B.exec
  have hb := B.bytes
  have hr := B.returns
  have hT := sw_in (atoms_spec (ws := sw_ws yX12_on cX12_on 3 (some .boolean)) B.pre)
  have hown : s.vm.findClass RX12 = some m.cls := findClass_of_methodNamed B.named
  have hlocks := B.notSynchronized
  subst hsz
  have hD := hD0.self (sz := s.heap.size)
  generalize hAe : va_A [(h0, .inr (12, [.int 0, .int 0, .ref (a 0), .int 0, .int 0, .ref (a 1), .ref (a 2), .int 0, .ref (a 3), .ref (a 4), .int 0, .ref (a 5), .ref (a 6), .ref (a 7), .int 0, .ref (a 8), .int 0, .int (-1), .int 0, .int 0, .int 0, .int 0, .int (-1), .ref (a 9), .ref (a 10), .ref (a 11), .int 0, .ref (a 12), .ref (a 13), .ref (a 14), .ref (a 15), .int 0, .int 0, .int 0, .int 0, .int 0, .int 0, .int 0, .int 0, .ref (a 16), .ref (a 17), .ref (a 18), .ref (a 19), .int 0, .int 0, .int 1, .ref (a 20), .int 0])), ((a 8), .inl (cI, 6, .inl g0))] s.heap.size = A at hD ⊢
  have hA : ∀ q : Nat, s.heap.size ≤ q → A q := fun q h => by rw [← hAe]; exact Or.inr h
  have hS : va_S A s.heap s.heap [] := va_S.rf
  have hl := lv_entry ([.ref h0]) (n := 3) (Nat.le_of_ble_eq_true rfl)
  rw [lg_entry_eq]
  generalize (lg_sl ([.ref h0]) ++ List.replicate (3 - (lg_sl ([.ref h0])).length) Slot.unset).toArray = ls at hl ⊢
  have hl : lv_has ls 3 [(0, .ref h0)] := hl
  refine lv_aload_n hx hb dX12_on_0 rfl (lv_at hl 0 rfl) ?_
  refine go_M (wc := [(h0, .inr (12, [.int 0, .int 0, .ref (a 0), .int 0, .int 0, .ref (a 1), .ref (a 2), .int 0, .ref (a 3), .ref (a 4), .int 0, .ref (a 5), .ref (a 6), .ref (a 7), .int 0, .ref (a 8), .int 0, .int (-1), .int 0, .int 0, .int 0, .int 0, .int (-1), .ref (a 9), .ref (a 10), .ref (a 11), .int 0, .ref (a 12), .ref (a 13), .ref (a 14), .ref (a 15), .int 0, .int 0, .int 0, .int 0, .int 0, .int 0, .int 0, .int 0, .ref (a 16), .ref (a 17), .ref (a 18), .ref (a 19), .int 0, .int 0, .int 1, .ref (a 20), .int 0]))]) (wr := [((a 8), .inl (cI, 6, .inl g0))]) (w1 := fun u => [(h0, .inr (12, [.int 0, .int 0, .ref (a 0), .int 0, .int 0, .ref (a 1), .ref (a 2), .int 0, .ref (a 3), .ref (a 4), .int 0, .ref (a 5), .ref (a 6), .ref (a 7), .int 0, .ref (a 8), .int 0, .int (-1), .int 0, .int 0, .int 0, .int 0, .int (-1), .ref (a 9), .ref (a 10), .ref (a 11), .int 0, .ref (a 12), .ref (a 13), .ref (a 14), .ref (a 15), .int 0, .int 0, .int 0, .int 0, .int 0, .int 0, .int 0, .int 0, .ref (a 16), .ref (a 17), .ref (a 18), .ref (a 19), .int 0, .int 0, .int 1, .ref (a 20), .int 0]))]) (v := some (.int 0)) (st1 := [.int 0]) hP hD hS hA [0] [1] rfl rfl (by decide) (by decide) (by decide) (fun hPc hDc => run_V (As := []) (rest := []) ⟨hx, hb, hml, hown, hT⟩ (kX12_taken_0 l D cI h0 a _) sw_1458 lkv_X12_taken (p_M_V (ci := 12) (q0 := 0) hPc hK hDc rfl rfl) rfl hl.1 rfl (Nat.le_of_ble_eq_true rfl) dX12_on_1 ⟨⟨Nat.le_of_ble_eq_true rfl, Nat.le_of_ble_eq_true rfl⟩, Nat.le_of_ble_eq_true rfl, Nat.le_of_ble_eq_true rfl⟩) rfl (fun u_1 H locs hP hD hS => ?_)
  have hP : va_P D vwCl [((a 8), .inl (cI, 6, .inl g0)), (h0, .inr (12, [.int 0, .int 0, .ref (a 0), .int 0, .int 0, .ref (a 1), .ref (a 2), .int 0, .ref (a 3), .ref (a 4), .int 0, .ref (a 5), .ref (a 6), .ref (a 7), .int 0, .ref (a 8), .int 0, .int (-1), .int 0, .int 0, .int 0, .int 0, .int (-1), .ref (a 9), .ref (a 10), .ref (a 11), .int 0, .ref (a 12), .ref (a 13), .ref (a 14), .ref (a 15), .int 0, .int 0, .int 0, .int 0, .int 0, .int 0, .int 0, .int 0, .ref (a 16), .ref (a 17), .ref (a 18), .ref (a 19), .int 0, .int 0, .int 1, .ref (a 20), .int 0]))] H := hP
  have hD : va_D A [((a 8), .inl (cI, 6, .inl g0)), (h0, .inr (12, [.int 0, .int 0, .ref (a 0), .int 0, .int 0, .ref (a 1), .ref (a 2), .int 0, .ref (a 3), .ref (a 4), .int 0, .ref (a 5), .ref (a 6), .ref (a 7), .int 0, .ref (a 8), .int 0, .int (-1), .int 0, .int 0, .int 0, .int 0, .int (-1), .ref (a 9), .ref (a 10), .ref (a 11), .int 0, .ref (a 12), .ref (a 13), .ref (a 14), .ref (a 15), .int 0, .int 0, .int 0, .int 0, .int 0, .int 0, .int 0, .int 0, .ref (a 16), .ref (a 17), .ref (a 18), .ref (a 19), .int 0, .int 0, .int 1, .ref (a 20), .int 0]))] := hD
  refine lv_istore_n (lv' := [(1, .int 0), (0, .ref h0)]) hx hb dX12_on_4 rfl hl (by decide) rfl (fun ls hl => ?_)
  refine lv_aload_n hx hb dX12_on_5 rfl (lv_at hl 1 rfl) ?_
  refine lv_iload_n hx hb dX12_on_6 rfl (lv_at hl 0 rfl) ?_
  refine go_R (v := some (.int 0)) (st1 := [.int 0]) (run_V (As := [.int 0]) (rest := []) ⟨hx, hb, hml, hown, hT⟩ (kX12_isImage_0 l D cI h0 a) sw_1951 lkv_X12_isImage (p_R_V (ci := 12) (q0 := 0) (hP.sub (ws' := [(h0, .inr (12, [.int 0, .int 0, .ref (a 0), .int 0, .int 0, .ref (a 1), .ref (a 2), .int 0, .ref (a 3), .ref (a 4), .int 0, .ref (a 5), .ref (a 6), .ref (a 7), .int 0, .ref (a 8), .int 0, .int (-1), .int 0, .int 0, .int 0, .int 0, .int (-1), .ref (a 9), .ref (a 10), .ref (a 11), .int 0, .ref (a 12), .ref (a 13), .ref (a 14), .ref (a 15), .int 0, .int 0, .int 0, .int 0, .int 0, .int 0, .int 0, .int 0, .ref (a 16), .ref (a 17), .ref (a 18), .ref (a 19), .int 0, .int 0, .int 1, .ref (a 20), .int 0]))]) [1] rfl) hK rfl rfl) rfl hl.1 rfl (Nat.le_of_ble_eq_true rfl) dX12_on_7 ⟨⟨Nat.le_of_ble_eq_true rfl, Nat.le_of_ble_eq_true rfl⟩, Nat.le_of_ble_eq_true rfl, Nat.le_of_ble_eq_true rfl⟩) rfl ?_
  refine lv_if_ne (tgt := 19) hx hb dX12_on_10 (by decide) (fun h9 => absurd h9 (by decide)) (fun _ => ?_)
  refine lv_aload_n hx hb dX12_on_13 rfl (lv_at hl 1 rfl) ?_
  refine lv_iconst (v := 5) hx hb dX12_on_14 (by decide) ?_
  refine go_M (wc := [((a 8), .inl (cI, 6, .inl g0)), (h0, .inr (12, [.int 0, .int 0, .ref (a 0), .int 0, .int 0, .ref (a 1), .ref (a 2), .int 0, .ref (a 3), .ref (a 4), .int 0, .ref (a 5), .ref (a 6), .ref (a 7), .int 0, .ref (a 8), .int 0, .int (-1), .int 0, .int 0, .int 0, .int 0, .int (-1), .ref (a 9), .ref (a 10), .ref (a 11), .int 0, .ref (a 12), .ref (a 13), .ref (a 14), .ref (a 15), .int 0, .int 0, .int 0, .int 0, .int 0, .int 0, .int 0, .int 0, .ref (a 16), .ref (a 17), .ref (a 18), .ref (a 19), .int 0, .int 0, .int 1, .ref (a 20), .int 0]))]) (wr := []) (w1 := fun u => [((a 8), .inl (cI, 6, .inl (u.2 0))), (h0, .inr (12, [.int 0, .int 0, .ref (a 0), .int 0, .int 0, .ref (a 1), .ref (a 2), .int 0, .ref (a 3), .ref (a 4), .int 0, .ref (a 5), .ref (a 6), .ref (a 7), .int 0, .ref (a 8), .int 0, .int (-1), .int 0, .int 0, .int 0, .int 0, .int (-1), .ref (a 9), .ref (a 10), .ref (a 11), .int 0, .ref (a 12), .ref (a 13), .ref (a 14), .ref (a 15), .int 0, .int 0, .int 0, .int 0, .int 0, .int 0, .int 0, .int 0, .ref (a 16), .ref (a 17), .ref (a 18), .ref (a 19), .int 0, .int 0, .int 1, .ref (a 20), .int 0]))]) (v := some (.int 0)) (st1 := [.int 0]) hP hD hS hA [0, 1] [] rfl rfl (by decide) (by decide) (by decide) (fun hPc hDc => run_V (As := [.int 5]) (rest := []) ⟨hx, hb, hml, hown, hT⟩ (kX12_isRefused_4 l D cI h0 a g0 _) sw_1450 lkv_X12_isRefused (p_M_V (ci := 12) (q0 := 1) hPc hK hDc rfl rfl) rfl hl.1 rfl (Nat.le_of_ble_eq_true rfl) dX12_on_15 ⟨⟨Nat.le_of_ble_eq_true rfl, Nat.le_of_ble_eq_true rfl⟩, Nat.le_of_ble_eq_true rfl, Nat.le_of_ble_eq_true rfl⟩) rfl (fun u_2 H locs hP hD hS => ?_)
  have hP : va_P D vwCl [((a 8), .inl (cI, 6, .inl (u_2.2 0))), (h0, .inr (12, [.int 0, .int 0, .ref (a 0), .int 0, .int 0, .ref (a 1), .ref (a 2), .int 0, .ref (a 3), .ref (a 4), .int 0, .ref (a 5), .ref (a 6), .ref (a 7), .int 0, .ref (a 8), .int 0, .int (-1), .int 0, .int 0, .int 0, .int 0, .int (-1), .ref (a 9), .ref (a 10), .ref (a 11), .int 0, .ref (a 12), .ref (a 13), .ref (a 14), .ref (a 15), .int 0, .int 0, .int 0, .int 0, .int 0, .int 0, .int 0, .int 0, .ref (a 16), .ref (a 17), .ref (a 18), .ref (a 19), .int 0, .int 0, .int 1, .ref (a 20), .int 0]))] H := hP
  have hD : va_D A [((a 8), .inl (cI, 6, .inl (u_2.2 0))), (h0, .inr (12, [.int 0, .int 0, .ref (a 0), .int 0, .int 0, .ref (a 1), .ref (a 2), .int 0, .ref (a 3), .ref (a 4), .int 0, .ref (a 5), .ref (a 6), .ref (a 7), .int 0, .ref (a 8), .int 0, .int (-1), .int 0, .int 0, .int 0, .int 0, .int (-1), .ref (a 9), .ref (a 10), .ref (a 11), .int 0, .ref (a 12), .ref (a 13), .ref (a 14), .ref (a 15), .int 0, .int 0, .int 0, .int 0, .int 0, .int 0, .int 0, .int 0, .ref (a 16), .ref (a 17), .ref (a 18), .ref (a 19), .int 0, .int 0, .int 1, .ref (a 20), .int 0]))] := hD
  have hP9 := hP.sub (ws' := []) [] rfl
  have hD9 := hD.sub (ws' := []) [] (by decide) rfl
  exact W.zret (v := 0) hx hb hr (by decide) (fun t ht _ => ⟨rfl, ⟨(fun k => [].getD k 0, fun k => [].getD k zI), by rw [ht]; exact hP9, hD9⟩, hS.F ht⟩) hS.2.2 dX12_on_18
set_option maxHeartbeats 4000000 in
set_option maxRecDepth 100000 in
theorem kX12_status_0 (l : Launch) (D : va_G) (cI : ClassId) (h0 : Nat) (a : Nat → Nat) (p0 : Int32) : Met l yX12_status (sw_ws yX12_status cX12_status 2 (some .int)) (rm_ 1 22 0 0) (p_R D vwCl [(cI, .int)] [.ref h0, .int p0] [(h0, .inr (12, [.int 0, .int 0, .ref (a 0), .int 0, .int 0, .ref (a 1), .ref (a 2), .int 0, .ref (a 3), .ref (a 4), .int 0, .ref (a 5), .ref (a 6), .ref (a 7), .int 0, .ref (a 8), .int 0, .int (-1), .int 0, .int 0, .int 0, .int 0, .int (-1), .ref (a 9), .ref (a 10), .ref (a 11), .int 0, .ref (a 12), .ref (a 13), .ref (a 14), .ref (a 15), .int 0, .int 0, .int 0, .int 0, .int 0, .int 0, .int 0, .int 0, .ref (a 16), .ref (a 17), .ref (a 18), .ref (a 19), .int 0, .int 0, .int 1, .ref (a 20), .int 0])), ((a 8), .inl (cI, 6, .inl zI))]) (q_R (some (.int sp_status p0))) 0 0 (fun _ => False) := by
  refine Met.ofW (cc := cX12_status) (maxL := 2) (ret := (some .int)) (by decide) rfl ?_
  intro p e s m args below meth c s₁ B hml hv
  obtain ⟨rfl, hP, hK⟩ := hv
  have hx := B.exec
  have hb := B.bytes
  have hr := B.returns
  have hT := sw_in (atoms_spec (ws := sw_ws yX12_status cX12_status 2 (some .int)) B.pre)
  have hown : s.vm.findClass RX12 = some m.cls := findClass_of_methodNamed B.named
  have hlocks := B.notSynchronized
  have hl := lv_entry ([.ref h0, .int p0]) (n := 2) (Nat.le_of_ble_eq_true rfl)
  rw [lg_entry_eq]
  generalize (lg_sl ([.ref h0, .int p0]) ++ List.replicate (2 - (lg_sl ([.ref h0, .int p0])).length) Slot.unset).toArray = ls at hl ⊢
  have hl : lv_has ls 2 [(0, .ref h0), (1, .int p0)] := hl
  refine lv_iload_n hx hb dX12_status_0 rfl (lv_at hl 1 rfl) ?_
  refine lv_iconst (v := 0) hx hb dX12_status_1 (by decide) ?_
  refine lv_iconst (v := 5) hx hb dX12_status_2 (by decide) ?_
  refine go_R (v := some (.int sp_isIn p0 0 5)) (st1 := [.int sp_isIn p0 0 5]) (run_S (As := [.int p0, .int 0, .int 5]) (rest := []) ⟨hx, hb, hml, hown, hT⟩ (kX12_isIn_0 l D cI h0 a p0 0 5) sw_1506 lks_X12_isIn (p_R_S (hP.sub (ws' := []) [] rfl) hK) rfl hl.1 rfl (Nat.le_of_ble_eq_true rfl) dX12_status_3 ⟨⟨Nat.le_of_ble_eq_true rfl, Nat.le_of_ble_eq_true rfl⟩, Nat.le_of_ble_eq_true rfl, Nat.le_of_ble_eq_true rfl⟩) rfl ?_
  rcases sp_isIn_or p0 0 5 with ⟨e_1, c_2, c_3⟩ | ⟨e_1, c_2⟩
  · refine ct_i (z := 1) e_1 ?_
    refine lv_if_eq (tgt := 18) hx hb dX12_status_6 (by decide) (fun h9 => absurd h9 (by decide)) (fun _ => ?_)
    refine lv_aload_n hx hb dX12_status_9 rfl (lv_at hl 0 rfl) ?_
    refine va_get (D := D) (ci := 12) (v := .ref (a 8)) (C := RX12) (T := TX12) (N := 48) hx hb hT ix_12 hown hK hP 0 rfl rfl 15 (by decide) (hT _ sw_1303) (fun _ h9 => h9) rfl dX12_status_10 ?_
    refine lv_iload_n hx hb dX12_status_13 rfl (lv_at hl 1 rfl) ?_
    refine va_iald hx hb hK hP 1 0 rfl rfl (pl_30 p0 c_2 c_3) dX12_status_14 ?_
    refine ct_i (z := 0) rfl ?_
    refine lv_goto (tgt := 19) hx hb dX12_status_15 (by decide) ?_
    refine ct_i (z := sp_status p0) (pl_31 p0 c_2 c_3) ?_
    exact W.iret (v := sp_status p0) hx hb hr (fun t ht _ => ⟨rfl, ht⟩) (fun _ h9 => nomatch h9) dX12_status_19
  · refine ct_i (z := 0) e_1 ?_
    refine lv_if_eq (tgt := 18) hx hb dX12_status_6 (by decide) (fun _ => ?_) (fun h9 => absurd (by decide) h9)
    refine lv_iconst (v := (-1)) hx hb dX12_status_18 (by decide) ?_
    refine ct_i (z := sp_status p0) (pl_32 p0 c_2) ?_
    exact W.iret (v := sp_status p0) hx hb hr (fun t ht _ => ⟨rfl, ht⟩) (fun _ h9 => nomatch h9) dX12_status_19
