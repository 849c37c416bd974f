set_option maxHeartbeats 4000000 in
set_option maxRecDepth 100000 in
theorem kX11_deny_1 (l : Launch) (D : va_G) (cI : ClassId) (h0 : Nat) (a : Nat → Nat) (g0 : Nat → Int32) (sz : Nat) : Met l yX11_deny (sw_ws yX11_deny cX11_deny 2 (some .boolean)) (rm_ 1 21 0 0) (p_M D vwCl [(cI, .int)] [.ref h0, .int 3] [(h0, .inr (11, (Value.ref (a 0) :: Value.ref (a 1) :: Value.ref (a 2) :: Value.ref (a 3) :: Value.ref (a 4) :: Value.ref (a 5) :: Value.ref (a 6) :: Value.ref (a 7) :: Value.ref (a 8) :: Value.ref (a 9) :: Value.ref (a 10) :: Value.ref (a 11) :: Value.ref (a 12) :: Value.ref (a 13) :: Value.ref (a 14) :: Value.int 0 :: Value.int 0 :: Value.int 0 :: []))), ((a 13), .inl (cI, 6, .inl g0))] sz) (q_M D vwCl (some (.int 0)) (fun u => [(h0, .inr (11, (Value.ref (a 0) :: Value.ref (a 1) :: Value.ref (a 2) :: Value.ref (a 3) :: Value.ref (a 4) :: Value.ref (a 5) :: Value.ref (a 6) :: Value.ref (a 7) :: Value.ref (a 8) :: Value.ref (a 9) :: Value.ref (a 10) :: Value.ref (a 11) :: Value.ref (a 12) :: Value.ref (a 13) :: Value.ref (a 14) :: Value.int 0 :: Value.int 0 :: Value.int 0 :: []))), ((a 13), .inl (cI, 6, .inl (u.2 0)))]) (va_A [(h0, .inr (11, (Value.ref (a 0) :: Value.ref (a 1) :: Value.ref (a 2) :: Value.ref (a 3) :: Value.ref (a 4) :: Value.ref (a 5) :: Value.ref (a 6) :: Value.ref (a 7) :: Value.ref (a 8) :: Value.ref (a 9) :: Value.ref (a 10) :: Value.ref (a 11) :: Value.ref (a 12) :: Value.ref (a 13) :: Value.ref (a 14) :: Value.int 0 :: Value.int 0 :: Value.int 0 :: []))), ((a 13), .inl (cI, 6, .inl g0))] sz)) 0 0 (va_A [(h0, .inr (11, (Value.ref (a 0) :: Value.ref (a 1) :: Value.ref (a 2) :: Value.ref (a 3) :: Value.ref (a 4) :: Value.ref (a 5) :: Value.ref (a 6) :: Value.ref (a 7) :: Value.ref (a 8) :: Value.ref (a 9) :: Value.ref (a 10) :: Value.ref (a 11) :: Value.ref (a 12) :: Value.ref (a 13) :: Value.ref (a 14) :: Value.int 0 :: Value.int 0 :: Value.int 0 :: []))), ((a 13), .inl (cI, 6, .inl g0))] sz) := by
  refine Met.ofW (cc := cX11_deny) (maxL := 2) (ret := (some .boolean)) (by decide) rfl ?_
  intro p e s m args below meth c s₁ B hml hv
  obtain ⟨rfl, hsz, hP, hK, hD0⟩ := hv
  have hx := B.exec
  have hb := B.bytes
  have hr := B.returns
  have hT := sw_in (atoms_spec (ws := sw_ws yX11_deny cX11_deny 2 (some .boolean)) B.pre)
  have hown : s.vm.findClass RX11 = some m.cls := findClass_of_methodNamed B.named
  have hlocks := B.notSynchronized
  subst hsz
  have hD := hD0.self (sz := s.heap.size)
  generalize hAe : va_A [(h0, .inr (11, (Value.ref (a 0) :: Value.ref (a 1) :: Value.ref (a 2) :: Value.ref (a 3) :: Value.ref (a 4) :: Value.ref (a 5) :: Value.ref (a 6) :: Value.ref (a 7) :: Value.ref (a 8) :: Value.ref (a 9) :: Value.ref (a 10) :: Value.ref (a 11) :: Value.ref (a 12) :: Value.ref (a 13) :: Value.ref (a 14) :: Value.int 0 :: Value.int 0 :: Value.int 0 :: []))), ((a 13), .inl (cI, 6, .inl g0))] s.heap.size = A at hD ⊢
  have hA : ∀ q : Nat, s.heap.size ≤ q → A q := fun q h => by rw [← hAe]; exact Or.inr h
  have hS : va_S A s.heap s.heap [] := va_S.rf
  have hl := lv_entry ([.ref h0, .int 3]) (n := 2) (Nat.le_of_ble_eq_true rfl)
  rw [lg_entry_eq]
  generalize (lg_sl ([.ref h0, .int 3]) ++ List.replicate (2 - (lg_sl ([.ref h0, .int 3])).length) Slot.unset).toArray = ls at hl ⊢
  have hl : lv_has ls 2 [(0, .ref h0), (1, .int 3)] := hl
  refine lv_aload_n hx hb dX11_deny_0 rfl (lv_at hl 0 rfl) ?_
  refine lv_iload_n hx hb dX11_deny_1 rfl (lv_at hl 1 rfl) ?_
  refine go_M (wc := [(h0, .inr (11, (Value.ref (a 0) :: Value.ref (a 1) :: Value.ref (a 2) :: Value.ref (a 3) :: Value.ref (a 4) :: Value.ref (a 5) :: Value.ref (a 6) :: Value.ref (a 7) :: Value.ref (a 8) :: Value.ref (a 9) :: Value.ref (a 10) :: Value.ref (a 11) :: Value.ref (a 12) :: Value.ref (a 13) :: Value.ref (a 14) :: Value.int 0 :: Value.int 0 :: Value.int 0 :: []))), ((a 13), .inl (cI, 6, .inl g0))]) (wr := []) (w1 := fun u => [(h0, .inr (11, (Value.ref (a 0) :: Value.ref (a 1) :: Value.ref (a 2) :: Value.ref (a 3) :: Value.ref (a 4) :: Value.ref (a 5) :: Value.ref (a 6) :: Value.ref (a 7) :: Value.ref (a 8) :: Value.ref (a 9) :: Value.ref (a 10) :: Value.ref (a 11) :: Value.ref (a 12) :: Value.ref (a 13) :: Value.ref (a 14) :: Value.int 0 :: Value.int 0 :: Value.int 0 :: []))), ((a 13), .inl (cI, 6, .inl (u.2 0)))]) (v := some (.int (-1))) (st1 := [.int (-1)]) hP hD hS hA [0, 1] [] rfl rfl (by decide) (by decide) (by decide) (fun hPc hDc => run_V (As := [.int 3]) (rest := []) ⟨hx, hb, hml, hown, hT⟩ (kX11_refuse_3 l D cI h0 a g0 _) sw_574 lkv_X11_refuse (p_M_V (ci := 11) (q0 := 0) hPc hK hDc rfl rfl) rfl hl.1 rfl (Nat.le_of_ble_eq_true rfl) dX11_deny_2 ⟨⟨Nat.le_of_ble_eq_true rfl, Nat.le_of_ble_eq_true rfl⟩, Nat.le_of_ble_eq_true rfl, Nat.le_of_ble_eq_true rfl⟩) rfl (fun u_1 H locs hP hD hS => ?_)
  have hP : va_P D vwCl [(h0, .inr (11, (Value.ref (a 0) :: Value.ref (a 1) :: Value.ref (a 2) :: Value.ref (a 3) :: Value.ref (a 4) :: Value.ref (a 5) :: Value.ref (a 6) :: Value.ref (a 7) :: Value.ref (a 8) :: Value.ref (a 9) :: Value.ref (a 10) :: Value.ref (a 11) :: Value.ref (a 12) :: Value.ref (a 13) :: Value.ref (a 14) :: Value.int 0 :: Value.int 0 :: Value.int 0 :: []))), ((a 13), .inl (cI, 6, .inl (u_1.2 0)))] H := hP
  have hD : va_D A [(h0, .inr (11, (Value.ref (a 0) :: Value.ref (a 1) :: Value.ref (a 2) :: Value.ref (a 3) :: Value.ref (a 4) :: Value.ref (a 5) :: Value.ref (a 6) :: Value.ref (a 7) :: Value.ref (a 8) :: Value.ref (a 9) :: Value.ref (a 10) :: Value.ref (a 11) :: Value.ref (a 12) :: Value.ref (a 13) :: Value.ref (a 14) :: Value.int 0 :: Value.int 0 :: Value.int 0 :: []))), ((a 13), .inl (cI, 6, .inl (u_1.2 0)))] := hD
  refine lv_pop hx hb dX11_deny_5 rfl ?_
  refine lv_iconst (v := 0) hx hb dX11_deny_6 (by decide) ?_
  have hP9 := hP.sub (ws' := [(h0, .inr (11, (Value.ref (a 0) :: Value.ref (a 1) :: Value.ref (a 2) :: Value.ref (a 3) :: Value.ref (a 4) :: Value.ref (a 5) :: Value.ref (a 6) :: Value.ref (a 7) :: Value.ref (a 8) :: Value.ref (a 9) :: Value.ref (a 10) :: Value.ref (a 11) :: Value.ref (a 12) :: Value.ref (a 13) :: Value.ref (a 14) :: Value.int 0 :: Value.int 0 :: Value.int 0 :: []))), ((a 13), .inl (cI, 6, .inl (u_1.2 0)))]) [0, 1] rfl
  have hD9 := hD.sub (ws' := [(h0, .inr (11, (Value.ref (a 0) :: Value.ref (a 1) :: Value.ref (a 2) :: Value.ref (a 3) :: Value.ref (a 4) :: Value.ref (a 5) :: Value.ref (a 6) :: Value.ref (a 7) :: Value.ref (a 8) :: Value.ref (a 9) :: Value.ref (a 10) :: Value.ref (a 11) :: Value.ref (a 12) :: Value.ref (a 13) :: Value.ref (a 14) :: Value.int 0 :: Value.int 0 :: Value.int 0 :: []))), ((a 13), .inl (cI, 6, .inl (u_1.2 0)))]) [0, 1] (by decide) rfl
  exact W.zret (v := 0) hx hb hr (by decide) (fun t ht _ => ⟨rfl, ⟨(fun k => [].getD k 0, fun k => [(u_1.2 0)].getD k zI), by rw [ht]; exact hP9, hD9⟩, hS.F ht⟩) hS.2.2 dX11_deny_7
set_option maxHeartbeats 4000000 in
set_option maxRecDepth 100000 in
theorem kX11_merge_0 (l : Launch) (D : va_G) (cI : ClassId) (h0 : Nat) (a : Nat → Nat) (p0 : Int32) (g0 : Nat → Int32) (sz : Nat) : Met l yX11_merge (sw_ws yX11_merge cX11_merge 2 (some .boolean)) (rm_ 2 42 0 0) (p_M D vwCl [(cI, .int)] [.ref h0, .int p0] [(h0, .inr (11, (Value.ref (a 0) :: Value.ref (a 1) :: Value.ref (a 2) :: Value.ref (a 3) :: Value.ref (a 4) :: Value.ref (a 5) :: Value.ref (a 6) :: Value.ref (a 7) :: Value.ref (a 8) :: Value.ref (a 9) :: Value.ref (a 10) :: Value.ref (a 11) :: Value.ref (a 12) :: Value.ref (a 13) :: Value.ref (a 14) :: Value.int 0 :: Value.int 0 :: Value.int 0 :: []))), ((a 1), .inr (3, [.ref (a 16), .ref (a 17), .ref (a 18), .ref (a 19), .int 0, .int 0, .int 0, .int 0])), ((a 13), .inl (cI, 6, .inl g0))] sz) (q_M D vwCl (some (.int 0)) (fun u => []) (va_A [(h0, .inr (11, (Value.ref (a 0) :: Value.ref (a 1) :: Value.ref (a 2) :: Value.ref (a 3) :: Value.ref (a 4) :: Value.ref (a 5) :: Value.ref (a 6) :: Value.ref (a 7) :: Value.ref (a 8) :: Value.ref (a 9) :: Value.ref (a 10) :: Value.ref (a 11) :: Value.ref (a 12) :: Value.ref (a 13) :: Value.ref (a 14) :: Value.int 0 :: Value.int 0 :: Value.int 0 :: []))), ((a 1), .inr (3, [.ref (a 16), .ref (a 17), .ref (a 18), .ref (a 19), .int 0, .int 0, .int 0, .int 0])), ((a 13), .inl (cI, 6, .inl g0))] sz)) 0 0 (va_A [(h0, .inr (11, (Value.ref (a 0) :: Value.ref (a 1) :: Value.ref (a 2) :: Value.ref (a 3) :: Value.ref (a 4) :: Value.ref (a 5) :: Value.ref (a 6) :: Value.ref (a 7) :: Value.ref (a 8) :: Value.ref (a 9) :: Value.ref (a 10) :: Value.ref (a 11) :: Value.ref (a 12) :: Value.ref (a 13) :: Value.ref (a 14) :: Value.int 0 :: Value.int 0 :: Value.int 0 :: []))), ((a 1), .inr (3, [.ref (a 16), .ref (a 17), .ref (a 18), .ref (a 19), .int 0, .int 0, .int 0, .int 0])), ((a 13), .inl (cI, 6, .inl g0))] sz) := by
  refine Met.ofW (cc := cX11_merge) (maxL := 2) (ret := (some .boolean)) (by decide) rfl ?_
  intro p e s m args below meth c s₁ B hml hv
  obtain ⟨rfl, hsz, hP, hK, hD0⟩ := hv
  have hx := B.exec
  have hb := B.bytes
  have hr := B.returns
  have hT := sw_in (atoms_spec (ws := sw_ws yX11_merge cX11_merge 2 (some .boolean)) B.pre)
  have hown : s.vm.findClass RX11 = some m.cls := findClass_of_methodNamed B.named
  have hlocks := B.notSynchronized
  subst hsz
  have hD := hD0.self (sz := s.heap.size)
  generalize hAe : va_A [(h0, .inr (11, (Value.ref (a 0) :: Value.ref (a 1) :: Value.ref (a 2) :: Value.ref (a 3) :: Value.ref (a 4) :: Value.ref (a 5) :: Value.ref (a 6) :: Value.ref (a 7) :: Value.ref (a 8) :: Value.ref (a 9) :: Value.ref (a 10) :: Value.ref (a 11) :: Value.ref (a 12) :: Value.ref (a 13) :: Value.ref (a 14) :: Value.int 0 :: Value.int 0 :: Value.int 0 :: []))), ((a 1), .inr (3, [.ref (a 16), .ref (a 17), .ref (a 18), .ref (a 19), .int 0, .int 0, .int 0, .int 0])), ((a 13), .inl (cI, 6, .inl g0))] s.heap.size = A at hD ⊢
  have hA : ∀ q : Nat, s.heap.size ≤ q → A q := fun q h => by rw [← hAe]; exact Or.inr h
  have hS : va_S A s.heap s.heap [] := va_S.rf
  have hl := lv_entry ([.ref h0, .int p0]) (n := 2) (Nat.le_of_ble_eq_true rfl)
  rw [lg_entry_eq]
  generalize (lg_sl ([.ref h0, .int p0]) ++ List.replicate (2 - (lg_sl ([.ref h0, .int p0])).length) Slot.unset).toArray = ls at hl ⊢
  have hl : lv_has ls 2 [(0, .ref h0), (1, .int p0)] := hl
  refine lv_aload_n hx hb dX11_merge_0 rfl (lv_at hl 0 rfl) ?_
  refine va_get (D := D) (ci := 11) (v := .ref (a 1)) (C := RX11) (T := TX11) (N := 18) hx hb hT ix_11 hown hK hP 0 rfl rfl 1 (by decide) (hT _ sw_516) (fun _ h9 => h9) rfl dX11_merge_1 ?_
  refine va_getN (D := D) (ci := 3) (v := .int 0) (C := RX3) (T := TX3) (N := 8) hx hb hT ix_3 hown hK hP 1 rfl rfl 4 (by decide) (hT _ sw_180) (fun _ h9 => h9) rfl dX11_merge_4 ?_
  refine lv_if_eq (tgt := 31) hx hb dX11_merge_7 (by decide) (fun _ => ?_) (fun h9 => absurd (by decide) h9)
  refine lv_aload_n hx hb dX11_merge_31 rfl (lv_at hl 0 rfl) ?_
  refine lv_iconst (v := 3) hx hb dX11_merge_32 (by decide) ?_
  refine go_M (wc := [(h0, .inr (11, (Value.ref (a 0) :: Value.ref (a 1) :: Value.ref (a 2) :: Value.ref (a 3) :: Value.ref (a 4) :: Value.ref (a 5) :: Value.ref (a 6) :: Value.ref (a 7) :: Value.ref (a 8) :: Value.ref (a 9) :: Value.ref (a 10) :: Value.ref (a 11) :: Value.ref (a 12) :: Value.ref (a 13) :: Value.ref (a 14) :: Value.int 0 :: Value.int 0 :: Value.int 0 :: []))), ((a 13), .inl (cI, 6, .inl g0))]) (wr := [((a 1), .inr (3, [.ref (a 16), .ref (a 17), .ref (a 18), .ref (a 19), .int 0, .int 0, .int 0, .int 0]))]) (w1 := fun u => [(h0, .inr (11, (Value.ref (a 0) :: Value.ref (a 1) :: Value.ref (a 2) :: Value.ref (a 3) :: Value.ref (a 4) :: Value.ref (a 5) :: Value.ref (a 6) :: Value.ref (a 7) :: Value.ref (a 8) :: Value.ref (a 9) :: Value.ref (a 10) :: Value.ref (a 11) :: Value.ref (a 12) :: Value.ref (a 13) :: Value.ref (a 14) :: Value.int 0 :: Value.int 0 :: Value.int 0 :: []))), ((a 13), .inl (cI, 6, .inl (u.2 0)))]) (v := some (.int 0)) (st1 := [.int 0]) hP hD hS hA [0, 2] [1] rfl rfl (by decide) (by decide) (by decide) (fun hPc hDc => run_V (As := [.int 3]) (rest := []) ⟨hx, hb, hml, hown, hT⟩ (kX11_deny_1 l D cI h0 a g0 _) sw_589 lkv_X11_deny (p_M_V (ci := 11) (q0 := 0) hPc hK hDc rfl rfl) rfl hl.1 rfl (Nat.le_of_ble_eq_true rfl) dX11_merge_33 ⟨⟨Nat.le_of_ble_eq_true rfl, Nat.le_of_ble_eq_true rfl⟩, Nat.le_of_ble_eq_true rfl, Nat.le_of_ble_eq_true rfl⟩) rfl (fun u_1 H locs hP hD hS => ?_)
  have hP : va_P D vwCl [((a 1), .inr (3, [.ref (a 16), .ref (a 17), .ref (a 18), .ref (a 19), .int 0, .int 0, .int 0, .int 0])), (h0, .inr (11, (Value.ref (a 0) :: Value.ref (a 1) :: Value.ref (a 2) :: Value.ref (a 3) :: Value.ref (a 4) :: Value.ref (a 5) :: Value.ref (a 6) :: Value.ref (a 7) :: Value.ref (a 8) :: Value.ref (a 9) :: Value.ref (a 10) :: Value.ref (a 11) :: Value.ref (a 12) :: Value.ref (a 13) :: Value.ref (a 14) :: Value.int 0 :: Value.int 0 :: Value.int 0 :: []))), ((a 13), .inl (cI, 6, .inl (u_1.2 0)))] H := hP
  have hD : va_D A [((a 1), .inr (3, [.ref (a 16), .ref (a 17), .ref (a 18), .ref (a 19), .int 0, .int 0, .int 0, .int 0])), (h0, .inr (11, (Value.ref (a 0) :: Value.ref (a 1) :: Value.ref (a 2) :: Value.ref (a 3) :: Value.ref (a 4) :: Value.ref (a 5) :: Value.ref (a 6) :: Value.ref (a 7) :: Value.ref (a 8) :: Value.ref (a 9) :: Value.ref (a 10) :: Value.ref (a 11) :: Value.ref (a 12) :: Value.ref (a 13) :: Value.ref (a 14) :: Value.int 0 :: Value.int 0 :: Value.int 0 :: []))), ((a 13), .inl (cI, 6, .inl (u_1.2 0)))] := hD
  have hP9 := hP.sub (ws' := []) [] rfl
  have hD9 := hD.sub (ws' := []) [] (by decide) rfl
  exact W.zret (v := 0) hx hb hr (by decide) (fun t ht _ => ⟨rfl, ⟨(fun k => [].getD k 0, fun k => [].getD k zI), by rw [ht]; exact hP9, hD9⟩, hS.F ht⟩) hS.2.2 dX11_merge_36
set_option maxHeartbeats 4000000 in
set_option maxRecDepth 100000 in
theorem kX11_merged_0 (l : Launch) (D : va_G) (cI : ClassId) (h0 : Nat) (a : Nat → Nat) (g0 : Nat → Int32) (sz : Nat) : Met l yX11_merged (sw_ws yX11_merged cX11_merged 1 (some .boolean)) (rm_ 2 42 0 0) (p_M D vwCl [(cI, .int)] [.ref h0] [(h0, .inr (11, (Value.ref (a 0) :: Value.ref (a 1) :: Value.ref (a 2) :: Value.ref (a 3) :: Value.ref (a 4) :: Value.ref (a 5) :: Value.ref (a 6) :: Value.ref (a 7) :: Value.ref (a 8) :: Value.ref (a 9) :: Value.ref (a 10) :: Value.ref (a 11) :: Value.ref (a 12) :: Value.ref (a 13) :: Value.ref (a 14) :: Value.int 0 :: Value.int 0 :: Value.int 0 :: []))), ((a 5), .inr (5, (Value.ref (a 30) :: Value.ref (a 31) :: Value.ref (a 32) :: Value.ref (a 33) :: Value.ref (a 34) :: Value.ref (a 35) :: Value.ref (a 36) :: Value.ref (a 37) :: Value.int 0 :: Value.int 0 :: Value.int 0 :: Value.int 0 :: Value.int 0 :: Value.int 0 :: Value.int 0 :: []))), ((a 13), .inl (cI, 6, .inl g0))] sz) (q_M D vwCl (some (.int 0)) (fun u => []) (va_A [(h0, .inr (11, (Value.ref (a 0) :: Value.ref (a 1) :: Value.ref (a 2) :: Value.ref (a 3) :: Value.ref (a 4) :: Value.ref (a 5) :: Value.ref (a 6) :: Value.ref (a 7) :: Value.ref (a 8) :: Value.ref (a 9) :: Value.ref (a 10) :: Value.ref (a 11) :: Value.ref (a 12) :: Value.ref (a 13) :: Value.ref (a 14) :: Value.int 0 :: Value.int 0 :: Value.int 0 :: []))), ((a 5), .inr (5, (Value.ref (a 30) :: Value.ref (a 31) :: Value.ref (a 32) :: Value.ref (a 33) :: Value.ref (a 34) :: Value.ref (a 35) :: Value.ref (a 36) :: Value.ref (a 37) :: Value.int 0 :: Value.int 0 :: Value.int 0 :: Value.int 0 :: Value.int 0 :: Value.int 0 :: Value.int 0 :: []))), ((a 13), .inl (cI, 6, .inl g0))] sz)) 0 0 (va_A [(h0, .inr (11, (Value.ref (a 0) :: Value.ref (a 1) :: Value.ref (a 2) :: Value.ref (a 3) :: Value.ref (a 4) :: Value.ref (a 5) :: Value.ref (a 6) :: Value.ref (a 7) :: Value.ref (a 8) :: Value.ref (a 9) :: Value.ref (a 10) :: Value.ref (a 11) :: Value.ref (a 12) :: Value.ref (a 13) :: Value.ref (a 14) :: Value.int 0 :: Value.int 0 :: Value.int 0 :: []))), ((a 5), .inr (5, (Value.ref (a 30) :: Value.ref (a 31) :: Value.ref (a 32) :: Value.ref (a 33) :: Value.ref (a 34) :: Value.ref (a 35) :: Value.ref (a 36) :: Value.ref (a 37) :: Value.int 0 :: Value.int 0 :: Value.int 0 :: Value.int 0 :: Value.int 0 :: Value.int 0 :: Value.int 0 :: []))), ((a 13), .inl (cI, 6, .inl g0))] sz) := by
  refine Met.ofW (cc := cX11_merged) (maxL := 1) (ret := (some .boolean)) (by decide) rfl ?_
  intro p e s m args below meth c s₁ B hml hv
  obtain ⟨rfl, hsz, hP, hK, hD0⟩ := hv
  have hx := B.exec
  have hb := B.bytes
  have hr := B.returns
  have hT := sw_in (atoms_spec (ws := sw_ws yX11_merged cX11_merged 1 (some .boolean)) B.pre)
  have hown : s.vm.findClass RX11 = some m.cls := findClass_of_methodNamed B.named
  have hlocks := B.notSynchronized
  subst hsz
  have hD := hD0.self (sz := s.heap.size)
  generalize hAe : va_A [(h0, .inr (11, (Value.ref (a 0) :: Value.ref (a 1) :: Value.ref (a 2) :: Value.ref (a 3) :: Value.ref (a 4) :: Value.ref (a 5) :: Value.ref (a 6) :: Value.ref (a 7) :: Value.ref (a 8) :: Value.ref (a 9) :: Value.ref (a 10) :: Value.ref (a 11) :: Value.ref (a 12) :: Value.ref (a 13) :: Value.ref (a 14) :: Value.int 0 :: Value.int 0 :: Value.int 0 :: []))), ((a 5), .inr (5, (Value.ref (a 30) :: Value.ref (a 31) :: Value.ref (a 32) :: Value.ref (a 33) :: Value.ref (a 34) :: Value.ref (a 35) :: Value.ref (a 36) :: Value.ref (a 37) :: Value.int 0 :: Value.int 0 :: Value.int 0 :: Value.int 0 :: Value.int 0 :: Value.int 0 :: Value.int 0 :: []))), ((a 13), .inl (cI, 6, .inl g0))] s.heap.size = A at hD ⊢
  have hA : ∀ q : Nat, s.heap.size ≤ q → A q := fun q h => by rw [← hAe]; exact Or.inr h
  have hS : va_S A s.heap s.heap [] := va_S.rf
  have hl := lv_entry ([.ref h0]) (n := 1) (Nat.le_of_ble_eq_true rfl)
  rw [lg_entry_eq]
  generalize (lg_sl ([.ref h0]) ++ List.replicate (1 - (lg_sl ([.ref h0])).length) Slot.unset).toArray = ls at hl ⊢
  have hl : lv_has ls 1 [(0, .ref h0)] := hl
  refine lv_aload_n hx hb dX11_merged_0 rfl (lv_at hl 0 rfl) ?_
  refine va_get (D := D) (ci := 11) (v := .ref (a 5)) (C := RX11) (T := TX11) (N := 18) hx hb hT ix_11 hown hK hP 0 rfl rfl 5 (by decide) (hT _ sw_520) (fun _ h9 => h9) rfl dX11_merged_1 ?_
  refine va_getN (D := D) (ci := 5) (v := .int 0) (C := RX5) (T := TX5) (N := 15) hx hb hT ix_5 hown hK hP 1 rfl rfl 13 (by decide) (hT _ sw_359) (fun _ h9 => h9) rfl dX11_merged_4 ?_
  refine lv_if_ne (tgt := 16) hx hb dX11_merged_7 (by decide) (fun h9 => absurd (by decide) h9) (fun _ => ?_)
  refine lv_aload_n hx hb dX11_merged_10 rfl (lv_at hl 0 rfl) ?_
  refine lv_iconst (v := 3) hx hb dX11_merged_11 (by decide) ?_
  refine go_M (wc := [(h0, .inr (11, (Value.ref (a 0) :: Value.ref (a 1) :: Value.ref (a 2) :: Value.ref (a 3) :: Value.ref (a 4) :: Value.ref (a 5) :: Value.ref (a 6) :: Value.ref (a 7) :: Value.ref (a 8) :: Value.ref (a 9) :: Value.ref (a 10) :: Value.ref (a 11) :: Value.ref (a 12) :: Value.ref (a 13) :: Value.ref (a 14) :: Value.int 0 :: Value.int 0 :: Value.int 0 :: []))), ((a 13), .inl (cI, 6, .inl g0))]) (wr := [((a 5), .inr (5, (Value.ref (a 30) :: Value.ref (a 31) :: Value.ref (a 32) :: Value.ref (a 33) :: Value.ref (a 34) :: Value.ref (a 35) :: Value.ref (a 36) :: Value.ref (a 37) :: Value.int 0 :: Value.int 0 :: Value.int 0 :: Value.int 0 :: Value.int 0 :: Value.int 0 :: Value.int 0 :: [])))]) (w1 := fun u => [(h0, .inr (11, (Value.ref (a 0) :: Value.ref (a 1) :: Value.ref (a 2) :: Value.ref (a 3) :: Value.ref (a 4) :: Value.ref (a 5) :: Value.ref (a 6) :: Value.ref (a 7) :: Value.ref (a 8) :: Value.ref (a 9) :: Value.ref (a 10) :: Value.ref (a 11) :: Value.ref (a 12) :: Value.ref (a 13) :: Value.ref (a 14) :: Value.int 0 :: Value.int 0 :: Value.int 0 :: []))), ((a 13), .inl (cI, 6, .inl (u.2 0)))]) (v := some (.int 0)) (st1 := [.int 0]) hP hD hS hA [0, 2] [1] rfl rfl (by decide) (by decide) (by decide) (fun hPc hDc => run_V (As := [.int 3]) (rest := []) ⟨hx, hb, hml, hown, hT⟩ (kX11_deny_1 l D cI h0 a g0 _) sw_589 lkv_X11_deny (p_M_V (ci := 11) (q0 := 0) hPc hK hDc rfl rfl) rfl hl.1 rfl (Nat.le_of_ble_eq_true rfl) dX11_merged_12 ⟨⟨Nat.le_of_ble_eq_true rfl, Nat.le_of_ble_eq_true rfl⟩, Nat.le_of_ble_eq_true rfl, Nat.le_of_ble_eq_true rfl⟩) rfl (fun u_1 H locs hP hD hS => ?_)
  have hP : va_P D vwCl [((a 5), .inr (5, (Value.ref (a 30) :: Value.ref (a 31) :: Value.ref (a 32) :: Value.ref (a 33) :: Value.ref (a 34) :: Value.ref (a 35) :: Value.ref (a 36) :: Value.ref (a 37) :: Value.int 0 :: Value.int 0 :: Value.int 0 :: Value.int 0 :: Value.int 0 :: Value.int 0 :: Value.int 0 :: []))), (h0, .inr (11, (Value.ref (a 0) :: Value.ref (a 1) :: Value.ref (a 2) :: Value.ref (a 3) :: Value.ref (a 4) :: Value.ref (a 5) :: Value.ref (a 6) :: Value.ref (a 7) :: Value.ref (a 8) :: Value.ref (a 9) :: Value.ref (a 10) :: Value.ref (a 11) :: Value.ref (a 12) :: Value.ref (a 13) :: Value.ref (a 14) :: Value.int 0 :: Value.int 0 :: Value.int 0 :: []))), ((a 13), .inl (cI, 6, .inl (u_1.2 0)))] H := hP
  have hD : va_D A [((a 5), .inr (5, (Value.ref (a 30) :: Value.ref (a 31) :: Value.ref (a 32) :: Value.ref (a 33) :: Value.ref (a 34) :: Value.ref (a 35) :: Value.ref (a 36) :: Value.ref (a 37) :: Value.int 0 :: Value.int 0 :: Value.int 0 :: Value.int 0 :: Value.int 0 :: Value.int 0 :: Value.int 0 :: []))), (h0, .inr (11, (Value.ref (a 0) :: Value.ref (a 1) :: Value.ref (a 2) :: Value.ref (a 3) :: Value.ref (a 4) :: Value.ref (a 5) :: Value.ref (a 6) :: Value.ref (a 7) :: Value.ref (a 8) :: Value.ref (a 9) :: Value.ref (a 10) :: Value.ref (a 11) :: Value.ref (a 12) :: Value.ref (a 13) :: Value.ref (a 14) :: Value.int 0 :: Value.int 0 :: Value.int 0 :: []))), ((a 13), .inl (cI, 6, .inl (u_1.2 0)))] := hD
  have hP9 := hP.sub (ws' := []) [] rfl
  have hD9 := hD.sub (ws' := []) [] (by decide) rfl
  exact W.zret (v := 0) hx hb hr (by decide) (fun t ht _ => ⟨rfl, ⟨(fun k => [].getD k 0, fun k => [].getD k zI), by rw [ht]; exact hP9, hD9⟩, hS.F ht⟩) hS.2.2 dX11_merged_15
set_option maxHeartbeats 4000000 in
set_option maxRecDepth 100000 in
theorem kX11_store_0 (l : Launch) (D : va_G) (cI : ClassId) (h0 : Nat) (a : Nat → Nat) (g0 : Nat → Int32) (sz : Nat) : Met l yX11_store (sw_ws yX11_store cX11_store 3 (some .int)) (rm_ 1 21 0 0) (p_M D vwCl [(cI, .int)] [.ref h0] [(h0, .inr (11, (Value.ref (a 0) :: Value.ref (a 1) :: Value.ref (a 2) :: Value.ref (a 3) :: Value.ref (a 4) :: Value.ref (a 5) :: Value.ref (a 6) :: Value.ref (a 7) :: Value.ref (a 8) :: Value.ref (a 9) :: Value.ref (a 10) :: Value.ref (a 11) :: Value.ref (a 12) :: Value.ref (a 13) :: Value.ref (a 14) :: Value.int 0 :: Value.int 0 :: Value.int 0 :: []))), ((a 0), .inr (9, [.ref (a 15), .int 0])), ((a 1), .inr (3, [.ref (a 16), .ref (a 17), .ref (a 18), .ref (a 19), .int 0, .int 0, .int 0, .int 0])), ((a 13), .inl (cI, 6, .inl g0))] sz) (q_M D vwCl (some (.int (-1))) (fun u => []) (va_A [(h0, .inr (11, (Value.ref (a 0) :: Value.ref (a 1) :: Value.ref (a 2) :: Value.ref (a 3) :: Value.ref (a 4) :: Value.ref (a 5) :: Value.ref (a 6) :: Value.ref (a 7) :: Value.ref (a 8) :: Value.ref (a 9) :: Value.ref (a 10) :: Value.ref (a 11) :: Value.ref (a 12) :: Value.ref (a 13) :: Value.ref (a 14) :: Value.int 0 :: Value.int 0 :: Value.int 0 :: []))), ((a 0), .inr (9, [.ref (a 15), .int 0])), ((a 1), .inr (3, [.ref (a 16), .ref (a 17), .ref (a 18), .ref (a 19), .int 0, .int 0, .int 0, .int 0])), ((a 13), .inl (cI, 6, .inl g0))] sz)) 0 0 (va_A [(h0, .inr (11, (Value.ref (a 0) :: Value.ref (a 1) :: Value.ref (a 2) :: Value.ref (a 3) :: Value.ref (a 4) :: Value.ref (a 5) :: Value.ref (a 6) :: Value.ref (a 7) :: Value.ref (a 8) :: Value.ref (a 9) :: Value.ref (a 10) :: Value.ref (a 11) :: Value.ref (a 12) :: Value.ref (a 13) :: Value.ref (a 14) :: Value.int 0 :: Value.int 0 :: Value.int 0 :: []))), ((a 0), .inr (9, [.ref (a 15), .int 0])), ((a 1), .inr (3, [.ref (a 16), .ref (a 17), .ref (a 18), .ref (a 19), .int 0, .int 0, .int 0, .int 0])), ((a 13), .inl (cI, 6, .inl g0))] sz) := by
  refine Met.ofW (cc := cX11_store) (maxL := 3) (ret := (some .int)) (by decide) rfl ?_
  intro p e s m args below meth c s₁ B hml hv
  obtain ⟨rfl, hsz, hP, hK, hD0⟩ := hv
  have hx := B.exec
  have hb := B.bytes
  have hr := B.returns
  have hT := sw_in (atoms_spec (ws := sw_ws yX11_store cX11_store 3 (some .int)) B.pre)
  have hown : s.vm.findClass RX11 = some m.cls := findClass_of_methodNamed B.named
  have hlocks := B.notSynchronized
  subst hsz
  have hD := hD0.self (sz := s.heap.size)
  generalize hAe : va_A [(h0, .inr (11, (Value.ref (a 0) :: Value.ref (a 1) :: Value.ref (a 2) :: Value.ref (a 3) :: Value.ref (a 4) :: Value.ref (a 5) :: Value.ref (a 6) :: Value.ref (a 7) :: Value.ref (a 8) :: Value.ref (a 9) :: Value.ref (a 10) :: Value.ref (a 11) :: Value.ref (a 12) :: Value.ref (a 13) :: Value.ref (a 14) :: Value.int 0 :: Value.int 0 :: Value.int 0 :: []))), ((a 0), .inr (9, [.ref (a 15), .int 0])), ((a 1), .inr (3, [.ref (a 16), .ref (a 17), .ref (a 18), .ref (a 19), .int 0, .int 0, .int 0, .int 0])), ((a 13), .inl (cI, 6, .inl g0))] s.heap.size = A at hD ⊢
  have hA : ∀ q : Nat, s.heap.size ≤ q → A q := fun q h => by rw [← hAe]; exact Or.inr h
  have hS : va_S A s.heap s.heap [] := va_S.rf
  have hl := lv_entry ([.ref h0]) (n := 3) (Nat.le_of_ble_eq_true rfl)
  rw [lg_entry_eq]
  generalize (lg_sl ([.ref h0]) ++ List.replicate (3 - (lg_sl ([.ref h0])).length) Slot.unset).toArray = ls at hl ⊢
  have hl : lv_has ls 3 [(0, .ref h0)] := hl
  refine lv_aload_n hx hb dX11_store_0 rfl (lv_at hl 0 rfl) ?_
  refine va_get (D := D) (ci := 11) (v := .ref (a 0)) (C := RX11) (T := TX11) (N := 18) hx hb hT ix_11 hown hK hP 0 rfl rfl 0 (by decide) (hT _ sw_515) (fun _ h9 => h9) rfl dX11_store_1 ?_
  refine va_getN (D := D) (ci := 9) (v := .int 0) (C := RX9) (T := TX9) (N := 2) hx hb hT ix_9 hown hK hP 1 rfl rfl 1 (by decide) (hT _ sw_157) (fun _ h9 => h9) rfl dX11_store_4 ?_
  refine lv_istore_n (lv' := [(1, .int 0), (0, .ref h0)]) hx hb dX11_store_7 rfl hl (by decide) rfl (fun ls hl => ?_)
  refine lv_aload_n hx hb dX11_store_8 rfl (lv_at hl 1 rfl) ?_
  refine va_get (D := D) (ci := 11) (v := .ref (a 0)) (C := RX11) (T := TX11) (N := 18) hx hb hT ix_11 hown hK hP 0 rfl rfl 0 (by decide) (hT _ sw_515) (fun _ h9 => h9) rfl dX11_store_9 ?_
  refine lv_iconst (v := 0) hx hb dX11_store_12 (by decide) ?_
  refine va_putN (D := D) (ci := 9) (v := .int 0) (ty := .int) (C := RX9) (T := TX9) (N := 2) hx hb hT ix_9 tyX9 tyX9_ok nmX9 hown hK hP hD hS 1 rfl rfl 1 (by decide) (hT _ sw_157) (fun _ h9 => h9) rfl (by decide +kernel) rfl rfl (Nat.le_of_ble_eq_true rfl) dX11_store_13 (fun H locs hP hD hS => ?_)
  have hP : va_P D vwCl [(h0, .inr (11, (Value.ref (a 0) :: Value.ref (a 1) :: Value.ref (a 2) :: Value.ref (a 3) :: Value.ref (a 4) :: Value.ref (a 5) :: Value.ref (a 6) :: Value.ref (a 7) :: Value.ref (a 8) :: Value.ref (a 9) :: Value.ref (a 10) :: Value.ref (a 11) :: Value.ref (a 12) :: Value.ref (a 13) :: Value.ref (a 14) :: Value.int 0 :: Value.int 0 :: Value.int 0 :: []))), ((a 0), .inr (9, [.ref (a 15), .int 0])), ((a 1), .inr (3, [.ref (a 16), .ref (a 17), .ref (a 18), .ref (a 19), .int 0, .int 0, .int 0, .int 0])), ((a 13), .inl (cI, 6, .inl g0))] H := hP
  have hD : va_D A [(h0, .inr (11, (Value.ref (a 0) :: Value.ref (a 1) :: Value.ref (a 2) :: Value.ref (a 3) :: Value.ref (a 4) :: Value.ref (a 5) :: Value.ref (a 6) :: Value.ref (a 7) :: Value.ref (a 8) :: Value.ref (a 9) :: Value.ref (a 10) :: Value.ref (a 11) :: Value.ref (a 12) :: Value.ref (a 13) :: Value.ref (a 14) :: Value.int 0 :: Value.int 0 :: Value.int 0 :: []))), ((a 0), .inr (9, [.ref (a 15), .int 0])), ((a 1), .inr (3, [.ref (a 16), .ref (a 17), .ref (a 18), .ref (a 19), .int 0, .int 0, .int 0, .int 0])), ((a 13), .inl (cI, 6, .inl g0))] := hD
  refine lv_aload_n hx hb dX11_store_16 rfl (lv_at hl 1 rfl) ?_
  refine va_get (D := D) (ci := 11) (v := .ref (a 1)) (C := RX11) (T := TX11) (N := 18) hx hb hT ix_11 hown hK hP 0 rfl rfl 1 (by decide) (hT _ sw_516) (fun _ h9 => h9) rfl dX11_store_17 ?_
  refine va_getN (D := D) (ci := 3) (v := .int 0) (C := RX3) (T := TX3) (N := 8) hx hb hT ix_3 hown hK hP 2 rfl rfl 4 (by decide) (hT _ sw_180) (fun _ h9 => h9) rfl dX11_store_20 ?_
  refine lv_if_eq (tgt := 56) hx hb dX11_store_23 (by decide) (fun _ => ?_) (fun h9 => absurd (by decide) h9)
  refine lv_aload_n hx hb dX11_store_56 rfl (lv_at hl 1 rfl) ?_
  refine lv_iconst (v := 3) hx hb dX11_store_57 (by decide) ?_
  refine go_M (wc := [(h0, .inr (11, (Value.ref (a 0) :: Value.ref (a 1) :: Value.ref (a 2) :: Value.ref (a 3) :: Value.ref (a 4) :: Value.ref (a 5) :: Value.ref (a 6) :: Value.ref (a 7) :: Value.ref (a 8) :: Value.ref (a 9) :: Value.ref (a 10) :: Value.ref (a 11) :: Value.ref (a 12) :: Value.ref (a 13) :: Value.ref (a 14) :: Value.int 0 :: Value.int 0 :: Value.int 0 :: []))), ((a 13), .inl (cI, 6, .inl g0))]) (wr := [((a 0), .inr (9, [.ref (a 15), .int 0])), ((a 1), .inr (3, [.ref (a 16), .ref (a 17), .ref (a 18), .ref (a 19), .int 0, .int 0, .int 0, .int 0]))]) (w1 := fun u => [(h0, .inr (11, (Value.ref (a 0) :: Value.ref (a 1) :: Value.ref (a 2) :: Value.ref (a 3) :: Value.ref (a 4) :: Value.ref (a 5) :: Value.ref (a 6) :: Value.ref (a 7) :: Value.ref (a 8) :: Value.ref (a 9) :: Value.ref (a 10) :: Value.ref (a 11) :: Value.ref (a 12) :: Value.ref (a 13) :: Value.ref (a 14) :: Value.int 0 :: Value.int 0 :: Value.int 0 :: []))), ((a 13), .inl (cI, 6, .inl (u.2 0)))]) (v := some (.int (-1))) (st1 := [.int (-1)]) hP hD hS hA [0, 3] [1, 2] rfl rfl (by decide) (by decide) (by decide) (fun hPc hDc => run_V (As := [.int 3]) (rest := []) ⟨hx, hb, hml, hown, hT⟩ (kX11_refuse_3 l D cI h0 a g0 _) sw_574 lkv_X11_refuse (p_M_V (ci := 11) (q0 := 0) hPc hK hDc rfl rfl) rfl hl.1 rfl (Nat.le_of_ble_eq_true rfl) dX11_store_58 ⟨⟨Nat.le_of_ble_eq_true rfl, Nat.le_of_ble_eq_true rfl⟩, Nat.le_of_ble_eq_true rfl, Nat.le_of_ble_eq_true rfl⟩) rfl (fun u_1 H locs hP hD hS => ?_)
  have hP : va_P D vwCl [((a 0), .inr (9, [.ref (a 15), .int 0])), ((a 1), .inr (3, [.ref (a 16), .ref (a 17), .ref (a 18), .ref (a 19), .int 0, .int 0, .int 0, .int 0])), (h0, .inr (11, (Value.ref (a 0) :: Value.ref (a 1) :: Value.ref (a 2) :: Value.ref (a 3) :: Value.ref (a 4) :: Value.ref (a 5) :: Value.ref (a 6) :: Value.ref (a 7) :: Value.ref (a 8) :: Value.ref (a 9) :: Value.ref (a 10) :: Value.ref (a 11) :: Value.ref (a 12) :: Value.ref (a 13) :: Value.ref (a 14) :: Value.int 0 :: Value.int 0 :: Value.int 0 :: []))), ((a 13), .inl (cI, 6, .inl (u_1.2 0)))] H := hP
  have hD : va_D A [((a 0), .inr (9, [.ref (a 15), .int 0])), ((a 1), .inr (3, [.ref (a 16), .ref (a 17), .ref (a 18), .ref (a 19), .int 0, .int 0, .int 0, .int 0])), (h0, .inr (11, (Value.ref (a 0) :: Value.ref (a 1) :: Value.ref (a 2) :: Value.ref (a 3) :: Value.ref (a 4) :: Value.ref (a 5) :: Value.ref (a 6) :: Value.ref (a 7) :: Value.ref (a 8) :: Value.ref (a 9) :: Value.ref (a 10) :: Value.ref (a 11) :: Value.ref (a 12) :: Value.ref (a 13) :: Value.ref (a 14) :: Value.int 0 :: Value.int 0 :: Value.int 0 :: []))), ((a 13), .inl (cI, 6, .inl (u_1.2 0)))] := hD
  have hP9 := hP.sub (ws' := []) [] rfl
  have hD9 := hD.sub (ws' := []) [] (by decide) rfl
  exact W.iret (v := (-1)) hx hb hr (fun t ht _ => ⟨rfl, ⟨(fun k => [].getD k 0, fun k => [].getD k zI), by rw [ht]; exact hP9, hD9⟩, hS.F ht⟩) hS.2.2 dX11_store_61
set_option maxHeartbeats 4000000 in
set_option maxRecDepth 100000 in
theorem kX11_refuse_4 (l : Launch) (D : va_G) (cI : ClassId) (h0 : Nat) (a : Nat → Nat) (g0 : Nat → Int32) (sz : Nat) : Met l yX11_refuse (sw_ws yX11_refuse cX11_refuse 2 (some .int)) (rm_ 0 0 0 0) (p_M D vwCl [(cI, .int)] [.ref h0, .int 2] [(h0, .inr (11, (Value.ref (a 0) :: Value.ref (a 1) :: Value.ref (a 2) :: Value.ref (a 3) :: Value.ref (a 4) :: Value.ref (a 5) :: Value.ref (a 6) :: Value.ref (a 7) :: Value.ref (a 8) :: Value.ref (a 9) :: Value.ref (a 10) :: Value.ref (a 11) :: Value.ref (a 12) :: Value.ref (a 13) :: Value.ref (a 14) :: Value.int 0 :: Value.int 0 :: Value.int 0 :: []))), ((a 13), .inl (cI, 6, .inl g0))] sz) (q_M D vwCl (some (.int (-1))) (fun u => [(h0, .inr (11, (Value.ref (a 0) :: Value.ref (a 1) :: Value.ref (a 2) :: Value.ref (a 3) :: Value.ref (a 4) :: Value.ref (a 5) :: Value.ref (a 6) :: Value.ref (a 7) :: Value.ref (a 8) :: Value.ref (a 9) :: Value.ref (a 10) :: Value.ref (a 11) :: Value.ref (a 12) :: Value.ref (a 13) :: Value.ref (a 14) :: Value.int 0 :: Value.int 0 :: Value.int 0 :: []))), ((a 13), .inl (cI, 6, .inl (u.2 0)))]) (va_A [(h0, .inr (11, (Value.ref (a 0) :: Value.ref (a 1) :: Value.ref (a 2) :: Value.ref (a 3) :: Value.ref (a 4) :: Value.ref (a 5) :: Value.ref (a 6) :: Value.ref (a 7) :: Value.ref (a 8) :: Value.ref (a 9) :: Value.ref (a 10) :: Value.ref (a 11) :: Value.ref (a 12) :: Value.ref (a 13) :: Value.ref (a 14) :: Value.int 0 :: Value.int 0 :: Value.int 0 :: []))), ((a 13), .inl (cI, 6, .inl g0))] sz)) 0 0 (va_A [(h0, .inr (11, (Value.ref (a 0) :: Value.ref (a 1) :: Value.ref (a 2) :: Value.ref (a 3) :: Value.ref (a 4) :: Value.ref (a 5) :: Value.ref (a 6) :: Value.ref (a 7) :: Value.ref (a 8) :: Value.ref (a 9) :: Value.ref (a 10) :: Value.ref (a 11) :: Value.ref (a 12) :: Value.ref (a 13) :: Value.ref (a 14) :: Value.int 0 :: Value.int 0 :: Value.int 0 :: []))), ((a 13), .inl (cI, 6, .inl g0))] sz) := by
  refine Met.ofW (cc := cX11_refuse) (maxL := 2) (ret := (some .int)) (by decide) rfl ?_
  intro p e s m args below meth c s₁ B hml hv
  obtain ⟨rfl, hsz, hP, hK, hD0⟩ := hv
  have hx := B.exec
  have hb := B.bytes
  have hr := B.returns
  have hT := sw_in (atoms_spec (ws := sw_ws yX11_refuse cX11_refuse 2 (some .int)) B.pre)
  have hown : s.vm.findClass RX11 = some m.cls := findClass_of_methodNamed B.named
  have hlocks := B.notSynchronized
  subst hsz
  have hD := hD0.self (sz := s.heap.size)
  generalize hAe : va_A [(h0, .inr (11, (Value.ref (a 0) :: Value.ref (a 1) :: Value.ref (a 2) :: Value.ref (a 3) :: Value.ref (a 4) :: Value.ref (a 5) :: Value.ref (a 6) :: Value.ref (a 7) :: Value.ref (a 8) :: Value.ref (a 9) :: Value.ref (a 10) :: Value.ref (a 11) :: Value.ref (a 12) :: Value.ref (a 13) :: Value.ref (a 14) :: Value.int 0 :: Value.int 0 :: Value.int 0 :: []))), ((a 13), .inl (cI, 6, .inl g0))] s.heap.size = A at hD ⊢
  have hA : ∀ q : Nat, s.heap.size ≤ q → A q := fun q h => by rw [← hAe]; exact Or.inr h
  have hS : va_S A s.heap s.heap [] := va_S.rf
  have hl := lv_entry ([.ref h0, .int 2]) (n := 2) (Nat.le_of_ble_eq_true rfl)
  rw [lg_entry_eq]
  generalize (lg_sl ([.ref h0, .int 2]) ++ List.replicate (2 - (lg_sl ([.ref h0, .int 2])).length) Slot.unset).toArray = ls at hl ⊢
  have hl : lv_has ls 2 [(0, .ref h0), (1, .int 2)] := hl
  refine lv_iload_n hx hb dX11_refuse_0 rfl (lv_at hl 1 rfl) ?_
  refine lv_if_lt (tgt := 23) hx hb dX11_refuse_1 (by decide) (fun h9 => absurd h9 (by decide)) (fun _ => ?_)
  refine lv_iload_n hx hb dX11_refuse_4 rfl (lv_at hl 1 rfl) ?_
  refine lv_aload_n hx hb dX11_refuse_5 rfl (lv_at hl 0 rfl) ?_
  refine va_get (D := D) (ci := 11) (v := .ref (a 13)) (C := RX11) (T := TX11) (N := 18) hx hb hT ix_11 hown hK hP 0 rfl rfl 13 (by decide) (hT _ sw_528) (fun _ h9 => h9) rfl dX11_refuse_6 ?_
  refine va_alen (v := 6) hx hb hK hP 1 0 rfl rfl (show Int32.ofNat 6 = 6 by decide) dX11_refuse_9 ?_
  refine lv_icmp_ge (tgt := 23) hx hb dX11_refuse_10 (by decide) (fun h9 => absurd h9 (by decide)) (fun _ => ?_)
  refine lv_aload_n hx hb dX11_refuse_13 rfl (lv_at hl 0 rfl) ?_
  refine va_get (D := D) (ci := 11) (v := .ref (a 13)) (C := RX11) (T := TX11) (N := 18) hx hb hT ix_11 hown hK hP 0 rfl rfl 13 (by decide) (hT _ sw_528) (fun _ h9 => h9) rfl dX11_refuse_14 ?_
  refine lv_iload_n hx hb dX11_refuse_17 rfl (lv_at hl 1 rfl) ?_
  refine lv_dup2_11 hx hb dX11_refuse_18 rfl rfl ?_
  refine va_iald hx hb hK hP 1 0 rfl rfl (vi_c (by decide +kernel)) dX11_refuse_19 ?_
  refine lv_topi (fun v_1 _ => ?_)
  refine lv_iconst (v := 1) hx hb dX11_refuse_20 (by decide) ?_
  refine lv_iadd hx hb dX11_refuse_21 ?_
  refine lv_topi (fun v_2 _ => ?_)
  refine va_iast hx hb hK hP hD hS 1 0 rfl rfl (vi_c (by decide +kernel)) dX11_refuse_22 (fun H locs hP hD hS => ?_)
  obtain ⟨f_3, hP, hD⟩ : ∃ f_3 : Nat → Int32, va_P D vwCl [(h0, .inr (11, (Value.ref (a 0) :: Value.ref (a 1) :: Value.ref (a 2) :: Value.ref (a 3) :: Value.ref (a 4) :: Value.ref (a 5) :: Value.ref (a 6) :: Value.ref (a 7) :: Value.ref (a 8) :: Value.ref (a 9) :: Value.ref (a 10) :: Value.ref (a 11) :: Value.ref (a 12) :: Value.ref (a 13) :: Value.ref (a 14) :: Value.int 0 :: Value.int 0 :: Value.int 0 :: []))), ((a 13), .inl (cI, 6, .inl f_3))] H ∧ va_D A [(h0, .inr (11, (Value.ref (a 0) :: Value.ref (a 1) :: Value.ref (a 2) :: Value.ref (a 3) :: Value.ref (a 4) :: Value.ref (a 5) :: Value.ref (a 6) :: Value.ref (a 7) :: Value.ref (a 8) :: Value.ref (a 9) :: Value.ref (a 10) :: Value.ref (a 11) :: Value.ref (a 12) :: Value.ref (a 13) :: Value.ref (a 14) :: Value.int 0 :: Value.int 0 :: Value.int 0 :: []))), ((a 13), .inl (cI, 6, .inl f_3))] := ⟨upd g0 (2 : Int32).toNatClampNeg v_2, hP, hD⟩
  refine lv_iconst (v := (-1)) hx hb dX11_refuse_23 (by decide) ?_
  have hP9 := hP.sub (ws' := [(h0, .inr (11, (Value.ref (a 0) :: Value.ref (a 1) :: Value.ref (a 2) :: Value.ref (a 3) :: Value.ref (a 4) :: Value.ref (a 5) :: Value.ref (a 6) :: Value.ref (a 7) :: Value.ref (a 8) :: Value.ref (a 9) :: Value.ref (a 10) :: Value.ref (a 11) :: Value.ref (a 12) :: Value.ref (a 13) :: Value.ref (a 14) :: Value.int 0 :: Value.int 0 :: Value.int 0 :: []))), ((a 13), .inl (cI, 6, .inl f_3))]) [0, 1] rfl
  have hD9 := hD.sub (ws' := [(h0, .inr (11, (Value.ref (a 0) :: Value.ref (a 1) :: Value.ref (a 2) :: Value.ref (a 3) :: Value.ref (a 4) :: Value.ref (a 5) :: Value.ref (a 6) :: Value.ref (a 7) :: Value.ref (a 8) :: Value.ref (a 9) :: Value.ref (a 10) :: Value.ref (a 11) :: Value.ref (a 12) :: Value.ref (a 13) :: Value.ref (a 14) :: Value.int 0 :: Value.int 0 :: Value.int 0 :: []))), ((a 13), .inl (cI, 6, .inl f_3))]) [0, 1] (by decide) rfl
  exact W.iret (v := (-1)) hx hb hr (fun t ht _ => ⟨rfl, ⟨(fun k => [].getD k 0, fun k => [f_3].getD k zI), by rw [ht]; exact hP9, hD9⟩, hS.F ht⟩) hS.2.2 dX11_refuse_24
set_option maxHeartbeats 4000000 in
set_option maxRecDepth 100000 in
theorem kX11_pick_0 (l : Launch) (D : va_G) (cI : ClassId) (h0 : Nat) (a : Nat → Nat) (p0 : Int32) (g0 : Nat → Int32) (sz : Nat) : Met l yX11_pick (sw_ws yX11_pick cX11_pick 3 (some .int)) (rm_ 1 21 0 0) (p_M D vwCl [(cI, .int)] [.ref h0, .int p0] [(h0, .inr (11, (Value.ref (a 0) :: Value.ref (a 1) :: Value.ref (a 2) :: Value.ref (a 3) :: Value.ref (a 4) :: Value.ref (a 5) :: Value.ref (a 6) :: Value.ref (a 7) :: Value.ref (a 8) :: Value.ref (a 9) :: Value.ref (a 10) :: Value.ref (a 11) :: Value.ref (a 12) :: Value.ref (a 13) :: Value.ref (a 14) :: Value.int 0 :: Value.int 0 :: Value.int 0 :: []))), ((a 5), .inr (5, (Value.ref (a 30) :: Value.ref (a 31) :: Value.ref (a 32) :: Value.ref (a 33) :: Value.ref (a 34) :: Value.ref (a 35) :: Value.ref (a 36) :: Value.ref (a 37) :: Value.int 0 :: Value.int 0 :: Value.int 0 :: Value.int 0 :: Value.int 0 :: Value.int 0 :: Value.int 0 :: []))), ((a 13), .inl (cI, 6, .inl g0))] sz) (q_M D vwCl (some (.int (-1))) (fun u => []) (va_A [(h0, .inr (11, (Value.ref (a 0) :: Value.ref (a 1) :: Value.ref (a 2) :: Value.ref (a 3) :: Value.ref (a 4) :: Value.ref (a 5) :: Value.ref (a 6) :: Value.ref (a 7) :: Value.ref (a 8) :: Value.ref (a 9) :: Value.ref (a 10) :: Value.ref (a 11) :: Value.ref (a 12) :: Value.ref (a 13) :: Value.ref (a 14) :: Value.int 0 :: Value.int 0 :: Value.int 0 :: []))), ((a 5), .inr (5, (Value.ref (a 30) :: Value.ref (a 31) :: Value.ref (a 32) :: Value.ref (a 33) :: Value.ref (a 34) :: Value.ref (a 35) :: Value.ref (a 36) :: Value.ref (a 37) :: Value.int 0 :: Value.int 0 :: Value.int 0 :: Value.int 0 :: Value.int 0 :: Value.int 0 :: Value.int 0 :: []))), ((a 13), .inl (cI, 6, .inl g0))] sz)) 0 0 (va_A [(h0, .inr (11, (Value.ref (a 0) :: Value.ref (a 1) :: Value.ref (a 2) :: Value.ref (a 3) :: Value.ref (a 4) :: Value.ref (a 5) :: Value.ref (a 6) :: Value.ref (a 7) :: Value.ref (a 8) :: Value.ref (a 9) :: Value.ref (a 10) :: Value.ref (a 11) :: Value.ref (a 12) :: Value.ref (a 13) :: Value.ref (a 14) :: Value.int 0 :: Value.int 0 :: Value.int 0 :: []))), ((a 5), .inr (5, (Value.ref (a 30) :: Value.ref (a 31) :: Value.ref (a 32) :: Value.ref (a 33) :: Value.ref (a 34) :: Value.ref (a 35) :: Value.ref (a 36) :: Value.ref (a 37) :: Value.int 0 :: Value.int 0 :: Value.int 0 :: Value.int 0 :: Value.int 0 :: Value.int 0 :: Value.int 0 :: []))), ((a 13), .inl (cI, 6, .inl g0))] sz) := by
  refine Met.ofW (cc := cX11_pick) (maxL := 3) (ret := (some .int)) (by decide) rfl ?_
  intro p e s m args below meth c s₁ B hml hv
  obtain ⟨rfl, hsz, hP, hK, hD0⟩ := hv
  have hx := B.exec
  have hb := B.bytes
  have hr := B.returns
  have hT := sw_in (atoms_spec (ws := sw_ws yX11_pick cX11_pick 3 (some .int)) B.pre)
  have hown : s.vm.findClass RX11 = some m.cls := findClass_of_methodNamed B.named
  have hlocks := B.notSynchronized
  subst hsz
  have hD := hD0.self (sz := s.heap.size)
  generalize hAe : va_A [(h0, .inr (11, (Value.ref (a 0) :: Value.ref (a 1) :: Value.ref (a 2) :: Value.ref (a 3) :: Value.ref (a 4) :: Value.ref (a 5) :: Value.ref (a 6) :: Value.ref (a 7) :: Value.ref (a 8) :: Value.ref (a 9) :: Value.ref (a 10) :: Value.ref (a 11) :: Value.ref (a 12) :: Value.ref (a 13) :: Value.ref (a 14) :: Value.int 0 :: Value.int 0 :: Value.int 0 :: []))), ((a 5), .inr (5, (Value.ref (a 30) :: Value.ref (a 31) :: Value.ref (a 32) :: Value.ref (a 33) :: Value.ref (a 34) :: Value.ref (a 35) :: Value.ref (a 36) :: Value.ref (a 37) :: Value.int 0 :: Value.int 0 :: Value.int 0 :: Value.int 0 :: Value.int 0 :: Value.int 0 :: Value.int 0 :: []))), ((a 13), .inl (cI, 6, .inl g0))] s.heap.size = A at hD ⊢
  have hA : ∀ q : Nat, s.heap.size ≤ q → A q := fun q h => by rw [← hAe]; exact Or.inr h
  have hS : va_S A s.heap s.heap [] := va_S.rf
  have hl := lv_entry ([.ref h0, .int p0]) (n := 3) (Nat.le_of_ble_eq_true rfl)
  rw [lg_entry_eq]
  generalize (lg_sl ([.ref h0, .int p0]) ++ List.replicate (3 - (lg_sl ([.ref h0, .int p0])).length) Slot.unset).toArray = ls at hl ⊢
  have hl : lv_has ls 3 [(0, .ref h0), (1, .int p0)] := hl
  refine lv_aload_n hx hb dX11_pick_0 rfl (lv_at hl 0 rfl) ?_
  refine va_get (D := D) (ci := 11) (v := .ref (a 5)) (C := RX11) (T := TX11) (N := 18) hx hb hT ix_11 hown hK hP 0 rfl rfl 5 (by decide) (hT _ sw_520) (fun _ h9 => h9) rfl dX11_pick_1 ?_
  refine va_getN (D := D) (ci := 5) (v := .int 0) (C := RX5) (T := TX5) (N := 15) hx hb hT ix_5 hown hK hP 1 rfl rfl 9 (by decide) (hT _ sw_349) (fun _ h9 => h9) rfl dX11_pick_4 ?_
  refine lv_if_le (tgt := 17) hx hb dX11_pick_7 (by decide) (fun _ => ?_) (fun h9 => absurd (by decide) h9)
  refine lv_aload_n hx hb dX11_pick_17 rfl (lv_at hl 0 rfl) ?_
  refine lv_iconst (v := 2) hx hb dX11_pick_18 (by decide) ?_
  refine go_M (wc := [(h0, .inr (11, (Value.ref (a 0) :: Value.ref (a 1) :: Value.ref (a 2) :: Value.ref (a 3) :: Value.ref (a 4) :: Value.ref (a 5) :: Value.ref (a 6) :: Value.ref (a 7) :: Value.ref (a 8) :: Value.ref (a 9) :: Value.ref (a 10) :: Value.ref (a 11) :: Value.ref (a 12) :: Value.ref (a 13) :: Value.ref (a 14) :: Value.int 0 :: Value.int 0 :: Value.int 0 :: []))), ((a 13), .inl (cI, 6, .inl g0))]) (wr := [((a 5), .inr (5, (Value.ref (a 30) :: Value.ref (a 31) :: Value.ref (a 32) :: Value.ref (a 33) :: Value.ref (a 34) :: Value.ref (a 35) :: Value.ref (a 36) :: Value.ref (a 37) :: Value.int 0 :: Value.int 0 :: Value.int 0 :: Value.int 0 :: Value.int 0 :: Value.int 0 :: Value.int 0 :: [])))]) (w1 := fun u => [(h0, .inr (11, (Value.ref (a 0) :: Value.ref (a 1) :: Value.ref (a 2) :: Value.ref (a 3) :: Value.ref (a 4) :: Value.ref (a 5) :: Value.ref (a 6) :: Value.ref (a 7) :: Value.ref (a 8) :: Value.ref (a 9) :: Value.ref (a 10) :: Value.ref (a 11) :: Value.ref (a 12) :: Value.ref (a 13) :: Value.ref (a 14) :: Value.int 0 :: Value.int 0 :: Value.int 0 :: []))), ((a 13), .inl (cI, 6, .inl (u.2 0)))]) (v := some (.int (-1))) (st1 := [.int (-1)]) hP hD hS hA [0, 2] [1] rfl rfl (by decide) (by decide) (by decide) (fun hPc hDc => run_V (As := [.int 2]) (rest := []) ⟨hx, hb, hml, hown, hT⟩ (kX11_refuse_4 l D cI h0 a g0 _) sw_574 lkv_X11_refuse (p_M_V (ci := 11) (q0 := 0) hPc hK hDc rfl rfl) rfl hl.1 rfl (Nat.le_of_ble_eq_true rfl) dX11_pick_19 ⟨⟨Nat.le_of_ble_eq_true rfl, Nat.le_of_ble_eq_true rfl⟩, Nat.le_of_ble_eq_true rfl, Nat.le_of_ble_eq_true rfl⟩) rfl (fun u_1 H locs hP hD hS => ?_)
  have hP : va_P D vwCl [((a 5), .inr (5, (Value.ref (a 30) :: Value.ref (a 31) :: Value.ref (a 32) :: Value.ref (a 33) :: Value.ref (a 34) :: Value.ref (a 35) :: Value.ref (a 36) :: Value.ref (a 37) :: Value.int 0 :: Value.int 0 :: Value.int 0 :: Value.int 0 :: Value.int 0 :: Value.int 0 :: Value.int 0 :: []))), (h0, .inr (11, (Value.ref (a 0) :: Value.ref (a 1) :: Value.ref (a 2) :: Value.ref (a 3) :: Value.ref (a 4) :: Value.ref (a 5) :: Value.ref (a 6) :: Value.ref (a 7) :: Value.ref (a 8) :: Value.ref (a 9) :: Value.ref (a 10) :: Value.ref (a 11) :: Value.ref (a 12) :: Value.ref (a 13) :: Value.ref (a 14) :: Value.int 0 :: Value.int 0 :: Value.int 0 :: []))), ((a 13), .inl (cI, 6, .inl (u_1.2 0)))] H := hP
  have hD : va_D A [((a 5), .inr (5, (Value.ref (a 30) :: Value.ref (a 31) :: Value.ref (a 32) :: Value.ref (a 33) :: Value.ref (a 34) :: Value.ref (a 35) :: Value.ref (a 36) :: Value.ref (a 37) :: Value.int 0 :: Value.int 0 :: Value.int 0 :: Value.int 0 :: Value.int 0 :: Value.int 0 :: Value.int 0 :: []))), (h0, .inr (11, (Value.ref (a 0) :: Value.ref (a 1) :: Value.ref (a 2) :: Value.ref (a 3) :: Value.ref (a 4) :: Value.ref (a 5) :: Value.ref (a 6) :: Value.ref (a 7) :: Value.ref (a 8) :: Value.ref (a 9) :: Value.ref (a 10) :: Value.ref (a 11) :: Value.ref (a 12) :: Value.ref (a 13) :: Value.ref (a 14) :: Value.int 0 :: Value.int 0 :: Value.int 0 :: []))), ((a 13), .inl (cI, 6, .inl (u_1.2 0)))] := hD
  have hP9 := hP.sub (ws' := []) [] rfl
  have hD9 := hD.sub (ws' := []) [] (by decide) rfl
  exact W.iret (v := (-1)) hx hb hr (fun t ht _ => ⟨rfl, ⟨(fun k => [].getD k 0, fun k => [].getD k zI), by rw [ht]; exact hP9, hD9⟩, hS.F ht⟩) hS.2.2 dX11_pick_22
set_option maxHeartbeats 4000000 in
set_option maxRecDepth 100000 in
theorem kX11_chance_0 (l : Launch) (D : va_G) (cI : ClassId) (h0 : Nat) (a : Nat → Nat) (p0 p1 : Int32) (g0 : Nat → Int32) (sz : Nat) : Met l yX11_chance (sw_ws yX11_chance cX11_chance 7 (some .int)) (rm_ 1 21 0 0) (p_M D vwCl [(cI, .int)] [.ref h0, .int p0, .int p1] [(h0, .inr (11, (Value.ref (a 0) :: Value.ref (a 1) :: Value.ref (a 2) :: Value.ref (a 3) :: Value.ref (a 4) :: Value.ref (a 5) :: Value.ref (a 6) :: Value.ref (a 7) :: Value.ref (a 8) :: Value.ref (a 9) :: Value.ref (a 10) :: Value.ref (a 11) :: Value.ref (a 12) :: Value.ref (a 13) :: Value.ref (a 14) :: Value.int 0 :: Value.int 0 :: Value.int 0 :: []))), ((a 5), .inr (5, (Value.ref (a 30) :: Value.ref (a 31) :: Value.ref (a 32) :: Value.ref (a 33) :: Value.ref (a 34) :: Value.ref (a 35) :: Value.ref (a 36) :: Value.ref (a 37) :: Value.int 0 :: Value.int 0 :: Value.int 0 :: Value.int 0 :: Value.int 0 :: Value.int 0 :: Value.int 0 :: []))), ((a 13), .inl (cI, 6, .inl g0))] sz) (q_M D vwCl (some (.int (-1))) (fun u => []) (va_A [(h0, .inr (11, (Value.ref (a 0) :: Value.ref (a 1) :: Value.ref (a 2) :: Value.ref (a 3) :: Value.ref (a 4) :: Value.ref (a 5) :: Value.ref (a 6) :: Value.ref (a 7) :: Value.ref (a 8) :: Value.ref (a 9) :: Value.ref (a 10) :: Value.ref (a 11) :: Value.ref (a 12) :: Value.ref (a 13) :: Value.ref (a 14) :: Value.int 0 :: Value.int 0 :: Value.int 0 :: []))), ((a 5), .inr (5, (Value.ref (a 30) :: Value.ref (a 31) :: Value.ref (a 32) :: Value.ref (a 33) :: Value.ref (a 34) :: Value.ref (a 35) :: Value.ref (a 36) :: Value.ref (a 37) :: Value.int 0 :: Value.int 0 :: Value.int 0 :: Value.int 0 :: Value.int 0 :: Value.int 0 :: Value.int 0 :: []))), ((a 13), .inl (cI, 6, .inl g0))] sz)) 0 0 (va_A [(h0, .inr (11, (Value.ref (a 0) :: Value.ref (a 1) :: Value.ref (a 2) :: Value.ref (a 3) :: Value.ref (a 4) :: Value.ref (a 5) :: Value.ref (a 6) :: Value.ref (a 7) :: Value.ref (a 8) :: Value.ref (a 9) :: Value.ref (a 10) :: Value.ref (a 11) :: Value.ref (a 12) :: Value.ref (a 13) :: Value.ref (a 14) :: Value.int 0 :: Value.int 0 :: Value.int 0 :: []))), ((a 5), .inr (5, (Value.ref (a 30) :: Value.ref (a 31) :: Value.ref (a 32) :: Value.ref (a 33) :: Value.ref (a 34) :: Value.ref (a 35) :: Value.ref (a 36) :: Value.ref (a 37) :: Value.int 0 :: Value.int 0 :: Value.int 0 :: Value.int 0 :: Value.int 0 :: Value.int 0 :: Value.int 0 :: []))), ((a 13), .inl (cI, 6, .inl g0))] sz) := by
  refine Met.ofW (cc := cX11_chance) (maxL := 7) (ret := (some .int)) (by decide) rfl ?_
  intro p e s m args below meth c s₁ B hml hv
  obtain ⟨rfl, hsz, hP, hK, hD0⟩ := hv
  have hx := B.exec
  have hb := B.bytes
  have hr := B.returns
  have hT := sw_in (atoms_spec (ws := sw_ws yX11_chance cX11_chance 7 (some .int)) B.pre)
  have hown : s.vm.findClass RX11 = some m.cls := findClass_of_methodNamed B.named
  have hlocks := B.notSynchronized
  subst hsz
  have hD := hD0.self (sz := s.heap.size)
  generalize hAe : va_A [(h0, .inr (11, (Value.ref (a 0) :: Value.ref (a 1) :: Value.ref (a 2) :: Value.ref (a 3) :: Value.ref (a 4) :: Value.ref (a 5) :: Value.ref (a 6) :: Value.ref (a 7) :: Value.ref (a 8) :: Value.ref (a 9) :: Value.ref (a 10) :: Value.ref (a 11) :: Value.ref (a 12) :: Value.ref (a 13) :: Value.ref (a 14) :: Value.int 0 :: Value.int 0 :: Value.int 0 :: []))), ((a 5), .inr (5, (Value.ref (a 30) :: Value.ref (a 31) :: Value.ref (a 32) :: Value.ref (a 33) :: Value.ref (a 34) :: Value.ref (a 35) :: Value.ref (a 36) :: Value.ref (a 37) :: Value.int 0 :: Value.int 0 :: Value.int 0 :: Value.int 0 :: Value.int 0 :: Value.int 0 :: Value.int 0 :: []))), ((a 13), .inl (cI, 6, .inl g0))] s.heap.size = A at hD ⊢
  have hA : ∀ q : Nat, s.heap.size ≤ q → A q := fun q h => by rw [← hAe]; exact Or.inr h
  have hS : va_S A s.heap s.heap [] := va_S.rf
  have hl := lv_entry ([.ref h0, .int p0, .int p1]) (n := 7) (Nat.le_of_ble_eq_true rfl)
  rw [lg_entry_eq]
  generalize (lg_sl ([.ref h0, .int p0, .int p1]) ++ List.replicate (7 - (lg_sl ([.ref h0, .int p0, .int p1])).length) Slot.unset).toArray = ls at hl ⊢
  have hl : lv_has ls 7 [(0, .ref h0), (1, .int p0), (2, .int p1)] := hl
  refine lv_aload_n hx hb dX11_chance_0 rfl (lv_at hl 0 rfl) ?_
  refine va_get (D := D) (ci := 11) (v := .ref (a 5)) (C := RX11) (T := TX11) (N := 18) hx hb hT ix_11 hown hK hP 0 rfl rfl 5 (by decide) (hT _ sw_520) (fun _ h9 => h9) rfl dX11_chance_1 ?_
  refine va_getN (D := D) (ci := 5) (v := .int 0) (C := RX5) (T := TX5) (N := 15) hx hb hT ix_5 hown hK hP 1 rfl rfl 9 (by decide) (hT _ sw_349) (fun _ h9 => h9) rfl dX11_chance_4 ?_
  refine lv_if_le (tgt := 28) hx hb dX11_chance_7 (by decide) (fun _ => ?_) (fun h9 => absurd (by decide) h9)
  refine lv_aload_n hx hb dX11_chance_28 rfl (lv_at hl 0 rfl) ?_
  refine lv_iconst (v := 2) hx hb dX11_chance_29 (by decide) ?_
  refine go_M (wc := [(h0, .inr (11, (Value.ref (a 0) :: Value.ref (a 1) :: Value.ref (a 2) :: Value.ref (a 3) :: Value.ref (a 4) :: Value.ref (a 5) :: Value.ref (a 6) :: Value.ref (a 7) :: Value.ref (a 8) :: Value.ref (a 9) :: Value.ref (a 10) :: Value.ref (a 11) :: Value.ref (a 12) :: Value.ref (a 13) :: Value.ref (a 14) :: Value.int 0 :: Value.int 0 :: Value.int 0 :: []))), ((a 13), .inl (cI, 6, .inl g0))]) (wr := [((a 5), .inr (5, (Value.ref (a 30) :: Value.ref (a 31) :: Value.ref (a 32) :: Value.ref (a 33) :: Value.ref (a 34) :: Value.ref (a 35) :: Value.ref (a 36) :: Value.ref (a 37) :: Value.int 0 :: Value.int 0 :: Value.int 0 :: Value.int 0 :: Value.int 0 :: Value.int 0 :: Value.int 0 :: [])))]) (w1 := fun u => [(h0, .inr (11, (Value.ref (a 0) :: Value.ref (a 1) :: Value.ref (a 2) :: Value.ref (a 3) :: Value.ref (a 4) :: Value.ref (a 5) :: Value.ref (a 6) :: Value.ref (a 7) :: Value.ref (a 8) :: Value.ref (a 9) :: Value.ref (a 10) :: Value.ref (a 11) :: Value.ref (a 12) :: Value.ref (a 13) :: Value.ref (a 14) :: Value.int 0 :: Value.int 0 :: Value.int 0 :: []))), ((a 13), .inl (cI, 6, .inl (u.2 0)))]) (v := some (.int (-1))) (st1 := [.int (-1)]) hP hD hS hA [0, 2] [1] rfl rfl (by decide) (by decide) (by decide) (fun hPc hDc => run_V (As := [.int 2]) (rest := []) ⟨hx, hb, hml, hown, hT⟩ (kX11_refuse_4 l D cI h0 a g0 _) sw_574 lkv_X11_refuse (p_M_V (ci := 11) (q0 := 0) hPc hK hDc rfl rfl) rfl hl.1 rfl (Nat.le_of_ble_eq_true rfl) dX11_chance_30 ⟨⟨Nat.le_of_ble_eq_true rfl, Nat.le_of_ble_eq_true rfl⟩, Nat.le_of_ble_eq_true rfl, Nat.le_of_ble_eq_true rfl⟩) rfl (fun u_1 H locs hP hD hS => ?_)
  have hP : va_P D vwCl [((a 5), .inr (5, (Value.ref (a 30) :: Value.ref (a 31) :: Value.ref (a 32) :: Value.ref (a 33) :: Value.ref (a 34) :: Value.ref (a 35) :: Value.ref (a 36) :: Value.ref (a 37) :: Value.int 0 :: Value.int 0 :: Value.int 0 :: Value.int 0 :: Value.int 0 :: Value.int 0 :: Value.int 0 :: []))), (h0, .inr (11, (Value.ref (a 0) :: Value.ref (a 1) :: Value.ref (a 2) :: Value.ref (a 3) :: Value.ref (a 4) :: Value.ref (a 5) :: Value.ref (a 6) :: Value.ref (a 7) :: Value.ref (a 8) :: Value.ref (a 9) :: Value.ref (a 10) :: Value.ref (a 11) :: Value.ref (a 12) :: Value.ref (a 13) :: Value.ref (a 14) :: Value.int 0 :: Value.int 0 :: Value.int 0 :: []))), ((a 13), .inl (cI, 6, .inl (u_1.2 0)))] H := hP
  have hD : va_D A [((a 5), .inr (5, (Value.ref (a 30) :: Value.ref (a 31) :: Value.ref (a 32) :: Value.ref (a 33) :: Value.ref (a 34) :: Value.ref (a 35) :: Value.ref (a 36) :: Value.ref (a 37) :: Value.int 0 :: Value.int 0 :: Value.int 0 :: Value.int 0 :: Value.int 0 :: Value.int 0 :: Value.int 0 :: []))), (h0, .inr (11, (Value.ref (a 0) :: Value.ref (a 1) :: Value.ref (a 2) :: Value.ref (a 3) :: Value.ref (a 4) :: Value.ref (a 5) :: Value.ref (a 6) :: Value.ref (a 7) :: Value.ref (a 8) :: Value.ref (a 9) :: Value.ref (a 10) :: Value.ref (a 11) :: Value.ref (a 12) :: Value.ref (a 13) :: Value.ref (a 14) :: Value.int 0 :: Value.int 0 :: Value.int 0 :: []))), ((a 13), .inl (cI, 6, .inl (u_1.2 0)))] := hD
  have hP9 := hP.sub (ws' := []) [] rfl
  have hD9 := hD.sub (ws' := []) [] (by decide) rfl
  exact W.iret (v := (-1)) hx hb hr (fun t ht _ => ⟨rfl, ⟨(fun k => [].getD k 0, fun k => [].getD k zI), by rw [ht]; exact hP9, hD9⟩, hS.F ht⟩) hS.2.2 dX11_chance_33
set_option maxHeartbeats 4000000 in
set_option maxRecDepth 100000 in
theorem kX1_goBack_0 (l : Launch) (D : va_G) (cI : ClassId) (h0 : Nat) (a : Nat → Nat) : Met l yX1_goBack (sw_ws yX1_goBack cX1_goBack 3 (some .boolean)) (rm_ 0 0 0 0) (p_R D vwCl [(cI, .int)] [.ref (a 4), .ref (a 3)] [((a 4), .inr (1, [.ref (a 29), .int 0, .int 0]))]) (q_R (some (.int 0))) 0 0 (fun _ => False) := by
  refine Met.ofW (cc := cX1_goBack) (maxL := 3) (ret := (some .boolean)) (by decide) rfl ?_
  intro p e s m args below meth c s₁ B hml hv
  obtain ⟨rfl, hP, hK⟩ := hv
  have hx := B.exec
  have hb := B.bytes
  have hr := B.returns
  have hT := sw_in (atoms_spec (ws := sw_ws yX1_goBack cX1_goBack 3 (some .boolean)) B.pre)
  have hown : s.vm.findClass RX1 = some m.cls := findClass_of_methodNamed B.named
  have hlocks := B.notSynchronized
  have hl := lv_entry ([.ref (a 4), .ref (a 3)]) (n := 3) (Nat.le_of_ble_eq_true rfl)
  rw [lg_entry_eq]
  generalize (lg_sl ([.ref (a 4), .ref (a 3)]) ++ List.replicate (3 - (lg_sl ([.ref (a 4), .ref (a 3)])).length) Slot.unset).toArray = ls at hl ⊢
  have hl : lv_has ls 3 [(0, .ref (a 4)), (1, .ref (a 3))] := hl
  refine lv_aload_n hx hb dX1_goBack_0 rfl (lv_at hl 0 rfl) ?_
  refine va_get (D := D) (ci := 1) (v := .int 0) (C := RX1) (T := TX1) (N := 3) hx hb hT ix_1 hown hK hP 0 rfl rfl 1 (by decide) (hT _ sw_305) (fun _ h9 => h9) rfl dX1_goBack_1 ?_
  refine lv_bipush (v := 20) hx hb dX1_goBack_4 (by decide) ?_
  refine lv_iadd hx hb dX1_goBack_6 ?_
  refine ct_i (z := 20) (by decide) ?_
  refine lv_iconst (v := 1) hx hb dX1_goBack_7 (by decide) ?_
  refine lv_isub hx hb dX1_goBack_8 ?_
  refine ct_i (z := 19) (by decide) ?_
  refine lv_bipush (v := 20) hx hb dX1_goBack_9 (by decide) ?_
  refine lv_irem hx hb dX1_goBack_11 (by decide) ?_
  refine ct_i (z := 19) (by decide) ?_
  refine lv_istore_n (lv' := [(2, .int 19), (0, .ref (a 4)), (1, .ref (a 3))]) hx hb dX1_goBack_12 rfl hl (by decide) rfl (fun ls hl => ?_)
  refine lv_aload_n hx hb dX1_goBack_13 rfl (lv_at hl 1 rfl) ?_
  refine va_get (D := D) (ci := 1) (v := .int 0) (C := RX1) (T := TX1) (N := 3) hx hb hT ix_1 hown hK hP 0 rfl rfl 2 (by decide) (hT _ sw_306) (fun _ h9 => h9) rfl dX1_goBack_14 ?_
  refine lv_if_eq (tgt := 33) hx hb dX1_goBack_17 (by decide) (fun _ => ?_) (fun h9 => absurd (by decide) h9)
  refine lv_iconst (v := 0) hx hb dX1_goBack_33 (by decide) ?_
  exact W.zret (v := 0) hx hb hr (by decide) (fun t ht _ => ⟨rfl, ht⟩) (fun _ h9 => nomatch h9) dX1_goBack_34
set_option maxHeartbeats 4000000 in
set_option maxRecDepth 100000 in
theorem kX11_refuse_5 (l : Launch) (D : va_G) (cI : ClassId) (h0 : Nat) (a : Nat → Nat) (g0 : Nat → Int32) (sz : Nat) : Met l yX11_refuse (sw_ws yX11_refuse cX11_refuse 2 (some .int)) (rm_ 0 0 0 0) (p_M D vwCl [(cI, .int)] [.ref h0, .int 4] [(h0, .inr (11, (Value.ref (a 0) :: Value.ref (a 1) :: Value.ref (a 2) :: Value.ref (a 3) :: Value.ref (a 4) :: Value.ref (a 5) :: Value.ref (a 6) :: Value.ref (a 7) :: Value.ref (a 8) :: Value.ref (a 9) :: Value.ref (a 10) :: Value.ref (a 11) :: Value.ref (a 12) :: Value.ref (a 13) :: Value.ref (a 14) :: Value.int 0 :: Value.int 0 :: Value.int 0 :: []))), ((a 13), .inl (cI, 6, .inl g0))] sz) (q_M D vwCl (some (.int (-1))) (fun u => [(h0, .inr (11, (Value.ref (a 0) :: Value.ref (a 1) :: Value.ref (a 2) :: Value.ref (a 3) :: Value.ref (a 4) :: Value.ref (a 5) :: Value.ref (a 6) :: Value.ref (a 7) :: Value.ref (a 8) :: Value.ref (a 9) :: Value.ref (a 10) :: Value.ref (a 11) :: Value.ref (a 12) :: Value.ref (a 13) :: Value.ref (a 14) :: Value.int 0 :: Value.int 0 :: Value.int 0 :: []))), ((a 13), .inl (cI, 6, .inl (u.2 0)))]) (va_A [(h0, .inr (11, (Value.ref (a 0) :: Value.ref (a 1) :: Value.ref (a 2) :: Value.ref (a 3) :: Value.ref (a 4) :: Value.ref (a 5) :: Value.ref (a 6) :: Value.ref (a 7) :: Value.ref (a 8) :: Value.ref (a 9) :: Value.ref (a 10) :: Value.ref (a 11) :: Value.ref (a 12) :: Value.ref (a 13) :: Value.ref (a 14) :: Value.int 0 :: Value.int 0 :: Value.int 0 :: []))), ((a 13), .inl (cI, 6, .inl g0))] sz)) 0 0 (va_A [(h0, .inr (11, (Value.ref (a 0) :: Value.ref (a 1) :: Value.ref (a 2) :: Value.ref (a 3) :: Value.ref (a 4) :: Value.ref (a 5) :: Value.ref (a 6) :: Value.ref (a 7) :: Value.ref (a 8) :: Value.ref (a 9) :: Value.ref (a 10) :: Value.ref (a 11) :: Value.ref (a 12) :: Value.ref (a 13) :: Value.ref (a 14) :: Value.int 0 :: Value.int 0 :: Value.int 0 :: []))), ((a 13), .inl (cI, 6, .inl g0))] sz) := by
  refine Met.ofW (cc := cX11_refuse) (maxL := 2) (ret := (some .int)) (by decide) rfl ?_
  intro p e s m args below meth c s₁ B hml hv
  obtain ⟨rfl, hsz, hP, hK, hD0⟩ := hv
  have hx := B.exec
  have hb := B.bytes
  have hr := B.returns
  have hT := sw_in (atoms_spec (ws := sw_ws yX11_refuse cX11_refuse 2 (some .int)) B.pre)
  have hown : s.vm.findClass RX11 = some m.cls := findClass_of_methodNamed B.named
  have hlocks := B.notSynchronized
  subst hsz
  have hD := hD0.self (sz := s.heap.size)
  generalize hAe : va_A [(h0, .inr (11, (Value.ref (a 0) :: Value.ref (a 1) :: Value.ref (a 2) :: Value.ref (a 3) :: Value.ref (a 4) :: Value.ref (a 5) :: Value.ref (a 6) :: Value.ref (a 7) :: Value.ref (a 8) :: Value.ref (a 9) :: Value.ref (a 10) :: Value.ref (a 11) :: Value.ref (a 12) :: Value.ref (a 13) :: Value.ref (a 14) :: Value.int 0 :: Value.int 0 :: Value.int 0 :: []))), ((a 13), .inl (cI, 6, .inl g0))] s.heap.size = A at hD ⊢
  have hA : ∀ q : Nat, s.heap.size ≤ q → A q := fun q h => by rw [← hAe]; exact Or.inr h
  have hS : va_S A s.heap s.heap [] := va_S.rf
  have hl := lv_entry ([.ref h0, .int 4]) (n := 2) (Nat.le_of_ble_eq_true rfl)
  rw [lg_entry_eq]
  generalize (lg_sl ([.ref h0, .int 4]) ++ List.replicate (2 - (lg_sl ([.ref h0, .int 4])).length) Slot.unset).toArray = ls at hl ⊢
  have hl : lv_has ls 2 [(0, .ref h0), (1, .int 4)] := hl
  refine lv_iload_n hx hb dX11_refuse_0 rfl (lv_at hl 1 rfl) ?_
  refine lv_if_lt (tgt := 23) hx hb dX11_refuse_1 (by decide) (fun h9 => absurd h9 (by decide)) (fun _ => ?_)
  refine lv_iload_n hx hb dX11_refuse_4 rfl (lv_at hl 1 rfl) ?_
  refine lv_aload_n hx hb dX11_refuse_5 rfl (lv_at hl 0 rfl) ?_
  refine va_get (D := D) (ci := 11) (v := .ref (a 13)) (C := RX11) (T := TX11) (N := 18) hx hb hT ix_11 hown hK hP 0 rfl rfl 13 (by decide) (hT _ sw_528) (fun _ h9 => h9) rfl dX11_refuse_6 ?_
  refine va_alen (v := 6) hx hb hK hP 1 0 rfl rfl (show Int32.ofNat 6 = 6 by decide) dX11_refuse_9 ?_
  refine lv_icmp_ge (tgt := 23) hx hb dX11_refuse_10 (by decide) (fun h9 => absurd h9 (by decide)) (fun _ => ?_)
  refine lv_aload_n hx hb dX11_refuse_13 rfl (lv_at hl 0 rfl) ?_
  refine va_get (D := D) (ci := 11) (v := .ref (a 13)) (C := RX11) (T := TX11) (N := 18) hx hb hT ix_11 hown hK hP 0 rfl rfl 13 (by decide) (hT _ sw_528) (fun _ h9 => h9) rfl dX11_refuse_14 ?_
  refine lv_iload_n hx hb dX11_refuse_17 rfl (lv_at hl 1 rfl) ?_
  refine lv_dup2_11 hx hb dX11_refuse_18 rfl rfl ?_
  refine va_iald hx hb hK hP 1 0 rfl rfl (vi_c (by decide +kernel)) dX11_refuse_19 ?_
  refine lv_topi (fun v_1 _ => ?_)
  refine lv_iconst (v := 1) hx hb dX11_refuse_20 (by decide) ?_
  refine lv_iadd hx hb dX11_refuse_21 ?_
  refine lv_topi (fun v_2 _ => ?_)
  refine va_iast hx hb hK hP hD hS 1 0 rfl rfl (vi_c (by decide +kernel)) dX11_refuse_22 (fun H locs hP hD hS => ?_)
  obtain ⟨f_3, hP, hD⟩ : ∃ f_3 : Nat → Int32, va_P D vwCl [(h0, .inr (11, (Value.ref (a 0) :: Value.ref (a 1) :: Value.ref (a 2) :: Value.ref (a 3) :: Value.ref (a 4) :: Value.ref (a 5) :: Value.ref (a 6) :: Value.ref (a 7) :: Value.ref (a 8) :: Value.ref (a 9) :: Value.ref (a 10) :: Value.ref (a 11) :: Value.ref (a 12) :: Value.ref (a 13) :: Value.ref (a 14) :: Value.int 0 :: Value.int 0 :: Value.int 0 :: []))), ((a 13), .inl (cI, 6, .inl f_3))] H ∧ va_D A [(h0, .inr (11, (Value.ref (a 0) :: Value.ref (a 1) :: Value.ref (a 2) :: Value.ref (a 3) :: Value.ref (a 4) :: Value.ref (a 5) :: Value.ref (a 6) :: Value.ref (a 7) :: Value.ref (a 8) :: Value.ref (a 9) :: Value.ref (a 10) :: Value.ref (a 11) :: Value.ref (a 12) :: Value.ref (a 13) :: Value.ref (a 14) :: Value.int 0 :: Value.int 0 :: Value.int 0 :: []))), ((a 13), .inl (cI, 6, .inl f_3))] := ⟨upd g0 (4 : Int32).toNatClampNeg v_2, hP, hD⟩
  refine lv_iconst (v := (-1)) hx hb dX11_refuse_23 (by decide) ?_
  have hP9 := hP.sub (ws' := [(h0, .inr (11, (Value.ref (a 0) :: Value.ref (a 1) :: Value.ref (a 2) :: Value.ref (a 3) :: Value.ref (a 4) :: Value.ref (a 5) :: Value.ref (a 6) :: Value.ref (a 7) :: Value.ref (a 8) :: Value.ref (a 9) :: Value.ref (a 10) :: Value.ref (a 11) :: Value.ref (a 12) :: Value.ref (a 13) :: Value.ref (a 14) :: Value.int 0 :: Value.int 0 :: Value.int 0 :: []))), ((a 13), .inl (cI, 6, .inl f_3))]) [0, 1] rfl
  have hD9 := hD.sub (ws' := [(h0, .inr (11, (Value.ref (a 0) :: Value.ref (a 1) :: Value.ref (a 2) :: Value.ref (a 3) :: Value.ref (a 4) :: Value.ref (a 5) :: Value.ref (a 6) :: Value.ref (a 7) :: Value.ref (a 8) :: Value.ref (a 9) :: Value.ref (a 10) :: Value.ref (a 11) :: Value.ref (a 12) :: Value.ref (a 13) :: Value.ref (a 14) :: Value.int 0 :: Value.int 0 :: Value.int 0 :: []))), ((a 13), .inl (cI, 6, .inl f_3))]) [0, 1] (by decide) rfl
  exact W.iret (v := (-1)) hx hb hr (fun t ht _ => ⟨rfl, ⟨(fun k => [].getD k 0, fun k => [f_3].getD k zI), by rw [ht]; exact hP9, hD9⟩, hS.F ht⟩) hS.2.2 dX11_refuse_24
set_option maxHeartbeats 4000000 in
set_option maxRecDepth 100000 in
theorem kX11_deny_2 (l : Launch) (D : va_G) (cI : ClassId) (h0 : Nat) (a : Nat → Nat) (g0 : Nat → Int32) (sz : Nat) : Met l yX11_deny (sw_ws yX11_deny cX11_deny 2 (some .boolean)) (rm_ 1 21 0 0) (p_M D vwCl [(cI, .int)] [.ref h0, .int 4] [(h0, .inr (11, (Value.ref (a 0) :: Value.ref (a 1) :: Value.ref (a 2) :: Value.ref (a 3) :: Value.ref (a 4) :: Value.ref (a 5) :: Value.ref (a 6) :: Value.ref (a 7) :: Value.ref (a 8) :: Value.ref (a 9) :: Value.ref (a 10) :: Value.ref (a 11) :: Value.ref (a 12) :: Value.ref (a 13) :: Value.ref (a 14) :: Value.int 0 :: Value.int 0 :: Value.int 0 :: []))), ((a 13), .inl (cI, 6, .inl g0))] sz) (q_M D vwCl (some (.int 0)) (fun u => [(h0, .inr (11, (Value.ref (a 0) :: Value.ref (a 1) :: Value.ref (a 2) :: Value.ref (a 3) :: Value.ref (a 4) :: Value.ref (a 5) :: Value.ref (a 6) :: Value.ref (a 7) :: Value.ref (a 8) :: Value.ref (a 9) :: Value.ref (a 10) :: Value.ref (a 11) :: Value.ref (a 12) :: Value.ref (a 13) :: Value.ref (a 14) :: Value.int 0 :: Value.int 0 :: Value.int 0 :: []))), ((a 13), .inl (cI, 6, .inl (u.2 0)))]) (va_A [(h0, .inr (11, (Value.ref (a 0) :: Value.ref (a 1) :: Value.ref (a 2) :: Value.ref (a 3) :: Value.ref (a 4) :: Value.ref (a 5) :: Value.ref (a 6) :: Value.ref (a 7) :: Value.ref (a 8) :: Value.ref (a 9) :: Value.ref (a 10) :: Value.ref (a 11) :: Value.ref (a 12) :: Value.ref (a 13) :: Value.ref (a 14) :: Value.int 0 :: Value.int 0 :: Value.int 0 :: []))), ((a 13), .inl (cI, 6, .inl g0))] sz)) 0 0 (va_A [(h0, .inr (11, (Value.ref (a 0) :: Value.ref (a 1) :: Value.ref (a 2) :: Value.ref (a 3) :: Value.ref (a 4) :: Value.ref (a 5) :: Value.ref (a 6) :: Value.ref (a 7) :: Value.ref (a 8) :: Value.ref (a 9) :: Value.ref (a 10) :: Value.ref (a 11) :: Value.ref (a 12) :: Value.ref (a 13) :: Value.ref (a 14) :: Value.int 0 :: Value.int 0 :: Value.int 0 :: []))), ((a 13), .inl (cI, 6, .inl g0))] sz) := by
  refine Met.ofW (cc := cX11_deny) (maxL := 2) (ret := (some .boolean)) (by decide) rfl ?_
  intro p e s m args below meth c s₁ B hml hv
  obtain ⟨rfl, hsz, hP, hK, hD0⟩ := hv
  have hx := B.exec
  have hb := B.bytes
  have hr := B.returns
  have hT := sw_in (atoms_spec (ws := sw_ws yX11_deny cX11_deny 2 (some .boolean)) B.pre)
  have hown : s.vm.findClass RX11 = some m.cls := findClass_of_methodNamed B.named
  have hlocks := B.notSynchronized
  subst hsz
  have hD := hD0.self (sz := s.heap.size)
  generalize hAe : va_A [(h0, .inr (11, (Value.ref (a 0) :: Value.ref (a 1) :: Value.ref (a 2) :: Value.ref (a 3) :: Value.ref (a 4) :: Value.ref (a 5) :: Value.ref (a 6) :: Value.ref (a 7) :: Value.ref (a 8) :: Value.ref (a 9) :: Value.ref (a 10) :: Value.ref (a 11) :: Value.ref (a 12) :: Value.ref (a 13) :: Value.ref (a 14) :: Value.int 0 :: Value.int 0 :: Value.int 0 :: []))), ((a 13), .inl (cI, 6, .inl g0))] s.heap.size = A at hD ⊢
  have hA : ∀ q : Nat, s.heap.size ≤ q → A q := fun q h => by rw [← hAe]; exact Or.inr h
  have hS : va_S A s.heap s.heap [] := va_S.rf
  have hl := lv_entry ([.ref h0, .int 4]) (n := 2) (Nat.le_of_ble_eq_true rfl)
  rw [lg_entry_eq]
  generalize (lg_sl ([.ref h0, .int 4]) ++ List.replicate (2 - (lg_sl ([.ref h0, .int 4])).length) Slot.unset).toArray = ls at hl ⊢
  have hl : lv_has ls 2 [(0, .ref h0), (1, .int 4)] := hl
  refine lv_aload_n hx hb dX11_deny_0 rfl (lv_at hl 0 rfl) ?_
  refine lv_iload_n hx hb dX11_deny_1 rfl (lv_at hl 1 rfl) ?_
  refine go_M (wc := [(h0, .inr (11, (Value.ref (a 0) :: Value.ref (a 1) :: Value.ref (a 2) :: Value.ref (a 3) :: Value.ref (a 4) :: Value.ref (a 5) :: Value.ref (a 6) :: Value.ref (a 7) :: Value.ref (a 8) :: Value.ref (a 9) :: Value.ref (a 10) :: Value.ref (a 11) :: Value.ref (a 12) :: Value.ref (a 13) :: Value.ref (a 14) :: Value.int 0 :: Value.int 0 :: Value.int 0 :: []))), ((a 13), .inl (cI, 6, .inl g0))]) (wr := []) (w1 := fun u => [(h0, .inr (11, (Value.ref (a 0) :: Value.ref (a 1) :: Value.ref (a 2) :: Value.ref (a 3) :: Value.ref (a 4) :: Value.ref (a 5) :: Value.ref (a 6) :: Value.ref (a 7) :: Value.ref (a 8) :: Value.ref (a 9) :: Value.ref (a 10) :: Value.ref (a 11) :: Value.ref (a 12) :: Value.ref (a 13) :: Value.ref (a 14) :: Value.int 0 :: Value.int 0 :: Value.int 0 :: []))), ((a 13), .inl (cI, 6, .inl (u.2 0)))]) (v := some (.int (-1))) (st1 := [.int (-1)]) hP hD hS hA [0, 1] [] rfl rfl (by decide) (by decide) (by decide) (fun hPc hDc => run_V (As := [.int 4]) (rest := []) ⟨hx, hb, hml, hown, hT⟩ (kX11_refuse_5 l D cI h0 a g0 _) sw_574 lkv_X11_refuse (p_M_V (ci := 11) (q0 := 0) hPc hK hDc rfl rfl) rfl hl.1 rfl (Nat.le_of_ble_eq_true rfl) dX11_deny_2 ⟨⟨Nat.le_of_ble_eq_true rfl, Nat.le_of_ble_eq_true rfl⟩, Nat.le_of_ble_eq_true rfl, Nat.le_of_ble_eq_true rfl⟩) rfl (fun u_1 H locs hP hD hS => ?_)
  have hP : va_P D vwCl [(h0, .inr (11, (Value.ref (a 0) :: Value.ref (a 1) :: Value.ref (a 2) :: Value.ref (a 3) :: Value.ref (a 4) :: Value.ref (a 5) :: Value.ref (a 6) :: Value.ref (a 7) :: Value.ref (a 8) :: Value.ref (a 9) :: Value.ref (a 10) :: Value.ref (a 11) :: Value.ref (a 12) :: Value.ref (a 13) :: Value.ref (a 14) :: Value.int 0 :: Value.int 0 :: Value.int 0 :: []))), ((a 13), .inl (cI, 6, .inl (u_1.2 0)))] H := hP
  have hD : va_D A [(h0, .inr (11, (Value.ref (a 0) :: Value.ref (a 1) :: Value.ref (a 2) :: Value.ref (a 3) :: Value.ref (a 4) :: Value.ref (a 5) :: Value.ref (a 6) :: Value.ref (a 7) :: Value.ref (a 8) :: Value.ref (a 9) :: Value.ref (a 10) :: Value.ref (a 11) :: Value.ref (a 12) :: Value.ref (a 13) :: Value.ref (a 14) :: Value.int 0 :: Value.int 0 :: Value.int 0 :: []))), ((a 13), .inl (cI, 6, .inl (u_1.2 0)))] := hD
  refine lv_pop hx hb dX11_deny_5 rfl ?_
  refine lv_iconst (v := 0) hx hb dX11_deny_6 (by decide) ?_
  have hP9 := hP.sub (ws' := [(h0, .inr (11, (Value.ref (a 0) :: Value.ref (a 1) :: Value.ref (a 2) :: Value.ref (a 3) :: Value.ref (a 4) :: Value.ref (a 5) :: Value.ref (a 6) :: Value.ref (a 7) :: Value.ref (a 8) :: Value.ref (a 9) :: Value.ref (a 10) :: Value.ref (a 11) :: Value.ref (a 12) :: Value.ref (a 13) :: Value.ref (a 14) :: Value.int 0 :: Value.int 0 :: Value.int 0 :: []))), ((a 13), .inl (cI, 6, .inl (u_1.2 0)))]) [0, 1] rfl
  have hD9 := hD.sub (ws' := [(h0, .inr (11, (Value.ref (a 0) :: Value.ref (a 1) :: Value.ref (a 2) :: Value.ref (a 3) :: Value.ref (a 4) :: Value.ref (a 5) :: Value.ref (a 6) :: Value.ref (a 7) :: Value.ref (a 8) :: Value.ref (a 9) :: Value.ref (a 10) :: Value.ref (a 11) :: Value.ref (a 12) :: Value.ref (a 13) :: Value.ref (a 14) :: Value.int 0 :: Value.int 0 :: Value.int 0 :: []))), ((a 13), .inl (cI, 6, .inl (u_1.2 0)))]) [0, 1] (by decide) rfl
  exact W.zret (v := 0) hx hb hr (by decide) (fun t ht _ => ⟨rfl, ⟨(fun k => [].getD k 0, fun k => [(u_1.2 0)].getD k zI), by rw [ht]; exact hP9, hD9⟩, hS.F ht⟩) hS.2.2 dX11_deny_7
set_option maxHeartbeats 4000000 in
set_option maxRecDepth 100000 in
theorem kX11_undo_0 (l : Launch) (D : va_G) (cI : ClassId) (h0 : Nat) (a : Nat → Nat) (g0 : Nat → Int32) (sz : Nat) : Met l yX11_undo (sw_ws yX11_undo cX11_undo 1 (some .boolean)) (rm_ 2 42 0 0) (p_M D vwCl [(cI, .int)] [.ref h0] [(h0, .inr (11, (Value.ref (a 0) :: Value.ref (a 1) :: Value.ref (a 2) :: Value.ref (a 3) :: Value.ref (a 4) :: Value.ref (a 5) :: Value.ref (a 6) :: Value.ref (a 7) :: Value.ref (a 8) :: Value.ref (a 9) :: Value.ref (a 10) :: Value.ref (a 11) :: Value.ref (a 12) :: Value.ref (a 13) :: Value.ref (a 14) :: Value.int 0 :: Value.int 0 :: Value.int 0 :: []))), ((a 4), .inr (1, [.ref (a 29), .int 0, .int 0])), ((a 13), .inl (cI, 6, .inl g0))] sz) (q_M D vwCl (some (.int 0)) (fun u => []) (va_A [(h0, .inr (11, (Value.ref (a 0) :: Value.ref (a 1) :: Value.ref (a 2) :: Value.ref (a 3) :: Value.ref (a 4) :: Value.ref (a 5) :: Value.ref (a 6) :: Value.ref (a 7) :: Value.ref (a 8) :: Value.ref (a 9) :: Value.ref (a 10) :: Value.ref (a 11) :: Value.ref (a 12) :: Value.ref (a 13) :: Value.ref (a 14) :: Value.int 0 :: Value.int 0 :: Value.int 0 :: []))), ((a 4), .inr (1, [.ref (a 29), .int 0, .int 0])), ((a 13), .inl (cI, 6, .inl g0))] sz)) 0 0 (va_A [(h0, .inr (11, (Value.ref (a 0) :: Value.ref (a 1) :: Value.ref (a 2) :: Value.ref (a 3) :: Value.ref (a 4) :: Value.ref (a 5) :: Value.ref (a 6) :: Value.ref (a 7) :: Value.ref (a 8) :: Value.ref (a 9) :: Value.ref (a 10) :: Value.ref (a 11) :: Value.ref (a 12) :: Value.ref (a 13) :: Value.ref (a 14) :: Value.int 0 :: Value.int 0 :: Value.int 0 :: []))), ((a 4), .inr (1, [.ref (a 29), .int 0, .int 0])), ((a 13), .inl (cI, 6, .inl g0))] sz) := by
  refine Met.ofW (cc := cX11_undo) (maxL := 1) (ret := (some .boolean)) (by decide) rfl ?_
  intro p e s m args below meth c s₁ B hml hv
  obtain ⟨rfl, hsz, hP, hK, hD0⟩ := hv
  have hx := B.exec
  have hb := B.bytes
  have hr := B.returns
  have hT := sw_in (atoms_spec (ws := sw_ws yX11_undo cX11_undo 1 (some .boolean)) B.pre)
  have hown : s.vm.findClass RX11 = some m.cls := findClass_of_methodNamed B.named
  have hlocks := B.notSynchronized
  subst hsz
  have hD := hD0.self (sz := s.heap.size)
  generalize hAe : va_A [(h0, .inr (11, (Value.ref (a 0) :: Value.ref (a 1) :: Value.ref (a 2) :: Value.ref (a 3) :: Value.ref (a 4) :: Value.ref (a 5) :: Value.ref (a 6) :: Value.ref (a 7) :: Value.ref (a 8) :: Value.ref (a 9) :: Value.ref (a 10) :: Value.ref (a 11) :: Value.ref (a 12) :: Value.ref (a 13) :: Value.ref (a 14) :: Value.int 0 :: Value.int 0 :: Value.int 0 :: []))), ((a 4), .inr (1, [.ref (a 29), .int 0, .int 0])), ((a 13), .inl (cI, 6, .inl g0))] s.heap.size = A at hD ⊢
  have hA : ∀ q : Nat, s.heap.size ≤ q → A q := fun q h => by rw [← hAe]; exact Or.inr h
  have hS : va_S A s.heap s.heap [] := va_S.rf
  have hl := lv_entry ([.ref h0]) (n := 1) (Nat.le_of_ble_eq_true rfl)
  rw [lg_entry_eq]
  generalize (lg_sl ([.ref h0]) ++ List.replicate (1 - (lg_sl ([.ref h0])).length) Slot.unset).toArray = ls at hl ⊢
  have hl : lv_has ls 1 [(0, .ref h0)] := hl
  refine lv_aload_n hx hb dX11_undo_0 rfl (lv_at hl 0 rfl) ?_
  refine va_get (D := D) (ci := 11) (v := .ref (a 4)) (C := RX11) (T := TX11) (N := 18) hx hb hT ix_11 hown hK hP 0 rfl rfl 4 (by decide) (hT _ sw_519) (fun _ h9 => h9) rfl dX11_undo_1 ?_
  refine lv_aload_n hx hb dX11_undo_4 rfl (lv_at hl 0 rfl) ?_
  refine va_get (D := D) (ci := 11) (v := .ref (a 3)) (C := RX11) (T := TX11) (N := 18) hx hb hT ix_11 hown hK hP 0 rfl rfl 3 (by decide) (hT _ sw_518) (fun _ h9 => h9) rfl dX11_undo_5 ?_
  refine go_R (v := some (.int 0)) (st1 := [.int 0]) (run_V (As := [.ref (a 3)]) (rest := []) ⟨hx, hb, hml, hown, hT⟩ (kX1_goBack_0 l D cI h0 a) sw_1236 lkv_X1_goBack (p_R_V (ci := 1) (q0 := 0) (hP.sub (ws' := [((a 4), .inr (1, [.ref (a 29), .int 0, .int 0]))]) [1] rfl) hK rfl rfl) rfl hl.1 rfl (Nat.le_of_ble_eq_true rfl) dX11_undo_8 ⟨⟨Nat.le_of_ble_eq_true rfl, Nat.le_of_ble_eq_true rfl⟩, Nat.le_of_ble_eq_true rfl, Nat.le_of_ble_eq_true rfl⟩) rfl ?_
  refine lv_if_ne (tgt := 20) hx hb dX11_undo_11 (by decide) (fun h9 => absurd (by decide) h9) (fun _ => ?_)
  refine lv_aload_n hx hb dX11_undo_14 rfl (lv_at hl 0 rfl) ?_
  refine lv_iconst (v := 4) hx hb dX11_undo_15 (by decide) ?_
  refine go_M (wc := [(h0, .inr (11, (Value.ref (a 0) :: Value.ref (a 1) :: Value.ref (a 2) :: Value.ref (a 3) :: Value.ref (a 4) :: Value.ref (a 5) :: Value.ref (a 6) :: Value.ref (a 7) :: Value.ref (a 8) :: Value.ref (a 9) :: Value.ref (a 10) :: Value.ref (a 11) :: Value.ref (a 12) :: Value.ref (a 13) :: Value.ref (a 14) :: Value.int 0 :: Value.int 0 :: Value.int 0 :: []))), ((a 13), .inl (cI, 6, .inl g0))]) (wr := [((a 4), .inr (1, [.ref (a 29), .int 0, .int 0]))]) (w1 := fun u => [(h0, .inr (11, (Value.ref (a 0) :: Value.ref (a 1) :: Value.ref (a 2) :: Value.ref (a 3) :: Value.ref (a 4) :: Value.ref (a 5) :: Value.ref (a 6) :: Value.ref (a 7) :: Value.ref (a 8) :: Value.ref (a 9) :: Value.ref (a 10) :: Value.ref (a 11) :: Value.ref (a 12) :: Value.ref (a 13) :: Value.ref (a 14) :: Value.int 0 :: Value.int 0 :: Value.int 0 :: []))), ((a 13), .inl (cI, 6, .inl (u.2 0)))]) (v := some (.int 0)) (st1 := [.int 0]) hP hD hS hA [0, 2] [1] rfl rfl (by decide) (by decide) (by decide) (fun hPc hDc => run_V (As := [.int 4]) (rest := []) ⟨hx, hb, hml, hown, hT⟩ (kX11_deny_2 l D cI h0 a g0 _) sw_589 lkv_X11_deny (p_M_V (ci := 11) (q0 := 0) hPc hK hDc rfl rfl) rfl hl.1 rfl (Nat.le_of_ble_eq_true rfl) dX11_undo_16 ⟨⟨Nat.le_of_ble_eq_true rfl, Nat.le_of_ble_eq_true rfl⟩, Nat.le_of_ble_eq_true rfl, Nat.le_of_ble_eq_true rfl⟩) rfl (fun u_1 H locs hP hD hS => ?_)
  have hP : va_P D vwCl [((a 4), .inr (1, [.ref (a 29), .int 0, .int 0])), (h0, .inr (11, (Value.ref (a 0) :: Value.ref (a 1) :: Value.ref (a 2) :: Value.ref (a 3) :: Value.ref (a 4) :: Value.ref (a 5) :: Value.ref (a 6) :: Value.ref (a 7) :: Value.ref (a 8) :: Value.ref (a 9) :: Value.ref (a 10) :: Value.ref (a 11) :: Value.ref (a 12) :: Value.ref (a 13) :: Value.ref (a 14) :: Value.int 0 :: Value.int 0 :: Value.int 0 :: []))), ((a 13), .inl (cI, 6, .inl (u_1.2 0)))] H := hP
  have hD : va_D A [((a 4), .inr (1, [.ref (a 29), .int 0, .int 0])), (h0, .inr (11, (Value.ref (a 0) :: Value.ref (a 1) :: Value.ref (a 2) :: Value.ref (a 3) :: Value.ref (a 4) :: Value.ref (a 5) :: Value.ref (a 6) :: Value.ref (a 7) :: Value.ref (a 8) :: Value.ref (a 9) :: Value.ref (a 10) :: Value.ref (a 11) :: Value.ref (a 12) :: Value.ref (a 13) :: Value.ref (a 14) :: Value.int 0 :: Value.int 0 :: Value.int 0 :: []))), ((a 13), .inl (cI, 6, .inl (u_1.2 0)))] := hD
  have hP9 := hP.sub (ws' := []) [] rfl
  have hD9 := hD.sub (ws' := []) [] (by decide) rfl
  exact W.zret (v := 0) hx hb hr (by decide) (fun t ht _ => ⟨rfl, ⟨(fun k => [].getD k 0, fun k => [].getD k zI), by rw [ht]; exact hP9, hD9⟩, hS.F ht⟩) hS.2.2 dX11_undo_19
set_option maxHeartbeats 4000000 in
set_option maxRecDepth 100000 in
theorem kX11_deny_3 (l : Launch) (D : va_G) (cI : ClassId) (h0 : Nat) (a : Nat → Nat) (g0 : Nat → Int32) (sz : Nat) : Met l yX11_deny (sw_ws yX11_deny cX11_deny 2 (some .boolean)) (rm_ 1 21 0 0) (p_M D vwCl [(cI, .int)] [.ref h0, .int 5] [(h0, .inr (11, (Value.ref (a 0) :: Value.ref (a 1) :: Value.ref (a 2) :: Value.ref (a 3) :: Value.ref (a 4) :: Value.ref (a 5) :: Value.ref (a 6) :: Value.ref (a 7) :: Value.ref (a 8) :: Value.ref (a 9) :: Value.ref (a 10) :: Value.ref (a 11) :: Value.ref (a 12) :: Value.ref (a 13) :: Value.ref (a 14) :: Value.int 0 :: Value.int 0 :: Value.int 0 :: []))), ((a 13), .inl (cI, 6, .inl g0))] sz) (q_M D vwCl (some (.int 0)) (fun u => [(h0, .inr (11, (Value.ref (a 0) :: Value.ref (a 1) :: Value.ref (a 2) :: Value.ref (a 3) :: Value.ref (a 4) :: Value.ref (a 5) :: Value.ref (a 6) :: Value.ref (a 7) :: Value.ref (a 8) :: Value.ref (a 9) :: Value.ref (a 10) :: Value.ref (a 11) :: Value.ref (a 12) :: Value.ref (a 13) :: Value.ref (a 14) :: Value.int 0 :: Value.int 0 :: Value.int 0 :: []))), ((a 13), .inl (cI, 6, .inl (u.2 0)))]) (va_A [(h0, .inr (11, (Value.ref (a 0) :: Value.ref (a 1) :: Value.ref (a 2) :: Value.ref (a 3) :: Value.ref (a 4) :: Value.ref (a 5) :: Value.ref (a 6) :: Value.ref (a 7) :: Value.ref (a 8) :: Value.ref (a 9) :: Value.ref (a 10) :: Value.ref (a 11) :: Value.ref (a 12) :: Value.ref (a 13) :: Value.ref (a 14) :: Value.int 0 :: Value.int 0 :: Value.int 0 :: []))), ((a 13), .inl (cI, 6, .inl g0))] sz)) 0 0 (va_A [(h0, .inr (11, (Value.ref (a 0) :: Value.ref (a 1) :: Value.ref (a 2) :: Value.ref (a 3) :: Value.ref (a 4) :: Value.ref (a 5) :: Value.ref (a 6) :: Value.ref (a 7) :: Value.ref (a 8) :: Value.ref (a 9) :: Value.ref (a 10) :: Value.ref (a 11) :: Value.ref (a 12) :: Value.ref (a 13) :: Value.ref (a 14) :: Value.int 0 :: Value.int 0 :: Value.int 0 :: []))), ((a 13), .inl (cI, 6, .inl g0))] sz) := by
  refine Met.ofW (cc := cX11_deny) (maxL := 2) (ret := (some .boolean)) (by decide) rfl ?_
  intro p e s m args below meth c s₁ B hml hv
  obtain ⟨rfl, hsz, hP, hK, hD0⟩ := hv
  have hx := B.exec
  have hb := B.bytes
  have hr := B.returns
  have hT := sw_in (atoms_spec (ws := sw_ws yX11_deny cX11_deny 2 (some .boolean)) B.pre)
  have hown : s.vm.findClass RX11 = some m.cls := findClass_of_methodNamed B.named
  have hlocks := B.notSynchronized
  subst hsz
  have hD := hD0.self (sz := s.heap.size)
  generalize hAe : va_A [(h0, .inr (11, (Value.ref (a 0) :: Value.ref (a 1) :: Value.ref (a 2) :: Value.ref (a 3) :: Value.ref (a 4) :: Value.ref (a 5) :: Value.ref (a 6) :: Value.ref (a 7) :: Value.ref (a 8) :: Value.ref (a 9) :: Value.ref (a 10) :: Value.ref (a 11) :: Value.ref (a 12) :: Value.ref (a 13) :: Value.ref (a 14) :: Value.int 0 :: Value.int 0 :: Value.int 0 :: []))), ((a 13), .inl (cI, 6, .inl g0))] s.heap.size = A at hD ⊢
  have hA : ∀ q : Nat, s.heap.size ≤ q → A q := fun q h => by rw [← hAe]; exact Or.inr h
  have hS : va_S A s.heap s.heap [] := va_S.rf
  have hl := lv_entry ([.ref h0, .int 5]) (n := 2) (Nat.le_of_ble_eq_true rfl)
  rw [lg_entry_eq]
  generalize (lg_sl ([.ref h0, .int 5]) ++ List.replicate (2 - (lg_sl ([.ref h0, .int 5])).length) Slot.unset).toArray = ls at hl ⊢
  have hl : lv_has ls 2 [(0, .ref h0), (1, .int 5)] := hl
  refine lv_aload_n hx hb dX11_deny_0 rfl (lv_at hl 0 rfl) ?_
  refine lv_iload_n hx hb dX11_deny_1 rfl (lv_at hl 1 rfl) ?_
  refine go_M (wc := [(h0, .inr (11, (Value.ref (a 0) :: Value.ref (a 1) :: Value.ref (a 2) :: Value.ref (a 3) :: Value.ref (a 4) :: Value.ref (a 5) :: Value.ref (a 6) :: Value.ref (a 7) :: Value.ref (a 8) :: Value.ref (a 9) :: Value.ref (a 10) :: Value.ref (a 11) :: Value.ref (a 12) :: Value.ref (a 13) :: Value.ref (a 14) :: Value.int 0 :: Value.int 0 :: Value.int 0 :: []))), ((a 13), .inl (cI, 6, .inl g0))]) (wr := []) (w1 := fun u => [(h0, .inr (11, (Value.ref (a 0) :: Value.ref (a 1) :: Value.ref (a 2) :: Value.ref (a 3) :: Value.ref (a 4) :: Value.ref (a 5) :: Value.ref (a 6) :: Value.ref (a 7) :: Value.ref (a 8) :: Value.ref (a 9) :: Value.ref (a 10) :: Value.ref (a 11) :: Value.ref (a 12) :: Value.ref (a 13) :: Value.ref (a 14) :: Value.int 0 :: Value.int 0 :: Value.int 0 :: []))), ((a 13), .inl (cI, 6, .inl (u.2 0)))]) (v := some (.int (-1))) (st1 := [.int (-1)]) hP hD hS hA [0, 1] [] rfl rfl (by decide) (by decide) (by decide) (fun hPc hDc => run_V (As := [.int 5]) (rest := []) ⟨hx, hb, hml, hown, hT⟩ (kX11_refuse_1 l D cI h0 a g0 _) sw_574 lkv_X11_refuse (p_M_V (ci := 11) (q0 := 0) hPc hK hDc rfl rfl) rfl hl.1 rfl (Nat.le_of_ble_eq_true rfl) dX11_deny_2 ⟨⟨Nat.le_of_ble_eq_true rfl, Nat.le_of_ble_eq_true rfl⟩, Nat.le_of_ble_eq_true rfl, Nat.le_of_ble_eq_true rfl⟩) rfl (fun u_1 H locs hP hD hS => ?_)
  have hP : va_P D vwCl [(h0, .inr (11, (Value.ref (a 0) :: Value.ref (a 1) :: Value.ref (a 2) :: Value.ref (a 3) :: Value.ref (a 4) :: Value.ref (a 5) :: Value.ref (a 6) :: Value.ref (a 7) :: Value.ref (a 8) :: Value.ref (a 9) :: Value.ref (a 10) :: Value.ref (a 11) :: Value.ref (a 12) :: Value.ref (a 13) :: Value.ref (a 14) :: Value.int 0 :: Value.int 0 :: Value.int 0 :: []))), ((a 13), .inl (cI, 6, .inl (u_1.2 0)))] H := hP
  have hD : va_D A [(h0, .inr (11, (Value.ref (a 0) :: Value.ref (a 1) :: Value.ref (a 2) :: Value.ref (a 3) :: Value.ref (a 4) :: Value.ref (a 5) :: Value.ref (a 6) :: Value.ref (a 7) :: Value.ref (a 8) :: Value.ref (a 9) :: Value.ref (a 10) :: Value.ref (a 11) :: Value.ref (a 12) :: Value.ref (a 13) :: Value.ref (a 14) :: Value.int 0 :: Value.int 0 :: Value.int 0 :: []))), ((a 13), .inl (cI, 6, .inl (u_1.2 0)))] := hD
  refine lv_pop hx hb dX11_deny_5 rfl ?_
  refine lv_iconst (v := 0) hx hb dX11_deny_6 (by decide) ?_
  have hP9 := hP.sub (ws' := [(h0, .inr (11, (Value.ref (a 0) :: Value.ref (a 1) :: Value.ref (a 2) :: Value.ref (a 3) :: Value.ref (a 4) :: Value.ref (a 5) :: Value.ref (a 6) :: Value.ref (a 7) :: Value.ref (a 8) :: Value.ref (a 9) :: Value.ref (a 10) :: Value.ref (a 11) :: Value.ref (a 12) :: Value.ref (a 13) :: Value.ref (a 14) :: Value.int 0 :: Value.int 0 :: Value.int 0 :: []))), ((a 13), .inl (cI, 6, .inl (u_1.2 0)))]) [0, 1] rfl
  have hD9 := hD.sub (ws' := [(h0, .inr (11, (Value.ref (a 0) :: Value.ref (a 1) :: Value.ref (a 2) :: Value.ref (a 3) :: Value.ref (a 4) :: Value.ref (a 5) :: Value.ref (a 6) :: Value.ref (a 7) :: Value.ref (a 8) :: Value.ref (a 9) :: Value.ref (a 10) :: Value.ref (a 11) :: Value.ref (a 12) :: Value.ref (a 13) :: Value.ref (a 14) :: Value.int 0 :: Value.int 0 :: Value.int 0 :: []))), ((a 13), .inl (cI, 6, .inl (u_1.2 0)))]) [0, 1] (by decide) rfl
  exact W.zret (v := 0) hx hb hr (by decide) (fun t ht _ => ⟨rfl, ⟨(fun k => [].getD k 0, fun k => [(u_1.2 0)].getD k zI), by rw [ht]; exact hP9, hD9⟩, hS.F ht⟩) hS.2.2 dX11_deny_7
set_option maxHeartbeats 4000000 in
set_option maxRecDepth 100000 in
theorem kX11_seed_0 (l : Launch) (D : va_G) (cI : ClassId) (h0 : Nat) (a : Nat → Nat) (p0 : Int32) (g0 : Nat → Int32) (sz : Nat) : Met l yX11_seed (sw_ws yX11_seed cX11_seed 2 (some .boolean)) (rm_ 2 42 0 0) (p_M D vwCl [(cI, .int)] [.ref h0, .int p0] [(h0, .inr (11, (Value.ref (a 0) :: Value.ref (a 1) :: Value.ref (a 2) :: Value.ref (a 3) :: Value.ref (a 4) :: Value.ref (a 5) :: Value.ref (a 6) :: Value.ref (a 7) :: Value.ref (a 8) :: Value.ref (a 9) :: Value.ref (a 10) :: Value.ref (a 11) :: Value.ref (a 12) :: Value.ref (a 13) :: Value.ref (a 14) :: Value.int 0 :: Value.int 0 :: Value.int 0 :: []))), ((a 11), .inr (6, [.ref (a 44), .int 0, .int 0, .int 0, .int 1])), ((a 13), .inl (cI, 6, .inl g0))] sz) (q_M D vwCl (some (.int (sp_seed p0))) (fun u => []) (va_A [(h0, .inr (11, (Value.ref (a 0) :: Value.ref (a 1) :: Value.ref (a 2) :: Value.ref (a 3) :: Value.ref (a 4) :: Value.ref (a 5) :: Value.ref (a 6) :: Value.ref (a 7) :: Value.ref (a 8) :: Value.ref (a 9) :: Value.ref (a 10) :: Value.ref (a 11) :: Value.ref (a 12) :: Value.ref (a 13) :: Value.ref (a 14) :: Value.int 0 :: Value.int 0 :: Value.int 0 :: []))), ((a 11), .inr (6, [.ref (a 44), .int 0, .int 0, .int 0, .int 1])), ((a 13), .inl (cI, 6, .inl g0))] sz)) 0 0 (va_A [(h0, .inr (11, (Value.ref (a 0) :: Value.ref (a 1) :: Value.ref (a 2) :: Value.ref (a 3) :: Value.ref (a 4) :: Value.ref (a 5) :: Value.ref (a 6) :: Value.ref (a 7) :: Value.ref (a 8) :: Value.ref (a 9) :: Value.ref (a 10) :: Value.ref (a 11) :: Value.ref (a 12) :: Value.ref (a 13) :: Value.ref (a 14) :: Value.int 0 :: Value.int 0 :: Value.int 0 :: []))), ((a 11), .inr (6, [.ref (a 44), .int 0, .int 0, .int 0, .int 1])), ((a 13), .inl (cI, 6, .inl g0))] sz) := by
  refine Met.ofW (cc := cX11_seed) (maxL := 2) (ret := (some .boolean)) (by decide) rfl ?_
  intro p e s m args below meth c s₁ B hml hv
  obtain ⟨rfl, hsz, hP, hK, hD0⟩ := hv
  have hx := B.exec
  have hb := B.bytes
  have hr := B.returns
  have hT := sw_in (atoms_spec (ws := sw_ws yX11_seed cX11_seed 2 (some .boolean)) B.pre)
  have hown : s.vm.findClass RX11 = some m.cls := findClass_of_methodNamed B.named
  have hlocks := B.notSynchronized
  subst hsz
  have hD := hD0.self (sz := s.heap.size)
  generalize hAe : va_A [(h0, .inr (11, (Value.ref (a 0) :: Value.ref (a 1) :: Value.ref (a 2) :: Value.ref (a 3) :: Value.ref (a 4) :: Value.ref (a 5) :: Value.ref (a 6) :: Value.ref (a 7) :: Value.ref (a 8) :: Value.ref (a 9) :: Value.ref (a 10) :: Value.ref (a 11) :: Value.ref (a 12) :: Value.ref (a 13) :: Value.ref (a 14) :: Value.int 0 :: Value.int 0 :: Value.int 0 :: []))), ((a 11), .inr (6, [.ref (a 44), .int 0, .int 0, .int 0, .int 1])), ((a 13), .inl (cI, 6, .inl g0))] s.heap.size = A at hD ⊢
  have hA : ∀ q : Nat, s.heap.size ≤ q → A q := fun q h => by rw [← hAe]; exact Or.inr h
  have hS : va_S A s.heap s.heap [] := va_S.rf
  have hl := lv_entry ([.ref h0, .int p0]) (n := 2) (Nat.le_of_ble_eq_true rfl)
  rw [lg_entry_eq]
  generalize (lg_sl ([.ref h0, .int p0]) ++ List.replicate (2 - (lg_sl ([.ref h0, .int p0])).length) Slot.unset).toArray = ls at hl ⊢
  have hl : lv_has ls 2 [(0, .ref h0), (1, .int p0)] := hl
  refine lv_iload_n hx hb dX11_seed_0 rfl (lv_at hl 1 rfl) ?_
  refine lv_if_ge (tgt := 10) hx hb dX11_seed_1 (by decide) (fun c_1 => ?_) (fun c_1 => ?_)
  · refine lv_aload_n hx hb dX11_seed_10 rfl (lv_at hl 0 rfl) ?_
    refine va_get (D := D) (ci := 11) (v := .ref (a 11)) (C := RX11) (T := TX11) (N := 18) hx hb hT ix_11 hown hK hP 0 rfl rfl 11 (by decide) (hT _ sw_526) (fun _ h9 => h9) rfl dX11_seed_11 ?_
    refine lv_iload_n hx hb dX11_seed_14 rfl (lv_at hl 1 rfl) ?_
    refine va_putN (D := D) (ci := 6) (v := .int p0) (ty := .int) (C := RX6) (T := TX6) (N := 5) hx hb hT ix_6 tyX6 tyX6_ok nmX6 hown hK hP hD hS 1 rfl rfl 4 (by decide) (hT _ sw_506) (fun _ h9 => h9) rfl (by decide +kernel) rfl rfl (Nat.le_of_ble_eq_true rfl) dX11_seed_15 (fun H locs hP hD hS => ?_)
    have hP : va_P D vwCl [(h0, .inr (11, (Value.ref (a 0) :: Value.ref (a 1) :: Value.ref (a 2) :: Value.ref (a 3) :: Value.ref (a 4) :: Value.ref (a 5) :: Value.ref (a 6) :: Value.ref (a 7) :: Value.ref (a 8) :: Value.ref (a 9) :: Value.ref (a 10) :: Value.ref (a 11) :: Value.ref (a 12) :: Value.ref (a 13) :: Value.ref (a 14) :: Value.int 0 :: Value.int 0 :: Value.int 0 :: []))), ((a 11), .inr (6, [.ref (a 44), .int 0, .int 0, .int 0, .int p0])), ((a 13), .inl (cI, 6, .inl g0))] H := hP
    have hD : va_D A [(h0, .inr (11, (Value.ref (a 0) :: Value.ref (a 1) :: Value.ref (a 2) :: Value.ref (a 3) :: Value.ref (a 4) :: Value.ref (a 5) :: Value.ref (a 6) :: Value.ref (a 7) :: Value.ref (a 8) :: Value.ref (a 9) :: Value.ref (a 10) :: Value.ref (a 11) :: Value.ref (a 12) :: Value.ref (a 13) :: Value.ref (a 14) :: Value.int 0 :: Value.int 0 :: Value.int 0 :: []))), ((a 11), .inr (6, [.ref (a 44), .int 0, .int 0, .int 0, .int p0])), ((a 13), .inl (cI, 6, .inl g0))] := hD
    refine lv_iconst (v := 1) hx hb dX11_seed_18 (by decide) ?_
    refine ct_i (z := sp_seed p0) (pl_19 p0 c_1) ?_
    have hP9 := hP.sub (ws' := []) [] rfl
    have hD9 := hD.sub (ws' := []) [] (by decide) rfl
    exact W.zret (v := sp_seed p0) hx hb hr (nz_sp_seed _) (fun t ht _ => ⟨rfl, ⟨(fun k => [].getD k 0, fun k => [].getD k zI), by rw [ht]; exact hP9, hD9⟩, hS.F ht⟩) hS.2.2 dX11_seed_19
  · refine lv_aload_n hx hb dX11_seed_4 rfl (lv_at hl 0 rfl) ?_
    refine lv_iconst (v := 5) hx hb dX11_seed_5 (by decide) ?_
    refine go_M (wc := [(h0, .inr (11, (Value.ref (a 0) :: Value.ref (a 1) :: Value.ref (a 2) :: Value.ref (a 3) :: Value.ref (a 4) :: Value.ref (a 5) :: Value.ref (a 6) :: Value.ref (a 7) :: Value.ref (a 8) :: Value.ref (a 9) :: Value.ref (a 10) :: Value.ref (a 11) :: Value.ref (a 12) :: Value.ref (a 13) :: Value.ref (a 14) :: Value.int 0 :: Value.int 0 :: Value.int 0 :: []))), ((a 13), .inl (cI, 6, .inl g0))]) (wr := [((a 11), .inr (6, [.ref (a 44), .int 0, .int 0, .int 0, .int 1]))]) (w1 := fun u => [(h0, .inr (11, (Value.ref (a 0) :: Value.ref (a 1) :: Value.ref (a 2) :: Value.ref (a 3) :: Value.ref (a 4) :: Value.ref (a 5) :: Value.ref (a 6) :: Value.ref (a 7) :: Value.ref (a 8) :: Value.ref (a 9) :: Value.ref (a 10) :: Value.ref (a 11) :: Value.ref (a 12) :: Value.ref (a 13) :: Value.ref (a 14) :: Value.int 0 :: Value.int 0 :: Value.int 0 :: []))), ((a 13), .inl (cI, 6, .inl (u.2 0)))]) (v := some (.int 0)) (st1 := [.int 0]) hP hD hS hA [0, 2] [1] rfl rfl (by decide) (by decide) (by decide) (fun hPc hDc => run_V (As := [.int 5]) (rest := []) ⟨hx, hb, hml, hown, hT⟩ (kX11_deny_3 l D cI h0 a g0 _) sw_589 lkv_X11_deny (p_M_V (ci := 11) (q0 := 0) hPc hK hDc rfl rfl) rfl hl.1 rfl (Nat.le_of_ble_eq_true rfl) dX11_seed_6 ⟨⟨Nat.le_of_ble_eq_true rfl, Nat.le_of_ble_eq_true rfl⟩, Nat.le_of_ble_eq_true rfl, Nat.le_of_ble_eq_true rfl⟩) rfl (fun u_2 H locs hP hD hS => ?_)
    have hP : va_P D vwCl [((a 11), .inr (6, [.ref (a 44), .int 0, .int 0, .int 0, .int 1])), (h0, .inr (11, (Value.ref (a 0) :: Value.ref (a 1) :: Value.ref (a 2) :: Value.ref (a 3) :: Value.ref (a 4) :: Value.ref (a 5) :: Value.ref (a 6) :: Value.ref (a 7) :: Value.ref (a 8) :: Value.ref (a 9) :: Value.ref (a 10) :: Value.ref (a 11) :: Value.ref (a 12) :: Value.ref (a 13) :: Value.ref (a 14) :: Value.int 0 :: Value.int 0 :: Value.int 0 :: []))), ((a 13), .inl (cI, 6, .inl (u_2.2 0)))] H := hP
    have hD : va_D A [((a 11), .inr (6, [.ref (a 44), .int 0, .int 0, .int 0, .int 1])), (h0, .inr (11, (Value.ref (a 0) :: Value.ref (a 1) :: Value.ref (a 2) :: Value.ref (a 3) :: Value.ref (a 4) :: Value.ref (a 5) :: Value.ref (a 6) :: Value.ref (a 7) :: Value.ref (a 8) :: Value.ref (a 9) :: Value.ref (a 10) :: Value.ref (a 11) :: Value.ref (a 12) :: Value.ref (a 13) :: Value.ref (a 14) :: Value.int 0 :: Value.int 0 :: Value.int 0 :: []))), ((a 13), .inl (cI, 6, .inl (u_2.2 0)))] := hD
    refine ct_i (z := sp_seed p0) (pl_20 p0 c_1) ?_
    have hP9 := hP.sub (ws' := []) [] rfl
    have hD9 := hD.sub (ws' := []) [] (by decide) rfl
    exact W.zret (v := sp_seed p0) hx hb hr (nz_sp_seed _) (fun t ht _ => ⟨rfl, ⟨(fun k => [].getD k 0, fun k => [].getD k zI), by rw [ht]; exact hP9, hD9⟩, hS.F ht⟩) hS.2.2 dX11_seed_9
set_option maxHeartbeats 4000000 in
set_option maxRecDepth 100000 in
theorem kX11_draw_0 (l : Launch) (D : va_G) (cI : ClassId) (h0 : Nat) (a : Nat → Nat) (g0 : Nat → Int32) (sz : Nat) : Met l yX11_draw (sw_ws yX11_draw cX11_draw 2 none) (rm_ 0 0 0 0) (p_M D vwCl [(cI, .int)] [.ref h0, .int 0] [(h0, .inr (11, (Value.ref (a 0) :: Value.ref (a 1) :: Value.ref (a 2) :: Value.ref (a 3) :: Value.ref (a 4) :: Value.ref (a 5) :: Value.ref (a 6) :: Value.ref (a 7) :: Value.ref (a 8) :: Value.ref (a 9) :: Value.ref (a 10) :: Value.ref (a 11) :: Value.ref (a 12) :: Value.ref (a 13) :: Value.ref (a 14) :: Value.int 0 :: Value.int 0 :: Value.int 0 :: []))), ((a 14), .inl (cI, 130, .inl g0))] sz) (q_M D vwCl none (fun u => [(h0, .inr (11, (Value.ref (a 0) :: Value.ref (a 1) :: Value.ref (a 2) :: Value.ref (a 3) :: Value.ref (a 4) :: Value.ref (a 5) :: Value.ref (a 6) :: Value.ref (a 7) :: Value.ref (a 8) :: Value.ref (a 9) :: Value.ref (a 10) :: Value.ref (a 11) :: Value.ref (a 12) :: Value.ref (a 13) :: Value.ref (a 14) :: Value.int 1 :: Value.int 0 :: Value.int 0 :: []))), ((a 14), .inl (cI, 130, .inl (u.2 0)))]) (va_A [(h0, .inr (11, (Value.ref (a 0) :: Value.ref (a 1) :: Value.ref (a 2) :: Value.ref (a 3) :: Value.ref (a 4) :: Value.ref (a 5) :: Value.ref (a 6) :: Value.ref (a 7) :: Value.ref (a 8) :: Value.ref (a 9) :: Value.ref (a 10) :: Value.ref (a 11) :: Value.ref (a 12) :: Value.ref (a 13) :: Value.ref (a 14) :: Value.int 0 :: Value.int 0 :: Value.int 0 :: []))), ((a 14), .inl (cI, 130, .inl g0))] sz)) 0 0 (va_A [(h0, .inr (11, (Value.ref (a 0) :: Value.ref (a 1) :: Value.ref (a 2) :: Value.ref (a 3) :: Value.ref (a 4) :: Value.ref (a 5) :: Value.ref (a 6) :: Value.ref (a 7) :: Value.ref (a 8) :: Value.ref (a 9) :: Value.ref (a 10) :: Value.ref (a 11) :: Value.ref (a 12) :: Value.ref (a 13) :: Value.ref (a 14) :: Value.int 0 :: Value.int 0 :: Value.int 0 :: []))), ((a 14), .inl (cI, 130, .inl g0))] sz) := by
  refine Met.ofW (cc := cX11_draw) (maxL := 2) (ret := none) (by decide) rfl ?_
  intro p e s m args below meth c s₁ B hml hv
  obtain ⟨rfl, hsz, hP, hK, hD0⟩ := hv
  have hx := B.exec
  have hb := B.bytes
  have hr := B.returns
  have hT := sw_in (atoms_spec (ws := sw_ws yX11_draw cX11_draw 2 none) B.pre)
  have hown : s.vm.findClass RX11 = some m.cls := findClass_of_methodNamed B.named
  have hlocks := B.notSynchronized
  subst hsz
  have hD := hD0.self (sz := s.heap.size)
  generalize hAe : va_A [(h0, .inr (11, (Value.ref (a 0) :: Value.ref (a 1) :: Value.ref (a 2) :: Value.ref (a 3) :: Value.ref (a 4) :: Value.ref (a 5) :: Value.ref (a 6) :: Value.ref (a 7) :: Value.ref (a 8) :: Value.ref (a 9) :: Value.ref (a 10) :: Value.ref (a 11) :: Value.ref (a 12) :: Value.ref (a 13) :: Value.ref (a 14) :: Value.int 0 :: Value.int 0 :: Value.int 0 :: []))), ((a 14), .inl (cI, 130, .inl g0))] s.heap.size = A at hD ⊢
  have hA : ∀ q : Nat, s.heap.size ≤ q → A q := fun q h => by rw [← hAe]; exact Or.inr h
  have hS : va_S A s.heap s.heap [] := va_S.rf
  have hl := lv_entry ([.ref h0, .int 0]) (n := 2) (Nat.le_of_ble_eq_true rfl)
  rw [lg_entry_eq]
  generalize (lg_sl ([.ref h0, .int 0]) ++ List.replicate (2 - (lg_sl ([.ref h0, .int 0])).length) Slot.unset).toArray = ls at hl ⊢
  have hl : lv_has ls 2 [(0, .ref h0), (1, .int 0)] := hl
  refine lv_aload_n hx hb dX11_draw_0 rfl (lv_at hl 0 rfl) ?_
  refine va_get (D := D) (ci := 11) (v := .int 0) (C := RX11) (T := TX11) (N := 18) hx hb hT ix_11 hown hK hP 0 rfl rfl 15 (by decide) (hT _ sw_530) (fun _ h9 => h9) rfl dX11_draw_1 ?_
  refine lv_sipush (v := 130) hx hb dX11_draw_4 (by decide) ?_
  refine lv_icmp_ge (tgt := 34) hx hb dX11_draw_7 (by decide) (fun h9 => absurd h9 (by decide)) (fun _ => ?_)
  refine lv_aload_n hx hb dX11_draw_10 rfl (lv_at hl 0 rfl) ?_
  refine va_get (D := D) (ci := 11) (v := .ref (a 14)) (C := RX11) (T := TX11) (N := 18) hx hb hT ix_11 hown hK hP 0 rfl rfl 14 (by decide) (hT _ sw_529) (fun _ h9 => h9) rfl dX11_draw_11 ?_
  refine lv_aload_n hx hb dX11_draw_14 rfl (lv_at hl 0 rfl) ?_
  refine va_get (D := D) (ci := 11) (v := .int 0) (C := RX11) (T := TX11) (N := 18) hx hb hT ix_11 hown hK hP 0 rfl rfl 15 (by decide) (hT _ sw_530) (fun _ h9 => h9) rfl dX11_draw_15 ?_
  refine lv_iload_n hx hb dX11_draw_18 rfl (lv_at hl 1 rfl) ?_
  refine lv_sipush (v := 255) hx hb dX11_draw_19 (by decide) ?_
  refine lv_iand hx hb dX11_draw_22 ?_
  refine ct_i (z := 0) (by decide) ?_
  refine va_iast hx hb hK hP hD hS 1 0 rfl rfl (vi_c (by decide +kernel)) dX11_draw_23 (fun H locs hP hD hS => ?_)
  obtain ⟨f_1, hP, hD⟩ : ∃ f_1 : Nat → Int32, va_P D vwCl [(h0, .inr (11, (Value.ref (a 0) :: Value.ref (a 1) :: Value.ref (a 2) :: Value.ref (a 3) :: Value.ref (a 4) :: Value.ref (a 5) :: Value.ref (a 6) :: Value.ref (a 7) :: Value.ref (a 8) :: Value.ref (a 9) :: Value.ref (a 10) :: Value.ref (a 11) :: Value.ref (a 12) :: Value.ref (a 13) :: Value.ref (a 14) :: Value.int 0 :: Value.int 0 :: Value.int 0 :: []))), ((a 14), .inl (cI, 130, .inl f_1))] H ∧ va_D A [(h0, .inr (11, (Value.ref (a 0) :: Value.ref (a 1) :: Value.ref (a 2) :: Value.ref (a 3) :: Value.ref (a 4) :: Value.ref (a 5) :: Value.ref (a 6) :: Value.ref (a 7) :: Value.ref (a 8) :: Value.ref (a 9) :: Value.ref (a 10) :: Value.ref (a 11) :: Value.ref (a 12) :: Value.ref (a 13) :: Value.ref (a 14) :: Value.int 0 :: Value.int 0 :: Value.int 0 :: []))), ((a 14), .inl (cI, 130, .inl f_1))] := ⟨upd g0 (0 : Int32).toNatClampNeg 0, hP, hD⟩
  refine lv_aload_n hx hb dX11_draw_24 rfl (lv_at hl 0 rfl) ?_
  refine lv_dup hx hb dX11_draw_25 rfl ?_
  refine va_get (D := D) (ci := 11) (v := .int 0) (C := RX11) (T := TX11) (N := 18) hx hb hT ix_11 hown hK hP 0 rfl rfl 15 (by decide) (hT _ sw_530) (fun _ h9 => h9) rfl dX11_draw_26 ?_
  refine lv_iconst (v := 1) hx hb dX11_draw_29 (by decide) ?_
  refine lv_iadd hx hb dX11_draw_30 ?_
  refine ct_i (z := 1) (by decide) ?_
  refine va_put (D := D) (ci := 11) (v := .int 1) (ty := .int) (C := RX11) (T := TX11) (N := 18) hx hb hT ix_11 tyX11 tyX11_ok nmX11 hown hK hP hD hS 0 rfl rfl 15 (by decide) (hT _ sw_530) (fun _ h9 => h9) rfl (by decide +kernel) rfl rfl (Nat.le_of_ble_eq_true rfl) dX11_draw_31 (fun H locs hP hD hS => ?_)
  have hP : va_P D vwCl [(h0, .inr (11, (Value.ref (a 0) :: Value.ref (a 1) :: Value.ref (a 2) :: Value.ref (a 3) :: Value.ref (a 4) :: Value.ref (a 5) :: Value.ref (a 6) :: Value.ref (a 7) :: Value.ref (a 8) :: Value.ref (a 9) :: Value.ref (a 10) :: Value.ref (a 11) :: Value.ref (a 12) :: Value.ref (a 13) :: Value.ref (a 14) :: Value.int 1 :: Value.int 0 :: Value.int 0 :: []))), ((a 14), .inl (cI, 130, .inl f_1))] H := hP
  have hD : va_D A [(h0, .inr (11, (Value.ref (a 0) :: Value.ref (a 1) :: Value.ref (a 2) :: Value.ref (a 3) :: Value.ref (a 4) :: Value.ref (a 5) :: Value.ref (a 6) :: Value.ref (a 7) :: Value.ref (a 8) :: Value.ref (a 9) :: Value.ref (a 10) :: Value.ref (a 11) :: Value.ref (a 12) :: Value.ref (a 13) :: Value.ref (a 14) :: Value.int 1 :: Value.int 0 :: Value.int 0 :: []))), ((a 14), .inl (cI, 130, .inl f_1))] := hD
  have hP9 := hP.sub (ws' := [(h0, .inr (11, (Value.ref (a 0) :: Value.ref (a 1) :: Value.ref (a 2) :: Value.ref (a 3) :: Value.ref (a 4) :: Value.ref (a 5) :: Value.ref (a 6) :: Value.ref (a 7) :: Value.ref (a 8) :: Value.ref (a 9) :: Value.ref (a 10) :: Value.ref (a 11) :: Value.ref (a 12) :: Value.ref (a 13) :: Value.ref (a 14) :: Value.int 1 :: Value.int 0 :: Value.int 0 :: []))), ((a 14), .inl (cI, 130, .inl f_1))]) [0, 1] rfl
  have hD9 := hD.sub (ws' := [(h0, .inr (11, (Value.ref (a 0) :: Value.ref (a 1) :: Value.ref (a 2) :: Value.ref (a 3) :: Value.ref (a 4) :: Value.ref (a 5) :: Value.ref (a 6) :: Value.ref (a 7) :: Value.ref (a 8) :: Value.ref (a 9) :: Value.ref (a 10) :: Value.ref (a 11) :: Value.ref (a 12) :: Value.ref (a 13) :: Value.ref (a 14) :: Value.int 1 :: Value.int 0 :: Value.int 0 :: []))), ((a 14), .inl (cI, 130, .inl f_1))]) [0, 1] (by decide) rfl
  exact W.vret hx hb hr (fun t ht _ => ⟨rfl, ⟨(fun k => [].getD k 0, fun k => [f_1].getD k zI), by rw [ht]; exact hP9, hD9⟩, hS.F ht⟩) hS.2.2 dX11_draw_34
set_option maxHeartbeats 4000000 in
set_option maxRecDepth 100000 in
theorem kX11_nextCheck_0 (l : Launch) (D : va_G) (cI : ClassId) (h0 : Nat) (a : Nat → Nat) (p0 p1 : Int32) : Met l yX11_nextCheck (sw_ws yX11_nextCheck cX11_nextCheck 2 (some .int)) (rm_ 0 0 0 0) (p_R D vwCl [(cI, .int)] [.int p0, .int p1] []) (q_R (some (.int (((3 * p0) + p1) - ((3 * p0) + p1) / 251 * 251)))) 0 0 (fun _ => False) := by
  refine Met.ofW (cc := cX11_nextCheck) (maxL := 2) (ret := (some .int)) (by decide) rfl ?_
  intro p e s m args below meth c s₁ B hml hv
  obtain ⟨rfl, hP, hK⟩ := hv
  have hx := B.exec
  have hb := B.bytes
  have hr := B.returns
  have hT := sw_in (atoms_spec (ws := sw_ws yX11_nextCheck cX11_nextCheck 2 (some .int)) B.pre)
  have hown : s.vm.findClass RX11 = some m.cls := findClass_of_methodNamed B.named
  have hlocks := B.notSynchronized
  have hl := lv_entry ([.int p0, .int p1]) (n := 2) (Nat.le_of_ble_eq_true rfl)
  rw [lg_entry_eq]
  generalize (lg_sl ([.int p0, .int p1]) ++ List.replicate (2 - (lg_sl ([.int p0, .int p1])).length) Slot.unset).toArray = ls at hl ⊢
  have hl : lv_has ls 2 [(0, .int p0), (1, .int p1)] := hl
  refine lv_iconst (v := 3) hx hb dX11_nextCheck_0 (by decide) ?_
  refine lv_iload_n hx hb dX11_nextCheck_1 rfl (lv_at hl 0 rfl) ?_
  refine lv_imul hx hb dX11_nextCheck_2 ?_
  refine lv_iload_n hx hb dX11_nextCheck_3 rfl (lv_at hl 1 rfl) ?_
  refine lv_iadd hx hb dX11_nextCheck_4 ?_
  refine lv_sipush (v := 251) hx hb dX11_nextCheck_5 (by decide) ?_
  refine lv_irem hx hb dX11_nextCheck_8 (by decide) ?_
  exact W.iret (v := (((3 * p0) + p1) - ((3 * p0) + p1) / 251 * 251)) hx hb hr (fun t ht _ => ⟨rfl, ht⟩) (fun _ h9 => nomatch h9) dX11_nextCheck_9
set_option maxHeartbeats 4000000 in
set_option maxRecDepth 100000 in
theorem kX11_draw_1 (l : Launch) (D : va_G) (cI : ClassId) (h0 : Nat) (a : Nat → Nat) (p0 : Int32) (g0 : Nat → Int32) (sz : Nat) : Met l yX11_draw (sw_ws yX11_draw cX11_draw 2 none) (rm_ 0 0 0 0) (p_M D vwCl [(cI, .int)] [.ref h0, .int p0] [(h0, .inr (11, (Value.ref (a 0) :: Value.ref (a 1) :: Value.ref (a 2) :: Value.ref (a 3) :: Value.ref (a 4) :: Value.ref (a 5) :: Value.ref (a 6) :: Value.ref (a 7) :: Value.ref (a 8) :: Value.ref (a 9) :: Value.ref (a 10) :: Value.ref (a 11) :: Value.ref (a 12) :: Value.ref (a 13) :: Value.ref (a 14) :: Value.int 1 :: Value.int 0 :: Value.int 0 :: []))), ((a 14), .inl (cI, 130, .inl g0))] sz) (q_M D vwCl none (fun u => [(h0, .inr (11, (Value.ref (a 0) :: Value.ref (a 1) :: Value.ref (a 2) :: Value.ref (a 3) :: Value.ref (a 4) :: Value.ref (a 5) :: Value.ref (a 6) :: Value.ref (a 7) :: Value.ref (a 8) :: Value.ref (a 9) :: Value.ref (a 10) :: Value.ref (a 11) :: Value.ref (a 12) :: Value.ref (a 13) :: Value.ref (a 14) :: Value.int 2 :: Value.int 0 :: Value.int 0 :: []))), ((a 14), .inl (cI, 130, .inl (u.2 0)))]) (va_A [(h0, .inr (11, (Value.ref (a 0) :: Value.ref (a 1) :: Value.ref (a 2) :: Value.ref (a 3) :: Value.ref (a 4) :: Value.ref (a 5) :: Value.ref (a 6) :: Value.ref (a 7) :: Value.ref (a 8) :: Value.ref (a 9) :: Value.ref (a 10) :: Value.ref (a 11) :: Value.ref (a 12) :: Value.ref (a 13) :: Value.ref (a 14) :: Value.int 1 :: Value.int 0 :: Value.int 0 :: []))), ((a 14), .inl (cI, 130, .inl g0))] sz)) 0 0 (va_A [(h0, .inr (11, (Value.ref (a 0) :: Value.ref (a 1) :: Value.ref (a 2) :: Value.ref (a 3) :: Value.ref (a 4) :: Value.ref (a 5) :: Value.ref (a 6) :: Value.ref (a 7) :: Value.ref (a 8) :: Value.ref (a 9) :: Value.ref (a 10) :: Value.ref (a 11) :: Value.ref (a 12) :: Value.ref (a 13) :: Value.ref (a 14) :: Value.int 1 :: Value.int 0 :: Value.int 0 :: []))), ((a 14), .inl (cI, 130, .inl g0))] sz) := by
  refine Met.ofW (cc := cX11_draw) (maxL := 2) (ret := none) (by decide) rfl ?_
  intro p e s m args below meth c s₁ B hml hv
  obtain ⟨rfl, hsz, hP, hK, hD0⟩ := hv
  have hx := B.exec
  have hb := B.bytes
  have hr := B.returns
  have hT := sw_in (atoms_spec (ws := sw_ws yX11_draw cX11_draw 2 none) B.pre)
  have hown : s.vm.findClass RX11 = some m.cls := findClass_of_methodNamed B.named
  have hlocks := B.notSynchronized
  subst hsz
  have hD := hD0.self (sz := s.heap.size)
  generalize hAe : va_A [(h0, .inr (11, (Value.ref (a 0) :: Value.ref (a 1) :: Value.ref (a 2) :: Value.ref (a 3) :: Value.ref (a 4) :: Value.ref (a 5) :: Value.ref (a 6) :: Value.ref (a 7) :: Value.ref (a 8) :: Value.ref (a 9) :: Value.ref (a 10) :: Value.ref (a 11) :: Value.ref (a 12) :: Value.ref (a 13) :: Value.ref (a 14) :: Value.int 1 :: Value.int 0 :: Value.int 0 :: []))), ((a 14), .inl (cI, 130, .inl g0))] s.heap.size = A at hD ⊢
  have hA : ∀ q : Nat, s.heap.size ≤ q → A q := fun q h => by rw [← hAe]; exact Or.inr h
  have hS : va_S A s.heap s.heap [] := va_S.rf
  have hl := lv_entry ([.ref h0, .int p0]) (n := 2) (Nat.le_of_ble_eq_true rfl)
  rw [lg_entry_eq]
  generalize (lg_sl ([.ref h0, .int p0]) ++ List.replicate (2 - (lg_sl ([.ref h0, .int p0])).length) Slot.unset).toArray = ls at hl ⊢
  have hl : lv_has ls 2 [(0, .ref h0), (1, .int p0)] := hl
  refine lv_aload_n hx hb dX11_draw_0 rfl (lv_at hl 0 rfl) ?_
  refine va_get (D := D) (ci := 11) (v := .int 1) (C := RX11) (T := TX11) (N := 18) hx hb hT ix_11 hown hK hP 0 rfl rfl 15 (by decide) (hT _ sw_530) (fun _ h9 => h9) rfl dX11_draw_1 ?_
  refine lv_sipush (v := 130) hx hb dX11_draw_4 (by decide) ?_
  refine lv_icmp_ge (tgt := 34) hx hb dX11_draw_7 (by decide) (fun h9 => absurd h9 (by decide)) (fun _ => ?_)
  refine lv_aload_n hx hb dX11_draw_10 rfl (lv_at hl 0 rfl) ?_
  refine va_get (D := D) (ci := 11) (v := .ref (a 14)) (C := RX11) (T := TX11) (N := 18) hx hb hT ix_11 hown hK hP 0 rfl rfl 14 (by decide) (hT _ sw_529) (fun _ h9 => h9) rfl dX11_draw_11 ?_
  refine lv_aload_n hx hb dX11_draw_14 rfl (lv_at hl 0 rfl) ?_
  refine va_get (D := D) (ci := 11) (v := .int 1) (C := RX11) (T := TX11) (N := 18) hx hb hT ix_11 hown hK hP 0 rfl rfl 15 (by decide) (hT _ sw_530) (fun _ h9 => h9) rfl dX11_draw_15 ?_
  refine lv_iload_n hx hb dX11_draw_18 rfl (lv_at hl 1 rfl) ?_
  refine lv_sipush (v := 255) hx hb dX11_draw_19 (by decide) ?_
  refine lv_iand hx hb dX11_draw_22 ?_
  refine lv_topi (fun v_1 _ => ?_)
  refine va_iast hx hb hK hP hD hS 1 0 rfl rfl (vi_c (by decide +kernel)) dX11_draw_23 (fun H locs hP hD hS => ?_)
  obtain ⟨f_2, hP, hD⟩ : ∃ f_2 : Nat → Int32, va_P D vwCl [(h0, .inr (11, (Value.ref (a 0) :: Value.ref (a 1) :: Value.ref (a 2) :: Value.ref (a 3) :: Value.ref (a 4) :: Value.ref (a 5) :: Value.ref (a 6) :: Value.ref (a 7) :: Value.ref (a 8) :: Value.ref (a 9) :: Value.ref (a 10) :: Value.ref (a 11) :: Value.ref (a 12) :: Value.ref (a 13) :: Value.ref (a 14) :: Value.int 1 :: Value.int 0 :: Value.int 0 :: []))), ((a 14), .inl (cI, 130, .inl f_2))] H ∧ va_D A [(h0, .inr (11, (Value.ref (a 0) :: Value.ref (a 1) :: Value.ref (a 2) :: Value.ref (a 3) :: Value.ref (a 4) :: Value.ref (a 5) :: Value.ref (a 6) :: Value.ref (a 7) :: Value.ref (a 8) :: Value.ref (a 9) :: Value.ref (a 10) :: Value.ref (a 11) :: Value.ref (a 12) :: Value.ref (a 13) :: Value.ref (a 14) :: Value.int 1 :: Value.int 0 :: Value.int 0 :: []))), ((a 14), .inl (cI, 130, .inl f_2))] := ⟨upd g0 (1 : Int32).toNatClampNeg v_1, hP, hD⟩
  refine lv_aload_n hx hb dX11_draw_24 rfl (lv_at hl 0 rfl) ?_
  refine lv_dup hx hb dX11_draw_25 rfl ?_
  refine va_get (D := D) (ci := 11) (v := .int 1) (C := RX11) (T := TX11) (N := 18) hx hb hT ix_11 hown hK hP 0 rfl rfl 15 (by decide) (hT _ sw_530) (fun _ h9 => h9) rfl dX11_draw_26 ?_
  refine lv_iconst (v := 1) hx hb dX11_draw_29 (by decide) ?_
  refine lv_iadd hx hb dX11_draw_30 ?_
  refine ct_i (z := 2) (by decide) ?_
  refine va_put (D := D) (ci := 11) (v := .int 2) (ty := .int) (C := RX11) (T := TX11) (N := 18) hx hb hT ix_11 tyX11 tyX11_ok nmX11 hown hK hP hD hS 0 rfl rfl 15 (by decide) (hT _ sw_530) (fun _ h9 => h9) rfl (by decide +kernel) rfl rfl (Nat.le_of_ble_eq_true rfl) dX11_draw_31 (fun H locs hP hD hS => ?_)
  have hP : va_P D vwCl [(h0, .inr (11, (Value.ref (a 0) :: Value.ref (a 1) :: Value.ref (a 2) :: Value.ref (a 3) :: Value.ref (a 4) :: Value.ref (a 5) :: Value.ref (a 6) :: Value.ref (a 7) :: Value.ref (a 8) :: Value.ref (a 9) :: Value.ref (a 10) :: Value.ref (a 11) :: Value.ref (a 12) :: Value.ref (a 13) :: Value.ref (a 14) :: Value.int 2 :: Value.int 0 :: Value.int 0 :: []))), ((a 14), .inl (cI, 130, .inl f_2))] H := hP
  have hD : va_D A [(h0, .inr (11, (Value.ref (a 0) :: Value.ref (a 1) :: Value.ref (a 2) :: Value.ref (a 3) :: Value.ref (a 4) :: Value.ref (a 5) :: Value.ref (a 6) :: Value.ref (a 7) :: Value.ref (a 8) :: Value.ref (a 9) :: Value.ref (a 10) :: Value.ref (a 11) :: Value.ref (a 12) :: Value.ref (a 13) :: Value.ref (a 14) :: Value.int 2 :: Value.int 0 :: Value.int 0 :: []))), ((a 14), .inl (cI, 130, .inl f_2))] := hD
  have hP9 := hP.sub (ws' := [(h0, .inr (11, (Value.ref (a 0) :: Value.ref (a 1) :: Value.ref (a 2) :: Value.ref (a 3) :: Value.ref (a 4) :: Value.ref (a 5) :: Value.ref (a 6) :: Value.ref (a 7) :: Value.ref (a 8) :: Value.ref (a 9) :: Value.ref (a 10) :: Value.ref (a 11) :: Value.ref (a 12) :: Value.ref (a 13) :: Value.ref (a 14) :: Value.int 2 :: Value.int 0 :: Value.int 0 :: []))), ((a 14), .inl (cI, 130, .inl f_2))]) [0, 1] rfl
  have hD9 := hD.sub (ws' := [(h0, .inr (11, (Value.ref (a 0) :: Value.ref (a 1) :: Value.ref (a 2) :: Value.ref (a 3) :: Value.ref (a 4) :: Value.ref (a 5) :: Value.ref (a 6) :: Value.ref (a 7) :: Value.ref (a 8) :: Value.ref (a 9) :: Value.ref (a 10) :: Value.ref (a 11) :: Value.ref (a 12) :: Value.ref (a 13) :: Value.ref (a 14) :: Value.int 2 :: Value.int 0 :: Value.int 0 :: []))), ((a 14), .inl (cI, 130, .inl f_2))]) [0, 1] (by decide) rfl
  exact W.vret hx hb hr (fun t ht _ => ⟨rfl, ⟨(fun k => [].getD k 0, fun k => [f_2].getD k zI), by rw [ht]; exact hP9, hD9⟩, hS.F ht⟩) hS.2.2 dX11_draw_34
set_option maxHeartbeats 4000000 in
set_option maxRecDepth 100000 in
theorem kX11_image_0 (l : Launch) (D : va_G) (cI : ClassId) (h0 : Nat) (a : Nat → Nat) (g0 : Nat → Int32) (sz : Nat) : Met l yX11_image (sw_ws yX11_image cX11_image 3 (some .int)) (rm_ 1 21 0 0) (p_M D vwCl [(cI, .int)] [.ref h0] [(h0, .inr (11, (Value.ref (a 0) :: Value.ref (a 1) :: Value.ref (a 2) :: Value.ref (a 3) :: Value.ref (a 4) :: Value.ref (a 5) :: Value.ref (a 6) :: Value.ref (a 7) :: Value.ref (a 8) :: Value.ref (a 9) :: Value.ref (a 10) :: Value.ref (a 11) :: Value.ref (a 12) :: Value.ref (a 13) :: Value.ref (a 14) :: Value.int 0 :: Value.int 0 :: Value.int 0 :: []))), ((a 3), .inr (8, [.ref (a 25), .ref (a 26), .ref (a 27), .ref (a 28), .int 0, .int 0, .int 0, .int 0, .int 0, .int 0])), ((a 14), .inl (cI, 130, .inl g0))] sz) (q_M D vwCl (some (.int 2)) (fun u => []) (va_A [(h0, .inr (11, (Value.ref (a 0) :: Value.ref (a 1) :: Value.ref (a 2) :: Value.ref (a 3) :: Value.ref (a 4) :: Value.ref (a 5) :: Value.ref (a 6) :: Value.ref (a 7) :: Value.ref (a 8) :: Value.ref (a 9) :: Value.ref (a 10) :: Value.ref (a 11) :: Value.ref (a 12) :: Value.ref (a 13) :: Value.ref (a 14) :: Value.int 0 :: Value.int 0 :: Value.int 0 :: []))), ((a 3), .inr (8, [.ref (a 25), .ref (a 26), .ref (a 27), .ref (a 28), .int 0, .int 0, .int 0, .int 0, .int 0, .int 0])), ((a 14), .inl (cI, 130, .inl g0))] sz)) 0 0 (va_A [(h0, .inr (11, (Value.ref (a 0) :: Value.ref (a 1) :: Value.ref (a 2) :: Value.ref (a 3) :: Value.ref (a 4) :: Value.ref (a 5) :: Value.ref (a 6) :: Value.ref (a 7) :: Value.ref (a 8) :: Value.ref (a 9) :: Value.ref (a 10) :: Value.ref (a 11) :: Value.ref (a 12) :: Value.ref (a 13) :: Value.ref (a 14) :: Value.int 0 :: Value.int 0 :: Value.int 0 :: []))), ((a 3), .inr (8, [.ref (a 25), .ref (a 26), .ref (a 27), .ref (a 28), .int 0, .int 0, .int 0, .int 0, .int 0, .int 0])), ((a 14), .inl (cI, 130, .inl g0))] sz) := by
  refine Met.ofW (cc := cX11_image) (maxL := 3) (ret := (some .int)) (by decide) rfl ?_
  intro p e s m args below meth c s₁ B hml hv
  obtain ⟨rfl, hsz, hP, hK, hD0⟩ := hv
  have hx := B.exec
  have hb := B.bytes
  have hr := B.returns
  have hT := sw_in (atoms_spec (ws := sw_ws yX11_image cX11_image 3 (some .int)) B.pre)
  have hown : s.vm.findClass RX11 = some m.cls := findClass_of_methodNamed B.named
  have hlocks := B.notSynchronized
  subst hsz
  have hD := hD0.self (sz := s.heap.size)
  generalize hAe : va_A [(h0, .inr (11, (Value.ref (a 0) :: Value.ref (a 1) :: Value.ref (a 2) :: Value.ref (a 3) :: Value.ref (a 4) :: Value.ref (a 5) :: Value.ref (a 6) :: Value.ref (a 7) :: Value.ref (a 8) :: Value.ref (a 9) :: Value.ref (a 10) :: Value.ref (a 11) :: Value.ref (a 12) :: Value.ref (a 13) :: Value.ref (a 14) :: Value.int 0 :: Value.int 0 :: Value.int 0 :: []))), ((a 3), .inr (8, [.ref (a 25), .ref (a 26), .ref (a 27), .ref (a 28), .int 0, .int 0, .int 0, .int 0, .int 0, .int 0])), ((a 14), .inl (cI, 130, .inl g0))] s.heap.size = A at hD ⊢
  have hA : ∀ q : Nat, s.heap.size ≤ q → A q := fun q h => by rw [← hAe]; exact Or.inr h
  have hS : va_S A s.heap s.heap [] := va_S.rf
  have hl := lv_entry ([.ref h0]) (n := 3) (Nat.le_of_ble_eq_true rfl)
  rw [lg_entry_eq]
  generalize (lg_sl ([.ref h0]) ++ List.replicate (3 - (lg_sl ([.ref h0])).length) Slot.unset).toArray = ls at hl ⊢
  have hl : lv_has ls 3 [(0, .ref h0)] := hl
  refine lv_aload_n hx hb dX11_image_0 rfl (lv_at hl 0 rfl) ?_
  refine lv_iconst (v := 0) hx hb dX11_image_1 (by decide) ?_
  refine va_put (D := D) (ci := 11) (v := .int 0) (ty := .int) (C := RX11) (T := TX11) (N := 18) hx hb hT ix_11 tyX11 tyX11_ok nmX11 hown hK hP hD hS 0 rfl rfl 15 (by decide) (hT _ sw_530) (fun _ h9 => h9) rfl (by decide +kernel) rfl rfl (Nat.le_of_ble_eq_true rfl) dX11_image_2 (fun H locs hP hD hS => ?_)
  have hP : va_P D vwCl [(h0, .inr (11, (Value.ref (a 0) :: Value.ref (a 1) :: Value.ref (a 2) :: Value.ref (a 3) :: Value.ref (a 4) :: Value.ref (a 5) :: Value.ref (a 6) :: Value.ref (a 7) :: Value.ref (a 8) :: Value.ref (a 9) :: Value.ref (a 10) :: Value.ref (a 11) :: Value.ref (a 12) :: Value.ref (a 13) :: Value.ref (a 14) :: Value.int 0 :: Value.int 0 :: Value.int 0 :: []))), ((a 3), .inr (8, [.ref (a 25), .ref (a 26), .ref (a 27), .ref (a 28), .int 0, .int 0, .int 0, .int 0, .int 0, .int 0])), ((a 14), .inl (cI, 130, .inl g0))] H := hP
  have hD : va_D A [(h0, .inr (11, (Value.ref (a 0) :: Value.ref (a 1) :: Value.ref (a 2) :: Value.ref (a 3) :: Value.ref (a 4) :: Value.ref (a 5) :: Value.ref (a 6) :: Value.ref (a 7) :: Value.ref (a 8) :: Value.ref (a 9) :: Value.ref (a 10) :: Value.ref (a 11) :: Value.ref (a 12) :: Value.ref (a 13) :: Value.ref (a 14) :: Value.int 0 :: Value.int 0 :: Value.int 0 :: []))), ((a 3), .inr (8, [.ref (a 25), .ref (a 26), .ref (a 27), .ref (a 28), .int 0, .int 0, .int 0, .int 0, .int 0, .int 0])), ((a 14), .inl (cI, 130, .inl g0))] := hD
  refine lv_aload_n hx hb dX11_image_5 rfl (lv_at hl 0 rfl) ?_
  refine lv_aload_n hx hb dX11_image_6 rfl (lv_at hl 0 rfl) ?_
  refine va_get (D := D) (ci := 11) (v := .ref (a 3)) (C := RX11) (T := TX11) (N := 18) hx hb hT ix_11 hown hK hP 0 rfl rfl 3 (by decide) (hT _ sw_518) (fun _ h9 => h9) rfl dX11_image_7 ?_
  refine va_getN (D := D) (ci := 8) (v := .int 0) (C := RX8) (T := TX8) (N := 10) hx hb hT ix_8 hown hK hP 1 rfl rfl 5 (by decide) (hT _ sw_266) (fun _ h9 => h9) rfl dX11_image_10 ?_
  refine go_M (wc := [(h0, .inr (11, (Value.ref (a 0) :: Value.ref (a 1) :: Value.ref (a 2) :: Value.ref (a 3) :: Value.ref (a 4) :: Value.ref (a 5) :: Value.ref (a 6) :: Value.ref (a 7) :: Value.ref (a 8) :: Value.ref (a 9) :: Value.ref (a 10) :: Value.ref (a 11) :: Value.ref (a 12) :: Value.ref (a 13) :: Value.ref (a 14) :: Value.int 0 :: Value.int 0 :: Value.int 0 :: []))), ((a 14), .inl (cI, 130, .inl g0))]) (wr := [((a 3), .inr (8, [.ref (a 25), .ref (a 26), .ref (a 27), .ref (a 28), .int 0, .int 0, .int 0, .int 0, .int 0, .int 0]))]) (w1 := fun u => [(h0, .inr (11, (Value.ref (a 0) :: Value.ref (a 1) :: Value.ref (a 2) :: Value.ref (a 3) :: Value.ref (a 4) :: Value.ref (a 5) :: Value.ref (a 6) :: Value.ref (a 7) :: Value.ref (a 8) :: Value.ref (a 9) :: Value.ref (a 10) :: Value.ref (a 11) :: Value.ref (a 12) :: Value.ref (a 13) :: Value.ref (a 14) :: Value.int 1 :: Value.int 0 :: Value.int 0 :: []))), ((a 14), .inl (cI, 130, .inl (u.2 0)))]) (v := none) (st1 := []) hP hD hS hA [0, 2] [1] rfl rfl (by decide) (by decide) (by decide) (fun hPc hDc => run_V (As := [.int 0]) (rest := []) ⟨hx, hb, hml, hown, hT⟩ (kX11_draw_0 l D cI h0 a g0 _) sw_1248 lkv_X11_draw (p_M_V (ci := 11) (q0 := 0) hPc hK hDc rfl rfl) rfl hl.1 rfl (Nat.le_of_ble_eq_true rfl) dX11_image_13 ⟨⟨Nat.le_of_ble_eq_true rfl, Nat.le_of_ble_eq_true rfl⟩, Nat.le_of_ble_eq_true rfl, Nat.le_of_ble_eq_true rfl⟩) rfl (fun u_1 H locs hP hD hS => ?_)
  have hP : va_P D vwCl [((a 3), .inr (8, [.ref (a 25), .ref (a 26), .ref (a 27), .ref (a 28), .int 0, .int 0, .int 0, .int 0, .int 0, .int 0])), (h0, .inr (11, (Value.ref (a 0) :: Value.ref (a 1) :: Value.ref (a 2) :: Value.ref (a 3) :: Value.ref (a 4) :: Value.ref (a 5) :: Value.ref (a 6) :: Value.ref (a 7) :: Value.ref (a 8) :: Value.ref (a 9) :: Value.ref (a 10) :: Value.ref (a 11) :: Value.ref (a 12) :: Value.ref (a 13) :: Value.ref (a 14) :: Value.int 1 :: Value.int 0 :: Value.int 0 :: []))), ((a 14), .inl (cI, 130, .inl (u_1.2 0)))] H := hP
  have hD : va_D A [((a 3), .inr (8, [.ref (a 25), .ref (a 26), .ref (a 27), .ref (a 28), .int 0, .int 0, .int 0, .int 0, .int 0, .int 0])), (h0, .inr (11, (Value.ref (a 0) :: Value.ref (a 1) :: Value.ref (a 2) :: Value.ref (a 3) :: Value.ref (a 4) :: Value.ref (a 5) :: Value.ref (a 6) :: Value.ref (a 7) :: Value.ref (a 8) :: Value.ref (a 9) :: Value.ref (a 10) :: Value.ref (a 11) :: Value.ref (a 12) :: Value.ref (a 13) :: Value.ref (a 14) :: Value.int 1 :: Value.int 0 :: Value.int 0 :: []))), ((a 14), .inl (cI, 130, .inl (u_1.2 0)))] := hD
  refine lv_iconst (v := 0) hx hb dX11_image_16 (by decide) ?_
  refine lv_istore_n (lv' := [(1, .int 0), (0, .ref h0)]) hx hb dX11_image_17 rfl hl (by decide) rfl (fun ls hl => ?_)
  refine lv_iload_n hx hb dX11_image_18 rfl (lv_at hl 0 rfl) ?_
  refine lv_aload_n hx hb dX11_image_19 rfl (lv_at hl 1 rfl) ?_
  refine va_get (D := D) (ci := 11) (v := .ref (a 3)) (C := RX11) (T := TX11) (N := 18) hx hb hT ix_11 hown hK hP 1 rfl rfl 3 (by decide) (hT _ sw_518) (fun _ h9 => h9) rfl dX11_image_20 ?_
  refine va_getN (D := D) (ci := 8) (v := .int 0) (C := RX8) (T := TX8) (N := 10) hx hb hT ix_8 hown hK hP 0 rfl rfl 4 (by decide) (hT _ sw_264) (fun _ h9 => h9) rfl dX11_image_23 ?_
  refine lv_icmp_ge (tgt := 61) hx hb dX11_image_26 (by decide) (fun _ => ?_) (fun h9 => absurd (by decide) h9)
  refine lv_sipush (v := 179) hx hb dX11_image_61 (by decide) ?_
  refine lv_istore_n (lv' := [(1, .int 179), (0, .ref h0)]) hx hb dX11_image_64 rfl hl (by decide) rfl (fun ls hl => ?_)
  refine lv_iconst (v := 0) hx hb dX11_image_65 (by decide) ?_
  refine lv_istore_n (lv' := [(2, .int 0), (1, .int 179), (0, .ref h0)]) hx hb dX11_image_66 rfl hl (by decide) rfl (fun ls hl => ?_)
  refine lv_iload_n hx hb dX11_image_67 rfl (lv_at hl 0 rfl) ?_
  refine lv_aload_n hx hb dX11_image_68 rfl (lv_at hl 2 rfl) ?_
  refine va_get (D := D) (ci := 11) (v := .int 1) (C := RX11) (T := TX11) (N := 18) hx hb hT ix_11 hown hK hP 1 rfl rfl 15 (by decide) (hT _ sw_530) (fun _ h9 => h9) rfl dX11_image_69 ?_
  refine lv_icmp_ge (tgt := 99) hx hb dX11_image_72 (by decide) (fun h9 => absurd h9 (by decide)) (fun _ => ?_)
  refine lv_iload_n hx hb dX11_image_75 rfl (lv_at hl 0 rfl) ?_
  refine lv_sipush (v := 130) hx hb dX11_image_76 (by decide) ?_
  refine lv_icmp_ge (tgt := 99) hx hb dX11_image_79 (by decide) (fun h9 => absurd h9 (by decide)) (fun _ => ?_)
  refine lv_iload_n hx hb dX11_image_82 rfl (lv_at hl 1 rfl) ?_
  refine lv_aload_n hx hb dX11_image_83 rfl (lv_at hl 2 rfl) ?_
  refine va_get (D := D) (ci := 11) (v := .ref (a 14)) (C := RX11) (T := TX11) (N := 18) hx hb hT ix_11 hown hK hP 1 rfl rfl 14 (by decide) (hT _ sw_529) (fun _ h9 => h9) rfl dX11_image_84 ?_
  refine lv_iload_n hx hb dX11_image_87 rfl (lv_at hl 0 rfl) ?_
  refine va_iald hx hb hK hP 2 0 rfl rfl (vi_c (by decide +kernel)) dX11_image_88 ?_
  refine lv_topi (fun v_2 _ => ?_)
  refine go_R (v := some (.int (((3 * 179) + v_2) - ((3 * 179) + v_2) / 251 * 251))) (st1 := [.int (((3 * 179) + v_2) - ((3 * 179) + v_2) / 251 * 251)]) (run_S (As := [.int 179, .int v_2]) (rest := []) ⟨hx, hb, hml, hown, hT⟩ (kX11_nextCheck_0 l D cI h0 a 179 v_2) sw_1256 lks_X11_nextCheck (p_R_S (hP.sub (ws' := []) [] rfl) hK) rfl hl.1 rfl (Nat.le_of_ble_eq_true rfl) dX11_image_89 ⟨⟨Nat.le_of_ble_eq_true rfl, Nat.le_of_ble_eq_true rfl⟩, Nat.le_of_ble_eq_true rfl, Nat.le_of_ble_eq_true rfl⟩) rfl ?_
  refine lv_topi (fun v_3 _ => ?_)
  refine lv_istore_n (lv' := [(1, .int v_3), (2, .int 0), (0, .ref h0)]) hx hb dX11_image_92 rfl hl (by decide) rfl (fun ls hl => ?_)
  refine lv_iinc (v := 1) (lv' := [(2, .int 1), (1, .int v_3), (0, .ref h0)]) hx hb dX11_image_93 hl (k := 1) rfl (by decide) (by decide) rfl (fun ls hl => ?_)
  refine lv_goto (tgt := 67) hx hb dX11_image_96 (by decide) ?_
  refine lv_iload_n hx hb dX11_image_67 rfl (lv_at hl 0 rfl) ?_
  refine lv_aload_n hx hb dX11_image_68 rfl (lv_at hl 2 rfl) ?_
  refine va_get (D := D) (ci := 11) (v := .int 1) (C := RX11) (T := TX11) (N := 18) hx hb hT ix_11 hown hK hP 1 rfl rfl 15 (by decide) (hT _ sw_530) (fun _ h9 => h9) rfl dX11_image_69 ?_
  refine lv_icmp_ge (tgt := 99) hx hb dX11_image_72 (by decide) (fun _ => ?_) (fun h9 => absurd (by decide) h9)
  refine lv_aload_n hx hb dX11_image_99 rfl (lv_at hl 2 rfl) ?_
  refine lv_iload_n hx hb dX11_image_100 rfl (lv_at hl 1 rfl) ?_
  refine go_M (wc := [(h0, .inr (11, (Value.ref (a 0) :: Value.ref (a 1) :: Value.ref (a 2) :: Value.ref (a 3) :: Value.ref (a 4) :: Value.ref (a 5) :: Value.ref (a 6) :: Value.ref (a 7) :: Value.ref (a 8) :: Value.ref (a 9) :: Value.ref (a 10) :: Value.ref (a 11) :: Value.ref (a 12) :: Value.ref (a 13) :: Value.ref (a 14) :: Value.int 1 :: Value.int 0 :: Value.int 0 :: []))), ((a 14), .inl (cI, 130, .inl (u_1.2 0)))]) (wr := [((a 3), .inr (8, [.ref (a 25), .ref (a 26), .ref (a 27), .ref (a 28), .int 0, .int 0, .int 0, .int 0, .int 0, .int 0]))]) (w1 := fun u => [(h0, .inr (11, (Value.ref (a 0) :: Value.ref (a 1) :: Value.ref (a 2) :: Value.ref (a 3) :: Value.ref (a 4) :: Value.ref (a 5) :: Value.ref (a 6) :: Value.ref (a 7) :: Value.ref (a 8) :: Value.ref (a 9) :: Value.ref (a 10) :: Value.ref (a 11) :: Value.ref (a 12) :: Value.ref (a 13) :: Value.ref (a 14) :: Value.int 2 :: Value.int 0 :: Value.int 0 :: []))), ((a 14), .inl (cI, 130, .inl (u.2 0)))]) (v := none) (st1 := []) hP hD hS hA [1, 2] [0] rfl rfl (by decide) (by decide) (by decide) (fun hPc hDc => run_V (As := [.int v_3]) (rest := []) ⟨hx, hb, hml, hown, hT⟩ (kX11_draw_1 l D cI h0 a v_3 (u_1.2 0) _) sw_1248 lkv_X11_draw (p_M_V (ci := 11) (q0 := 0) hPc hK hDc rfl rfl) rfl hl.1 rfl (Nat.le_of_ble_eq_true rfl) dX11_image_101 ⟨⟨Nat.le_of_ble_eq_true rfl, Nat.le_of_ble_eq_true rfl⟩, Nat.le_of_ble_eq_true rfl, Nat.le_of_ble_eq_true rfl⟩) rfl (fun u_4 H locs hP hD hS => ?_)
  have hP : va_P D vwCl [((a 3), .inr (8, [.ref (a 25), .ref (a 26), .ref (a 27), .ref (a 28), .int 0, .int 0, .int 0, .int 0, .int 0, .int 0])), (h0, .inr (11, (Value.ref (a 0) :: Value.ref (a 1) :: Value.ref (a 2) :: Value.ref (a 3) :: Value.ref (a 4) :: Value.ref (a 5) :: Value.ref (a 6) :: Value.ref (a 7) :: Value.ref (a 8) :: Value.ref (a 9) :: Value.ref (a 10) :: Value.ref (a 11) :: Value.ref (a 12) :: Value.ref (a 13) :: Value.ref (a 14) :: Value.int 2 :: Value.int 0 :: Value.int 0 :: []))), ((a 14), .inl (cI, 130, .inl (u_4.2 0)))] H := hP
  have hD : va_D A [((a 3), .inr (8, [.ref (a 25), .ref (a 26), .ref (a 27), .ref (a 28), .int 0, .int 0, .int 0, .int 0, .int 0, .int 0])), (h0, .inr (11, (Value.ref (a 0) :: Value.ref (a 1) :: Value.ref (a 2) :: Value.ref (a 3) :: Value.ref (a 4) :: Value.ref (a 5) :: Value.ref (a 6) :: Value.ref (a 7) :: Value.ref (a 8) :: Value.ref (a 9) :: Value.ref (a 10) :: Value.ref (a 11) :: Value.ref (a 12) :: Value.ref (a 13) :: Value.ref (a 14) :: Value.int 2 :: Value.int 0 :: Value.int 0 :: []))), ((a 14), .inl (cI, 130, .inl (u_4.2 0)))] := hD
  refine lv_aload_n hx hb dX11_image_104 rfl (lv_at hl 2 rfl) ?_
  refine va_get (D := D) (ci := 11) (v := .int 2) (C := RX11) (T := TX11) (N := 18) hx hb hT ix_11 hown hK hP 1 rfl rfl 15 (by decide) (hT _ sw_530) (fun _ h9 => h9) rfl dX11_image_105 ?_
  have hP9 := hP.sub (ws' := []) [] rfl
  have hD9 := hD.sub (ws' := []) [] (by decide) rfl
  exact W.iret (v := 2) hx hb hr (fun t ht _ => ⟨rfl, ⟨(fun k => [].getD k 0, fun k => [].getD k zI), by rw [ht]; exact hP9, hD9⟩, hS.F ht⟩) hS.2.2 dX11_image_108
