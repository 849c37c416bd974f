set_option maxHeartbeats 4000000 in
set_option maxRecDepth 100000 in
theorem kX11_triedOnTape_2 (l : Launch) (D : va_G) (cI : ClassId) (h0 : Nat) (a : Nat → Nat) (p0 p1 : Int32) (sz : Nat) : Met l yX11_triedOnTape (sw_ws yX11_triedOnTape cX11_triedOnTape 6 (some .int)) (rm_ 1 23 0 0) (p_M D vwCl [(cI, .int)] [.ref h0, .int p0, .int 0, .int p1] [(h0, .inr (11, (Value.ref (a 0) :: Value.ref (a 1) :: Value.ref (a 2) :: Value.ref (a 3) :: Value.ref (a 4) :: Value.ref (a 5) :: Value.ref (a 6) :: Value.ref (a 7) :: Value.ref (a 8) :: Value.ref (a 9) :: Value.ref (a 10) :: Value.ref (a 11) :: Value.ref (a 12) :: Value.ref (a 13) :: Value.ref (a 14) :: Value.int 0 :: Value.int 0 :: Value.int 0 :: []))), ((a 0), .inr (9, [.ref (a 15), .int 0])), ((a 5), .inr (5, (Value.ref (a 30) :: Value.ref (a 31) :: Value.ref (a 32) :: Value.ref (a 33) :: Value.ref (a 34) :: Value.ref (a 35) :: Value.ref (a 36) :: Value.ref (a 37) :: Value.int 0 :: Value.int 0 :: Value.int 0 :: Value.int 0 :: Value.int 0 :: Value.int 0 :: Value.int 0 :: [])))] sz) (q_M D vwCl (some (.int (-1))) (fun u => [(h0, .inr (11, (Value.ref (a 0) :: Value.ref (a 1) :: Value.ref (a 2) :: Value.ref (a 3) :: Value.ref (a 4) :: Value.ref (a 5) :: Value.ref (a 6) :: Value.ref (a 7) :: Value.ref (a 8) :: Value.ref (a 9) :: Value.ref (a 10) :: Value.ref (a 11) :: Value.ref (a 12) :: Value.ref (a 13) :: Value.ref (a 14) :: Value.int 0 :: Value.int 0 :: Value.int 0 :: []))), ((a 0), .inr (9, [.ref (a 15), .int 0])), ((a 5), .inr (5, (Value.ref (a 30) :: Value.ref (a 31) :: Value.ref (a 32) :: Value.ref (a 33) :: Value.ref (a 34) :: Value.ref (a 35) :: Value.ref (a 36) :: Value.ref (a 37) :: Value.int 0 :: Value.int 0 :: Value.int 0 :: Value.int 0 :: Value.int 0 :: Value.int 0 :: Value.int 0 :: [])))]) (va_A [(h0, .inr (11, (Value.ref (a 0) :: Value.ref (a 1) :: Value.ref (a 2) :: Value.ref (a 3) :: Value.ref (a 4) :: Value.ref (a 5) :: Value.ref (a 6) :: Value.ref (a 7) :: Value.ref (a 8) :: Value.ref (a 9) :: Value.ref (a 10) :: Value.ref (a 11) :: Value.ref (a 12) :: Value.ref (a 13) :: Value.ref (a 14) :: Value.int 0 :: Value.int 0 :: Value.int 0 :: []))), ((a 0), .inr (9, [.ref (a 15), .int 0])), ((a 5), .inr (5, (Value.ref (a 30) :: Value.ref (a 31) :: Value.ref (a 32) :: Value.ref (a 33) :: Value.ref (a 34) :: Value.ref (a 35) :: Value.ref (a 36) :: Value.ref (a 37) :: Value.int 0 :: Value.int 0 :: Value.int 0 :: Value.int 0 :: Value.int 0 :: Value.int 0 :: Value.int 0 :: [])))] sz)) 0 0 (va_A [(h0, .inr (11, (Value.ref (a 0) :: Value.ref (a 1) :: Value.ref (a 2) :: Value.ref (a 3) :: Value.ref (a 4) :: Value.ref (a 5) :: Value.ref (a 6) :: Value.ref (a 7) :: Value.ref (a 8) :: Value.ref (a 9) :: Value.ref (a 10) :: Value.ref (a 11) :: Value.ref (a 12) :: Value.ref (a 13) :: Value.ref (a 14) :: Value.int 0 :: Value.int 0 :: Value.int 0 :: []))), ((a 0), .inr (9, [.ref (a 15), .int 0])), ((a 5), .inr (5, (Value.ref (a 30) :: Value.ref (a 31) :: Value.ref (a 32) :: Value.ref (a 33) :: Value.ref (a 34) :: Value.ref (a 35) :: Value.ref (a 36) :: Value.ref (a 37) :: Value.int 0 :: Value.int 0 :: Value.int 0 :: Value.int 0 :: Value.int 0 :: Value.int 0 :: Value.int 0 :: [])))] sz) := by
  refine Met.ofW (cc := cX11_triedOnTape) (maxL := 6) (ret := (some .int)) (by decide) rfl ?_
  intro p e s m args below meth c s₁ B hml hv
  obtain ⟨rfl, hsz, hP, hK, hD0⟩ := hv
  have hx := B.exec
  have hb := B.bytes
  have hr := B.returns
  have hT := sw_in (atoms_spec (ws := sw_ws yX11_triedOnTape cX11_triedOnTape 6 (some .int)) B.pre)
  have hown : s.vm.findClass RX11 = some m.cls := findClass_of_methodNamed B.named
  have hlocks := B.notSynchronized
  subst hsz
  have hD := hD0.self (sz := s.heap.size)
  generalize hAe : va_A [(h0, .inr (11, (Value.ref (a 0) :: Value.ref (a 1) :: Value.ref (a 2) :: Value.ref (a 3) :: Value.ref (a 4) :: Value.ref (a 5) :: Value.ref (a 6) :: Value.ref (a 7) :: Value.ref (a 8) :: Value.ref (a 9) :: Value.ref (a 10) :: Value.ref (a 11) :: Value.ref (a 12) :: Value.ref (a 13) :: Value.ref (a 14) :: Value.int 0 :: Value.int 0 :: Value.int 0 :: []))), ((a 0), .inr (9, [.ref (a 15), .int 0])), ((a 5), .inr (5, (Value.ref (a 30) :: Value.ref (a 31) :: Value.ref (a 32) :: Value.ref (a 33) :: Value.ref (a 34) :: Value.ref (a 35) :: Value.ref (a 36) :: Value.ref (a 37) :: Value.int 0 :: Value.int 0 :: Value.int 0 :: Value.int 0 :: Value.int 0 :: Value.int 0 :: Value.int 0 :: [])))] s.heap.size = A at hD ⊢
  have hA : ∀ q : Nat, s.heap.size ≤ q → A q := fun q h => by rw [← hAe]; exact Or.inr h
  have hS : va_S A s.heap s.heap [] := va_S.rf
  have hl := lv_entry ([.ref h0, .int p0, .int 0, .int p1]) (n := 6) (Nat.le_of_ble_eq_true rfl)
  rw [lg_entry_eq]
  generalize (lg_sl ([.ref h0, .int p0, .int 0, .int p1]) ++ List.replicate (6 - (lg_sl ([.ref h0, .int p0, .int 0, .int p1])).length) Slot.unset).toArray = ls at hl ⊢
  have hl : lv_has ls 6 [(0, .ref h0), (1, .int p0), (2, .int 0), (3, .int p1)] := hl
  refine lv_aload_n hx hb dX11_triedOnTape_0 rfl (lv_at hl 0 rfl) ?_
  refine va_get (D := D) (ci := 11) (v := .ref (a 0)) (C := RX11) (T := TX11) (N := 18) hx hb hT ix_11 hown hK hP 0 rfl rfl 0 (by decide) (hT _ sw_515) (fun _ h9 => h9) rfl dX11_triedOnTape_1 ?_
  refine va_getN (D := D) (ci := 9) (v := .int 0) (C := RX9) (T := TX9) (N := 2) hx hb hT ix_9 hown hK hP 1 rfl rfl 1 (by decide) (hT _ sw_157) (fun _ h9 => h9) rfl dX11_triedOnTape_4 ?_
  refine lv_istore (lv' := [(4, .int 0), (0, .ref h0), (1, .int p0), (2, .int 0), (3, .int p1)]) hx hb dX11_triedOnTape_7 hl (by decide) rfl (fun ls hl => ?_)
  refine lv_aload_n hx hb dX11_triedOnTape_9 rfl (lv_at hl 1 rfl) ?_
  refine va_get (D := D) (ci := 11) (v := .ref (a 0)) (C := RX11) (T := TX11) (N := 18) hx hb hT ix_11 hown hK hP 0 rfl rfl 0 (by decide) (hT _ sw_515) (fun _ h9 => h9) rfl dX11_triedOnTape_10 ?_
  refine lv_iconst (v := 0) hx hb dX11_triedOnTape_13 (by decide) ?_
  refine va_putN (D := D) (ci := 9) (v := .int 0) (ty := .int) (C := RX9) (T := TX9) (N := 2) hx hb hT ix_9 tyX9 tyX9_ok nmX9 hown hK hP hD hS 1 rfl rfl 1 (by decide) (hT _ sw_157) (fun _ h9 => h9) rfl (by decide +kernel) rfl rfl (Nat.le_of_ble_eq_true rfl) dX11_triedOnTape_14 (fun H locs hP hD hS => ?_)
  have hP : va_P D vwCl [(h0, .inr (11, (Value.ref (a 0) :: Value.ref (a 1) :: Value.ref (a 2) :: Value.ref (a 3) :: Value.ref (a 4) :: Value.ref (a 5) :: Value.ref (a 6) :: Value.ref (a 7) :: Value.ref (a 8) :: Value.ref (a 9) :: Value.ref (a 10) :: Value.ref (a 11) :: Value.ref (a 12) :: Value.ref (a 13) :: Value.ref (a 14) :: Value.int 0 :: Value.int 0 :: Value.int 0 :: []))), ((a 0), .inr (9, [.ref (a 15), .int 0])), ((a 5), .inr (5, (Value.ref (a 30) :: Value.ref (a 31) :: Value.ref (a 32) :: Value.ref (a 33) :: Value.ref (a 34) :: Value.ref (a 35) :: Value.ref (a 36) :: Value.ref (a 37) :: Value.int 0 :: Value.int 0 :: Value.int 0 :: Value.int 0 :: Value.int 0 :: Value.int 0 :: Value.int 0 :: [])))] H := hP
  have hD : va_D A [(h0, .inr (11, (Value.ref (a 0) :: Value.ref (a 1) :: Value.ref (a 2) :: Value.ref (a 3) :: Value.ref (a 4) :: Value.ref (a 5) :: Value.ref (a 6) :: Value.ref (a 7) :: Value.ref (a 8) :: Value.ref (a 9) :: Value.ref (a 10) :: Value.ref (a 11) :: Value.ref (a 12) :: Value.ref (a 13) :: Value.ref (a 14) :: Value.int 0 :: Value.int 0 :: Value.int 0 :: []))), ((a 0), .inr (9, [.ref (a 15), .int 0])), ((a 5), .inr (5, (Value.ref (a 30) :: Value.ref (a 31) :: Value.ref (a 32) :: Value.ref (a 33) :: Value.ref (a 34) :: Value.ref (a 35) :: Value.ref (a 36) :: Value.ref (a 37) :: Value.int 0 :: Value.int 0 :: Value.int 0 :: Value.int 0 :: Value.int 0 :: Value.int 0 :: Value.int 0 :: [])))] := hD
  refine lv_aload_n hx hb dX11_triedOnTape_17 rfl (lv_at hl 1 rfl) ?_
  refine va_get (D := D) (ci := 11) (v := .ref (a 5)) (C := RX11) (T := TX11) (N := 18) hx hb hT ix_11 hown hK hP 0 rfl rfl 5 (by decide) (hT _ sw_520) (fun _ h9 => h9) rfl dX11_triedOnTape_18 ?_
  refine lv_iload_n hx hb dX11_triedOnTape_21 rfl (lv_at hl 3 rfl) ?_
  refine go_R (v := some (.int 0)) (st1 := [.int 0]) (run_V (As := [.int 0]) (rest := []) ⟨hx, hb, hml, hown, hT⟩ (kX5_together_0 l D cI h0 a) sw_932 lkv_X5_together (p_R_V (ci := 5) (q0 := 0) (hP.sub (ws' := [((a 5), .inr (5, (Value.ref (a 30) :: Value.ref (a 31) :: Value.ref (a 32) :: Value.ref (a 33) :: Value.ref (a 34) :: Value.ref (a 35) :: Value.ref (a 36) :: Value.ref (a 37) :: Value.int 0 :: Value.int 0 :: Value.int 0 :: Value.int 0 :: Value.int 0 :: Value.int 0 :: Value.int 0 :: [])))]) [2] rfl) hK rfl rfl) rfl hl.1 rfl (Nat.le_of_ble_eq_true rfl) dX11_triedOnTape_22 ⟨⟨Nat.le_of_ble_eq_true rfl, Nat.le_of_ble_eq_true rfl⟩, Nat.le_of_ble_eq_true rfl, Nat.le_of_ble_eq_true rfl⟩) rfl ?_
  refine lv_if_eq (tgt := 44) hx hb dX11_triedOnTape_25 (by decide) (fun _ => ?_) (fun h9 => absurd (by decide) h9)
  refine lv_iconst (v := (-1)) hx hb dX11_triedOnTape_44 (by decide) ?_
  have hP9 := hP.sub (ws' := [(h0, .inr (11, (Value.ref (a 0) :: Value.ref (a 1) :: Value.ref (a 2) :: Value.ref (a 3) :: Value.ref (a 4) :: Value.ref (a 5) :: Value.ref (a 6) :: Value.ref (a 7) :: Value.ref (a 8) :: Value.ref (a 9) :: Value.ref (a 10) :: Value.ref (a 11) :: Value.ref (a 12) :: Value.ref (a 13) :: Value.ref (a 14) :: Value.int 0 :: Value.int 0 :: Value.int 0 :: []))), ((a 0), .inr (9, [.ref (a 15), .int 0])), ((a 5), .inr (5, (Value.ref (a 30) :: Value.ref (a 31) :: Value.ref (a 32) :: Value.ref (a 33) :: Value.ref (a 34) :: Value.ref (a 35) :: Value.ref (a 36) :: Value.ref (a 37) :: Value.int 0 :: Value.int 0 :: Value.int 0 :: Value.int 0 :: Value.int 0 :: Value.int 0 :: Value.int 0 :: [])))]) [0, 1, 2] rfl
  have hD9 := hD.sub (ws' := [(h0, .inr (11, (Value.ref (a 0) :: Value.ref (a 1) :: Value.ref (a 2) :: Value.ref (a 3) :: Value.ref (a 4) :: Value.ref (a 5) :: Value.ref (a 6) :: Value.ref (a 7) :: Value.ref (a 8) :: Value.ref (a 9) :: Value.ref (a 10) :: Value.ref (a 11) :: Value.ref (a 12) :: Value.ref (a 13) :: Value.ref (a 14) :: Value.int 0 :: Value.int 0 :: Value.int 0 :: []))), ((a 0), .inr (9, [.ref (a 15), .int 0])), ((a 5), .inr (5, (Value.ref (a 30) :: Value.ref (a 31) :: Value.ref (a 32) :: Value.ref (a 33) :: Value.ref (a 34) :: Value.ref (a 35) :: Value.ref (a 36) :: Value.ref (a 37) :: Value.int 0 :: Value.int 0 :: Value.int 0 :: Value.int 0 :: Value.int 0 :: Value.int 0 :: Value.int 0 :: [])))]) [0, 1, 2] (by decide) rfl
  exact W.iret (v := (-1)) hx hb hr (fun t ht _ => ⟨rfl, ⟨(fun k => [].getD k 0, fun k => [].getD k zI), by rw [ht]; exact hP9, hD9⟩, hS.F ht⟩) hS.2.2 dX11_triedOnTape_45
set_option maxHeartbeats 4000000 in
set_option maxRecDepth 100000 in
theorem kX11_tries_0 (l : Launch) (D : va_G) (cI : ClassId) (h0 : Nat) (a : Nat → Nat) (p0 p1 : Int32) (sz : Nat) : Met l yX11_tries (sw_ws yX11_tries cX11_tries 3 (some .int)) (rm_ 2 48 0 0) (p_M D vwCl [(cI, .int)] [.ref h0, .int p0, .int p1] [(h0, .inr (11, (Value.ref (a 0) :: Value.ref (a 1) :: Value.ref (a 2) :: Value.ref (a 3) :: Value.ref (a 4) :: Value.ref (a 5) :: Value.ref (a 6) :: Value.ref (a 7) :: Value.ref (a 8) :: Value.ref (a 9) :: Value.ref (a 10) :: Value.ref (a 11) :: Value.ref (a 12) :: Value.ref (a 13) :: Value.ref (a 14) :: Value.int 0 :: Value.int 0 :: Value.int 0 :: []))), ((a 0), .inr (9, [.ref (a 15), .int 0])), ((a 5), .inr (5, (Value.ref (a 30) :: Value.ref (a 31) :: Value.ref (a 32) :: Value.ref (a 33) :: Value.ref (a 34) :: Value.ref (a 35) :: Value.ref (a 36) :: Value.ref (a 37) :: Value.int 0 :: Value.int 0 :: Value.int 0 :: Value.int 0 :: Value.int 0 :: Value.int 0 :: Value.int 0 :: [])))] sz) (q_M D vwCl (some (.int (-1))) (fun u => []) (va_A [(h0, .inr (11, (Value.ref (a 0) :: Value.ref (a 1) :: Value.ref (a 2) :: Value.ref (a 3) :: Value.ref (a 4) :: Value.ref (a 5) :: Value.ref (a 6) :: Value.ref (a 7) :: Value.ref (a 8) :: Value.ref (a 9) :: Value.ref (a 10) :: Value.ref (a 11) :: Value.ref (a 12) :: Value.ref (a 13) :: Value.ref (a 14) :: Value.int 0 :: Value.int 0 :: Value.int 0 :: []))), ((a 0), .inr (9, [.ref (a 15), .int 0])), ((a 5), .inr (5, (Value.ref (a 30) :: Value.ref (a 31) :: Value.ref (a 32) :: Value.ref (a 33) :: Value.ref (a 34) :: Value.ref (a 35) :: Value.ref (a 36) :: Value.ref (a 37) :: Value.int 0 :: Value.int 0 :: Value.int 0 :: Value.int 0 :: Value.int 0 :: Value.int 0 :: Value.int 0 :: [])))] sz)) 0 0 (va_A [(h0, .inr (11, (Value.ref (a 0) :: Value.ref (a 1) :: Value.ref (a 2) :: Value.ref (a 3) :: Value.ref (a 4) :: Value.ref (a 5) :: Value.ref (a 6) :: Value.ref (a 7) :: Value.ref (a 8) :: Value.ref (a 9) :: Value.ref (a 10) :: Value.ref (a 11) :: Value.ref (a 12) :: Value.ref (a 13) :: Value.ref (a 14) :: Value.int 0 :: Value.int 0 :: Value.int 0 :: []))), ((a 0), .inr (9, [.ref (a 15), .int 0])), ((a 5), .inr (5, (Value.ref (a 30) :: Value.ref (a 31) :: Value.ref (a 32) :: Value.ref (a 33) :: Value.ref (a 34) :: Value.ref (a 35) :: Value.ref (a 36) :: Value.ref (a 37) :: Value.int 0 :: Value.int 0 :: Value.int 0 :: Value.int 0 :: Value.int 0 :: Value.int 0 :: Value.int 0 :: [])))] sz) := by
  refine Met.ofW (cc := cX11_tries) (maxL := 3) (ret := (some .int)) (by decide) rfl ?_
  intro p e s m args below meth c s₁ B hml hv
  obtain ⟨rfl, hsz, hP, hK, hD0⟩ := hv
  have hx := B.exec
  have hb := B.bytes
  have hr := B.returns
  have hT := sw_in (atoms_spec (ws := sw_ws yX11_tries cX11_tries 3 (some .int)) B.pre)
  have hown : s.vm.findClass RX11 = some m.cls := findClass_of_methodNamed B.named
  have hlocks := B.notSynchronized
  subst hsz
  have hD := hD0.self (sz := s.heap.size)
  generalize hAe : va_A [(h0, .inr (11, (Value.ref (a 0) :: Value.ref (a 1) :: Value.ref (a 2) :: Value.ref (a 3) :: Value.ref (a 4) :: Value.ref (a 5) :: Value.ref (a 6) :: Value.ref (a 7) :: Value.ref (a 8) :: Value.ref (a 9) :: Value.ref (a 10) :: Value.ref (a 11) :: Value.ref (a 12) :: Value.ref (a 13) :: Value.ref (a 14) :: Value.int 0 :: Value.int 0 :: Value.int 0 :: []))), ((a 0), .inr (9, [.ref (a 15), .int 0])), ((a 5), .inr (5, (Value.ref (a 30) :: Value.ref (a 31) :: Value.ref (a 32) :: Value.ref (a 33) :: Value.ref (a 34) :: Value.ref (a 35) :: Value.ref (a 36) :: Value.ref (a 37) :: Value.int 0 :: Value.int 0 :: Value.int 0 :: Value.int 0 :: Value.int 0 :: Value.int 0 :: Value.int 0 :: [])))] s.heap.size = A at hD ⊢
  have hA : ∀ q : Nat, s.heap.size ≤ q → A q := fun q h => by rw [← hAe]; exact Or.inr h
  have hS : va_S A s.heap s.heap [] := va_S.rf
  have hl := lv_entry ([.ref h0, .int p0, .int p1]) (n := 3) (Nat.le_of_ble_eq_true rfl)
  rw [lg_entry_eq]
  generalize (lg_sl ([.ref h0, .int p0, .int p1]) ++ List.replicate (3 - (lg_sl ([.ref h0, .int p0, .int p1])).length) Slot.unset).toArray = ls at hl ⊢
  have hl : lv_has ls 3 [(0, .ref h0), (1, .int p0), (2, .int p1)] := hl
  refine lv_aload_n hx hb dX11_tries_0 rfl (lv_at hl 0 rfl) ?_
  refine lv_iload_n hx hb dX11_tries_1 rfl (lv_at hl 1 rfl) ?_
  refine lv_iload_n hx hb dX11_tries_2 rfl (lv_at hl 1 rfl) ?_
  refine go_R (v := some (.int (sp_isIn p0 0 2))) (st1 := [.int (sp_isIn p0 0 2), .int p0, .ref h0]) (run_S (As := [.int p0]) (rest := [.int p0, .ref h0]) ⟨hx, hb, hml, hown, hT⟩ (kX11_isWay_0 l D cI h0 a p0) sw_1068 lks_X11_isWay (p_R_S (hP.sub (ws' := []) [] rfl) hK) rfl hl.1 rfl (Nat.le_of_ble_eq_true rfl) dX11_tries_3 ⟨⟨Nat.le_of_ble_eq_true rfl, Nat.le_of_ble_eq_true rfl⟩, Nat.le_of_ble_eq_true rfl, Nat.le_of_ble_eq_true rfl⟩) rfl ?_
  rcases sp_isIn_or p0 0 2 with ⟨e_1, c_2, c_3⟩ | ⟨e_1, c_2⟩
  · refine ct_i (z := 1) e_1 ?_
    refine lv_if_eq (tgt := 14) hx hb dX11_tries_6 (by decide) (fun h9 => absurd h9 (by decide)) (fun _ => ?_)
    refine lv_ldc (own := RX11) (v := 65535) hx hb hown (hT _ sw_821) dX11_tries_9 ?_
    refine lv_goto (tgt := 15) hx hb dX11_tries_11 (by decide) ?_
    refine lv_iload_n hx hb dX11_tries_15 rfl (lv_at hl 2 rfl) ?_
    refine go_M (wc := [(h0, .inr (11, (Value.ref (a 0) :: Value.ref (a 1) :: Value.ref (a 2) :: Value.ref (a 3) :: Value.ref (a 4) :: Value.ref (a 5) :: Value.ref (a 6) :: Value.ref (a 7) :: Value.ref (a 8) :: Value.ref (a 9) :: Value.ref (a 10) :: Value.ref (a 11) :: Value.ref (a 12) :: Value.ref (a 13) :: Value.ref (a 14) :: Value.int 0 :: Value.int 0 :: Value.int 0 :: []))), ((a 0), .inr (9, [.ref (a 15), .int 0])), ((a 5), .inr (5, (Value.ref (a 30) :: Value.ref (a 31) :: Value.ref (a 32) :: Value.ref (a 33) :: Value.ref (a 34) :: Value.ref (a 35) :: Value.ref (a 36) :: Value.ref (a 37) :: Value.int 0 :: Value.int 0 :: Value.int 0 :: Value.int 0 :: Value.int 0 :: Value.int 0 :: Value.int 0 :: [])))]) (wr := []) (w1 := fun u => [(h0, .inr (11, (Value.ref (a 0) :: Value.ref (a 1) :: Value.ref (a 2) :: Value.ref (a 3) :: Value.ref (a 4) :: Value.ref (a 5) :: Value.ref (a 6) :: Value.ref (a 7) :: Value.ref (a 8) :: Value.ref (a 9) :: Value.ref (a 10) :: Value.ref (a 11) :: Value.ref (a 12) :: Value.ref (a 13) :: Value.ref (a 14) :: Value.int 0 :: Value.int 0 :: Value.int 0 :: []))), ((a 0), .inr (9, [.ref (a 15), .int 0])), ((a 5), .inr (5, (Value.ref (a 30) :: Value.ref (a 31) :: Value.ref (a 32) :: Value.ref (a 33) :: Value.ref (a 34) :: Value.ref (a 35) :: Value.ref (a 36) :: Value.ref (a 37) :: Value.int 0 :: Value.int 0 :: Value.int 0 :: Value.int 0 :: Value.int 0 :: Value.int 0 :: Value.int 0 :: [])))]) (v := some (.int (-1))) (st1 := [.int (-1)]) hP hD hS hA [0, 1, 2] [] rfl rfl (by decide) (by decide) (by decide) (fun hPc hDc => run_V (As := [.int p0, .int 65535, .int p1]) (rest := []) ⟨hx, hb, hml, hown, hT⟩ (kX11_triedOnTape_1 l D cI h0 a p0 p1 _) sw_952 lkv_X11_triedOnTape (p_M_V (ci := 11) (q0 := 0) hPc hK hDc rfl rfl) rfl hl.1 rfl (Nat.le_of_ble_eq_true rfl) dX11_tries_16 ⟨⟨Nat.le_of_ble_eq_true rfl, Nat.le_of_ble_eq_true rfl⟩, Nat.le_of_ble_eq_true rfl, Nat.le_of_ble_eq_true rfl⟩) rfl (fun u_4 H locs hP hD hS => ?_)
    have hP : va_P D vwCl [(h0, .inr (11, (Value.ref (a 0) :: Value.ref (a 1) :: Value.ref (a 2) :: Value.ref (a 3) :: Value.ref (a 4) :: Value.ref (a 5) :: Value.ref (a 6) :: Value.ref (a 7) :: Value.ref (a 8) :: Value.ref (a 9) :: Value.ref (a 10) :: Value.ref (a 11) :: Value.ref (a 12) :: Value.ref (a 13) :: Value.ref (a 14) :: Value.int 0 :: Value.int 0 :: Value.int 0 :: []))), ((a 0), .inr (9, [.ref (a 15), .int 0])), ((a 5), .inr (5, (Value.ref (a 30) :: Value.ref (a 31) :: Value.ref (a 32) :: Value.ref (a 33) :: Value.ref (a 34) :: Value.ref (a 35) :: Value.ref (a 36) :: Value.ref (a 37) :: Value.int 0 :: Value.int 0 :: Value.int 0 :: Value.int 0 :: Value.int 0 :: Value.int 0 :: Value.int 0 :: [])))] H := hP
    have hD : va_D A [(h0, .inr (11, (Value.ref (a 0) :: Value.ref (a 1) :: Value.ref (a 2) :: Value.ref (a 3) :: Value.ref (a 4) :: Value.ref (a 5) :: Value.ref (a 6) :: Value.ref (a 7) :: Value.ref (a 8) :: Value.ref (a 9) :: Value.ref (a 10) :: Value.ref (a 11) :: Value.ref (a 12) :: Value.ref (a 13) :: Value.ref (a 14) :: Value.int 0 :: Value.int 0 :: Value.int 0 :: []))), ((a 0), .inr (9, [.ref (a 15), .int 0])), ((a 5), .inr (5, (Value.ref (a 30) :: Value.ref (a 31) :: Value.ref (a 32) :: Value.ref (a 33) :: Value.ref (a 34) :: Value.ref (a 35) :: Value.ref (a 36) :: Value.ref (a 37) :: Value.int 0 :: Value.int 0 :: Value.int 0 :: Value.int 0 :: Value.int 0 :: Value.int 0 :: Value.int 0 :: [])))] := hD
    have hP9 := hP.sub (ws' := []) [] rfl
    have hD9 := hD.sub (ws' := []) [] (by decide) rfl
    exact W.iret (v := (-1)) hx hb hr (fun t ht _ => ⟨rfl, ⟨(fun k => [].getD k 0, fun k => [].getD k zI), by rw [ht]; exact hP9, hD9⟩, hS.F ht⟩) hS.2.2 dX11_tries_19
  · refine ct_i (z := 0) e_1 ?_
    refine lv_if_eq (tgt := 14) hx hb dX11_tries_6 (by decide) (fun _ => ?_) (fun h9 => absurd (by decide) h9)
    refine lv_iconst (v := 0) hx hb dX11_tries_14 (by decide) ?_
    refine lv_iload_n hx hb dX11_tries_15 rfl (lv_at hl 2 rfl) ?_
    refine go_M (wc := [(h0, .inr (11, (Value.ref (a 0) :: Value.ref (a 1) :: Value.ref (a 2) :: Value.ref (a 3) :: Value.ref (a 4) :: Value.ref (a 5) :: Value.ref (a 6) :: Value.ref (a 7) :: Value.ref (a 8) :: Value.ref (a 9) :: Value.ref (a 10) :: Value.ref (a 11) :: Value.ref (a 12) :: Value.ref (a 13) :: Value.ref (a 14) :: Value.int 0 :: Value.int 0 :: Value.int 0 :: []))), ((a 0), .inr (9, [.ref (a 15), .int 0])), ((a 5), .inr (5, (Value.ref (a 30) :: Value.ref (a 31) :: Value.ref (a 32) :: Value.ref (a 33) :: Value.ref (a 34) :: Value.ref (a 35) :: Value.ref (a 36) :: Value.ref (a 37) :: Value.int 0 :: Value.int 0 :: Value.int 0 :: Value.int 0 :: Value.int 0 :: Value.int 0 :: Value.int 0 :: [])))]) (wr := []) (w1 := fun u => [(h0, .inr (11, (Value.ref (a 0) :: Value.ref (a 1) :: Value.ref (a 2) :: Value.ref (a 3) :: Value.ref (a 4) :: Value.ref (a 5) :: Value.ref (a 6) :: Value.ref (a 7) :: Value.ref (a 8) :: Value.ref (a 9) :: Value.ref (a 10) :: Value.ref (a 11) :: Value.ref (a 12) :: Value.ref (a 13) :: Value.ref (a 14) :: Value.int 0 :: Value.int 0 :: Value.int 0 :: []))), ((a 0), .inr (9, [.ref (a 15), .int 0])), ((a 5), .inr (5, (Value.ref (a 30) :: Value.ref (a 31) :: Value.ref (a 32) :: Value.ref (a 33) :: Value.ref (a 34) :: Value.ref (a 35) :: Value.ref (a 36) :: Value.ref (a 37) :: Value.int 0 :: Value.int 0 :: Value.int 0 :: Value.int 0 :: Value.int 0 :: Value.int 0 :: Value.int 0 :: [])))]) (v := some (.int (-1))) (st1 := [.int (-1)]) hP hD hS hA [0, 1, 2] [] rfl rfl (by decide) (by decide) (by decide) (fun hPc hDc => run_V (As := [.int p0, .int 0, .int p1]) (rest := []) ⟨hx, hb, hml, hown, hT⟩ (kX11_triedOnTape_2 l D cI h0 a p0 p1 _) sw_952 lkv_X11_triedOnTape (p_M_V (ci := 11) (q0 := 0) hPc hK hDc rfl rfl) rfl hl.1 rfl (Nat.le_of_ble_eq_true rfl) dX11_tries_16 ⟨⟨Nat.le_of_ble_eq_true rfl, Nat.le_of_ble_eq_true rfl⟩, Nat.le_of_ble_eq_true rfl, Nat.le_of_ble_eq_true rfl⟩) rfl (fun u_5 H locs hP hD hS => ?_)
    have hP : va_P D vwCl [(h0, .inr (11, (Value.ref (a 0) :: Value.ref (a 1) :: Value.ref (a 2) :: Value.ref (a 3) :: Value.ref (a 4) :: Value.ref (a 5) :: Value.ref (a 6) :: Value.ref (a 7) :: Value.ref (a 8) :: Value.ref (a 9) :: Value.ref (a 10) :: Value.ref (a 11) :: Value.ref (a 12) :: Value.ref (a 13) :: Value.ref (a 14) :: Value.int 0 :: Value.int 0 :: Value.int 0 :: []))), ((a 0), .inr (9, [.ref (a 15), .int 0])), ((a 5), .inr (5, (Value.ref (a 30) :: Value.ref (a 31) :: Value.ref (a 32) :: Value.ref (a 33) :: Value.ref (a 34) :: Value.ref (a 35) :: Value.ref (a 36) :: Value.ref (a 37) :: Value.int 0 :: Value.int 0 :: Value.int 0 :: Value.int 0 :: Value.int 0 :: Value.int 0 :: Value.int 0 :: [])))] H := hP
    have hD : va_D A [(h0, .inr (11, (Value.ref (a 0) :: Value.ref (a 1) :: Value.ref (a 2) :: Value.ref (a 3) :: Value.ref (a 4) :: Value.ref (a 5) :: Value.ref (a 6) :: Value.ref (a 7) :: Value.ref (a 8) :: Value.ref (a 9) :: Value.ref (a 10) :: Value.ref (a 11) :: Value.ref (a 12) :: Value.ref (a 13) :: Value.ref (a 14) :: Value.int 0 :: Value.int 0 :: Value.int 0 :: []))), ((a 0), .inr (9, [.ref (a 15), .int 0])), ((a 5), .inr (5, (Value.ref (a 30) :: Value.ref (a 31) :: Value.ref (a 32) :: Value.ref (a 33) :: Value.ref (a 34) :: Value.ref (a 35) :: Value.ref (a 36) :: Value.ref (a 37) :: Value.int 0 :: Value.int 0 :: Value.int 0 :: Value.int 0 :: Value.int 0 :: Value.int 0 :: Value.int 0 :: [])))] := hD
    have hP9 := hP.sub (ws' := []) [] rfl
    have hD9 := hD.sub (ws' := []) [] (by decide) rfl
    exact W.iret (v := (-1)) hx hb hr (fun t ht _ => ⟨rfl, ⟨(fun k => [].getD k 0, fun k => [].getD k zI), by rw [ht]; exact hP9, hD9⟩, hS.F ht⟩) hS.2.2 dX11_tries_19
set_option maxHeartbeats 4000000 in
set_option maxRecDepth 100000 in
theorem kX11_band_0 (l : Launch) (D : va_G) (cI : ClassId) (h0 : Nat) (a : Nat → Nat) (p0 p1 : Int32) : Met l yX11_band (sw_ws yX11_band cX11_band 4 (some .int)) (rm_ 1 21 0 0) (p_R D vwCl [(cI, .int)] [.ref h0, .int p0, .int p1] [(h0, .inr (11, (Value.ref (a 0) :: Value.ref (a 1) :: Value.ref (a 2) :: Value.ref (a 3) :: Value.ref (a 4) :: Value.ref (a 5) :: Value.ref (a 6) :: Value.ref (a 7) :: Value.ref (a 8) :: Value.ref (a 9) :: Value.ref (a 10) :: Value.ref (a 11) :: Value.ref (a 12) :: Value.ref (a 13) :: Value.ref (a 14) :: Value.int 0 :: Value.int 0 :: Value.int 0 :: []))), ((a 5), .inr (5, (Value.ref (a 30) :: Value.ref (a 31) :: Value.ref (a 32) :: Value.ref (a 33) :: Value.ref (a 34) :: Value.ref (a 35) :: Value.ref (a 36) :: Value.ref (a 37) :: Value.int 0 :: Value.int 0 :: Value.int 0 :: Value.int 0 :: Value.int 0 :: Value.int 0 :: Value.int 0 :: [])))]) (q_R (some (.int (-1)))) 0 0 (fun _ => False) := by
  refine Met.ofW (cc := cX11_band) (maxL := 4) (ret := (some .int)) (by decide) rfl ?_
  intro p e s m args below meth c s₁ B hml hv
  obtain ⟨rfl, hP, hK⟩ := hv
  have hx := B.exec
  have hb := B.bytes
  have hr := B.returns
  have hT := sw_in (atoms_spec (ws := sw_ws yX11_band cX11_band 4 (some .int)) B.pre)
  have hown : s.vm.findClass RX11 = some m.cls := findClass_of_methodNamed B.named
  have hlocks := B.notSynchronized
  have hl := lv_entry ([.ref h0, .int p0, .int p1]) (n := 4) (Nat.le_of_ble_eq_true rfl)
  rw [lg_entry_eq]
  generalize (lg_sl ([.ref h0, .int p0, .int p1]) ++ List.replicate (4 - (lg_sl ([.ref h0, .int p0, .int p1])).length) Slot.unset).toArray = ls at hl ⊢
  have hl : lv_has ls 4 [(0, .ref h0), (1, .int p0), (2, .int p1)] := hl
  refine lv_aload_n hx hb dX11_band_0 rfl (lv_at hl 0 rfl) ?_
  refine lv_iload_n hx hb dX11_band_1 rfl (lv_at hl 1 rfl) ?_
  refine go_R (v := some (.int 0)) (st1 := [.int 0]) (run_V (As := [.int p0]) (rest := []) ⟨hx, hb, hml, hown, hT⟩ (kX11_isThing_0 l D cI h0 a p0) sw_830 lkv_X11_isThing (p_R_V (ci := 11) (q0 := 0) (hP.sub (ws' := [(h0, .inr (11, (Value.ref (a 0) :: Value.ref (a 1) :: Value.ref (a 2) :: Value.ref (a 3) :: Value.ref (a 4) :: Value.ref (a 5) :: Value.ref (a 6) :: Value.ref (a 7) :: Value.ref (a 8) :: Value.ref (a 9) :: Value.ref (a 10) :: Value.ref (a 11) :: Value.ref (a 12) :: Value.ref (a 13) :: Value.ref (a 14) :: Value.int 0 :: Value.int 0 :: Value.int 0 :: []))), ((a 5), .inr (5, (Value.ref (a 30) :: Value.ref (a 31) :: Value.ref (a 32) :: Value.ref (a 33) :: Value.ref (a 34) :: Value.ref (a 35) :: Value.ref (a 36) :: Value.ref (a 37) :: Value.int 0 :: Value.int 0 :: Value.int 0 :: Value.int 0 :: Value.int 0 :: Value.int 0 :: Value.int 0 :: [])))]) [0, 1] rfl) hK rfl rfl) rfl hl.1 rfl (Nat.le_of_ble_eq_true rfl) dX11_band_2 ⟨⟨Nat.le_of_ble_eq_true rfl, Nat.le_of_ble_eq_true rfl⟩, Nat.le_of_ble_eq_true rfl, Nat.le_of_ble_eq_true rfl⟩) rfl ?_
  refine lv_if_eq (tgt := 20) hx hb dX11_band_5 (by decide) (fun _ => ?_) (fun h9 => absurd (by decide) h9)
  refine lv_iconst (v := (-1)) hx hb dX11_band_20 (by decide) ?_
  refine lv_istore_n (lv' := [(3, .int (-1)), (0, .ref h0), (1, .int p0), (2, .int p1)]) hx hb dX11_band_21 rfl hl (by decide) rfl (fun ls hl => ?_)
  refine lv_iload_n hx hb dX11_band_22 rfl (lv_at hl 0 rfl) ?_
  refine lv_if_lt (tgt := 32) hx hb dX11_band_23 (by decide) (fun _ => ?_) (fun h9 => absurd (by decide) h9)
  refine lv_iconst (v := (-1)) hx hb dX11_band_32 (by decide) ?_
  exact W.iret (v := (-1)) hx hb hr (fun t ht _ => ⟨rfl, ht⟩) (fun _ h9 => nomatch h9) dX11_band_33
set_option maxHeartbeats 4000000 in
set_option maxRecDepth 100000 in
theorem kX11_deals_0 (l : Launch) (D : va_G) (cI : ClassId) (h0 : Nat) (a : Nat → Nat) (p0 : Int32) (sz : Nat) : Met l yX11_deals (sw_ws yX11_deals cX11_deals 6 (some .int)) (rm_ 0 0 0 0) (p_M D vwCl [(cI, .int)] [.ref h0, .int p0] [(h0, .inr (11, (Value.ref (a 0) :: Value.ref (a 1) :: Value.ref (a 2) :: Value.ref (a 3) :: Value.ref (a 4) :: Value.ref (a 5) :: Value.ref (a 6) :: Value.ref (a 7) :: Value.ref (a 8) :: Value.ref (a 9) :: Value.ref (a 10) :: Value.ref (a 11) :: Value.ref (a 12) :: Value.ref (a 13) :: Value.ref (a 14) :: Value.int 0 :: Value.int 0 :: Value.int 0 :: []))), ((a 0), .inr (9, [.ref (a 15), .int 0])), ((a 5), .inr (5, (Value.ref (a 30) :: Value.ref (a 31) :: Value.ref (a 32) :: Value.ref (a 33) :: Value.ref (a 34) :: Value.ref (a 35) :: Value.ref (a 36) :: Value.ref (a 37) :: Value.int 0 :: Value.int 0 :: Value.int 0 :: Value.int 0 :: Value.int 0 :: Value.int 0 :: Value.int 0 :: [])))] sz) (q_M D vwCl (some (.int (-1))) (fun u => []) (va_A [(h0, .inr (11, (Value.ref (a 0) :: Value.ref (a 1) :: Value.ref (a 2) :: Value.ref (a 3) :: Value.ref (a 4) :: Value.ref (a 5) :: Value.ref (a 6) :: Value.ref (a 7) :: Value.ref (a 8) :: Value.ref (a 9) :: Value.ref (a 10) :: Value.ref (a 11) :: Value.ref (a 12) :: Value.ref (a 13) :: Value.ref (a 14) :: Value.int 0 :: Value.int 0 :: Value.int 0 :: []))), ((a 0), .inr (9, [.ref (a 15), .int 0])), ((a 5), .inr (5, (Value.ref (a 30) :: Value.ref (a 31) :: Value.ref (a 32) :: Value.ref (a 33) :: Value.ref (a 34) :: Value.ref (a 35) :: Value.ref (a 36) :: Value.ref (a 37) :: Value.int 0 :: Value.int 0 :: Value.int 0 :: Value.int 0 :: Value.int 0 :: Value.int 0 :: Value.int 0 :: [])))] sz)) 0 0 (va_A [(h0, .inr (11, (Value.ref (a 0) :: Value.ref (a 1) :: Value.ref (a 2) :: Value.ref (a 3) :: Value.ref (a 4) :: Value.ref (a 5) :: Value.ref (a 6) :: Value.ref (a 7) :: Value.ref (a 8) :: Value.ref (a 9) :: Value.ref (a 10) :: Value.ref (a 11) :: Value.ref (a 12) :: Value.ref (a 13) :: Value.ref (a 14) :: Value.int 0 :: Value.int 0 :: Value.int 0 :: []))), ((a 0), .inr (9, [.ref (a 15), .int 0])), ((a 5), .inr (5, (Value.ref (a 30) :: Value.ref (a 31) :: Value.ref (a 32) :: Value.ref (a 33) :: Value.ref (a 34) :: Value.ref (a 35) :: Value.ref (a 36) :: Value.ref (a 37) :: Value.int 0 :: Value.int 0 :: Value.int 0 :: Value.int 0 :: Value.int 0 :: Value.int 0 :: Value.int 0 :: [])))] sz) := by
  refine Met.ofW (cc := cX11_deals) (maxL := 6) (ret := (some .int)) (by decide) rfl ?_
  intro p e s m args below meth c s₁ B hml hv
  obtain ⟨rfl, hsz, hP, hK, hD0⟩ := hv
  have hx := B.exec
  have hb := B.bytes
  have hr := B.returns
  have hT := sw_in (atoms_spec (ws := sw_ws yX11_deals cX11_deals 6 (some .int)) B.pre)
  have hown : s.vm.findClass RX11 = some m.cls := findClass_of_methodNamed B.named
  have hlocks := B.notSynchronized
  subst hsz
  have hD := hD0.self (sz := s.heap.size)
  generalize hAe : va_A [(h0, .inr (11, (Value.ref (a 0) :: Value.ref (a 1) :: Value.ref (a 2) :: Value.ref (a 3) :: Value.ref (a 4) :: Value.ref (a 5) :: Value.ref (a 6) :: Value.ref (a 7) :: Value.ref (a 8) :: Value.ref (a 9) :: Value.ref (a 10) :: Value.ref (a 11) :: Value.ref (a 12) :: Value.ref (a 13) :: Value.ref (a 14) :: Value.int 0 :: Value.int 0 :: Value.int 0 :: []))), ((a 0), .inr (9, [.ref (a 15), .int 0])), ((a 5), .inr (5, (Value.ref (a 30) :: Value.ref (a 31) :: Value.ref (a 32) :: Value.ref (a 33) :: Value.ref (a 34) :: Value.ref (a 35) :: Value.ref (a 36) :: Value.ref (a 37) :: Value.int 0 :: Value.int 0 :: Value.int 0 :: Value.int 0 :: Value.int 0 :: Value.int 0 :: Value.int 0 :: [])))] s.heap.size = A at hD ⊢
  have hA : ∀ q : Nat, s.heap.size ≤ q → A q := fun q h => by rw [← hAe]; exact Or.inr h
  have hS : va_S A s.heap s.heap [] := va_S.rf
  have hl := lv_entry ([.ref h0, .int p0]) (n := 6) (Nat.le_of_ble_eq_true rfl)
  rw [lg_entry_eq]
  generalize (lg_sl ([.ref h0, .int p0]) ++ List.replicate (6 - (lg_sl ([.ref h0, .int p0])).length) Slot.unset).toArray = ls at hl ⊢
  have hl : lv_has ls 6 [(0, .ref h0), (1, .int p0)] := hl
  refine lv_aload_n hx hb dX11_deals_0 rfl (lv_at hl 0 rfl) ?_
  refine va_get (D := D) (ci := 11) (v := .ref (a 0)) (C := RX11) (T := TX11) (N := 18) hx hb hT ix_11 hown hK hP 0 rfl rfl 0 (by decide) (hT _ sw_515) (fun _ h9 => h9) rfl dX11_deals_1 ?_
  refine va_getN (D := D) (ci := 9) (v := .int 0) (C := RX9) (T := TX9) (N := 2) hx hb hT ix_9 hown hK hP 1 rfl rfl 1 (by decide) (hT _ sw_157) (fun _ h9 => h9) rfl dX11_deals_4 ?_
  refine lv_istore_n (lv' := [(2, .int 0), (0, .ref h0), (1, .int p0)]) hx hb dX11_deals_7 rfl hl (by decide) rfl (fun ls hl => ?_)
  refine lv_aload_n hx hb dX11_deals_8 rfl (lv_at hl 1 rfl) ?_
  refine va_get (D := D) (ci := 11) (v := .ref (a 0)) (C := RX11) (T := TX11) (N := 18) hx hb hT ix_11 hown hK hP 0 rfl rfl 0 (by decide) (hT _ sw_515) (fun _ h9 => h9) rfl dX11_deals_9 ?_
  refine lv_iconst (v := 0) hx hb dX11_deals_12 (by decide) ?_
  refine va_putN (D := D) (ci := 9) (v := .int 0) (ty := .int) (C := RX9) (T := TX9) (N := 2) hx hb hT ix_9 tyX9 tyX9_ok nmX9 hown hK hP hD hS 1 rfl rfl 1 (by decide) (hT _ sw_157) (fun _ h9 => h9) rfl (by decide +kernel) rfl rfl (Nat.le_of_ble_eq_true rfl) dX11_deals_13 (fun H locs hP hD hS => ?_)
  have hP : va_P D vwCl [(h0, .inr (11, (Value.ref (a 0) :: Value.ref (a 1) :: Value.ref (a 2) :: Value.ref (a 3) :: Value.ref (a 4) :: Value.ref (a 5) :: Value.ref (a 6) :: Value.ref (a 7) :: Value.ref (a 8) :: Value.ref (a 9) :: Value.ref (a 10) :: Value.ref (a 11) :: Value.ref (a 12) :: Value.ref (a 13) :: Value.ref (a 14) :: Value.int 0 :: Value.int 0 :: Value.int 0 :: []))), ((a 0), .inr (9, [.ref (a 15), .int 0])), ((a 5), .inr (5, (Value.ref (a 30) :: Value.ref (a 31) :: Value.ref (a 32) :: Value.ref (a 33) :: Value.ref (a 34) :: Value.ref (a 35) :: Value.ref (a 36) :: Value.ref (a 37) :: Value.int 0 :: Value.int 0 :: Value.int 0 :: Value.int 0 :: Value.int 0 :: Value.int 0 :: Value.int 0 :: [])))] H := hP
  have hD : va_D A [(h0, .inr (11, (Value.ref (a 0) :: Value.ref (a 1) :: Value.ref (a 2) :: Value.ref (a 3) :: Value.ref (a 4) :: Value.ref (a 5) :: Value.ref (a 6) :: Value.ref (a 7) :: Value.ref (a 8) :: Value.ref (a 9) :: Value.ref (a 10) :: Value.ref (a 11) :: Value.ref (a 12) :: Value.ref (a 13) :: Value.ref (a 14) :: Value.int 0 :: Value.int 0 :: Value.int 0 :: []))), ((a 0), .inr (9, [.ref (a 15), .int 0])), ((a 5), .inr (5, (Value.ref (a 30) :: Value.ref (a 31) :: Value.ref (a 32) :: Value.ref (a 33) :: Value.ref (a 34) :: Value.ref (a 35) :: Value.ref (a 36) :: Value.ref (a 37) :: Value.int 0 :: Value.int 0 :: Value.int 0 :: Value.int 0 :: Value.int 0 :: Value.int 0 :: Value.int 0 :: [])))] := hD
  refine lv_aload_n hx hb dX11_deals_16 rfl (lv_at hl 1 rfl) ?_
  refine va_get (D := D) (ci := 11) (v := .ref (a 5)) (C := RX11) (T := TX11) (N := 18) hx hb hT ix_11 hown hK hP 0 rfl rfl 5 (by decide) (hT _ sw_520) (fun _ h9 => h9) rfl dX11_deals_17 ?_
  refine va_getN (D := D) (ci := 5) (v := .int 0) (C := RX5) (T := TX5) (N := 15) hx hb hT ix_5 hown hK hP 2 rfl rfl 9 (by decide) (hT _ sw_349) (fun _ h9 => h9) rfl dX11_deals_20 ?_
  refine lv_if_le (tgt := 36) hx hb dX11_deals_23 (by decide) (fun _ => ?_) (fun h9 => absurd (by decide) h9)
  refine lv_iconst (v := (-1)) hx hb dX11_deals_36 (by decide) ?_
  have hP9 := hP.sub (ws' := []) [] rfl
  have hD9 := hD.sub (ws' := []) [] (by decide) rfl
  exact W.iret (v := (-1)) hx hb hr (fun t ht _ => ⟨rfl, ⟨(fun k => [].getD k 0, fun k => [].getD k zI), by rw [ht]; exact hP9, hD9⟩, hS.F ht⟩) hS.2.2 dX11_deals_37
set_option maxHeartbeats 4000000 in
set_option maxRecDepth 100000 in
theorem kX11_pairs_0 (l : Launch) (D : va_G) (cI : ClassId) (h0 : Nat) (a : Nat → Nat) (p0 p1 p2 : Int32) : Met l yX11_pairs (sw_ws yX11_pairs cX11_pairs 4 (some .int)) (rm_ 0 0 0 0) (p_R D vwCl [(cI, .int)] [.ref h0, .int p0, .int p1, .int p2] [(h0, .inr (11, (Value.ref (a 0) :: Value.ref (a 1) :: Value.ref (a 2) :: Value.ref (a 3) :: Value.ref (a 4) :: Value.ref (a 5) :: Value.ref (a 6) :: Value.ref (a 7) :: Value.ref (a 8) :: Value.ref (a 9) :: Value.ref (a 10) :: Value.ref (a 11) :: Value.ref (a 12) :: Value.ref (a 13) :: Value.ref (a 14) :: Value.int 0 :: Value.int 0 :: Value.int 0 :: []))), ((a 5), .inr (5, (Value.ref (a 30) :: Value.ref (a 31) :: Value.ref (a 32) :: Value.ref (a 33) :: Value.ref (a 34) :: Value.ref (a 35) :: Value.ref (a 36) :: Value.ref (a 37) :: Value.int 0 :: Value.int 0 :: Value.int 0 :: Value.int 0 :: Value.int 0 :: Value.int 0 :: Value.int 0 :: [])))]) (q_R (some (.int (-1)))) 0 0 (fun _ => False) := by
  refine Met.ofW (cc := cX11_pairs) (maxL := 4) (ret := (some .int)) (by decide) rfl ?_
  intro p e s m args below meth c s₁ B hml hv
  obtain ⟨rfl, hP, hK⟩ := hv
  have hx := B.exec
  have hb := B.bytes
  have hr := B.returns
  have hT := sw_in (atoms_spec (ws := sw_ws yX11_pairs cX11_pairs 4 (some .int)) B.pre)
  have hown : s.vm.findClass RX11 = some m.cls := findClass_of_methodNamed B.named
  have hlocks := B.notSynchronized
  have hl := lv_entry ([.ref h0, .int p0, .int p1, .int p2]) (n := 4) (Nat.le_of_ble_eq_true rfl)
  rw [lg_entry_eq]
  generalize (lg_sl ([.ref h0, .int p0, .int p1, .int p2]) ++ List.replicate (4 - (lg_sl ([.ref h0, .int p0, .int p1, .int p2])).length) Slot.unset).toArray = ls at hl ⊢
  have hl : lv_has ls 4 [(0, .ref h0), (1, .int p0), (2, .int p1), (3, .int p2)] := hl
  refine lv_aload_n hx hb dX11_pairs_0 rfl (lv_at hl 0 rfl) ?_
  refine va_get (D := D) (ci := 11) (v := .ref (a 5)) (C := RX11) (T := TX11) (N := 18) hx hb hT ix_11 hown hK hP 0 rfl rfl 5 (by decide) (hT _ sw_520) (fun _ h9 => h9) rfl dX11_pairs_1 ?_
  refine va_getN (D := D) (ci := 5) (v := .int 0) (C := RX5) (T := TX5) (N := 15) hx hb hT ix_5 hown hK hP 1 rfl rfl 9 (by decide) (hT _ sw_349) (fun _ h9 => h9) rfl dX11_pairs_4 ?_
  refine lv_if_le (tgt := 33) hx hb dX11_pairs_7 (by decide) (fun _ => ?_) (fun h9 => absurd (by decide) h9)
  refine lv_iconst (v := (-1)) hx hb dX11_pairs_33 (by decide) ?_
  exact W.iret (v := (-1)) hx hb hr (fun t ht _ => ⟨rfl, ht⟩) (fun _ h9 => nomatch h9) dX11_pairs_34
set_option maxHeartbeats 4000000 in
set_option maxRecDepth 100000 in
theorem kX11_rows_0 (l : Launch) (D : va_G) (cI : ClassId) (h0 : Nat) (a : Nat → Nat) (p0 p1 p2 : Int32) : Met l yX11_rows (sw_ws yX11_rows cX11_rows 4 (some .int)) (rm_ 0 0 0 0) (p_R D vwCl [(cI, .int)] [.ref h0, .int p0, .int p1, .int p2] [(h0, .inr (11, (Value.ref (a 0) :: Value.ref (a 1) :: Value.ref (a 2) :: Value.ref (a 3) :: Value.ref (a 4) :: Value.ref (a 5) :: Value.ref (a 6) :: Value.ref (a 7) :: Value.ref (a 8) :: Value.ref (a 9) :: Value.ref (a 10) :: Value.ref (a 11) :: Value.ref (a 12) :: Value.ref (a 13) :: Value.ref (a 14) :: Value.int 0 :: Value.int 0 :: Value.int 0 :: []))), ((a 5), .inr (5, (Value.ref (a 30) :: Value.ref (a 31) :: Value.ref (a 32) :: Value.ref (a 33) :: Value.ref (a 34) :: Value.ref (a 35) :: Value.ref (a 36) :: Value.ref (a 37) :: Value.int 0 :: Value.int 0 :: Value.int 0 :: Value.int 0 :: Value.int 0 :: Value.int 0 :: Value.int 0 :: [])))]) (q_R (some (.int (-1)))) 0 0 (fun _ => False) := by
  refine Met.ofW (cc := cX11_rows) (maxL := 4) (ret := (some .int)) (by decide) rfl ?_
  intro p e s m args below meth c s₁ B hml hv
  obtain ⟨rfl, hP, hK⟩ := hv
  have hx := B.exec
  have hb := B.bytes
  have hr := B.returns
  have hT := sw_in (atoms_spec (ws := sw_ws yX11_rows cX11_rows 4 (some .int)) B.pre)
  have hown : s.vm.findClass RX11 = some m.cls := findClass_of_methodNamed B.named
  have hlocks := B.notSynchronized
  have hl := lv_entry ([.ref h0, .int p0, .int p1, .int p2]) (n := 4) (Nat.le_of_ble_eq_true rfl)
  rw [lg_entry_eq]
  generalize (lg_sl ([.ref h0, .int p0, .int p1, .int p2]) ++ List.replicate (4 - (lg_sl ([.ref h0, .int p0, .int p1, .int p2])).length) Slot.unset).toArray = ls at hl ⊢
  have hl : lv_has ls 4 [(0, .ref h0), (1, .int p0), (2, .int p1), (3, .int p2)] := hl
  refine lv_aload_n hx hb dX11_rows_0 rfl (lv_at hl 0 rfl) ?_
  refine va_get (D := D) (ci := 11) (v := .ref (a 5)) (C := RX11) (T := TX11) (N := 18) hx hb hT ix_11 hown hK hP 0 rfl rfl 5 (by decide) (hT _ sw_520) (fun _ h9 => h9) rfl dX11_rows_1 ?_
  refine va_getN (D := D) (ci := 5) (v := .int 0) (C := RX5) (T := TX5) (N := 15) hx hb hT ix_5 hown hK hP 1 rfl rfl 9 (by decide) (hT _ sw_349) (fun _ h9 => h9) rfl dX11_rows_4 ?_
  refine lv_if_le (tgt := 37) hx hb dX11_rows_7 (by decide) (fun _ => ?_) (fun h9 => absurd (by decide) h9)
  refine lv_iconst (v := (-1)) hx hb dX11_rows_37 (by decide) ?_
  exact W.iret (v := (-1)) hx hb hr (fun t ht _ => ⟨rfl, ht⟩) (fun _ h9 => nomatch h9) dX11_rows_38
set_option maxHeartbeats 4000000 in
set_option maxRecDepth 100000 in
theorem kX11_fewest_0 (l : Launch) (D : va_G) (cI : ClassId) (h0 : Nat) (a : Nat → Nat) (p0 p1 p2 : Int32) : Met l yX11_fewest (sw_ws yX11_fewest cX11_fewest 7 (some .int)) (rm_ 0 0 0 0) (p_R D vwCl [(cI, .int)] [.ref h0, .int p0, .int p1, .int p2] [(h0, .inr (11, (Value.ref (a 0) :: Value.ref (a 1) :: Value.ref (a 2) :: Value.ref (a 3) :: Value.ref (a 4) :: Value.ref (a 5) :: Value.ref (a 6) :: Value.ref (a 7) :: Value.ref (a 8) :: Value.ref (a 9) :: Value.ref (a 10) :: Value.ref (a 11) :: Value.ref (a 12) :: Value.ref (a 13) :: Value.ref (a 14) :: Value.int 0 :: Value.int 0 :: Value.int 0 :: []))), ((a 5), .inr (5, (Value.ref (a 30) :: Value.ref (a 31) :: Value.ref (a 32) :: Value.ref (a 33) :: Value.ref (a 34) :: Value.ref (a 35) :: Value.ref (a 36) :: Value.ref (a 37) :: Value.int 0 :: Value.int 0 :: Value.int 0 :: Value.int 0 :: Value.int 0 :: Value.int 0 :: Value.int 0 :: [])))]) (q_R (some (.int (-1)))) 0 0 (fun _ => False) := by
  refine Met.ofW (cc := cX11_fewest) (maxL := 7) (ret := (some .int)) (by decide) rfl ?_
  intro p e s m args below meth c s₁ B hml hv
  obtain ⟨rfl, hP, hK⟩ := hv
  have hx := B.exec
  have hb := B.bytes
  have hr := B.returns
  have hT := sw_in (atoms_spec (ws := sw_ws yX11_fewest cX11_fewest 7 (some .int)) B.pre)
  have hown : s.vm.findClass RX11 = some m.cls := findClass_of_methodNamed B.named
  have hlocks := B.notSynchronized
  have hl := lv_entry ([.ref h0, .int p0, .int p1, .int p2]) (n := 7) (Nat.le_of_ble_eq_true rfl)
  rw [lg_entry_eq]
  generalize (lg_sl ([.ref h0, .int p0, .int p1, .int p2]) ++ List.replicate (7 - (lg_sl ([.ref h0, .int p0, .int p1, .int p2])).length) Slot.unset).toArray = ls at hl ⊢
  have hl : lv_has ls 7 [(0, .ref h0), (1, .int p0), (2, .int p1), (3, .int p2)] := hl
  refine lv_aload_n hx hb dX11_fewest_0 rfl (lv_at hl 0 rfl) ?_
  refine va_get (D := D) (ci := 11) (v := .ref (a 5)) (C := RX11) (T := TX11) (N := 18) hx hb hT ix_11 hown hK hP 0 rfl rfl 5 (by decide) (hT _ sw_520) (fun _ h9 => h9) rfl dX11_fewest_1 ?_
  refine va_getN (D := D) (ci := 5) (v := .int 0) (C := RX5) (T := TX5) (N := 15) hx hb hT ix_5 hown hK hP 1 rfl rfl 9 (by decide) (hT _ sw_349) (fun _ h9 => h9) rfl dX11_fewest_4 ?_
  refine lv_if_le (tgt := 34) hx hb dX11_fewest_7 (by decide) (fun _ => ?_) (fun h9 => absurd (by decide) h9)
  refine lv_iconst (v := (-1)) hx hb dX11_fewest_34 (by decide) ?_
  exact W.iret (v := (-1)) hx hb hr (fun t ht _ => ⟨rfl, ht⟩) (fun _ h9 => nomatch h9) dX11_fewest_35
set_option maxHeartbeats 4000000 in
set_option maxRecDepth 100000 in
theorem kX11_longest_0 (l : Launch) (D : va_G) (cI : ClassId) (h0 : Nat) (a : Nat → Nat) (p0 p1 p2 : Int32) : Met l yX11_longest (sw_ws yX11_longest cX11_longest 7 (some .int)) (rm_ 0 0 0 0) (p_R D vwCl [(cI, .int)] [.ref h0, .int p0, .int p1, .int p2] [(h0, .inr (11, (Value.ref (a 0) :: Value.ref (a 1) :: Value.ref (a 2) :: Value.ref (a 3) :: Value.ref (a 4) :: Value.ref (a 5) :: Value.ref (a 6) :: Value.ref (a 7) :: Value.ref (a 8) :: Value.ref (a 9) :: Value.ref (a 10) :: Value.ref (a 11) :: Value.ref (a 12) :: Value.ref (a 13) :: Value.ref (a 14) :: Value.int 0 :: Value.int 0 :: Value.int 0 :: []))), ((a 5), .inr (5, (Value.ref (a 30) :: Value.ref (a 31) :: Value.ref (a 32) :: Value.ref (a 33) :: Value.ref (a 34) :: Value.ref (a 35) :: Value.ref (a 36) :: Value.ref (a 37) :: Value.int 0 :: Value.int 0 :: Value.int 0 :: Value.int 0 :: Value.int 0 :: Value.int 0 :: Value.int 0 :: [])))]) (q_R (some (.int (-1)))) 0 0 (fun _ => False) := by
  refine Met.ofW (cc := cX11_longest) (maxL := 7) (ret := (some .int)) (by decide) rfl ?_
  intro p e s m args below meth c s₁ B hml hv
  obtain ⟨rfl, hP, hK⟩ := hv
  have hx := B.exec
  have hb := B.bytes
  have hr := B.returns
  have hT := sw_in (atoms_spec (ws := sw_ws yX11_longest cX11_longest 7 (some .int)) B.pre)
  have hown : s.vm.findClass RX11 = some m.cls := findClass_of_methodNamed B.named
  have hlocks := B.notSynchronized
  have hl := lv_entry ([.ref h0, .int p0, .int p1, .int p2]) (n := 7) (Nat.le_of_ble_eq_true rfl)
  rw [lg_entry_eq]
  generalize (lg_sl ([.ref h0, .int p0, .int p1, .int p2]) ++ List.replicate (7 - (lg_sl ([.ref h0, .int p0, .int p1, .int p2])).length) Slot.unset).toArray = ls at hl ⊢
  have hl : lv_has ls 7 [(0, .ref h0), (1, .int p0), (2, .int p1), (3, .int p2)] := hl
  refine lv_aload_n hx hb dX11_longest_0 rfl (lv_at hl 0 rfl) ?_
  refine va_get (D := D) (ci := 11) (v := .ref (a 5)) (C := RX11) (T := TX11) (N := 18) hx hb hT ix_11 hown hK hP 0 rfl rfl 5 (by decide) (hT _ sw_520) (fun _ h9 => h9) rfl dX11_longest_1 ?_
  refine va_getN (D := D) (ci := 5) (v := .int 0) (C := RX5) (T := TX5) (N := 15) hx hb hT ix_5 hown hK hP 1 rfl rfl 9 (by decide) (hT _ sw_349) (fun _ h9 => h9) rfl dX11_longest_4 ?_
  refine lv_if_le (tgt := 33) hx hb dX11_longest_7 (by decide) (fun _ => ?_) (fun h9 => absurd (by decide) h9)
  refine lv_iconst (v := (-1)) hx hb dX11_longest_33 (by decide) ?_
  exact W.iret (v := (-1)) hx hb hr (fun t ht _ => ⟨rfl, ht⟩) (fun _ h9 => nomatch h9) dX11_longest_34
set_option maxHeartbeats 4000000 in
set_option maxRecDepth 100000 in
theorem kX11_refuse_1 (l : Launch) (D : va_G) (cI : ClassId) (h0 : Nat) (a : Nat → Nat) (g0 : Nat → Int32) (sz : Nat) : Met l yX11_refuse (sw_ws yX11_refuse cX11_refuse 2 (some .int)) (rm_ 0 0 0 0) (p_M D vwCl [(cI, .int)] [.ref h0, .int 5] [(h0, .inr (11, (Value.ref (a 0) :: Value.ref (a 1) :: Value.ref (a 2) :: Value.ref (a 3) :: Value.ref (a 4) :: Value.ref (a 5) :: Value.ref (a 6) :: Value.ref (a 7) :: Value.ref (a 8) :: Value.ref (a 9) :: Value.ref (a 10) :: Value.ref (a 11) :: Value.ref (a 12) :: Value.ref (a 13) :: Value.ref (a 14) :: Value.int 0 :: Value.int 0 :: Value.int 0 :: []))), ((a 13), .inl (cI, 6, .inl g0))] sz) (q_M D vwCl (some (.int (-1))) (fun u => [(h0, .inr (11, (Value.ref (a 0) :: Value.ref (a 1) :: Value.ref (a 2) :: Value.ref (a 3) :: Value.ref (a 4) :: Value.ref (a 5) :: Value.ref (a 6) :: Value.ref (a 7) :: Value.ref (a 8) :: Value.ref (a 9) :: Value.ref (a 10) :: Value.ref (a 11) :: Value.ref (a 12) :: Value.ref (a 13) :: Value.ref (a 14) :: Value.int 0 :: Value.int 0 :: Value.int 0 :: []))), ((a 13), .inl (cI, 6, .inl (u.2 0)))]) (va_A [(h0, .inr (11, (Value.ref (a 0) :: Value.ref (a 1) :: Value.ref (a 2) :: Value.ref (a 3) :: Value.ref (a 4) :: Value.ref (a 5) :: Value.ref (a 6) :: Value.ref (a 7) :: Value.ref (a 8) :: Value.ref (a 9) :: Value.ref (a 10) :: Value.ref (a 11) :: Value.ref (a 12) :: Value.ref (a 13) :: Value.ref (a 14) :: Value.int 0 :: Value.int 0 :: Value.int 0 :: []))), ((a 13), .inl (cI, 6, .inl g0))] sz)) 0 0 (va_A [(h0, .inr (11, (Value.ref (a 0) :: Value.ref (a 1) :: Value.ref (a 2) :: Value.ref (a 3) :: Value.ref (a 4) :: Value.ref (a 5) :: Value.ref (a 6) :: Value.ref (a 7) :: Value.ref (a 8) :: Value.ref (a 9) :: Value.ref (a 10) :: Value.ref (a 11) :: Value.ref (a 12) :: Value.ref (a 13) :: Value.ref (a 14) :: Value.int 0 :: Value.int 0 :: Value.int 0 :: []))), ((a 13), .inl (cI, 6, .inl g0))] sz) := by
  refine Met.ofW (cc := cX11_refuse) (maxL := 2) (ret := (some .int)) (by decide) rfl ?_
  intro p e s m args below meth c s₁ B hml hv
  obtain ⟨rfl, hsz, hP, hK, hD0⟩ := hv
  have hx := B.exec
  have hb := B.bytes
  have hr := B.returns
  have hT := sw_in (atoms_spec (ws := sw_ws yX11_refuse cX11_refuse 2 (some .int)) B.pre)
  have hown : s.vm.findClass RX11 = some m.cls := findClass_of_methodNamed B.named
  have hlocks := B.notSynchronized
  subst hsz
  have hD := hD0.self (sz := s.heap.size)
  generalize hAe : va_A [(h0, .inr (11, (Value.ref (a 0) :: Value.ref (a 1) :: Value.ref (a 2) :: Value.ref (a 3) :: Value.ref (a 4) :: Value.ref (a 5) :: Value.ref (a 6) :: Value.ref (a 7) :: Value.ref (a 8) :: Value.ref (a 9) :: Value.ref (a 10) :: Value.ref (a 11) :: Value.ref (a 12) :: Value.ref (a 13) :: Value.ref (a 14) :: Value.int 0 :: Value.int 0 :: Value.int 0 :: []))), ((a 13), .inl (cI, 6, .inl g0))] s.heap.size = A at hD ⊢
  have hA : ∀ q : Nat, s.heap.size ≤ q → A q := fun q h => by rw [← hAe]; exact Or.inr h
  have hS : va_S A s.heap s.heap [] := va_S.rf
  have hl := lv_entry ([.ref h0, .int 5]) (n := 2) (Nat.le_of_ble_eq_true rfl)
  rw [lg_entry_eq]
  generalize (lg_sl ([.ref h0, .int 5]) ++ List.replicate (2 - (lg_sl ([.ref h0, .int 5])).length) Slot.unset).toArray = ls at hl ⊢
  have hl : lv_has ls 2 [(0, .ref h0), (1, .int 5)] := hl
  refine lv_iload_n hx hb dX11_refuse_0 rfl (lv_at hl 1 rfl) ?_
  refine lv_if_lt (tgt := 23) hx hb dX11_refuse_1 (by decide) (fun h9 => absurd h9 (by decide)) (fun _ => ?_)
  refine lv_iload_n hx hb dX11_refuse_4 rfl (lv_at hl 1 rfl) ?_
  refine lv_aload_n hx hb dX11_refuse_5 rfl (lv_at hl 0 rfl) ?_
  refine va_get (D := D) (ci := 11) (v := .ref (a 13)) (C := RX11) (T := TX11) (N := 18) hx hb hT ix_11 hown hK hP 0 rfl rfl 13 (by decide) (hT _ sw_528) (fun _ h9 => h9) rfl dX11_refuse_6 ?_
  refine va_alen (v := 6) hx hb hK hP 1 0 rfl rfl (show Int32.ofNat 6 = 6 by decide) dX11_refuse_9 ?_
  refine lv_icmp_ge (tgt := 23) hx hb dX11_refuse_10 (by decide) (fun h9 => absurd h9 (by decide)) (fun _ => ?_)
  refine lv_aload_n hx hb dX11_refuse_13 rfl (lv_at hl 0 rfl) ?_
  refine va_get (D := D) (ci := 11) (v := .ref (a 13)) (C := RX11) (T := TX11) (N := 18) hx hb hT ix_11 hown hK hP 0 rfl rfl 13 (by decide) (hT _ sw_528) (fun _ h9 => h9) rfl dX11_refuse_14 ?_
  refine lv_iload_n hx hb dX11_refuse_17 rfl (lv_at hl 1 rfl) ?_
  refine lv_dup2_11 hx hb dX11_refuse_18 rfl rfl ?_
  refine va_iald hx hb hK hP 1 0 rfl rfl (vi_c (by decide +kernel)) dX11_refuse_19 ?_
  refine lv_topi (fun v_1 _ => ?_)
  refine lv_iconst (v := 1) hx hb dX11_refuse_20 (by decide) ?_
  refine lv_iadd hx hb dX11_refuse_21 ?_
  refine lv_topi (fun v_2 _ => ?_)
  refine va_iast hx hb hK hP hD hS 1 0 rfl rfl (vi_c (by decide +kernel)) dX11_refuse_22 (fun H locs hP hD hS => ?_)
  obtain ⟨f_3, hP, hD⟩ : ∃ f_3 : Nat → Int32, va_P D vwCl [(h0, .inr (11, (Value.ref (a 0) :: Value.ref (a 1) :: Value.ref (a 2) :: Value.ref (a 3) :: Value.ref (a 4) :: Value.ref (a 5) :: Value.ref (a 6) :: Value.ref (a 7) :: Value.ref (a 8) :: Value.ref (a 9) :: Value.ref (a 10) :: Value.ref (a 11) :: Value.ref (a 12) :: Value.ref (a 13) :: Value.ref (a 14) :: Value.int 0 :: Value.int 0 :: Value.int 0 :: []))), ((a 13), .inl (cI, 6, .inl f_3))] H ∧ va_D A [(h0, .inr (11, (Value.ref (a 0) :: Value.ref (a 1) :: Value.ref (a 2) :: Value.ref (a 3) :: Value.ref (a 4) :: Value.ref (a 5) :: Value.ref (a 6) :: Value.ref (a 7) :: Value.ref (a 8) :: Value.ref (a 9) :: Value.ref (a 10) :: Value.ref (a 11) :: Value.ref (a 12) :: Value.ref (a 13) :: Value.ref (a 14) :: Value.int 0 :: Value.int 0 :: Value.int 0 :: []))), ((a 13), .inl (cI, 6, .inl f_3))] := ⟨upd g0 (5 : Int32).toNatClampNeg v_2, hP, hD⟩
  refine lv_iconst (v := (-1)) hx hb dX11_refuse_23 (by decide) ?_
  have hP9 := hP.sub (ws' := [(h0, .inr (11, (Value.ref (a 0) :: Value.ref (a 1) :: Value.ref (a 2) :: Value.ref (a 3) :: Value.ref (a 4) :: Value.ref (a 5) :: Value.ref (a 6) :: Value.ref (a 7) :: Value.ref (a 8) :: Value.ref (a 9) :: Value.ref (a 10) :: Value.ref (a 11) :: Value.ref (a 12) :: Value.ref (a 13) :: Value.ref (a 14) :: Value.int 0 :: Value.int 0 :: Value.int 0 :: []))), ((a 13), .inl (cI, 6, .inl f_3))]) [0, 1] rfl
  have hD9 := hD.sub (ws' := [(h0, .inr (11, (Value.ref (a 0) :: Value.ref (a 1) :: Value.ref (a 2) :: Value.ref (a 3) :: Value.ref (a 4) :: Value.ref (a 5) :: Value.ref (a 6) :: Value.ref (a 7) :: Value.ref (a 8) :: Value.ref (a 9) :: Value.ref (a 10) :: Value.ref (a 11) :: Value.ref (a 12) :: Value.ref (a 13) :: Value.ref (a 14) :: Value.int 0 :: Value.int 0 :: Value.int 0 :: []))), ((a 13), .inl (cI, 6, .inl f_3))]) [0, 1] (by decide) rfl
  exact W.iret (v := (-1)) hx hb hr (fun t ht _ => ⟨rfl, ⟨(fun k => [].getD k 0, fun k => [f_3].getD k zI), by rw [ht]; exact hP9, hD9⟩, hS.F ht⟩) hS.2.2 dX11_refuse_24
set_option maxHeartbeats 4000000 in
set_option maxRecDepth 100000 in
theorem kX11_see_0 (l : Launch) (D : va_G) (cI : ClassId) (h0 : Nat) (a : Nat → Nat) (p0 : Int32) (g0 : Nat → Int32) (sz : Nat) : Met l yX11_see (sw_ws yX11_see cX11_see 3 (some .int)) (rm_ 1 21 0 0) (p_M D vwCl [(cI, .int)] [.ref h0, .int p0] [(h0, .inr (11, (Value.ref (a 0) :: Value.ref (a 1) :: Value.ref (a 2) :: Value.ref (a 3) :: Value.ref (a 4) :: Value.ref (a 5) :: Value.ref (a 6) :: Value.ref (a 7) :: Value.ref (a 8) :: Value.ref (a 9) :: Value.ref (a 10) :: Value.ref (a 11) :: Value.ref (a 12) :: Value.ref (a 13) :: Value.ref (a 14) :: Value.int 0 :: Value.int 0 :: Value.int 0 :: []))), ((a 0), .inr (9, [.ref (a 15), .int 0])), ((a 5), .inr (5, (Value.ref (a 30) :: Value.ref (a 31) :: Value.ref (a 32) :: Value.ref (a 33) :: Value.ref (a 34) :: Value.ref (a 35) :: Value.ref (a 36) :: Value.ref (a 37) :: Value.int 0 :: Value.int 0 :: Value.int 0 :: Value.int 0 :: Value.int 0 :: Value.int 0 :: Value.int 0 :: []))), ((a 13), .inl (cI, 6, .inl g0))] sz) (q_M D vwCl (some (.int (-1))) (fun u => []) (va_A [(h0, .inr (11, (Value.ref (a 0) :: Value.ref (a 1) :: Value.ref (a 2) :: Value.ref (a 3) :: Value.ref (a 4) :: Value.ref (a 5) :: Value.ref (a 6) :: Value.ref (a 7) :: Value.ref (a 8) :: Value.ref (a 9) :: Value.ref (a 10) :: Value.ref (a 11) :: Value.ref (a 12) :: Value.ref (a 13) :: Value.ref (a 14) :: Value.int 0 :: Value.int 0 :: Value.int 0 :: []))), ((a 0), .inr (9, [.ref (a 15), .int 0])), ((a 5), .inr (5, (Value.ref (a 30) :: Value.ref (a 31) :: Value.ref (a 32) :: Value.ref (a 33) :: Value.ref (a 34) :: Value.ref (a 35) :: Value.ref (a 36) :: Value.ref (a 37) :: Value.int 0 :: Value.int 0 :: Value.int 0 :: Value.int 0 :: Value.int 0 :: Value.int 0 :: Value.int 0 :: []))), ((a 13), .inl (cI, 6, .inl g0))] sz)) 0 0 (va_A [(h0, .inr (11, (Value.ref (a 0) :: Value.ref (a 1) :: Value.ref (a 2) :: Value.ref (a 3) :: Value.ref (a 4) :: Value.ref (a 5) :: Value.ref (a 6) :: Value.ref (a 7) :: Value.ref (a 8) :: Value.ref (a 9) :: Value.ref (a 10) :: Value.ref (a 11) :: Value.ref (a 12) :: Value.ref (a 13) :: Value.ref (a 14) :: Value.int 0 :: Value.int 0 :: Value.int 0 :: []))), ((a 0), .inr (9, [.ref (a 15), .int 0])), ((a 5), .inr (5, (Value.ref (a 30) :: Value.ref (a 31) :: Value.ref (a 32) :: Value.ref (a 33) :: Value.ref (a 34) :: Value.ref (a 35) :: Value.ref (a 36) :: Value.ref (a 37) :: Value.int 0 :: Value.int 0 :: Value.int 0 :: Value.int 0 :: Value.int 0 :: Value.int 0 :: Value.int 0 :: []))), ((a 13), .inl (cI, 6, .inl g0))] sz) := by
  refine Met.ofW (cc := cX11_see) (maxL := 3) (ret := (some .int)) (by decide) rfl ?_
  intro p e s m args below meth c s₁ B hml hv
  obtain ⟨rfl, hsz, hP, hK, hD0⟩ := hv
  have hx := B.exec
  have hb := B.bytes
  have hr := B.returns
  have hT := sw_in (atoms_spec (ws := sw_ws yX11_see cX11_see 3 (some .int)) B.pre)
  have hown : s.vm.findClass RX11 = some m.cls := findClass_of_methodNamed B.named
  have hlocks := B.notSynchronized
  subst hsz
  have hD := hD0.self (sz := s.heap.size)
  generalize hAe : va_A [(h0, .inr (11, (Value.ref (a 0) :: Value.ref (a 1) :: Value.ref (a 2) :: Value.ref (a 3) :: Value.ref (a 4) :: Value.ref (a 5) :: Value.ref (a 6) :: Value.ref (a 7) :: Value.ref (a 8) :: Value.ref (a 9) :: Value.ref (a 10) :: Value.ref (a 11) :: Value.ref (a 12) :: Value.ref (a 13) :: Value.ref (a 14) :: Value.int 0 :: Value.int 0 :: Value.int 0 :: []))), ((a 0), .inr (9, [.ref (a 15), .int 0])), ((a 5), .inr (5, (Value.ref (a 30) :: Value.ref (a 31) :: Value.ref (a 32) :: Value.ref (a 33) :: Value.ref (a 34) :: Value.ref (a 35) :: Value.ref (a 36) :: Value.ref (a 37) :: Value.int 0 :: Value.int 0 :: Value.int 0 :: Value.int 0 :: Value.int 0 :: Value.int 0 :: Value.int 0 :: []))), ((a 13), .inl (cI, 6, .inl g0))] s.heap.size = A at hD ⊢
  have hA : ∀ q : Nat, s.heap.size ≤ q → A q := fun q h => by rw [← hAe]; exact Or.inr h
  have hS : va_S A s.heap s.heap [] := va_S.rf
  have hl := lv_entry ([.ref h0, .int p0]) (n := 3) (Nat.le_of_ble_eq_true rfl)
  rw [lg_entry_eq]
  generalize (lg_sl ([.ref h0, .int p0]) ++ List.replicate (3 - (lg_sl ([.ref h0, .int p0])).length) Slot.unset).toArray = ls at hl ⊢
  have hl : lv_has ls 3 [(0, .ref h0), (1, .int p0)] := hl
  refine lv_aload_n hx hb dX11_see_0 rfl (lv_at hl 0 rfl) ?_
  refine lv_iload_n hx hb dX11_see_1 rfl (lv_at hl 1 rfl) ?_
  refine go_R (v := some (.int 0)) (st1 := [.int 0]) (run_V (As := [.int p0]) (rest := []) ⟨hx, hb, hml, hown, hT⟩ (kX11_isThing_0 l D cI h0 a p0) sw_830 lkv_X11_isThing (p_R_V (ci := 11) (q0 := 0) (hP.sub (ws' := [(h0, .inr (11, (Value.ref (a 0) :: Value.ref (a 1) :: Value.ref (a 2) :: Value.ref (a 3) :: Value.ref (a 4) :: Value.ref (a 5) :: Value.ref (a 6) :: Value.ref (a 7) :: Value.ref (a 8) :: Value.ref (a 9) :: Value.ref (a 10) :: Value.ref (a 11) :: Value.ref (a 12) :: Value.ref (a 13) :: Value.ref (a 14) :: Value.int 0 :: Value.int 0 :: Value.int 0 :: []))), ((a 5), .inr (5, (Value.ref (a 30) :: Value.ref (a 31) :: Value.ref (a 32) :: Value.ref (a 33) :: Value.ref (a 34) :: Value.ref (a 35) :: Value.ref (a 36) :: Value.ref (a 37) :: Value.int 0 :: Value.int 0 :: Value.int 0 :: Value.int 0 :: Value.int 0 :: Value.int 0 :: Value.int 0 :: [])))]) [0, 2] rfl) hK rfl rfl) rfl hl.1 rfl (Nat.le_of_ble_eq_true rfl) dX11_see_2 ⟨⟨Nat.le_of_ble_eq_true rfl, Nat.le_of_ble_eq_true rfl⟩, Nat.le_of_ble_eq_true rfl, Nat.le_of_ble_eq_true rfl⟩) rfl ?_
  refine lv_if_eq (tgt := 33) hx hb dX11_see_5 (by decide) (fun _ => ?_) (fun h9 => absurd (by decide) h9)
  refine lv_iconst (v := 0) hx hb dX11_see_33 (by decide) ?_
  refine lv_istore_n (lv' := [(2, .int 0), (0, .ref h0), (1, .int p0)]) hx hb dX11_see_34 rfl hl (by decide) rfl (fun ls hl => ?_)
  refine lv_iload_n hx hb dX11_see_35 rfl (lv_at hl 0 rfl) ?_
  refine lv_if_eq (tgt := 51) hx hb dX11_see_36 (by decide) (fun _ => ?_) (fun h9 => absurd (by decide) h9)
  refine lv_aload_n hx hb dX11_see_51 rfl (lv_at hl 1 rfl) ?_
  refine va_get (D := D) (ci := 11) (v := .ref (a 0)) (C := RX11) (T := TX11) (N := 18) hx hb hT ix_11 hown hK hP 0 rfl rfl 0 (by decide) (hT _ sw_515) (fun _ h9 => h9) rfl dX11_see_52 ?_
  refine lv_iconst (v := 0) hx hb dX11_see_55 (by decide) ?_
  refine va_putN (D := D) (ci := 9) (v := .int 0) (ty := .int) (C := RX9) (T := TX9) (N := 2) hx hb hT ix_9 tyX9 tyX9_ok nmX9 hown hK hP hD hS 1 rfl rfl 1 (by decide) (hT _ sw_157) (fun _ h9 => h9) rfl (by decide +kernel) rfl rfl (Nat.le_of_ble_eq_true rfl) dX11_see_56 (fun H locs hP hD hS => ?_)
  have hP : va_P D vwCl [(h0, .inr (11, (Value.ref (a 0) :: Value.ref (a 1) :: Value.ref (a 2) :: Value.ref (a 3) :: Value.ref (a 4) :: Value.ref (a 5) :: Value.ref (a 6) :: Value.ref (a 7) :: Value.ref (a 8) :: Value.ref (a 9) :: Value.ref (a 10) :: Value.ref (a 11) :: Value.ref (a 12) :: Value.ref (a 13) :: Value.ref (a 14) :: Value.int 0 :: Value.int 0 :: Value.int 0 :: []))), ((a 0), .inr (9, [.ref (a 15), .int 0])), ((a 5), .inr (5, (Value.ref (a 30) :: Value.ref (a 31) :: Value.ref (a 32) :: Value.ref (a 33) :: Value.ref (a 34) :: Value.ref (a 35) :: Value.ref (a 36) :: Value.ref (a 37) :: Value.int 0 :: Value.int 0 :: Value.int 0 :: Value.int 0 :: Value.int 0 :: Value.int 0 :: Value.int 0 :: []))), ((a 13), .inl (cI, 6, .inl g0))] H := hP
  have hD : va_D A [(h0, .inr (11, (Value.ref (a 0) :: Value.ref (a 1) :: Value.ref (a 2) :: Value.ref (a 3) :: Value.ref (a 4) :: Value.ref (a 5) :: Value.ref (a 6) :: Value.ref (a 7) :: Value.ref (a 8) :: Value.ref (a 9) :: Value.ref (a 10) :: Value.ref (a 11) :: Value.ref (a 12) :: Value.ref (a 13) :: Value.ref (a 14) :: Value.int 0 :: Value.int 0 :: Value.int 0 :: []))), ((a 0), .inr (9, [.ref (a 15), .int 0])), ((a 5), .inr (5, (Value.ref (a 30) :: Value.ref (a 31) :: Value.ref (a 32) :: Value.ref (a 33) :: Value.ref (a 34) :: Value.ref (a 35) :: Value.ref (a 36) :: Value.ref (a 37) :: Value.int 0 :: Value.int 0 :: Value.int 0 :: Value.int 0 :: Value.int 0 :: Value.int 0 :: Value.int 0 :: []))), ((a 13), .inl (cI, 6, .inl g0))] := hD
  refine lv_iload_n hx hb dX11_see_59 rfl (lv_at hl 0 rfl) ?_
  refine lv_if_eq (tgt := 73) hx hb dX11_see_60 (by decide) (fun _ => ?_) (fun h9 => absurd (by decide) h9)
  refine lv_aload_n hx hb dX11_see_73 rfl (lv_at hl 1 rfl) ?_
  refine lv_iconst (v := 5) hx hb dX11_see_74 (by decide) ?_
  refine go_M (wc := [(h0, .inr (11, (Value.ref (a 0) :: Value.ref (a 1) :: Value.ref (a 2) :: Value.ref (a 3) :: Value.ref (a 4) :: Value.ref (a 5) :: Value.ref (a 6) :: Value.ref (a 7) :: Value.ref (a 8) :: Value.ref (a 9) :: Value.ref (a 10) :: Value.ref (a 11) :: Value.ref (a 12) :: Value.ref (a 13) :: Value.ref (a 14) :: Value.int 0 :: Value.int 0 :: Value.int 0 :: []))), ((a 13), .inl (cI, 6, .inl g0))]) (wr := [((a 0), .inr (9, [.ref (a 15), .int 0])), ((a 5), .inr (5, (Value.ref (a 30) :: Value.ref (a 31) :: Value.ref (a 32) :: Value.ref (a 33) :: Value.ref (a 34) :: Value.ref (a 35) :: Value.ref (a 36) :: Value.ref (a 37) :: Value.int 0 :: Value.int 0 :: Value.int 0 :: Value.int 0 :: Value.int 0 :: Value.int 0 :: Value.int 0 :: [])))]) (w1 := fun u => [(h0, .inr (11, (Value.ref (a 0) :: Value.ref (a 1) :: Value.ref (a 2) :: Value.ref (a 3) :: Value.ref (a 4) :: Value.ref (a 5) :: Value.ref (a 6) :: Value.ref (a 7) :: Value.ref (a 8) :: Value.ref (a 9) :: Value.ref (a 10) :: Value.ref (a 11) :: Value.ref (a 12) :: Value.ref (a 13) :: Value.ref (a 14) :: Value.int 0 :: Value.int 0 :: Value.int 0 :: []))), ((a 13), .inl (cI, 6, .inl (u.2 0)))]) (v := some (.int (-1))) (st1 := [.int (-1)]) hP hD hS hA [0, 3] [1, 2] rfl rfl (by decide) (by decide) (by decide) (fun hPc hDc => run_V (As := [.int 5]) (rest := []) ⟨hx, hb, hml, hown, hT⟩ (kX11_refuse_1 l D cI h0 a g0 _) sw_574 lkv_X11_refuse (p_M_V (ci := 11) (q0 := 0) hPc hK hDc rfl rfl) rfl hl.1 rfl (Nat.le_of_ble_eq_true rfl) dX11_see_75 ⟨⟨Nat.le_of_ble_eq_true rfl, Nat.le_of_ble_eq_true rfl⟩, Nat.le_of_ble_eq_true rfl, Nat.le_of_ble_eq_true rfl⟩) rfl (fun u_1 H locs hP hD hS => ?_)
  have hP : va_P D vwCl [((a 0), .inr (9, [.ref (a 15), .int 0])), ((a 5), .inr (5, (Value.ref (a 30) :: Value.ref (a 31) :: Value.ref (a 32) :: Value.ref (a 33) :: Value.ref (a 34) :: Value.ref (a 35) :: Value.ref (a 36) :: Value.ref (a 37) :: Value.int 0 :: Value.int 0 :: Value.int 0 :: Value.int 0 :: Value.int 0 :: Value.int 0 :: Value.int 0 :: []))), (h0, .inr (11, (Value.ref (a 0) :: Value.ref (a 1) :: Value.ref (a 2) :: Value.ref (a 3) :: Value.ref (a 4) :: Value.ref (a 5) :: Value.ref (a 6) :: Value.ref (a 7) :: Value.ref (a 8) :: Value.ref (a 9) :: Value.ref (a 10) :: Value.ref (a 11) :: Value.ref (a 12) :: Value.ref (a 13) :: Value.ref (a 14) :: Value.int 0 :: Value.int 0 :: Value.int 0 :: []))), ((a 13), .inl (cI, 6, .inl (u_1.2 0)))] H := hP
  have hD : va_D A [((a 0), .inr (9, [.ref (a 15), .int 0])), ((a 5), .inr (5, (Value.ref (a 30) :: Value.ref (a 31) :: Value.ref (a 32) :: Value.ref (a 33) :: Value.ref (a 34) :: Value.ref (a 35) :: Value.ref (a 36) :: Value.ref (a 37) :: Value.int 0 :: Value.int 0 :: Value.int 0 :: Value.int 0 :: Value.int 0 :: Value.int 0 :: Value.int 0 :: []))), (h0, .inr (11, (Value.ref (a 0) :: Value.ref (a 1) :: Value.ref (a 2) :: Value.ref (a 3) :: Value.ref (a 4) :: Value.ref (a 5) :: Value.ref (a 6) :: Value.ref (a 7) :: Value.ref (a 8) :: Value.ref (a 9) :: Value.ref (a 10) :: Value.ref (a 11) :: Value.ref (a 12) :: Value.ref (a 13) :: Value.ref (a 14) :: Value.int 0 :: Value.int 0 :: Value.int 0 :: []))), ((a 13), .inl (cI, 6, .inl (u_1.2 0)))] := hD
  have hP9 := hP.sub (ws' := []) [] rfl
  have hD9 := hD.sub (ws' := []) [] (by decide) rfl
  exact W.iret (v := (-1)) hx hb hr (fun t ht _ => ⟨rfl, ⟨(fun k => [].getD k 0, fun k => [].getD k zI), by rw [ht]; exact hP9, hD9⟩, hS.F ht⟩) hS.2.2 dX11_see_78
set_option maxHeartbeats 4000000 in
set_option maxRecDepth 100000 in
theorem kX11_fits_0 (l : Launch) (D : va_G) (cI : ClassId) (h0 : Nat) (a : Nat → Nat) (p0 : Int32) : Met l yX11_fits (sw_ws yX11_fits cX11_fits 5 (some .int)) (rm_ 0 0 0 0) (p_R D vwCl [(cI, .int)] [.ref h0, .int p0] [(h0, .inr (11, (Value.ref (a 0) :: Value.ref (a 1) :: Value.ref (a 2) :: Value.ref (a 3) :: Value.ref (a 4) :: Value.ref (a 5) :: Value.ref (a 6) :: Value.ref (a 7) :: Value.ref (a 8) :: Value.ref (a 9) :: Value.ref (a 10) :: Value.ref (a 11) :: Value.ref (a 12) :: Value.ref (a 13) :: Value.ref (a 14) :: Value.int 0 :: Value.int 0 :: Value.int 0 :: []))), ((a 8), .inr (7, [.ref (a 38), .ref (a 39), .ref (a 40), .ref (a 41), .ref (a 42), .ref (a 43), .null, .int 0, .int 0]))]) (q_R (some (.int (-1)))) 0 0 (fun _ => False) := by
  refine Met.ofW (cc := cX11_fits) (maxL := 5) (ret := (some .int)) (by decide) rfl ?_
  intro p e s m args below meth c s₁ B hml hv
  obtain ⟨rfl, hP, hK⟩ := hv
  have hx := B.exec
  have hb := B.bytes
  have hr := B.returns
  have hT := sw_in (atoms_spec (ws := sw_ws yX11_fits cX11_fits 5 (some .int)) B.pre)
  have hown : s.vm.findClass RX11 = some m.cls := findClass_of_methodNamed B.named
  have hlocks := B.notSynchronized
  have hl := lv_entry ([.ref h0, .int p0]) (n := 5) (Nat.le_of_ble_eq_true rfl)
  rw [lg_entry_eq]
  generalize (lg_sl ([.ref h0, .int p0]) ++ List.replicate (5 - (lg_sl ([.ref h0, .int p0])).length) Slot.unset).toArray = ls at hl ⊢
  have hl : lv_has ls 5 [(0, .ref h0), (1, .int p0)] := hl
  refine lv_aload_n hx hb dX11_fits_0 rfl (lv_at hl 0 rfl) ?_
  refine va_get (D := D) (ci := 11) (v := .ref (a 8)) (C := RX11) (T := TX11) (N := 18) hx hb hT ix_11 hown hK hP 0 rfl rfl 8 (by decide) (hT _ sw_523) (fun _ h9 => h9) rfl dX11_fits_1 ?_
  refine va_getN (D := D) (ci := 7) (v := .int 0) (C := RX7) (T := TX7) (N := 9) hx hb hT ix_7 hown hK hP 1 rfl rfl 7 (by decide) (hT _ sw_477) (fun _ h9 => h9) rfl dX11_fits_4 ?_
  refine lv_if_ne (tgt := 12) hx hb dX11_fits_7 (by decide) (fun h9 => absurd (by decide) h9) (fun _ => ?_)
  refine lv_iconst (v := (-1)) hx hb dX11_fits_10 (by decide) ?_
  exact W.iret (v := (-1)) hx hb hr (fun t ht _ => ⟨rfl, ht⟩) (fun _ h9 => nomatch h9) dX11_fits_11
set_option maxHeartbeats 4000000 in
set_option maxRecDepth 100000 in
theorem kX11_tells_0 (l : Launch) (D : va_G) (cI : ClassId) (h0 : Nat) (a : Nat → Nat) (p0 : Int32) : Met l yX11_tells (sw_ws yX11_tells cX11_tells 7 (some .int)) (rm_ 0 0 0 0) (p_R D vwCl [(cI, .int)] [.ref h0, .int p0] [(h0, .inr (11, (Value.ref (a 0) :: Value.ref (a 1) :: Value.ref (a 2) :: Value.ref (a 3) :: Value.ref (a 4) :: Value.ref (a 5) :: Value.ref (a 6) :: Value.ref (a 7) :: Value.ref (a 8) :: Value.ref (a 9) :: Value.ref (a 10) :: Value.ref (a 11) :: Value.ref (a 12) :: Value.ref (a 13) :: Value.ref (a 14) :: Value.int 0 :: Value.int 0 :: Value.int 0 :: []))), ((a 8), .inr (7, [.ref (a 38), .ref (a 39), .ref (a 40), .ref (a 41), .ref (a 42), .ref (a 43), .null, .int 0, .int 0]))]) (q_R (some (.int (-1)))) 0 0 (fun _ => False) := by
  refine Met.ofW (cc := cX11_tells) (maxL := 7) (ret := (some .int)) (by decide) rfl ?_
  intro p e s m args below meth c s₁ B hml hv
  obtain ⟨rfl, hP, hK⟩ := hv
  have hx := B.exec
  have hb := B.bytes
  have hr := B.returns
  have hT := sw_in (atoms_spec (ws := sw_ws yX11_tells cX11_tells 7 (some .int)) B.pre)
  have hown : s.vm.findClass RX11 = some m.cls := findClass_of_methodNamed B.named
  have hlocks := B.notSynchronized
  have hl := lv_entry ([.ref h0, .int p0]) (n := 7) (Nat.le_of_ble_eq_true rfl)
  rw [lg_entry_eq]
  generalize (lg_sl ([.ref h0, .int p0]) ++ List.replicate (7 - (lg_sl ([.ref h0, .int p0])).length) Slot.unset).toArray = ls at hl ⊢
  have hl : lv_has ls 7 [(0, .ref h0), (1, .int p0)] := hl
  refine lv_aload_n hx hb dX11_tells_0 rfl (lv_at hl 0 rfl) ?_
  refine va_get (D := D) (ci := 11) (v := .ref (a 8)) (C := RX11) (T := TX11) (N := 18) hx hb hT ix_11 hown hK hP 0 rfl rfl 8 (by decide) (hT _ sw_523) (fun _ h9 => h9) rfl dX11_tells_1 ?_
  refine va_getN (D := D) (ci := 7) (v := .int 0) (C := RX7) (T := TX7) (N := 9) hx hb hT ix_7 hown hK hP 1 rfl rfl 7 (by decide) (hT _ sw_477) (fun _ h9 => h9) rfl dX11_tells_4 ?_
  refine lv_if_eq (tgt := 19) hx hb dX11_tells_7 (by decide) (fun _ => ?_) (fun h9 => absurd (by decide) h9)
  refine lv_iconst (v := (-1)) hx hb dX11_tells_19 (by decide) ?_
  exact W.iret (v := (-1)) hx hb hr (fun t ht _ => ⟨rfl, ht⟩) (fun _ h9 => nomatch h9) dX11_tells_20
set_option maxHeartbeats 4000000 in
set_option maxRecDepth 100000 in
theorem kX11_turnDown_0 (l : Launch) (D : va_G) (cI : ClassId) (h0 : Nat) (a : Nat → Nat) (sz : Nat) : Met l yX11_turnDown (sw_ws yX11_turnDown cX11_turnDown 3 (some .int)) (rm_ 0 0 0 0) (p_M D vwCl [(cI, .int)] [.ref h0, .int 1, .int 0] [(h0, .inr (11, (Value.ref (a 0) :: Value.ref (a 1) :: Value.ref (a 2) :: Value.ref (a 3) :: Value.ref (a 4) :: Value.ref (a 5) :: Value.ref (a 6) :: Value.ref (a 7) :: Value.ref (a 8) :: Value.ref (a 9) :: Value.ref (a 10) :: Value.ref (a 11) :: Value.ref (a 12) :: Value.ref (a 13) :: Value.ref (a 14) :: Value.int 0 :: Value.int 0 :: Value.int 0 :: [])))] sz) (q_M D vwCl (some (.int (-1))) (fun u => [(h0, .inr (11, (Value.ref (a 0) :: Value.ref (a 1) :: Value.ref (a 2) :: Value.ref (a 3) :: Value.ref (a 4) :: Value.ref (a 5) :: Value.ref (a 6) :: Value.ref (a 7) :: Value.ref (a 8) :: Value.ref (a 9) :: Value.ref (a 10) :: Value.ref (a 11) :: Value.ref (a 12) :: Value.ref (a 13) :: Value.ref (a 14) :: Value.int 0 :: Value.int 1 :: Value.int 0 :: [])))]) (va_A [(h0, .inr (11, (Value.ref (a 0) :: Value.ref (a 1) :: Value.ref (a 2) :: Value.ref (a 3) :: Value.ref (a 4) :: Value.ref (a 5) :: Value.ref (a 6) :: Value.ref (a 7) :: Value.ref (a 8) :: Value.ref (a 9) :: Value.ref (a 10) :: Value.ref (a 11) :: Value.ref (a 12) :: Value.ref (a 13) :: Value.ref (a 14) :: Value.int 0 :: Value.int 0 :: Value.int 0 :: [])))] sz)) 0 0 (va_A [(h0, .inr (11, (Value.ref (a 0) :: Value.ref (a 1) :: Value.ref (a 2) :: Value.ref (a 3) :: Value.ref (a 4) :: Value.ref (a 5) :: Value.ref (a 6) :: Value.ref (a 7) :: Value.ref (a 8) :: Value.ref (a 9) :: Value.ref (a 10) :: Value.ref (a 11) :: Value.ref (a 12) :: Value.ref (a 13) :: Value.ref (a 14) :: Value.int 0 :: Value.int 0 :: Value.int 0 :: [])))] sz) := by
  refine Met.ofW (cc := cX11_turnDown) (maxL := 3) (ret := (some .int)) (by decide) rfl ?_
  intro p e s m args below meth c s₁ B hml hv
  obtain ⟨rfl, hsz, hP, hK, hD0⟩ := hv
  have hx := B.exec
  have hb := B.bytes
  have hr := B.returns
  have hT := sw_in (atoms_spec (ws := sw_ws yX11_turnDown cX11_turnDown 3 (some .int)) B.pre)
  have hown : s.vm.findClass RX11 = some m.cls := findClass_of_methodNamed B.named
  have hlocks := B.notSynchronized
  subst hsz
  have hD := hD0.self (sz := s.heap.size)
  generalize hAe : va_A [(h0, .inr (11, (Value.ref (a 0) :: Value.ref (a 1) :: Value.ref (a 2) :: Value.ref (a 3) :: Value.ref (a 4) :: Value.ref (a 5) :: Value.ref (a 6) :: Value.ref (a 7) :: Value.ref (a 8) :: Value.ref (a 9) :: Value.ref (a 10) :: Value.ref (a 11) :: Value.ref (a 12) :: Value.ref (a 13) :: Value.ref (a 14) :: Value.int 0 :: Value.int 0 :: Value.int 0 :: [])))] s.heap.size = A at hD ⊢
  have hA : ∀ q : Nat, s.heap.size ≤ q → A q := fun q h => by rw [← hAe]; exact Or.inr h
  have hS : va_S A s.heap s.heap [] := va_S.rf
  have hl := lv_entry ([.ref h0, .int 1, .int 0]) (n := 3) (Nat.le_of_ble_eq_true rfl)
  rw [lg_entry_eq]
  generalize (lg_sl ([.ref h0, .int 1, .int 0]) ++ List.replicate (3 - (lg_sl ([.ref h0, .int 1, .int 0])).length) Slot.unset).toArray = ls at hl ⊢
  have hl : lv_has ls 3 [(0, .ref h0), (1, .int 1), (2, .int 0)] := hl
  refine lv_aload_n hx hb dX11_turnDown_0 rfl (lv_at hl 0 rfl) ?_
  refine lv_iload_n hx hb dX11_turnDown_1 rfl (lv_at hl 1 rfl) ?_
  refine va_put (D := D) (ci := 11) (v := .int 1) (ty := .int) (C := RX11) (T := TX11) (N := 18) hx hb hT ix_11 tyX11 tyX11_ok nmX11 hown hK hP hD hS 0 rfl rfl 16 (by decide) (hT _ sw_531) (fun _ h9 => h9) rfl (by decide +kernel) rfl rfl (Nat.le_of_ble_eq_true rfl) dX11_turnDown_2 (fun H locs hP hD hS => ?_)
  have hP : va_P D vwCl [(h0, .inr (11, (Value.ref (a 0) :: Value.ref (a 1) :: Value.ref (a 2) :: Value.ref (a 3) :: Value.ref (a 4) :: Value.ref (a 5) :: Value.ref (a 6) :: Value.ref (a 7) :: Value.ref (a 8) :: Value.ref (a 9) :: Value.ref (a 10) :: Value.ref (a 11) :: Value.ref (a 12) :: Value.ref (a 13) :: Value.ref (a 14) :: Value.int 0 :: Value.int 1 :: Value.int 0 :: [])))] H := hP
  have hD : va_D A [(h0, .inr (11, (Value.ref (a 0) :: Value.ref (a 1) :: Value.ref (a 2) :: Value.ref (a 3) :: Value.ref (a 4) :: Value.ref (a 5) :: Value.ref (a 6) :: Value.ref (a 7) :: Value.ref (a 8) :: Value.ref (a 9) :: Value.ref (a 10) :: Value.ref (a 11) :: Value.ref (a 12) :: Value.ref (a 13) :: Value.ref (a 14) :: Value.int 0 :: Value.int 1 :: Value.int 0 :: [])))] := hD
  refine lv_aload_n hx hb dX11_turnDown_5 rfl (lv_at hl 0 rfl) ?_
  refine lv_iload_n hx hb dX11_turnDown_6 rfl (lv_at hl 2 rfl) ?_
  refine va_put (D := D) (ci := 11) (v := .int 0) (ty := .int) (C := RX11) (T := TX11) (N := 18) hx hb hT ix_11 tyX11 tyX11_ok nmX11 hown hK hP hD hS 0 rfl rfl 17 (by decide) (hT _ sw_532) (fun _ h9 => h9) rfl (by decide +kernel) rfl rfl (Nat.le_of_ble_eq_true rfl) dX11_turnDown_7 (fun H locs hP hD hS => ?_)
  have hP : va_P D vwCl [(h0, .inr (11, (Value.ref (a 0) :: Value.ref (a 1) :: Value.ref (a 2) :: Value.ref (a 3) :: Value.ref (a 4) :: Value.ref (a 5) :: Value.ref (a 6) :: Value.ref (a 7) :: Value.ref (a 8) :: Value.ref (a 9) :: Value.ref (a 10) :: Value.ref (a 11) :: Value.ref (a 12) :: Value.ref (a 13) :: Value.ref (a 14) :: Value.int 0 :: Value.int 1 :: Value.int 0 :: [])))] H := hP
  have hD : va_D A [(h0, .inr (11, (Value.ref (a 0) :: Value.ref (a 1) :: Value.ref (a 2) :: Value.ref (a 3) :: Value.ref (a 4) :: Value.ref (a 5) :: Value.ref (a 6) :: Value.ref (a 7) :: Value.ref (a 8) :: Value.ref (a 9) :: Value.ref (a 10) :: Value.ref (a 11) :: Value.ref (a 12) :: Value.ref (a 13) :: Value.ref (a 14) :: Value.int 0 :: Value.int 1 :: Value.int 0 :: [])))] := hD
  refine lv_iconst (v := (-1)) hx hb dX11_turnDown_10 (by decide) ?_
  have hP9 := hP.sub (ws' := [(h0, .inr (11, (Value.ref (a 0) :: Value.ref (a 1) :: Value.ref (a 2) :: Value.ref (a 3) :: Value.ref (a 4) :: Value.ref (a 5) :: Value.ref (a 6) :: Value.ref (a 7) :: Value.ref (a 8) :: Value.ref (a 9) :: Value.ref (a 10) :: Value.ref (a 11) :: Value.ref (a 12) :: Value.ref (a 13) :: Value.ref (a 14) :: Value.int 0 :: Value.int 1 :: Value.int 0 :: [])))]) [0] rfl
  have hD9 := hD.sub (ws' := [(h0, .inr (11, (Value.ref (a 0) :: Value.ref (a 1) :: Value.ref (a 2) :: Value.ref (a 3) :: Value.ref (a 4) :: Value.ref (a 5) :: Value.ref (a 6) :: Value.ref (a 7) :: Value.ref (a 8) :: Value.ref (a 9) :: Value.ref (a 10) :: Value.ref (a 11) :: Value.ref (a 12) :: Value.ref (a 13) :: Value.ref (a 14) :: Value.int 0 :: Value.int 1 :: Value.int 0 :: [])))]) [0] (by decide) rfl
  exact W.iret (v := (-1)) hx hb hr (fun t ht _ => ⟨rfl, ⟨(fun k => [].getD k 0, fun k => [].getD k zI), by rw [ht]; exact hP9, hD9⟩, hS.F ht⟩) hS.2.2 dX11_turnDown_11
set_option maxHeartbeats 4000000 in
set_option maxRecDepth 100000 in
theorem kX11_judge_0 (l : Launch) (D : va_G) (cI : ClassId) (h0 : Nat) (a : Nat → Nat) (p0 p1 p2 : Int32) (sz : Nat) : Met l yX11_judge (sw_ws yX11_judge cX11_judge 7 (some .int)) (rm_ 1 22 0 0) (p_M D vwCl [(cI, .int)] [.ref h0, .int p0, .int p1, .int p2] [(h0, .inr (11, (Value.ref (a 0) :: Value.ref (a 1) :: Value.ref (a 2) :: Value.ref (a 3) :: Value.ref (a 4) :: Value.ref (a 5) :: Value.ref (a 6) :: Value.ref (a 7) :: Value.ref (a 8) :: Value.ref (a 9) :: Value.ref (a 10) :: Value.ref (a 11) :: Value.ref (a 12) :: Value.ref (a 13) :: Value.ref (a 14) :: Value.int 0 :: Value.int 0 :: Value.int 0 :: []))), ((a 5), .inr (5, (Value.ref (a 30) :: Value.ref (a 31) :: Value.ref (a 32) :: Value.ref (a 33) :: Value.ref (a 34) :: Value.ref (a 35) :: Value.ref (a 36) :: Value.ref (a 37) :: Value.int 0 :: Value.int 0 :: Value.int 0 :: Value.int 0 :: Value.int 0 :: Value.int 0 :: Value.int 0 :: [])))] sz) (q_M D vwCl (some (.int (-1))) (fun u => [(h0, .inr (11, (Value.ref (a 0) :: Value.ref (a 1) :: Value.ref (a 2) :: Value.ref (a 3) :: Value.ref (a 4) :: Value.ref (a 5) :: Value.ref (a 6) :: Value.ref (a 7) :: Value.ref (a 8) :: Value.ref (a 9) :: Value.ref (a 10) :: Value.ref (a 11) :: Value.ref (a 12) :: Value.ref (a 13) :: Value.ref (a 14) :: Value.int 0 :: Value.int 1 :: Value.int 0 :: []))), ((a 5), .inr (5, (Value.ref (a 30) :: Value.ref (a 31) :: Value.ref (a 32) :: Value.ref (a 33) :: Value.ref (a 34) :: Value.ref (a 35) :: Value.ref (a 36) :: Value.ref (a 37) :: Value.int 0 :: Value.int 0 :: Value.int 0 :: Value.int 0 :: Value.int 0 :: Value.int 0 :: Value.int 0 :: [])))]) (va_A [(h0, .inr (11, (Value.ref (a 0) :: Value.ref (a 1) :: Value.ref (a 2) :: Value.ref (a 3) :: Value.ref (a 4) :: Value.ref (a 5) :: Value.ref (a 6) :: Value.ref (a 7) :: Value.ref (a 8) :: Value.ref (a 9) :: Value.ref (a 10) :: Value.ref (a 11) :: Value.ref (a 12) :: Value.ref (a 13) :: Value.ref (a 14) :: Value.int 0 :: Value.int 0 :: Value.int 0 :: []))), ((a 5), .inr (5, (Value.ref (a 30) :: Value.ref (a 31) :: Value.ref (a 32) :: Value.ref (a 33) :: Value.ref (a 34) :: Value.ref (a 35) :: Value.ref (a 36) :: Value.ref (a 37) :: Value.int 0 :: Value.int 0 :: Value.int 0 :: Value.int 0 :: Value.int 0 :: Value.int 0 :: Value.int 0 :: [])))] sz)) 0 0 (va_A [(h0, .inr (11, (Value.ref (a 0) :: Value.ref (a 1) :: Value.ref (a 2) :: Value.ref (a 3) :: Value.ref (a 4) :: Value.ref (a 5) :: Value.ref (a 6) :: Value.ref (a 7) :: Value.ref (a 8) :: Value.ref (a 9) :: Value.ref (a 10) :: Value.ref (a 11) :: Value.ref (a 12) :: Value.ref (a 13) :: Value.ref (a 14) :: Value.int 0 :: Value.int 0 :: Value.int 0 :: []))), ((a 5), .inr (5, (Value.ref (a 30) :: Value.ref (a 31) :: Value.ref (a 32) :: Value.ref (a 33) :: Value.ref (a 34) :: Value.ref (a 35) :: Value.ref (a 36) :: Value.ref (a 37) :: Value.int 0 :: Value.int 0 :: Value.int 0 :: Value.int 0 :: Value.int 0 :: Value.int 0 :: Value.int 0 :: [])))] sz) := by
  refine Met.ofW (cc := cX11_judge) (maxL := 7) (ret := (some .int)) (by decide) rfl ?_
  intro p e s m args below meth c s₁ B hml hv
  obtain ⟨rfl, hsz, hP, hK, hD0⟩ := hv
  have hx := B.exec
  have hb := B.bytes
  have hr := B.returns
  have hT := sw_in (atoms_spec (ws := sw_ws yX11_judge cX11_judge 7 (some .int)) B.pre)
  have hown : s.vm.findClass RX11 = some m.cls := findClass_of_methodNamed B.named
  have hlocks := B.notSynchronized
  subst hsz
  have hD := hD0.self (sz := s.heap.size)
  generalize hAe : va_A [(h0, .inr (11, (Value.ref (a 0) :: Value.ref (a 1) :: Value.ref (a 2) :: Value.ref (a 3) :: Value.ref (a 4) :: Value.ref (a 5) :: Value.ref (a 6) :: Value.ref (a 7) :: Value.ref (a 8) :: Value.ref (a 9) :: Value.ref (a 10) :: Value.ref (a 11) :: Value.ref (a 12) :: Value.ref (a 13) :: Value.ref (a 14) :: Value.int 0 :: Value.int 0 :: Value.int 0 :: []))), ((a 5), .inr (5, (Value.ref (a 30) :: Value.ref (a 31) :: Value.ref (a 32) :: Value.ref (a 33) :: Value.ref (a 34) :: Value.ref (a 35) :: Value.ref (a 36) :: Value.ref (a 37) :: Value.int 0 :: Value.int 0 :: Value.int 0 :: Value.int 0 :: Value.int 0 :: Value.int 0 :: Value.int 0 :: [])))] s.heap.size = A at hD ⊢
  have hA : ∀ q : Nat, s.heap.size ≤ q → A q := fun q h => by rw [← hAe]; exact Or.inr h
  have hS : va_S A s.heap s.heap [] := va_S.rf
  have hl := lv_entry ([.ref h0, .int p0, .int p1, .int p2]) (n := 7) (Nat.le_of_ble_eq_true rfl)
  rw [lg_entry_eq]
  generalize (lg_sl ([.ref h0, .int p0, .int p1, .int p2]) ++ List.replicate (7 - (lg_sl ([.ref h0, .int p0, .int p1, .int p2])).length) Slot.unset).toArray = ls at hl ⊢
  have hl : lv_has ls 7 [(0, .ref h0), (1, .int p0), (2, .int p1), (3, .int p2)] := hl
  refine lv_aload_n hx hb dX11_judge_0 rfl (lv_at hl 0 rfl) ?_
  refine lv_iload_n hx hb dX11_judge_1 rfl (lv_at hl 1 rfl) ?_
  refine go_R (v := some (.int 0)) (st1 := [.int 0]) (run_V (As := [.int p0]) (rest := []) ⟨hx, hb, hml, hown, hT⟩ (kX11_isThing_0 l D cI h0 a p0) sw_830 lkv_X11_isThing (p_R_V (ci := 11) (q0 := 0) (hP.sub (ws' := [(h0, .inr (11, (Value.ref (a 0) :: Value.ref (a 1) :: Value.ref (a 2) :: Value.ref (a 3) :: Value.ref (a 4) :: Value.ref (a 5) :: Value.ref (a 6) :: Value.ref (a 7) :: Value.ref (a 8) :: Value.ref (a 9) :: Value.ref (a 10) :: Value.ref (a 11) :: Value.ref (a 12) :: Value.ref (a 13) :: Value.ref (a 14) :: Value.int 0 :: Value.int 0 :: Value.int 0 :: []))), ((a 5), .inr (5, (Value.ref (a 30) :: Value.ref (a 31) :: Value.ref (a 32) :: Value.ref (a 33) :: Value.ref (a 34) :: Value.ref (a 35) :: Value.ref (a 36) :: Value.ref (a 37) :: Value.int 0 :: Value.int 0 :: Value.int 0 :: Value.int 0 :: Value.int 0 :: Value.int 0 :: Value.int 0 :: [])))]) [0, 1] rfl) hK rfl rfl) rfl hl.1 rfl (Nat.le_of_ble_eq_true rfl) dX11_judge_2 ⟨⟨Nat.le_of_ble_eq_true rfl, Nat.le_of_ble_eq_true rfl⟩, Nat.le_of_ble_eq_true rfl, Nat.le_of_ble_eq_true rfl⟩) rfl ?_
  refine lv_if_ne (tgt := 15) hx hb dX11_judge_5 (by decide) (fun h9 => absurd (by decide) h9) (fun _ => ?_)
  refine lv_aload_n hx hb dX11_judge_8 rfl (lv_at hl 0 rfl) ?_
  refine lv_iconst (v := 1) hx hb dX11_judge_9 (by decide) ?_
  refine lv_iconst (v := 0) hx hb dX11_judge_10 (by decide) ?_
  refine go_M (wc := [(h0, .inr (11, (Value.ref (a 0) :: Value.ref (a 1) :: Value.ref (a 2) :: Value.ref (a 3) :: Value.ref (a 4) :: Value.ref (a 5) :: Value.ref (a 6) :: Value.ref (a 7) :: Value.ref (a 8) :: Value.ref (a 9) :: Value.ref (a 10) :: Value.ref (a 11) :: Value.ref (a 12) :: Value.ref (a 13) :: Value.ref (a 14) :: Value.int 0 :: Value.int 0 :: Value.int 0 :: [])))]) (wr := [((a 5), .inr (5, (Value.ref (a 30) :: Value.ref (a 31) :: Value.ref (a 32) :: Value.ref (a 33) :: Value.ref (a 34) :: Value.ref (a 35) :: Value.ref (a 36) :: Value.ref (a 37) :: Value.int 0 :: Value.int 0 :: Value.int 0 :: Value.int 0 :: Value.int 0 :: Value.int 0 :: Value.int 0 :: [])))]) (w1 := fun u => [(h0, .inr (11, (Value.ref (a 0) :: Value.ref (a 1) :: Value.ref (a 2) :: Value.ref (a 3) :: Value.ref (a 4) :: Value.ref (a 5) :: Value.ref (a 6) :: Value.ref (a 7) :: Value.ref (a 8) :: Value.ref (a 9) :: Value.ref (a 10) :: Value.ref (a 11) :: Value.ref (a 12) :: Value.ref (a 13) :: Value.ref (a 14) :: Value.int 0 :: Value.int 1 :: Value.int 0 :: [])))]) (v := some (.int (-1))) (st1 := [.int (-1)]) hP hD hS hA [0] [1] rfl rfl (by decide) (by decide) (by decide) (fun hPc hDc => run_V (As := [.int 1, .int 0]) (rest := []) ⟨hx, hb, hml, hown, hT⟩ (kX11_turnDown_0 l D cI h0 a _) sw_1161 lkv_X11_turnDown (p_M_V (ci := 11) (q0 := 0) hPc hK hDc rfl rfl) rfl hl.1 rfl (Nat.le_of_ble_eq_true rfl) dX11_judge_11 ⟨⟨Nat.le_of_ble_eq_true rfl, Nat.le_of_ble_eq_true rfl⟩, Nat.le_of_ble_eq_true rfl, Nat.le_of_ble_eq_true rfl⟩) rfl (fun u_1 H locs hP hD hS => ?_)
  have hP : va_P D vwCl [((a 5), .inr (5, (Value.ref (a 30) :: Value.ref (a 31) :: Value.ref (a 32) :: Value.ref (a 33) :: Value.ref (a 34) :: Value.ref (a 35) :: Value.ref (a 36) :: Value.ref (a 37) :: Value.int 0 :: Value.int 0 :: Value.int 0 :: Value.int 0 :: Value.int 0 :: Value.int 0 :: Value.int 0 :: []))), (h0, .inr (11, (Value.ref (a 0) :: Value.ref (a 1) :: Value.ref (a 2) :: Value.ref (a 3) :: Value.ref (a 4) :: Value.ref (a 5) :: Value.ref (a 6) :: Value.ref (a 7) :: Value.ref (a 8) :: Value.ref (a 9) :: Value.ref (a 10) :: Value.ref (a 11) :: Value.ref (a 12) :: Value.ref (a 13) :: Value.ref (a 14) :: Value.int 0 :: Value.int 1 :: Value.int 0 :: [])))] H := hP
  have hD : va_D A [((a 5), .inr (5, (Value.ref (a 30) :: Value.ref (a 31) :: Value.ref (a 32) :: Value.ref (a 33) :: Value.ref (a 34) :: Value.ref (a 35) :: Value.ref (a 36) :: Value.ref (a 37) :: Value.int 0 :: Value.int 0 :: Value.int 0 :: Value.int 0 :: Value.int 0 :: Value.int 0 :: Value.int 0 :: []))), (h0, .inr (11, (Value.ref (a 0) :: Value.ref (a 1) :: Value.ref (a 2) :: Value.ref (a 3) :: Value.ref (a 4) :: Value.ref (a 5) :: Value.ref (a 6) :: Value.ref (a 7) :: Value.ref (a 8) :: Value.ref (a 9) :: Value.ref (a 10) :: Value.ref (a 11) :: Value.ref (a 12) :: Value.ref (a 13) :: Value.ref (a 14) :: Value.int 0 :: Value.int 1 :: Value.int 0 :: [])))] := hD
  have hP9 := hP.sub (ws' := [(h0, .inr (11, (Value.ref (a 0) :: Value.ref (a 1) :: Value.ref (a 2) :: Value.ref (a 3) :: Value.ref (a 4) :: Value.ref (a 5) :: Value.ref (a 6) :: Value.ref (a 7) :: Value.ref (a 8) :: Value.ref (a 9) :: Value.ref (a 10) :: Value.ref (a 11) :: Value.ref (a 12) :: Value.ref (a 13) :: Value.ref (a 14) :: Value.int 0 :: Value.int 1 :: Value.int 0 :: []))), ((a 5), .inr (5, (Value.ref (a 30) :: Value.ref (a 31) :: Value.ref (a 32) :: Value.ref (a 33) :: Value.ref (a 34) :: Value.ref (a 35) :: Value.ref (a 36) :: Value.ref (a 37) :: Value.int 0 :: Value.int 0 :: Value.int 0 :: Value.int 0 :: Value.int 0 :: Value.int 0 :: Value.int 0 :: [])))]) [1, 0] rfl
  have hD9 := hD.sub (ws' := [(h0, .inr (11, (Value.ref (a 0) :: Value.ref (a 1) :: Value.ref (a 2) :: Value.ref (a 3) :: Value.ref (a 4) :: Value.ref (a 5) :: Value.ref (a 6) :: Value.ref (a 7) :: Value.ref (a 8) :: Value.ref (a 9) :: Value.ref (a 10) :: Value.ref (a 11) :: Value.ref (a 12) :: Value.ref (a 13) :: Value.ref (a 14) :: Value.int 0 :: Value.int 1 :: Value.int 0 :: []))), ((a 5), .inr (5, (Value.ref (a 30) :: Value.ref (a 31) :: Value.ref (a 32) :: Value.ref (a 33) :: Value.ref (a 34) :: Value.ref (a 35) :: Value.ref (a 36) :: Value.ref (a 37) :: Value.int 0 :: Value.int 0 :: Value.int 0 :: Value.int 0 :: Value.int 0 :: Value.int 0 :: Value.int 0 :: [])))]) [1, 0] (by decide) rfl
  exact W.iret (v := (-1)) hx hb hr (fun t ht _ => ⟨rfl, ⟨(fun k => [].getD k 0, fun k => [].getD k zI), by rw [ht]; exact hP9, hD9⟩, hS.F ht⟩) hS.2.2 dX11_judge_14
set_option maxHeartbeats 4000000 in
set_option maxRecDepth 100000 in
theorem kX11_refuse_2 (l : Launch) (D : va_G) (cI : ClassId) (h0 : Nat) (a : Nat → Nat) (g0 : Nat → Int32) (sz : Nat) : Met l yX11_refuse (sw_ws yX11_refuse cX11_refuse 2 (some .int)) (rm_ 0 0 0 0) (p_M D vwCl [(cI, .int)] [.ref h0, .int 2] [((a 13), .inl (cI, 6, .inl g0)), (h0, .inr (11, (Value.ref (a 0) :: Value.ref (a 1) :: Value.ref (a 2) :: Value.ref (a 3) :: Value.ref (a 4) :: Value.ref (a 5) :: Value.ref (a 6) :: Value.ref (a 7) :: Value.ref (a 8) :: Value.ref (a 9) :: Value.ref (a 10) :: Value.ref (a 11) :: Value.ref (a 12) :: Value.ref (a 13) :: Value.ref (a 14) :: Value.int 0 :: Value.int 1 :: Value.int 0 :: [])))] sz) (q_M D vwCl (some (.int (-1))) (fun u => [((a 13), .inl (cI, 6, .inl (u.2 0))), (h0, .inr (11, (Value.ref (a 0) :: Value.ref (a 1) :: Value.ref (a 2) :: Value.ref (a 3) :: Value.ref (a 4) :: Value.ref (a 5) :: Value.ref (a 6) :: Value.ref (a 7) :: Value.ref (a 8) :: Value.ref (a 9) :: Value.ref (a 10) :: Value.ref (a 11) :: Value.ref (a 12) :: Value.ref (a 13) :: Value.ref (a 14) :: Value.int 0 :: Value.int 1 :: Value.int 0 :: [])))]) (va_A [((a 13), .inl (cI, 6, .inl g0)), (h0, .inr (11, (Value.ref (a 0) :: Value.ref (a 1) :: Value.ref (a 2) :: Value.ref (a 3) :: Value.ref (a 4) :: Value.ref (a 5) :: Value.ref (a 6) :: Value.ref (a 7) :: Value.ref (a 8) :: Value.ref (a 9) :: Value.ref (a 10) :: Value.ref (a 11) :: Value.ref (a 12) :: Value.ref (a 13) :: Value.ref (a 14) :: Value.int 0 :: Value.int 1 :: Value.int 0 :: [])))] sz)) 0 0 (va_A [((a 13), .inl (cI, 6, .inl g0)), (h0, .inr (11, (Value.ref (a 0) :: Value.ref (a 1) :: Value.ref (a 2) :: Value.ref (a 3) :: Value.ref (a 4) :: Value.ref (a 5) :: Value.ref (a 6) :: Value.ref (a 7) :: Value.ref (a 8) :: Value.ref (a 9) :: Value.ref (a 10) :: Value.ref (a 11) :: Value.ref (a 12) :: Value.ref (a 13) :: Value.ref (a 14) :: Value.int 0 :: Value.int 1 :: Value.int 0 :: [])))] sz) := by
  refine Met.ofW (cc := cX11_refuse) (maxL := 2) (ret := (some .int)) (by decide) rfl ?_
  intro p e s m args below meth c s₁ B hml hv
  obtain ⟨rfl, hsz, hP, hK, hD0⟩ := hv
  have hx := B.exec
  have hb := B.bytes
  have hr := B.returns
  have hT := sw_in (atoms_spec (ws := sw_ws yX11_refuse cX11_refuse 2 (some .int)) B.pre)
  have hown : s.vm.findClass RX11 = some m.cls := findClass_of_methodNamed B.named
  have hlocks := B.notSynchronized
  subst hsz
  have hD := hD0.self (sz := s.heap.size)
  generalize hAe : va_A [((a 13), .inl (cI, 6, .inl g0)), (h0, .inr (11, (Value.ref (a 0) :: Value.ref (a 1) :: Value.ref (a 2) :: Value.ref (a 3) :: Value.ref (a 4) :: Value.ref (a 5) :: Value.ref (a 6) :: Value.ref (a 7) :: Value.ref (a 8) :: Value.ref (a 9) :: Value.ref (a 10) :: Value.ref (a 11) :: Value.ref (a 12) :: Value.ref (a 13) :: Value.ref (a 14) :: Value.int 0 :: Value.int 1 :: Value.int 0 :: [])))] s.heap.size = A at hD ⊢
  have hA : ∀ q : Nat, s.heap.size ≤ q → A q := fun q h => by rw [← hAe]; exact Or.inr h
  have hS : va_S A s.heap s.heap [] := va_S.rf
  have hl := lv_entry ([.ref h0, .int 2]) (n := 2) (Nat.le_of_ble_eq_true rfl)
  rw [lg_entry_eq]
  generalize (lg_sl ([.ref h0, .int 2]) ++ List.replicate (2 - (lg_sl ([.ref h0, .int 2])).length) Slot.unset).toArray = ls at hl ⊢
  have hl : lv_has ls 2 [(0, .ref h0), (1, .int 2)] := hl
  refine lv_iload_n hx hb dX11_refuse_0 rfl (lv_at hl 1 rfl) ?_
  refine lv_if_lt (tgt := 23) hx hb dX11_refuse_1 (by decide) (fun h9 => absurd h9 (by decide)) (fun _ => ?_)
  refine lv_iload_n hx hb dX11_refuse_4 rfl (lv_at hl 1 rfl) ?_
  refine lv_aload_n hx hb dX11_refuse_5 rfl (lv_at hl 0 rfl) ?_
  refine va_get (D := D) (ci := 11) (v := .ref (a 13)) (C := RX11) (T := TX11) (N := 18) hx hb hT ix_11 hown hK hP 1 rfl rfl 13 (by decide) (hT _ sw_528) (fun _ h9 => h9) rfl dX11_refuse_6 ?_
  refine va_alen (v := 6) hx hb hK hP 0 0 rfl rfl (show Int32.ofNat 6 = 6 by decide) dX11_refuse_9 ?_
  refine lv_icmp_ge (tgt := 23) hx hb dX11_refuse_10 (by decide) (fun h9 => absurd h9 (by decide)) (fun _ => ?_)
  refine lv_aload_n hx hb dX11_refuse_13 rfl (lv_at hl 0 rfl) ?_
  refine va_get (D := D) (ci := 11) (v := .ref (a 13)) (C := RX11) (T := TX11) (N := 18) hx hb hT ix_11 hown hK hP 1 rfl rfl 13 (by decide) (hT _ sw_528) (fun _ h9 => h9) rfl dX11_refuse_14 ?_
  refine lv_iload_n hx hb dX11_refuse_17 rfl (lv_at hl 1 rfl) ?_
  refine lv_dup2_11 hx hb dX11_refuse_18 rfl rfl ?_
  refine va_iald hx hb hK hP 0 0 rfl rfl (vi_c (by decide +kernel)) dX11_refuse_19 ?_
  refine lv_topi (fun v_1 _ => ?_)
  refine lv_iconst (v := 1) hx hb dX11_refuse_20 (by decide) ?_
  refine lv_iadd hx hb dX11_refuse_21 ?_
  refine lv_topi (fun v_2 _ => ?_)
  refine va_iast hx hb hK hP hD hS 0 0 rfl rfl (vi_c (by decide +kernel)) dX11_refuse_22 (fun H locs hP hD hS => ?_)
  obtain ⟨f_3, hP, hD⟩ : ∃ f_3 : Nat → Int32, va_P D vwCl [((a 13), .inl (cI, 6, .inl f_3)), (h0, .inr (11, (Value.ref (a 0) :: Value.ref (a 1) :: Value.ref (a 2) :: Value.ref (a 3) :: Value.ref (a 4) :: Value.ref (a 5) :: Value.ref (a 6) :: Value.ref (a 7) :: Value.ref (a 8) :: Value.ref (a 9) :: Value.ref (a 10) :: Value.ref (a 11) :: Value.ref (a 12) :: Value.ref (a 13) :: Value.ref (a 14) :: Value.int 0 :: Value.int 1 :: Value.int 0 :: [])))] H ∧ va_D A [((a 13), .inl (cI, 6, .inl f_3)), (h0, .inr (11, (Value.ref (a 0) :: Value.ref (a 1) :: Value.ref (a 2) :: Value.ref (a 3) :: Value.ref (a 4) :: Value.ref (a 5) :: Value.ref (a 6) :: Value.ref (a 7) :: Value.ref (a 8) :: Value.ref (a 9) :: Value.ref (a 10) :: Value.ref (a 11) :: Value.ref (a 12) :: Value.ref (a 13) :: Value.ref (a 14) :: Value.int 0 :: Value.int 1 :: Value.int 0 :: [])))] := ⟨upd g0 (2 : Int32).toNatClampNeg v_2, hP, hD⟩
  refine lv_iconst (v := (-1)) hx hb dX11_refuse_23 (by decide) ?_
  have hP9 := hP.sub (ws' := [((a 13), .inl (cI, 6, .inl f_3)), (h0, .inr (11, (Value.ref (a 0) :: Value.ref (a 1) :: Value.ref (a 2) :: Value.ref (a 3) :: Value.ref (a 4) :: Value.ref (a 5) :: Value.ref (a 6) :: Value.ref (a 7) :: Value.ref (a 8) :: Value.ref (a 9) :: Value.ref (a 10) :: Value.ref (a 11) :: Value.ref (a 12) :: Value.ref (a 13) :: Value.ref (a 14) :: Value.int 0 :: Value.int 1 :: Value.int 0 :: [])))]) [0, 1] rfl
  have hD9 := hD.sub (ws' := [((a 13), .inl (cI, 6, .inl f_3)), (h0, .inr (11, (Value.ref (a 0) :: Value.ref (a 1) :: Value.ref (a 2) :: Value.ref (a 3) :: Value.ref (a 4) :: Value.ref (a 5) :: Value.ref (a 6) :: Value.ref (a 7) :: Value.ref (a 8) :: Value.ref (a 9) :: Value.ref (a 10) :: Value.ref (a 11) :: Value.ref (a 12) :: Value.ref (a 13) :: Value.ref (a 14) :: Value.int 0 :: Value.int 1 :: Value.int 0 :: [])))]) [0, 1] (by decide) rfl
  exact W.iret (v := (-1)) hx hb hr (fun t ht _ => ⟨rfl, ⟨(fun k => [].getD k 0, fun k => [f_3].getD k zI), by rw [ht]; exact hP9, hD9⟩, hS.F ht⟩) hS.2.2 dX11_refuse_24
set_option maxHeartbeats 4000000 in
set_option maxRecDepth 100000 in
theorem kX11_set_0 (l : Launch) (D : va_G) (cI : ClassId) (h0 : Nat) (a : Nat → Nat) (p0 p1 p2 : Int32) (g0 : Nat → Int32) (sz : Nat) : Met l yX11_set (sw_ws yX11_set cX11_set 5 (some .int)) (rm_ 2 48 0 0) (p_M D vwCl [(cI, .int)] [.ref h0, .int p0, .int p1, .int p2] [(h0, .inr (11, (Value.ref (a 0) :: Value.ref (a 1) :: Value.ref (a 2) :: Value.ref (a 3) :: Value.ref (a 4) :: Value.ref (a 5) :: Value.ref (a 6) :: Value.ref (a 7) :: Value.ref (a 8) :: Value.ref (a 9) :: Value.ref (a 10) :: Value.ref (a 11) :: Value.ref (a 12) :: Value.ref (a 13) :: Value.ref (a 14) :: Value.int 0 :: Value.int 0 :: Value.int 0 :: []))), ((a 5), .inr (5, (Value.ref (a 30) :: Value.ref (a 31) :: Value.ref (a 32) :: Value.ref (a 33) :: Value.ref (a 34) :: Value.ref (a 35) :: Value.ref (a 36) :: Value.ref (a 37) :: Value.int 0 :: Value.int 0 :: Value.int 0 :: Value.int 0 :: Value.int 0 :: Value.int 0 :: Value.int 0 :: []))), ((a 13), .inl (cI, 6, .inl g0))] sz) (q_M D vwCl (some (.int (-1))) (fun u => []) (va_A [(h0, .inr (11, (Value.ref (a 0) :: Value.ref (a 1) :: Value.ref (a 2) :: Value.ref (a 3) :: Value.ref (a 4) :: Value.ref (a 5) :: Value.ref (a 6) :: Value.ref (a 7) :: Value.ref (a 8) :: Value.ref (a 9) :: Value.ref (a 10) :: Value.ref (a 11) :: Value.ref (a 12) :: Value.ref (a 13) :: Value.ref (a 14) :: Value.int 0 :: Value.int 0 :: Value.int 0 :: []))), ((a 5), .inr (5, (Value.ref (a 30) :: Value.ref (a 31) :: Value.ref (a 32) :: Value.ref (a 33) :: Value.ref (a 34) :: Value.ref (a 35) :: Value.ref (a 36) :: Value.ref (a 37) :: Value.int 0 :: Value.int 0 :: Value.int 0 :: Value.int 0 :: Value.int 0 :: Value.int 0 :: Value.int 0 :: []))), ((a 13), .inl (cI, 6, .inl g0))] sz)) 0 0 (va_A [(h0, .inr (11, (Value.ref (a 0) :: Value.ref (a 1) :: Value.ref (a 2) :: Value.ref (a 3) :: Value.ref (a 4) :: Value.ref (a 5) :: Value.ref (a 6) :: Value.ref (a 7) :: Value.ref (a 8) :: Value.ref (a 9) :: Value.ref (a 10) :: Value.ref (a 11) :: Value.ref (a 12) :: Value.ref (a 13) :: Value.ref (a 14) :: Value.int 0 :: Value.int 0 :: Value.int 0 :: []))), ((a 5), .inr (5, (Value.ref (a 30) :: Value.ref (a 31) :: Value.ref (a 32) :: Value.ref (a 33) :: Value.ref (a 34) :: Value.ref (a 35) :: Value.ref (a 36) :: Value.ref (a 37) :: Value.int 0 :: Value.int 0 :: Value.int 0 :: Value.int 0 :: Value.int 0 :: Value.int 0 :: Value.int 0 :: []))), ((a 13), .inl (cI, 6, .inl g0))] sz) := by
  refine Met.ofW (cc := cX11_set) (maxL := 5) (ret := (some .int)) (by decide) rfl ?_
  intro p e s m args below meth c s₁ B hml hv
  obtain ⟨rfl, hsz, hP, hK, hD0⟩ := hv
  have hx := B.exec
  have hb := B.bytes
  have hr := B.returns
  have hT := sw_in (atoms_spec (ws := sw_ws yX11_set cX11_set 5 (some .int)) B.pre)
  have hown : s.vm.findClass RX11 = some m.cls := findClass_of_methodNamed B.named
  have hlocks := B.notSynchronized
  subst hsz
  have hD := hD0.self (sz := s.heap.size)
  generalize hAe : va_A [(h0, .inr (11, (Value.ref (a 0) :: Value.ref (a 1) :: Value.ref (a 2) :: Value.ref (a 3) :: Value.ref (a 4) :: Value.ref (a 5) :: Value.ref (a 6) :: Value.ref (a 7) :: Value.ref (a 8) :: Value.ref (a 9) :: Value.ref (a 10) :: Value.ref (a 11) :: Value.ref (a 12) :: Value.ref (a 13) :: Value.ref (a 14) :: Value.int 0 :: Value.int 0 :: Value.int 0 :: []))), ((a 5), .inr (5, (Value.ref (a 30) :: Value.ref (a 31) :: Value.ref (a 32) :: Value.ref (a 33) :: Value.ref (a 34) :: Value.ref (a 35) :: Value.ref (a 36) :: Value.ref (a 37) :: Value.int 0 :: Value.int 0 :: Value.int 0 :: Value.int 0 :: Value.int 0 :: Value.int 0 :: Value.int 0 :: []))), ((a 13), .inl (cI, 6, .inl g0))] s.heap.size = A at hD ⊢
  have hA : ∀ q : Nat, s.heap.size ≤ q → A q := fun q h => by rw [← hAe]; exact Or.inr h
  have hS : va_S A s.heap s.heap [] := va_S.rf
  have hl := lv_entry ([.ref h0, .int p0, .int p1, .int p2]) (n := 5) (Nat.le_of_ble_eq_true rfl)
  rw [lg_entry_eq]
  generalize (lg_sl ([.ref h0, .int p0, .int p1, .int p2]) ++ List.replicate (5 - (lg_sl ([.ref h0, .int p0, .int p1, .int p2])).length) Slot.unset).toArray = ls at hl ⊢
  have hl : lv_has ls 5 [(0, .ref h0), (1, .int p0), (2, .int p1), (3, .int p2)] := hl
  refine lv_aload_n hx hb dX11_set_0 rfl (lv_at hl 0 rfl) ?_
  refine lv_iload_n hx hb dX11_set_1 rfl (lv_at hl 1 rfl) ?_
  refine lv_iload_n hx hb dX11_set_2 rfl (lv_at hl 2 rfl) ?_
  refine lv_iload_n hx hb dX11_set_3 rfl (lv_at hl 3 rfl) ?_
  refine go_M (wc := [(h0, .inr (11, (Value.ref (a 0) :: Value.ref (a 1) :: Value.ref (a 2) :: Value.ref (a 3) :: Value.ref (a 4) :: Value.ref (a 5) :: Value.ref (a 6) :: Value.ref (a 7) :: Value.ref (a 8) :: Value.ref (a 9) :: Value.ref (a 10) :: Value.ref (a 11) :: Value.ref (a 12) :: Value.ref (a 13) :: Value.ref (a 14) :: Value.int 0 :: Value.int 0 :: Value.int 0 :: []))), ((a 5), .inr (5, (Value.ref (a 30) :: Value.ref (a 31) :: Value.ref (a 32) :: Value.ref (a 33) :: Value.ref (a 34) :: Value.ref (a 35) :: Value.ref (a 36) :: Value.ref (a 37) :: Value.int 0 :: Value.int 0 :: Value.int 0 :: Value.int 0 :: Value.int 0 :: Value.int 0 :: Value.int 0 :: [])))]) (wr := [((a 13), .inl (cI, 6, .inl g0))]) (w1 := fun u => [(h0, .inr (11, (Value.ref (a 0) :: Value.ref (a 1) :: Value.ref (a 2) :: Value.ref (a 3) :: Value.ref (a 4) :: Value.ref (a 5) :: Value.ref (a 6) :: Value.ref (a 7) :: Value.ref (a 8) :: Value.ref (a 9) :: Value.ref (a 10) :: Value.ref (a 11) :: Value.ref (a 12) :: Value.ref (a 13) :: Value.ref (a 14) :: Value.int 0 :: Value.int 1 :: Value.int 0 :: []))), ((a 5), .inr (5, (Value.ref (a 30) :: Value.ref (a 31) :: Value.ref (a 32) :: Value.ref (a 33) :: Value.ref (a 34) :: Value.ref (a 35) :: Value.ref (a 36) :: Value.ref (a 37) :: Value.int 0 :: Value.int 0 :: Value.int 0 :: Value.int 0 :: Value.int 0 :: Value.int 0 :: Value.int 0 :: [])))]) (v := some (.int (-1))) (st1 := [.int (-1)]) hP hD hS hA [0, 1] [2] rfl rfl (by decide) (by decide) (by decide) (fun hPc hDc => run_V (As := [.int p0, .int p1, .int p2]) (rest := []) ⟨hx, hb, hml, hown, hT⟩ (kX11_judge_0 l D cI h0 a p0 p1 p2 _) sw_1157 lkv_X11_judge (p_M_V (ci := 11) (q0 := 0) hPc hK hDc rfl rfl) rfl hl.1 rfl (Nat.le_of_ble_eq_true rfl) dX11_set_4 ⟨⟨Nat.le_of_ble_eq_true rfl, Nat.le_of_ble_eq_true rfl⟩, Nat.le_of_ble_eq_true rfl, Nat.le_of_ble_eq_true rfl⟩) rfl (fun u_1 H locs hP hD hS => ?_)
  have hP : va_P D vwCl [((a 13), .inl (cI, 6, .inl g0)), (h0, .inr (11, (Value.ref (a 0) :: Value.ref (a 1) :: Value.ref (a 2) :: Value.ref (a 3) :: Value.ref (a 4) :: Value.ref (a 5) :: Value.ref (a 6) :: Value.ref (a 7) :: Value.ref (a 8) :: Value.ref (a 9) :: Value.ref (a 10) :: Value.ref (a 11) :: Value.ref (a 12) :: Value.ref (a 13) :: Value.ref (a 14) :: Value.int 0 :: Value.int 1 :: Value.int 0 :: []))), ((a 5), .inr (5, (Value.ref (a 30) :: Value.ref (a 31) :: Value.ref (a 32) :: Value.ref (a 33) :: Value.ref (a 34) :: Value.ref (a 35) :: Value.ref (a 36) :: Value.ref (a 37) :: Value.int 0 :: Value.int 0 :: Value.int 0 :: Value.int 0 :: Value.int 0 :: Value.int 0 :: Value.int 0 :: [])))] H := hP
  have hD : va_D A [((a 13), .inl (cI, 6, .inl g0)), (h0, .inr (11, (Value.ref (a 0) :: Value.ref (a 1) :: Value.ref (a 2) :: Value.ref (a 3) :: Value.ref (a 4) :: Value.ref (a 5) :: Value.ref (a 6) :: Value.ref (a 7) :: Value.ref (a 8) :: Value.ref (a 9) :: Value.ref (a 10) :: Value.ref (a 11) :: Value.ref (a 12) :: Value.ref (a 13) :: Value.ref (a 14) :: Value.int 0 :: Value.int 1 :: Value.int 0 :: []))), ((a 5), .inr (5, (Value.ref (a 30) :: Value.ref (a 31) :: Value.ref (a 32) :: Value.ref (a 33) :: Value.ref (a 34) :: Value.ref (a 35) :: Value.ref (a 36) :: Value.ref (a 37) :: Value.int 0 :: Value.int 0 :: Value.int 0 :: Value.int 0 :: Value.int 0 :: Value.int 0 :: Value.int 0 :: [])))] := hD
  refine lv_istore (lv' := [(4, .int (-1)), (0, .ref h0), (1, .int p0), (2, .int p1), (3, .int p2)]) hx hb dX11_set_7 hl (by decide) rfl (fun ls hl => ?_)
  refine lv_iload hx hb dX11_set_9 (lv_at hl 0 rfl) ?_
  refine lv_if_ge (tgt := 20) hx hb dX11_set_11 (by decide) (fun h9 => absurd h9 (by decide)) (fun _ => ?_)
  refine lv_aload_n hx hb dX11_set_14 rfl (lv_at hl 1 rfl) ?_
  refine lv_iconst (v := 2) hx hb dX11_set_15 (by decide) ?_
  refine go_M (wc := [((a 13), .inl (cI, 6, .inl g0)), (h0, .inr (11, (Value.ref (a 0) :: Value.ref (a 1) :: Value.ref (a 2) :: Value.ref (a 3) :: Value.ref (a 4) :: Value.ref (a 5) :: Value.ref (a 6) :: Value.ref (a 7) :: Value.ref (a 8) :: Value.ref (a 9) :: Value.ref (a 10) :: Value.ref (a 11) :: Value.ref (a 12) :: Value.ref (a 13) :: Value.ref (a 14) :: Value.int 0 :: Value.int 1 :: Value.int 0 :: [])))]) (wr := [((a 5), .inr (5, (Value.ref (a 30) :: Value.ref (a 31) :: Value.ref (a 32) :: Value.ref (a 33) :: Value.ref (a 34) :: Value.ref (a 35) :: Value.ref (a 36) :: Value.ref (a 37) :: Value.int 0 :: Value.int 0 :: Value.int 0 :: Value.int 0 :: Value.int 0 :: Value.int 0 :: Value.int 0 :: [])))]) (w1 := fun u => [((a 13), .inl (cI, 6, .inl (u.2 0))), (h0, .inr (11, (Value.ref (a 0) :: Value.ref (a 1) :: Value.ref (a 2) :: Value.ref (a 3) :: Value.ref (a 4) :: Value.ref (a 5) :: Value.ref (a 6) :: Value.ref (a 7) :: Value.ref (a 8) :: Value.ref (a 9) :: Value.ref (a 10) :: Value.ref (a 11) :: Value.ref (a 12) :: Value.ref (a 13) :: Value.ref (a 14) :: Value.int 0 :: Value.int 1 :: Value.int 0 :: [])))]) (v := some (.int (-1))) (st1 := [.int (-1)]) hP hD hS hA [0, 1] [2] rfl rfl (by decide) (by decide) (by decide) (fun hPc hDc => run_V (As := [.int 2]) (rest := []) ⟨hx, hb, hml, hown, hT⟩ (kX11_refuse_2 l D cI h0 a g0 _) sw_574 lkv_X11_refuse (p_M_V (ci := 11) (q0 := 1) hPc hK hDc rfl rfl) rfl hl.1 rfl (Nat.le_of_ble_eq_true rfl) dX11_set_16 ⟨⟨Nat.le_of_ble_eq_true rfl, Nat.le_of_ble_eq_true rfl⟩, Nat.le_of_ble_eq_true rfl, Nat.le_of_ble_eq_true rfl⟩) rfl (fun u_2 H locs hP hD hS => ?_)
  have hP : va_P D vwCl [((a 5), .inr (5, (Value.ref (a 30) :: Value.ref (a 31) :: Value.ref (a 32) :: Value.ref (a 33) :: Value.ref (a 34) :: Value.ref (a 35) :: Value.ref (a 36) :: Value.ref (a 37) :: Value.int 0 :: Value.int 0 :: Value.int 0 :: Value.int 0 :: Value.int 0 :: Value.int 0 :: Value.int 0 :: []))), ((a 13), .inl (cI, 6, .inl (u_2.2 0))), (h0, .inr (11, (Value.ref (a 0) :: Value.ref (a 1) :: Value.ref (a 2) :: Value.ref (a 3) :: Value.ref (a 4) :: Value.ref (a 5) :: Value.ref (a 6) :: Value.ref (a 7) :: Value.ref (a 8) :: Value.ref (a 9) :: Value.ref (a 10) :: Value.ref (a 11) :: Value.ref (a 12) :: Value.ref (a 13) :: Value.ref (a 14) :: Value.int 0 :: Value.int 1 :: Value.int 0 :: [])))] H := hP
  have hD : va_D A [((a 5), .inr (5, (Value.ref (a 30) :: Value.ref (a 31) :: Value.ref (a 32) :: Value.ref (a 33) :: Value.ref (a 34) :: Value.ref (a 35) :: Value.ref (a 36) :: Value.ref (a 37) :: Value.int 0 :: Value.int 0 :: Value.int 0 :: Value.int 0 :: Value.int 0 :: Value.int 0 :: Value.int 0 :: []))), ((a 13), .inl (cI, 6, .inl (u_2.2 0))), (h0, .inr (11, (Value.ref (a 0) :: Value.ref (a 1) :: Value.ref (a 2) :: Value.ref (a 3) :: Value.ref (a 4) :: Value.ref (a 5) :: Value.ref (a 6) :: Value.ref (a 7) :: Value.ref (a 8) :: Value.ref (a 9) :: Value.ref (a 10) :: Value.ref (a 11) :: Value.ref (a 12) :: Value.ref (a 13) :: Value.ref (a 14) :: Value.int 0 :: Value.int 1 :: Value.int 0 :: [])))] := hD
  have hP9 := hP.sub (ws' := []) [] rfl
  have hD9 := hD.sub (ws' := []) [] (by decide) rfl
  exact W.iret (v := (-1)) hx hb hr (fun t ht _ => ⟨rfl, ⟨(fun k => [].getD k 0, fun k => [].getD k zI), by rw [ht]; exact hP9, hD9⟩, hS.F ht⟩) hS.2.2 dX11_set_19
set_option maxHeartbeats 4000000 in
set_option maxRecDepth 100000 in
theorem kX11_why_0 (l : Launch) (D : va_G) (cI : ClassId) (h0 : Nat) (a : Nat → Nat) (p0 : Int32) : Met l yX11_why (sw_ws yX11_why cX11_why 2 (some .int)) (rm_ 0 0 0 0) (p_R D vwCl [(cI, .int)] [.ref h0, .int p0] [(h0, .inr (11, (Value.ref (a 0) :: Value.ref (a 1) :: Value.ref (a 2) :: Value.ref (a 3) :: Value.ref (a 4) :: Value.ref (a 5) :: Value.ref (a 6) :: Value.ref (a 7) :: Value.ref (a 8) :: Value.ref (a 9) :: Value.ref (a 10) :: Value.ref (a 11) :: Value.ref (a 12) :: Value.ref (a 13) :: Value.ref (a 14) :: Value.int 0 :: Value.int 0 :: Value.int 0 :: [])))]) (q_R (some (.int (sp_why p0)))) 0 0 (fun _ => False) := by
  refine Met.ofW (cc := cX11_why) (maxL := 2) (ret := (some .int)) (by decide) rfl ?_
  intro p e s m args below meth c s₁ B hml hv
  obtain ⟨rfl, hP, hK⟩ := hv
  have hx := B.exec
  have hb := B.bytes
  have hr := B.returns
  have hT := sw_in (atoms_spec (ws := sw_ws yX11_why cX11_why 2 (some .int)) B.pre)
  have hown : s.vm.findClass RX11 = some m.cls := findClass_of_methodNamed B.named
  have hlocks := B.notSynchronized
  have hl := lv_entry ([.ref h0, .int p0]) (n := 2) (Nat.le_of_ble_eq_true rfl)
  rw [lg_entry_eq]
  generalize (lg_sl ([.ref h0, .int p0]) ++ List.replicate (2 - (lg_sl ([.ref h0, .int p0])).length) Slot.unset).toArray = ls at hl ⊢
  have hl : lv_has ls 2 [(0, .ref h0), (1, .int p0)] := hl
  refine lv_iload_n hx hb dX11_why_0 rfl (lv_at hl 1 rfl) ?_
  refine lv_if_ne (tgt := 9) hx hb dX11_why_1 (by decide) (fun c_1 => ?_) (fun c_1 => ?_)
  · refine lv_iload_n hx hb dX11_why_9 rfl (lv_at hl 1 rfl) ?_
    refine lv_iconst (v := 1) hx hb dX11_why_10 (by decide) ?_
    refine lv_icmp_ne (tgt := 21) hx hb dX11_why_11 (by decide) (fun c_2 => ?_) (fun c_2 => ?_)
    · refine lv_iconst (v := (-1)) hx hb dX11_why_21 (by decide) ?_
      refine ct_i (z := sp_why p0) (pl_16 p0 c_1 c_2) ?_
      exact W.iret (v := sp_why p0) hx hb hr (fun t ht _ => ⟨rfl, ht⟩) (fun _ h9 => nomatch h9) dX11_why_22
    · refine lv_aload_n hx hb dX11_why_14 rfl (lv_at hl 0 rfl) ?_
      refine va_get (D := D) (ci := 11) (v := .int 0) (C := RX11) (T := TX11) (N := 18) hx hb hT ix_11 hown hK hP 0 rfl rfl 17 (by decide) (hT _ sw_532) (fun _ h9 => h9) rfl dX11_why_15 ?_
      refine lv_goto (tgt := 22) hx hb dX11_why_18 (by decide) ?_
      refine ct_i (z := sp_why p0) (pl_17 p0 c_1 c_2) ?_
      exact W.iret (v := sp_why p0) hx hb hr (fun t ht _ => ⟨rfl, ht⟩) (fun _ h9 => nomatch h9) dX11_why_22
  · refine lv_aload_n hx hb dX11_why_4 rfl (lv_at hl 0 rfl) ?_
    refine va_get (D := D) (ci := 11) (v := .int 0) (C := RX11) (T := TX11) (N := 18) hx hb hT ix_11 hown hK hP 0 rfl rfl 16 (by decide) (hT _ sw_531) (fun _ h9 => h9) rfl dX11_why_5 ?_
    refine ct_i (z := sp_why p0) (pl_18 p0 c_1) ?_
    exact W.iret (v := sp_why p0) hx hb hr (fun t ht _ => ⟨rfl, ht⟩) (fun _ h9 => nomatch h9) dX11_why_8
set_option maxHeartbeats 4000000 in
set_option maxRecDepth 100000 in
theorem kX11_refuse_3 (l : Launch) (D : va_G) (cI : ClassId) (h0 : Nat) (a : Nat → Nat) (g0 : Nat → Int32) (sz : Nat) : Met l yX11_refuse (sw_ws yX11_refuse cX11_refuse 2 (some .int)) (rm_ 0 0 0 0) (p_M D vwCl [(cI, .int)] [.ref h0, .int 3] [(h0, .inr (11, (Value.ref (a 0) :: Value.ref (a 1) :: Value.ref (a 2) :: Value.ref (a 3) :: Value.ref (a 4) :: Value.ref (a 5) :: Value.ref (a 6) :: Value.ref (a 7) :: Value.ref (a 8) :: Value.ref (a 9) :: Value.ref (a 10) :: Value.ref (a 11) :: Value.ref (a 12) :: Value.ref (a 13) :: Value.ref (a 14) :: Value.int 0 :: Value.int 0 :: Value.int 0 :: []))), ((a 13), .inl (cI, 6, .inl g0))] sz) (q_M D vwCl (some (.int (-1))) (fun u => [(h0, .inr (11, (Value.ref (a 0) :: Value.ref (a 1) :: Value.ref (a 2) :: Value.ref (a 3) :: Value.ref (a 4) :: Value.ref (a 5) :: Value.ref (a 6) :: Value.ref (a 7) :: Value.ref (a 8) :: Value.ref (a 9) :: Value.ref (a 10) :: Value.ref (a 11) :: Value.ref (a 12) :: Value.ref (a 13) :: Value.ref (a 14) :: Value.int 0 :: Value.int 0 :: Value.int 0 :: []))), ((a 13), .inl (cI, 6, .inl (u.2 0)))]) (va_A [(h0, .inr (11, (Value.ref (a 0) :: Value.ref (a 1) :: Value.ref (a 2) :: Value.ref (a 3) :: Value.ref (a 4) :: Value.ref (a 5) :: Value.ref (a 6) :: Value.ref (a 7) :: Value.ref (a 8) :: Value.ref (a 9) :: Value.ref (a 10) :: Value.ref (a 11) :: Value.ref (a 12) :: Value.ref (a 13) :: Value.ref (a 14) :: Value.int 0 :: Value.int 0 :: Value.int 0 :: []))), ((a 13), .inl (cI, 6, .inl g0))] sz)) 0 0 (va_A [(h0, .inr (11, (Value.ref (a 0) :: Value.ref (a 1) :: Value.ref (a 2) :: Value.ref (a 3) :: Value.ref (a 4) :: Value.ref (a 5) :: Value.ref (a 6) :: Value.ref (a 7) :: Value.ref (a 8) :: Value.ref (a 9) :: Value.ref (a 10) :: Value.ref (a 11) :: Value.ref (a 12) :: Value.ref (a 13) :: Value.ref (a 14) :: Value.int 0 :: Value.int 0 :: Value.int 0 :: []))), ((a 13), .inl (cI, 6, .inl g0))] sz) := by
  refine Met.ofW (cc := cX11_refuse) (maxL := 2) (ret := (some .int)) (by decide) rfl ?_
  intro p e s m args below meth c s₁ B hml hv
  obtain ⟨rfl, hsz, hP, hK, hD0⟩ := hv
  have hx := B.exec
  have hb := B.bytes
  have hr := B.returns
  have hT := sw_in (atoms_spec (ws := sw_ws yX11_refuse cX11_refuse 2 (some .int)) B.pre)
  have hown : s.vm.findClass RX11 = some m.cls := findClass_of_methodNamed B.named
  have hlocks := B.notSynchronized
  subst hsz
  have hD := hD0.self (sz := s.heap.size)
  generalize hAe : va_A [(h0, .inr (11, (Value.ref (a 0) :: Value.ref (a 1) :: Value.ref (a 2) :: Value.ref (a 3) :: Value.ref (a 4) :: Value.ref (a 5) :: Value.ref (a 6) :: Value.ref (a 7) :: Value.ref (a 8) :: Value.ref (a 9) :: Value.ref (a 10) :: Value.ref (a 11) :: Value.ref (a 12) :: Value.ref (a 13) :: Value.ref (a 14) :: Value.int 0 :: Value.int 0 :: Value.int 0 :: []))), ((a 13), .inl (cI, 6, .inl g0))] s.heap.size = A at hD ⊢
  have hA : ∀ q : Nat, s.heap.size ≤ q → A q := fun q h => by rw [← hAe]; exact Or.inr h
  have hS : va_S A s.heap s.heap [] := va_S.rf
  have hl := lv_entry ([.ref h0, .int 3]) (n := 2) (Nat.le_of_ble_eq_true rfl)
  rw [lg_entry_eq]
  generalize (lg_sl ([.ref h0, .int 3]) ++ List.replicate (2 - (lg_sl ([.ref h0, .int 3])).length) Slot.unset).toArray = ls at hl ⊢
  have hl : lv_has ls 2 [(0, .ref h0), (1, .int 3)] := hl
  refine lv_iload_n hx hb dX11_refuse_0 rfl (lv_at hl 1 rfl) ?_
  refine lv_if_lt (tgt := 23) hx hb dX11_refuse_1 (by decide) (fun h9 => absurd h9 (by decide)) (fun _ => ?_)
  refine lv_iload_n hx hb dX11_refuse_4 rfl (lv_at hl 1 rfl) ?_
  refine lv_aload_n hx hb dX11_refuse_5 rfl (lv_at hl 0 rfl) ?_
  refine va_get (D := D) (ci := 11) (v := .ref (a 13)) (C := RX11) (T := TX11) (N := 18) hx hb hT ix_11 hown hK hP 0 rfl rfl 13 (by decide) (hT _ sw_528) (fun _ h9 => h9) rfl dX11_refuse_6 ?_
  refine va_alen (v := 6) hx hb hK hP 1 0 rfl rfl (show Int32.ofNat 6 = 6 by decide) dX11_refuse_9 ?_
  refine lv_icmp_ge (tgt := 23) hx hb dX11_refuse_10 (by decide) (fun h9 => absurd h9 (by decide)) (fun _ => ?_)
  refine lv_aload_n hx hb dX11_refuse_13 rfl (lv_at hl 0 rfl) ?_
  refine va_get (D := D) (ci := 11) (v := .ref (a 13)) (C := RX11) (T := TX11) (N := 18) hx hb hT ix_11 hown hK hP 0 rfl rfl 13 (by decide) (hT _ sw_528) (fun _ h9 => h9) rfl dX11_refuse_14 ?_
  refine lv_iload_n hx hb dX11_refuse_17 rfl (lv_at hl 1 rfl) ?_
  refine lv_dup2_11 hx hb dX11_refuse_18 rfl rfl ?_
  refine va_iald hx hb hK hP 1 0 rfl rfl (vi_c (by decide +kernel)) dX11_refuse_19 ?_
  refine lv_topi (fun v_1 _ => ?_)
  refine lv_iconst (v := 1) hx hb dX11_refuse_20 (by decide) ?_
  refine lv_iadd hx hb dX11_refuse_21 ?_
  refine lv_topi (fun v_2 _ => ?_)
  refine va_iast hx hb hK hP hD hS 1 0 rfl rfl (vi_c (by decide +kernel)) dX11_refuse_22 (fun H locs hP hD hS => ?_)
  obtain ⟨f_3, hP, hD⟩ : ∃ f_3 : Nat → Int32, va_P D vwCl [(h0, .inr (11, (Value.ref (a 0) :: Value.ref (a 1) :: Value.ref (a 2) :: Value.ref (a 3) :: Value.ref (a 4) :: Value.ref (a 5) :: Value.ref (a 6) :: Value.ref (a 7) :: Value.ref (a 8) :: Value.ref (a 9) :: Value.ref (a 10) :: Value.ref (a 11) :: Value.ref (a 12) :: Value.ref (a 13) :: Value.ref (a 14) :: Value.int 0 :: Value.int 0 :: Value.int 0 :: []))), ((a 13), .inl (cI, 6, .inl f_3))] H ∧ va_D A [(h0, .inr (11, (Value.ref (a 0) :: Value.ref (a 1) :: Value.ref (a 2) :: Value.ref (a 3) :: Value.ref (a 4) :: Value.ref (a 5) :: Value.ref (a 6) :: Value.ref (a 7) :: Value.ref (a 8) :: Value.ref (a 9) :: Value.ref (a 10) :: Value.ref (a 11) :: Value.ref (a 12) :: Value.ref (a 13) :: Value.ref (a 14) :: Value.int 0 :: Value.int 0 :: Value.int 0 :: []))), ((a 13), .inl (cI, 6, .inl f_3))] := ⟨upd g0 (3 : Int32).toNatClampNeg v_2, hP, hD⟩
  refine lv_iconst (v := (-1)) hx hb dX11_refuse_23 (by decide) ?_
  have hP9 := hP.sub (ws' := [(h0, .inr (11, (Value.ref (a 0) :: Value.ref (a 1) :: Value.ref (a 2) :: Value.ref (a 3) :: Value.ref (a 4) :: Value.ref (a 5) :: Value.ref (a 6) :: Value.ref (a 7) :: Value.ref (a 8) :: Value.ref (a 9) :: Value.ref (a 10) :: Value.ref (a 11) :: Value.ref (a 12) :: Value.ref (a 13) :: Value.ref (a 14) :: Value.int 0 :: Value.int 0 :: Value.int 0 :: []))), ((a 13), .inl (cI, 6, .inl f_3))]) [0, 1] rfl
  have hD9 := hD.sub (ws' := [(h0, .inr (11, (Value.ref (a 0) :: Value.ref (a 1) :: Value.ref (a 2) :: Value.ref (a 3) :: Value.ref (a 4) :: Value.ref (a 5) :: Value.ref (a 6) :: Value.ref (a 7) :: Value.ref (a 8) :: Value.ref (a 9) :: Value.ref (a 10) :: Value.ref (a 11) :: Value.ref (a 12) :: Value.ref (a 13) :: Value.ref (a 14) :: Value.int 0 :: Value.int 0 :: Value.int 0 :: []))), ((a 13), .inl (cI, 6, .inl f_3))]) [0, 1] (by decide) rfl
  exact W.iret (v := (-1)) hx hb hr (fun t ht _ => ⟨rfl, ⟨(fun k => [].getD k 0, fun k => [f_3].getD k zI), by rw [ht]; exact hP9, hD9⟩, hS.F ht⟩) hS.2.2 dX11_refuse_24
