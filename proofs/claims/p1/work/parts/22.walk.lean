set_option maxHeartbeats 4000000 in
set_option maxRecDepth 100000 in
theorem kX4_skipBlanks_0 (l : Launch) (D : va_G) (cI : ClassId) (h0 : Nat) (a : Nat → Nat) (sz : Nat) : Met l yX4_skipBlanks (sw_ws yX4_skipBlanks cX4_skipBlanks 2 none) (rm_ 0 0 0 0) (p_M D vwCl [(cI, .int)] [.ref (a 2)] [((a 0), .inr (9, [.ref (a 15), .int 0])), ((a 2), .inr (4, [.ref (a 0), .ref (a 20), .int 0, .int 0, .int 0, .int 0, .int 0, .int 0, .int (-1)]))] sz) (q_M D vwCl none (fun u => [((a 0), .inr (9, [.ref (a 15), .int 0])), ((a 2), .inr (4, [.ref (a 0), .ref (a 20), .int 0, .int 0, .int 0, .int 0, .int 0, .int 0, .int (-1)]))]) (va_A [((a 0), .inr (9, [.ref (a 15), .int 0])), ((a 2), .inr (4, [.ref (a 0), .ref (a 20), .int 0, .int 0, .int 0, .int 0, .int 0, .int 0, .int (-1)]))] sz)) 0 0 (va_A [((a 0), .inr (9, [.ref (a 15), .int 0])), ((a 2), .inr (4, [.ref (a 0), .ref (a 20), .int 0, .int 0, .int 0, .int 0, .int 0, .int 0, .int (-1)]))] sz) := by
  refine Met.ofW (cc := cX4_skipBlanks) (maxL := 2) (ret := none) (by decide) rfl ?_
  intro p e s m args below meth c s₁ B hml hv
  obtain ⟨rfl, hsz, hP, hK, hD0⟩ := hv
  have hx := B.exec
  have hb := B.bytes
  have hr := B.returns
  have hT := sw_in (atoms_spec (ws := sw_ws yX4_skipBlanks cX4_skipBlanks 2 none) B.pre)
  have hown : s.vm.findClass RX4 = some m.cls := findClass_of_methodNamed B.named
  have hlocks := B.notSynchronized
  subst hsz
  have hD := hD0.self (sz := s.heap.size)
  generalize hAe : va_A [((a 0), .inr (9, [.ref (a 15), .int 0])), ((a 2), .inr (4, [.ref (a 0), .ref (a 20), .int 0, .int 0, .int 0, .int 0, .int 0, .int 0, .int (-1)]))] s.heap.size = A at hD ⊢
  have hA : ∀ q : Nat, s.heap.size ≤ q → A q := fun q h => by rw [← hAe]; exact Or.inr h
  have hS : va_S A s.heap s.heap [] := va_S.rf
  have hl := lv_entry ([.ref (a 2)]) (n := 2) (Nat.le_of_ble_eq_true rfl)
  rw [lg_entry_eq]
  generalize (lg_sl ([.ref (a 2)]) ++ List.replicate (2 - (lg_sl ([.ref (a 2)])).length) Slot.unset).toArray = ls at hl ⊢
  have hl : lv_has ls 2 [(0, .ref (a 2))] := hl
  refine lv_aload_n hx hb dX4_skipBlanks_0 rfl (lv_at hl 0 rfl) ?_
  refine va_get (D := D) (ci := 4) (v := .int 0) (C := RX4) (T := TX4) (N := 9) hx hb hT ix_4 hown hK hP 1 rfl rfl 2 (by decide) (hT _ sw_218) (fun _ h9 => h9) rfl dX4_skipBlanks_1 ?_
  refine lv_istore_n (lv' := [(1, .int 0), (0, .ref (a 2))]) hx hb dX4_skipBlanks_4 rfl hl (by decide) rfl (fun ls hl => ?_)
  refine lv_aload_n hx hb dX4_skipBlanks_5 rfl (lv_at hl 1 rfl) ?_
  refine va_get (D := D) (ci := 4) (v := .int 0) (C := RX4) (T := TX4) (N := 9) hx hb hT ix_4 hown hK hP 1 rfl rfl 2 (by decide) (hT _ sw_218) (fun _ h9 => h9) rfl dX4_skipBlanks_6 ?_
  refine lv_aload_n hx hb dX4_skipBlanks_9 rfl (lv_at hl 1 rfl) ?_
  refine va_get (D := D) (ci := 4) (v := .ref (a 0)) (C := RX4) (T := TX4) (N := 9) hx hb hT ix_4 hown hK hP 1 rfl rfl 0 (by decide) (hT _ sw_215) (fun _ h9 => h9) rfl dX4_skipBlanks_10 ?_
  refine va_getN (D := D) (ci := 9) (v := .int 0) (C := RX9) (T := TX9) (N := 2) hx hb hT ix_9 hown hK hP 0 rfl rfl 1 (by decide) (hT _ sw_159) (fun _ h9 => h9) rfl dX4_skipBlanks_13 ?_
  refine lv_icmp_ge (tgt := 50) hx hb dX4_skipBlanks_16 (by decide) (fun _ => ?_) (fun h9 => absurd (by decide) h9)
  refine lv_aload_n hx hb dX4_skipBlanks_50 rfl (lv_at hl 1 rfl) ?_
  refine lv_aload_n hx hb dX4_skipBlanks_51 rfl (lv_at hl 1 rfl) ?_
  refine va_get (D := D) (ci := 4) (v := .int 0) (C := RX4) (T := TX4) (N := 9) hx hb hT ix_4 hown hK hP 1 rfl rfl 2 (by decide) (hT _ sw_218) (fun _ h9 => h9) rfl dX4_skipBlanks_52 ?_
  refine lv_iload_n hx hb dX4_skipBlanks_55 rfl (lv_at hl 0 rfl) ?_
  refine lv_icmp_le (tgt := 63) hx hb dX4_skipBlanks_56 (by decide) (fun _ => ?_) (fun h9 => absurd (by decide) h9)
  refine lv_iconst (v := 0) hx hb dX4_skipBlanks_63 (by decide) ?_
  refine va_put (D := D) (ci := 4) (v := .int 0) (ty := .boolean) (C := RX4) (T := TX4) (N := 9) hx hb hT ix_4 tyX4 tyX4_ok nmX4 hown hK hP hD hS 1 rfl rfl 6 (by decide) (hT _ sw_222) (fun _ h9 => h9) rfl (by decide +kernel) rfl rfl (Nat.le_of_ble_eq_true rfl) dX4_skipBlanks_64 (fun H locs hP hD hS => ?_)
  have hP : va_P D vwCl [((a 0), .inr (9, [.ref (a 15), .int 0])), ((a 2), .inr (4, [.ref (a 0), .ref (a 20), .int 0, .int 0, .int 0, .int 0, .int 0, .int 0, .int (-1)]))] H := hP
  have hD : va_D A [((a 0), .inr (9, [.ref (a 15), .int 0])), ((a 2), .inr (4, [.ref (a 0), .ref (a 20), .int 0, .int 0, .int 0, .int 0, .int 0, .int 0, .int (-1)]))] := hD
  have hP9 := hP.sub (ws' := [((a 0), .inr (9, [.ref (a 15), .int 0])), ((a 2), .inr (4, [.ref (a 0), .ref (a 20), .int 0, .int 0, .int 0, .int 0, .int 0, .int 0, .int (-1)]))]) [0, 1] rfl
  have hD9 := hD.sub (ws' := [((a 0), .inr (9, [.ref (a 15), .int 0])), ((a 2), .inr (4, [.ref (a 0), .ref (a 20), .int 0, .int 0, .int 0, .int 0, .int 0, .int 0, .int (-1)]))]) [0, 1] (by decide) rfl
  exact W.vret hx hb hr (fun t ht _ => ⟨rfl, ⟨(fun k => [].getD k 0, fun k => [].getD k zI), by rw [ht]; exact hP9, hD9⟩, hS.F ht⟩) hS.2.2 dX4_skipBlanks_67
set_option maxHeartbeats 4000000 in
set_option maxRecDepth 100000 in
theorem kX4_readWord_0 (l : Launch) (D : va_G) (cI : ClassId) (h0 : Nat) (a : Nat → Nat) (sz : Nat) : Met l yX4_readWord (sw_ws yX4_readWord cX4_readWord 1 none) (rm_ 1 21 0 0) (p_M D vwCl [(cI, .int)] [.ref (a 2)] [((a 0), .inr (9, [.ref (a 15), .int 0])), ((a 2), .inr (4, [.ref (a 0), .ref (a 20), .int 0, .int 0, .int 0, .int 0, .int 0, .int 0, .int (-1)]))] sz) (q_M D vwCl none (fun u => [((a 0), .inr (9, [.ref (a 15), .int 0])), ((a 2), .inr (4, [.ref (a 0), .ref (a 20), .int 0, .int 0, .int 0, .int 0, .int 0, .int 0, .int (-1)]))]) (va_A [((a 0), .inr (9, [.ref (a 15), .int 0])), ((a 2), .inr (4, [.ref (a 0), .ref (a 20), .int 0, .int 0, .int 0, .int 0, .int 0, .int 0, .int (-1)]))] sz)) 0 0 (va_A [((a 0), .inr (9, [.ref (a 15), .int 0])), ((a 2), .inr (4, [.ref (a 0), .ref (a 20), .int 0, .int 0, .int 0, .int 0, .int 0, .int 0, .int (-1)]))] sz) := by
  refine Met.ofW (cc := cX4_readWord) (maxL := 1) (ret := none) (by decide) rfl ?_
  intro p e s m args below meth c s₁ B hml hv
  obtain ⟨rfl, hsz, hP, hK, hD0⟩ := hv
  have hx := B.exec
  have hb := B.bytes
  have hr := B.returns
  have hT := sw_in (atoms_spec (ws := sw_ws yX4_readWord cX4_readWord 1 none) B.pre)
  have hown : s.vm.findClass RX4 = some m.cls := findClass_of_methodNamed B.named
  have hlocks := B.notSynchronized
  subst hsz
  have hD := hD0.self (sz := s.heap.size)
  generalize hAe : va_A [((a 0), .inr (9, [.ref (a 15), .int 0])), ((a 2), .inr (4, [.ref (a 0), .ref (a 20), .int 0, .int 0, .int 0, .int 0, .int 0, .int 0, .int (-1)]))] s.heap.size = A at hD ⊢
  have hA : ∀ q : Nat, s.heap.size ≤ q → A q := fun q h => by rw [← hAe]; exact Or.inr h
  have hS : va_S A s.heap s.heap [] := va_S.rf
  have hl := lv_entry ([.ref (a 2)]) (n := 1) (Nat.le_of_ble_eq_true rfl)
  rw [lg_entry_eq]
  generalize (lg_sl ([.ref (a 2)]) ++ List.replicate (1 - (lg_sl ([.ref (a 2)])).length) Slot.unset).toArray = ls at hl ⊢
  have hl : lv_has ls 1 [(0, .ref (a 2))] := hl
  refine lv_aload_n hx hb dX4_readWord_0 rfl (lv_at hl 0 rfl) ?_
  refine go_M (wc := [((a 0), .inr (9, [.ref (a 15), .int 0])), ((a 2), .inr (4, [.ref (a 0), .ref (a 20), .int 0, .int 0, .int 0, .int 0, .int 0, .int 0, .int (-1)]))]) (wr := []) (w1 := fun u => [((a 0), .inr (9, [.ref (a 15), .int 0])), ((a 2), .inr (4, [.ref (a 0), .ref (a 20), .int 0, .int 0, .int 0, .int 0, .int 0, .int 0, .int (-1)]))]) (v := none) (st1 := []) hP hD hS hA [0, 1] [] rfl rfl (by decide) (by decide) (by decide) (fun hPc hDc => run_V (As := []) (rest := []) ⟨hx, hb, hml, hown, hT⟩ (kX4_skipBlanks_0 l D cI h0 a _) sw_614 lkv_X4_skipBlanks (p_M_V (ci := 4) (q0 := 1) hPc hK hDc rfl rfl) rfl hl.1 rfl (Nat.le_of_ble_eq_true rfl) dX4_readWord_1 ⟨⟨Nat.le_of_ble_eq_true rfl, Nat.le_of_ble_eq_true rfl⟩, Nat.le_of_ble_eq_true rfl, Nat.le_of_ble_eq_true rfl⟩) rfl (fun u_1 H locs hP hD hS => ?_)
  have hP : va_P D vwCl [((a 0), .inr (9, [.ref (a 15), .int 0])), ((a 2), .inr (4, [.ref (a 0), .ref (a 20), .int 0, .int 0, .int 0, .int 0, .int 0, .int 0, .int (-1)]))] H := hP
  have hD : va_D A [((a 0), .inr (9, [.ref (a 15), .int 0])), ((a 2), .inr (4, [.ref (a 0), .ref (a 20), .int 0, .int 0, .int 0, .int 0, .int 0, .int 0, .int (-1)]))] := hD
  refine lv_aload_n hx hb dX4_readWord_4 rfl (lv_at hl 0 rfl) ?_
  refine lv_aload_n hx hb dX4_readWord_5 rfl (lv_at hl 0 rfl) ?_
  refine va_get (D := D) (ci := 4) (v := .int 0) (C := RX4) (T := TX4) (N := 9) hx hb hT ix_4 hown hK hP 1 rfl rfl 2 (by decide) (hT _ sw_218) (fun _ h9 => h9) rfl dX4_readWord_6 ?_
  refine va_put (D := D) (ci := 4) (v := .int 0) (ty := .int) (C := RX4) (T := TX4) (N := 9) hx hb hT ix_4 tyX4 tyX4_ok nmX4 hown hK hP hD hS 1 rfl rfl 3 (by decide) (hT _ sw_219) (fun _ h9 => h9) rfl (by decide +kernel) rfl rfl (Nat.le_of_ble_eq_true rfl) dX4_readWord_9 (fun H locs hP hD hS => ?_)
  have hP : va_P D vwCl [((a 0), .inr (9, [.ref (a 15), .int 0])), ((a 2), .inr (4, [.ref (a 0), .ref (a 20), .int 0, .int 0, .int 0, .int 0, .int 0, .int 0, .int (-1)]))] H := hP
  have hD : va_D A [((a 0), .inr (9, [.ref (a 15), .int 0])), ((a 2), .inr (4, [.ref (a 0), .ref (a 20), .int 0, .int 0, .int 0, .int 0, .int 0, .int 0, .int (-1)]))] := hD
  refine lv_aload_n hx hb dX4_readWord_12 rfl (lv_at hl 0 rfl) ?_
  refine va_get (D := D) (ci := 4) (v := .int 0) (C := RX4) (T := TX4) (N := 9) hx hb hT ix_4 hown hK hP 1 rfl rfl 2 (by decide) (hT _ sw_218) (fun _ h9 => h9) rfl dX4_readWord_13 ?_
  refine lv_aload_n hx hb dX4_readWord_16 rfl (lv_at hl 0 rfl) ?_
  refine va_get (D := D) (ci := 4) (v := .ref (a 0)) (C := RX4) (T := TX4) (N := 9) hx hb hT ix_4 hown hK hP 1 rfl rfl 0 (by decide) (hT _ sw_215) (fun _ h9 => h9) rfl dX4_readWord_17 ?_
  refine va_getN (D := D) (ci := 9) (v := .int 0) (C := RX9) (T := TX9) (N := 2) hx hb hT ix_9 hown hK hP 0 rfl rfl 1 (by decide) (hT _ sw_159) (fun _ h9 => h9) rfl dX4_readWord_20 ?_
  refine lv_icmp_ge (tgt := 49) hx hb dX4_readWord_23 (by decide) (fun _ => ?_) (fun h9 => absurd (by decide) h9)
  refine lv_aload_n hx hb dX4_readWord_49 rfl (lv_at hl 0 rfl) ?_
  refine lv_aload_n hx hb dX4_readWord_50 rfl (lv_at hl 0 rfl) ?_
  refine va_get (D := D) (ci := 4) (v := .int 0) (C := RX4) (T := TX4) (N := 9) hx hb hT ix_4 hown hK hP 1 rfl rfl 2 (by decide) (hT _ sw_218) (fun _ h9 => h9) rfl dX4_readWord_51 ?_
  refine lv_aload_n hx hb dX4_readWord_54 rfl (lv_at hl 0 rfl) ?_
  refine va_get (D := D) (ci := 4) (v := .int 0) (C := RX4) (T := TX4) (N := 9) hx hb hT ix_4 hown hK hP 1 rfl rfl 3 (by decide) (hT _ sw_219) (fun _ h9 => h9) rfl dX4_readWord_55 ?_
  refine lv_isub hx hb dX4_readWord_58 ?_
  refine ct_i (z := 0) (by decide) ?_
  refine va_put (D := D) (ci := 4) (v := .int 0) (ty := .int) (C := RX4) (T := TX4) (N := 9) hx hb hT ix_4 tyX4 tyX4_ok nmX4 hown hK hP hD hS 1 rfl rfl 4 (by decide) (hT _ sw_220) (fun _ h9 => h9) rfl (by decide +kernel) rfl rfl (Nat.le_of_ble_eq_true rfl) dX4_readWord_59 (fun H locs hP hD hS => ?_)
  have hP : va_P D vwCl [((a 0), .inr (9, [.ref (a 15), .int 0])), ((a 2), .inr (4, [.ref (a 0), .ref (a 20), .int 0, .int 0, .int 0, .int 0, .int 0, .int 0, .int (-1)]))] H := hP
  have hD : va_D A [((a 0), .inr (9, [.ref (a 15), .int 0])), ((a 2), .inr (4, [.ref (a 0), .ref (a 20), .int 0, .int 0, .int 0, .int 0, .int 0, .int 0, .int (-1)]))] := hD
  have hP9 := hP.sub (ws' := [((a 0), .inr (9, [.ref (a 15), .int 0])), ((a 2), .inr (4, [.ref (a 0), .ref (a 20), .int 0, .int 0, .int 0, .int 0, .int 0, .int 0, .int (-1)]))]) [0, 1] rfl
  have hD9 := hD.sub (ws' := [((a 0), .inr (9, [.ref (a 15), .int 0])), ((a 2), .inr (4, [.ref (a 0), .ref (a 20), .int 0, .int 0, .int 0, .int 0, .int 0, .int 0, .int (-1)]))]) [0, 1] (by decide) rfl
  exact W.vret hx hb hr (fun t ht _ => ⟨rfl, ⟨(fun k => [].getD k 0, fun k => [].getD k zI), by rw [ht]; exact hP9, hD9⟩, hS.F ht⟩) hS.2.2 dX4_readWord_62
set_option maxHeartbeats 4000000 in
set_option maxRecDepth 100000 in
theorem kX4_isWord_0 (l : Launch) (D : va_G) (cI : ClassId) (h0 : Nat) (a : Nat → Nat) (aS aV : Nat) : Met l yX4_isWord (sw_ws yX4_isWord cX4_isWord 3 (some .boolean)) (rm_ 2 40 0 0) (p_RZ D vwCl [(cI, .int)] [.ref (a 2), .ref aS] [((a 2), .inr (4, [.ref (a 0), .ref (a 20), .int 0, .int 0, .int 0, .int 0, .int 0, .int 0, .int (-1)]))] aS aV) (q_R (some (.int 0))) 0 0 (fun _ => False) := by
  refine Met.ofW (cc := cX4_isWord) (maxL := 3) (ret := (some .boolean)) (by decide) rfl ?_
  intro p e s m args below meth c s₁ B hml hv
  obtain ⟨hv, hZ⟩ := hv
  obtain ⟨rfl, hP, hK⟩ := hv
  have hx := B.exec
  have hb := B.bytes
  have hr := B.returns
  have hT := sw_in (atoms_spec (ws := sw_ws yX4_isWord cX4_isWord 3 (some .boolean)) B.pre)
  have hown : s.vm.findClass RX4 = some m.cls := findClass_of_methodNamed B.named
  have hlocks := B.notSynchronized
  have hl := lv_entry ([.ref (a 2), .ref aS]) (n := 3) (Nat.le_of_ble_eq_true rfl)
  rw [lg_entry_eq]
  generalize (lg_sl ([.ref (a 2), .ref aS]) ++ List.replicate (3 - (lg_sl ([.ref (a 2), .ref aS])).length) Slot.unset).toArray = ls at hl ⊢
  have hl : lv_has ls 3 [(0, .ref (a 2)), (1, .ref aS)] := hl
  refine lv_aload_n hx hb dX4_isWord_0 rfl (lv_at hl 1 rfl) ?_
  refine go_R (v := some (.int 5)) (st1 := [.int 5]) (run_V (As := []) (rest := []) ⟨hx, hb, hml, hown, hT⟩ (kJ0_length l aS aV) sw_632 lkv_J0_length_8abf5 (p_Z_V (fun U hW => hZ.on (fun _ _ _ => rfl) (fun _ h => h) hW) (hZ.recv (fun _ _ _ => rfl))) rfl hl.1 rfl (Nat.le_of_ble_eq_true rfl) dX4_isWord_1 ⟨⟨Nat.le_of_ble_eq_true rfl, Nat.le_of_ble_eq_true rfl⟩, Nat.le_of_ble_eq_true rfl, Nat.le_of_ble_eq_true rfl⟩) rfl ?_
  refine lv_aload_n hx hb dX4_isWord_4 rfl (lv_at hl 0 rfl) ?_
  refine va_get (D := D) (ci := 4) (v := .int 0) (C := RX4) (T := TX4) (N := 9) hx hb hT ix_4 hown hK hP 0 rfl rfl 4 (by decide) (hT _ sw_220) (fun _ h9 => h9) rfl dX4_isWord_5 ?_
  refine lv_icmp_eq (tgt := 13) hx hb dX4_isWord_8 (by decide) (fun h9 => absurd h9 (by decide)) (fun _ => ?_)
  refine lv_iconst (v := 0) hx hb dX4_isWord_11 (by decide) ?_
  exact W.zret (v := 0) hx hb hr (by decide) (fun t ht _ => ⟨rfl, ht⟩) (fun _ h9 => nomatch h9) dX4_isWord_12
set_option maxHeartbeats 4000000 in
set_option maxRecDepth 100000 in
theorem kX4_fail_0 (l : Launch) (D : va_G) (cI : ClassId) (h0 : Nat) (a : Nat → Nat) (sz : Nat) : Met l yX4_fail (sw_ws yX4_fail cX4_fail 3 (some .boolean)) (rm_ 0 0 0 0) (p_M D vwCl [(cI, .int)] [.ref (a 2), .int 1, .int 0] [((a 2), .inr (4, [.ref (a 0), .ref (a 20), .int 0, .int 0, .int 0, .int 0, .int 0, .int 0, .int (-1)]))] sz) (q_M D vwCl (some (.int 0)) (fun u => [((a 2), .inr (4, [.ref (a 0), .ref (a 20), .int 0, .int 0, .int 0, .int 0, .int 0, .int 1, .int 0]))]) (va_A [((a 2), .inr (4, [.ref (a 0), .ref (a 20), .int 0, .int 0, .int 0, .int 0, .int 0, .int 0, .int (-1)]))] sz)) 0 0 (va_A [((a 2), .inr (4, [.ref (a 0), .ref (a 20), .int 0, .int 0, .int 0, .int 0, .int 0, .int 0, .int (-1)]))] sz) := by
  refine Met.ofW (cc := cX4_fail) (maxL := 3) (ret := (some .boolean)) (by decide) rfl ?_
  intro p e s m args below meth c s₁ B hml hv
  obtain ⟨rfl, hsz, hP, hK, hD0⟩ := hv
  have hx := B.exec
  have hb := B.bytes
  have hr := B.returns
  have hT := sw_in (atoms_spec (ws := sw_ws yX4_fail cX4_fail 3 (some .boolean)) B.pre)
  have hown : s.vm.findClass RX4 = some m.cls := findClass_of_methodNamed B.named
  have hlocks := B.notSynchronized
  subst hsz
  have hD := hD0.self (sz := s.heap.size)
  generalize hAe : va_A [((a 2), .inr (4, [.ref (a 0), .ref (a 20), .int 0, .int 0, .int 0, .int 0, .int 0, .int 0, .int (-1)]))] s.heap.size = A at hD ⊢
  have hA : ∀ q : Nat, s.heap.size ≤ q → A q := fun q h => by rw [← hAe]; exact Or.inr h
  have hS : va_S A s.heap s.heap [] := va_S.rf
  have hl := lv_entry ([.ref (a 2), .int 1, .int 0]) (n := 3) (Nat.le_of_ble_eq_true rfl)
  rw [lg_entry_eq]
  generalize (lg_sl ([.ref (a 2), .int 1, .int 0]) ++ List.replicate (3 - (lg_sl ([.ref (a 2), .int 1, .int 0])).length) Slot.unset).toArray = ls at hl ⊢
  have hl : lv_has ls 3 [(0, .ref (a 2)), (1, .int 1), (2, .int 0)] := hl
  refine lv_aload_n hx hb dX4_fail_0 rfl (lv_at hl 0 rfl) ?_
  refine lv_iload_n hx hb dX4_fail_1 rfl (lv_at hl 1 rfl) ?_
  refine va_put (D := D) (ci := 4) (v := .int 1) (ty := .int) (C := RX4) (T := TX4) (N := 9) hx hb hT ix_4 tyX4 tyX4_ok nmX4 hown hK hP hD hS 0 rfl rfl 7 (by decide) (hT _ sw_223) (fun _ h9 => h9) rfl (by decide +kernel) rfl rfl (Nat.le_of_ble_eq_true rfl) dX4_fail_2 (fun H locs hP hD hS => ?_)
  have hP : va_P D vwCl [((a 2), .inr (4, [.ref (a 0), .ref (a 20), .int 0, .int 0, .int 0, .int 0, .int 0, .int 1, .int (-1)]))] H := hP
  have hD : va_D A [((a 2), .inr (4, [.ref (a 0), .ref (a 20), .int 0, .int 0, .int 0, .int 0, .int 0, .int 1, .int (-1)]))] := hD
  refine lv_aload_n hx hb dX4_fail_5 rfl (lv_at hl 0 rfl) ?_
  refine lv_iload_n hx hb dX4_fail_6 rfl (lv_at hl 2 rfl) ?_
  refine va_put (D := D) (ci := 4) (v := .int 0) (ty := .int) (C := RX4) (T := TX4) (N := 9) hx hb hT ix_4 tyX4 tyX4_ok nmX4 hown hK hP hD hS 0 rfl rfl 8 (by decide) (hT _ sw_225) (fun _ h9 => h9) rfl (by decide +kernel) rfl rfl (Nat.le_of_ble_eq_true rfl) dX4_fail_7 (fun H locs hP hD hS => ?_)
  have hP : va_P D vwCl [((a 2), .inr (4, [.ref (a 0), .ref (a 20), .int 0, .int 0, .int 0, .int 0, .int 0, .int 1, .int 0]))] H := hP
  have hD : va_D A [((a 2), .inr (4, [.ref (a 0), .ref (a 20), .int 0, .int 0, .int 0, .int 0, .int 0, .int 1, .int 0]))] := hD
  refine lv_iconst (v := 0) hx hb dX4_fail_10 (by decide) ?_
  have hP9 := hP.sub (ws' := [((a 2), .inr (4, [.ref (a 0), .ref (a 20), .int 0, .int 0, .int 0, .int 0, .int 0, .int 1, .int 0]))]) [0] rfl
  have hD9 := hD.sub (ws' := [((a 2), .inr (4, [.ref (a 0), .ref (a 20), .int 0, .int 0, .int 0, .int 0, .int 0, .int 1, .int 0]))]) [0] (by decide) rfl
  exact W.zret (v := 0) hx hb hr (by decide) (fun t ht _ => ⟨rfl, ⟨(fun k => [].getD k 0, fun k => [].getD k zI), by rw [ht]; exact hP9, hD9⟩, hS.F ht⟩) hS.2.2 dX4_fail_11
set_option maxHeartbeats 4000000 in
set_option maxRecDepth 100000 in
theorem kX4_readKeyword_0 (l : Launch) (D : va_G) (cI : ClassId) (h0 : Nat) (a : Nat → Nat) (aS aV : Nat) (sz : Nat) : Met l yX4_readKeyword (sw_ws yX4_readKeyword cX4_readKeyword 2 (some .boolean)) (rm_ 3 62 0 0) (p_MZ D vwCl [(cI, .int)] [.ref (a 2), .ref aS] [((a 0), .inr (9, [.ref (a 15), .int 0])), ((a 2), .inr (4, [.ref (a 0), .ref (a 20), .int 0, .int 0, .int 0, .int 0, .int 0, .int 0, .int (-1)]))] sz aS aV) (q_M D vwCl (some (.int 0)) (fun u => [((a 0), .inr (9, [.ref (a 15), .int 0])), ((a 2), .inr (4, [.ref (a 0), .ref (a 20), .int 0, .int 0, .int 0, .int 0, .int 0, .int 1, .int 0]))]) (va_A [((a 0), .inr (9, [.ref (a 15), .int 0])), ((a 2), .inr (4, [.ref (a 0), .ref (a 20), .int 0, .int 0, .int 0, .int 0, .int 0, .int 0, .int (-1)]))] sz)) 0 0 (va_A [((a 0), .inr (9, [.ref (a 15), .int 0])), ((a 2), .inr (4, [.ref (a 0), .ref (a 20), .int 0, .int 0, .int 0, .int 0, .int 0, .int 0, .int (-1)]))] sz) := by
  refine Met.ofW (cc := cX4_readKeyword) (maxL := 2) (ret := (some .boolean)) (by decide) rfl ?_
  intro p e s m args below meth c s₁ B hml hv
  obtain ⟨hv, hZ⟩ := hv
  obtain ⟨rfl, hsz, hP, hK, hD0⟩ := hv
  have hx := B.exec
  have hb := B.bytes
  have hr := B.returns
  have hT := sw_in (atoms_spec (ws := sw_ws yX4_readKeyword cX4_readKeyword 2 (some .boolean)) B.pre)
  have hown : s.vm.findClass RX4 = some m.cls := findClass_of_methodNamed B.named
  have hlocks := B.notSynchronized
  subst hsz
  have hD := hD0.self (sz := s.heap.size)
  generalize hAe : va_A [((a 0), .inr (9, [.ref (a 15), .int 0])), ((a 2), .inr (4, [.ref (a 0), .ref (a 20), .int 0, .int 0, .int 0, .int 0, .int 0, .int 0, .int (-1)]))] s.heap.size = A at hD hZ ⊢
  have hA : ∀ q : Nat, s.heap.size ≤ q → A q := fun q h => by rw [← hAe]; exact Or.inr h
  have hS : va_S A s.heap s.heap [] := va_S.rf
  have hl := lv_entry ([.ref (a 2), .ref aS]) (n := 2) (Nat.le_of_ble_eq_true rfl)
  rw [lg_entry_eq]
  generalize (lg_sl ([.ref (a 2), .ref aS]) ++ List.replicate (2 - (lg_sl ([.ref (a 2), .ref aS])).length) Slot.unset).toArray = ls at hl ⊢
  have hl : lv_has ls 2 [(0, .ref (a 2)), (1, .ref aS)] := hl
  refine lv_aload_n hx hb dX4_readKeyword_0 rfl (lv_at hl 0 rfl) ?_
  refine go_M (wc := [((a 0), .inr (9, [.ref (a 15), .int 0])), ((a 2), .inr (4, [.ref (a 0), .ref (a 20), .int 0, .int 0, .int 0, .int 0, .int 0, .int 0, .int (-1)]))]) (wr := []) (w1 := fun u => [((a 0), .inr (9, [.ref (a 15), .int 0])), ((a 2), .inr (4, [.ref (a 0), .ref (a 20), .int 0, .int 0, .int 0, .int 0, .int 0, .int 0, .int (-1)]))]) (v := none) (st1 := []) hP hD hS hA [0, 1] [] rfl rfl (by decide) (by decide) (by decide) (fun hPc hDc => run_V (As := []) (rest := []) ⟨hx, hb, hml, hown, hT⟩ (kX4_readWord_0 l D cI h0 a _) sw_610 lkv_X4_readWord (p_M_V (ci := 4) (q0 := 1) hPc hK hDc rfl rfl) rfl hl.1 rfl (Nat.le_of_ble_eq_true rfl) dX4_readKeyword_1 ⟨⟨Nat.le_of_ble_eq_true rfl, Nat.le_of_ble_eq_true rfl⟩, Nat.le_of_ble_eq_true rfl, Nat.le_of_ble_eq_true rfl⟩) rfl (fun u_1 H locs hP hD hS => ?_)
  have hP : va_P D vwCl [((a 0), .inr (9, [.ref (a 15), .int 0])), ((a 2), .inr (4, [.ref (a 0), .ref (a 20), .int 0, .int 0, .int 0, .int 0, .int 0, .int 0, .int (-1)]))] H := hP
  have hD : va_D A [((a 0), .inr (9, [.ref (a 15), .int 0])), ((a 2), .inr (4, [.ref (a 0), .ref (a 20), .int 0, .int 0, .int 0, .int 0, .int 0, .int 0, .int (-1)]))] := hD
  refine lv_aload_n hx hb dX4_readKeyword_4 rfl (lv_at hl 0 rfl) ?_
  refine lv_aload_n hx hb dX4_readKeyword_5 rfl (lv_at hl 1 rfl) ?_
  refine go_R (v := some (.int 0)) (st1 := [.int 0]) (run_V (As := [.ref aS]) (rest := []) ⟨hx, hb, hml, hown, hT⟩ (kX4_isWord_0 l D cI h0 a aS aV) sw_628 lkv_X4_isWord (p_RZ_V (ci := 4) (q0 := 0) (hP.sub (ws' := [((a 2), .inr (4, [.ref (a 0), .ref (a 20), .int 0, .int 0, .int 0, .int 0, .int 0, .int 0, .int (-1)]))]) [1] rfl) hK rfl rfl (fun U hW => hZ.on hS.2.1 (fun _ h => h.elim) hW)) rfl hl.1 rfl (Nat.le_of_ble_eq_true rfl) dX4_readKeyword_6 ⟨⟨Nat.le_of_ble_eq_true rfl, Nat.le_of_ble_eq_true rfl⟩, Nat.le_of_ble_eq_true rfl, Nat.le_of_ble_eq_true rfl⟩) rfl ?_
  refine lv_if_ne (tgt := 24) hx hb dX4_readKeyword_9 (by decide) (fun h9 => absurd (by decide) h9) (fun _ => ?_)
  refine lv_aload_n hx hb dX4_readKeyword_12 rfl (lv_at hl 0 rfl) ?_
  refine lv_iconst (v := 1) hx hb dX4_readKeyword_13 (by decide) ?_
  refine lv_aload_n hx hb dX4_readKeyword_14 rfl (lv_at hl 0 rfl) ?_
  refine va_get (D := D) (ci := 4) (v := .int 0) (C := RX4) (T := TX4) (N := 9) hx hb hT ix_4 hown hK hP 1 rfl rfl 3 (by decide) (hT _ sw_219) (fun _ h9 => h9) rfl dX4_readKeyword_15 ?_
  refine go_M (wc := [((a 2), .inr (4, [.ref (a 0), .ref (a 20), .int 0, .int 0, .int 0, .int 0, .int 0, .int 0, .int (-1)]))]) (wr := [((a 0), .inr (9, [.ref (a 15), .int 0]))]) (w1 := fun u => [((a 2), .inr (4, [.ref (a 0), .ref (a 20), .int 0, .int 0, .int 0, .int 0, .int 0, .int 1, .int 0]))]) (v := some (.int 0)) (st1 := [.int 0]) hP hD hS hA [1] [0] rfl rfl (by decide) (by decide) (by decide) (fun hPc hDc => run_V (As := [.int 1, .int 0]) (rest := []) ⟨hx, hb, hml, hown, hT⟩ (kX4_fail_0 l D cI h0 a _) sw_680 lkv_X4_fail (p_M_V (ci := 4) (q0 := 0) hPc hK hDc rfl rfl) rfl hl.1 rfl (Nat.le_of_ble_eq_true rfl) dX4_readKeyword_18 ⟨⟨Nat.le_of_ble_eq_true rfl, Nat.le_of_ble_eq_true rfl⟩, Nat.le_of_ble_eq_true rfl, Nat.le_of_ble_eq_true rfl⟩) rfl (fun u_2 H locs hP hD hS => ?_)
  have hP : va_P D vwCl [((a 0), .inr (9, [.ref (a 15), .int 0])), ((a 2), .inr (4, [.ref (a 0), .ref (a 20), .int 0, .int 0, .int 0, .int 0, .int 0, .int 1, .int 0]))] H := hP
  have hD : va_D A [((a 0), .inr (9, [.ref (a 15), .int 0])), ((a 2), .inr (4, [.ref (a 0), .ref (a 20), .int 0, .int 0, .int 0, .int 0, .int 0, .int 1, .int 0]))] := hD
  refine lv_if_eq (tgt := 28) hx hb dX4_readKeyword_21 (by decide) (fun _ => ?_) (fun h9 => absurd (by decide) h9)
  refine lv_iconst (v := 0) hx hb dX4_readKeyword_28 (by decide) ?_
  have hP9 := hP.sub (ws' := [((a 0), .inr (9, [.ref (a 15), .int 0])), ((a 2), .inr (4, [.ref (a 0), .ref (a 20), .int 0, .int 0, .int 0, .int 0, .int 0, .int 1, .int 0]))]) [0, 1] rfl
  have hD9 := hD.sub (ws' := [((a 0), .inr (9, [.ref (a 15), .int 0])), ((a 2), .inr (4, [.ref (a 0), .ref (a 20), .int 0, .int 0, .int 0, .int 0, .int 0, .int 1, .int 0]))]) [0, 1] (by decide) rfl
  exact W.zret (v := 0) hx hb hr (by decide) (fun t ht _ => ⟨rfl, ⟨(fun k => [].getD k 0, fun k => [].getD k zI), by rw [ht]; exact hP9, hD9⟩, hS.F ht⟩) hS.2.2 dX4_readKeyword_29
set_option maxHeartbeats 4000000 in
set_option maxRecDepth 100000 in
theorem kX4_readHead_0 (l : Launch) (D : va_G) (cI : ClassId) (h0 : Nat) (a : Nat → Nat) (aS aV : Nat) (sz : Nat) : Met l yX4_readHead (sw_ws yX4_readHead cX4_readHead 1 (some .boolean)) (rm_ 4 83 0 0) (p_MZ D vwCl [(cI, .int)] [.ref (a 2)] [((a 0), .inr (9, [.ref (a 15), .int 0])), ((a 2), .inr (4, [.ref (a 0), .ref (a 20), .int 0, .int 0, .int 0, .int 0, .int 0, .int 0, .int (-1)]))] sz aS aV) (q_M D vwCl (some (.int 0)) (fun u => [((a 0), .inr (9, [.ref (a 15), .int 0])), ((a 2), .inr (4, [.ref (a 0), .ref (a 20), .int 0, .int 0, .int 0, .int 0, .int 0, .int 1, .int 0]))]) (va_A [((a 0), .inr (9, [.ref (a 15), .int 0])), ((a 2), .inr (4, [.ref (a 0), .ref (a 20), .int 0, .int 0, .int 0, .int 0, .int 0, .int 0, .int (-1)]))] sz)) 0 0 (va_A [((a 0), .inr (9, [.ref (a 15), .int 0])), ((a 2), .inr (4, [.ref (a 0), .ref (a 20), .int 0, .int 0, .int 0, .int 0, .int 0, .int 0, .int (-1)]))] sz) := by
  refine Met.ofW (cc := cX4_readHead) (maxL := 1) (ret := (some .boolean)) (by decide) rfl ?_
  intro p e s m args below meth c s₁ B hml hv
  obtain ⟨hv, hZ⟩ := hv
  obtain ⟨rfl, hsz, hP, hK, hD0⟩ := hv
  have hx := B.exec
  have hb := B.bytes
  have hr := B.returns
  have hT := sw_in (atoms_spec (ws := sw_ws yX4_readHead cX4_readHead 1 (some .boolean)) B.pre)
  have hown : s.vm.findClass RX4 = some m.cls := findClass_of_methodNamed B.named
  have hlocks := B.notSynchronized
  subst hsz
  have hD := hD0.self (sz := s.heap.size)
  generalize hAe : va_A [((a 0), .inr (9, [.ref (a 15), .int 0])), ((a 2), .inr (4, [.ref (a 0), .ref (a 20), .int 0, .int 0, .int 0, .int 0, .int 0, .int 0, .int (-1)]))] s.heap.size = A at hD hZ ⊢
  have hA : ∀ q : Nat, s.heap.size ≤ q → A q := fun q h => by rw [← hAe]; exact Or.inr h
  have hS : va_S A s.heap s.heap [] := va_S.rf
  have hl := lv_entry ([.ref (a 2)]) (n := 1) (Nat.le_of_ble_eq_true rfl)
  rw [lg_entry_eq]
  generalize (lg_sl ([.ref (a 2)]) ++ List.replicate (1 - (lg_sl ([.ref (a 2)])).length) Slot.unset).toArray = ls at hl ⊢
  have hl : lv_has ls 1 [(0, .ref (a 2))] := hl
  refine lv_aload_n hx hb dX4_readHead_0 rfl (lv_at hl 0 rfl) ?_
  refine va_ldcS (own := RX4) (index := 74) (tx := "wheel") hx hb hown hZ.1 dX4_readHead_1 ?_
  refine go_M (wc := [((a 0), .inr (9, [.ref (a 15), .int 0])), ((a 2), .inr (4, [.ref (a 0), .ref (a 20), .int 0, .int 0, .int 0, .int 0, .int 0, .int 0, .int (-1)]))]) (wr := []) (w1 := fun u => [((a 0), .inr (9, [.ref (a 15), .int 0])), ((a 2), .inr (4, [.ref (a 0), .ref (a 20), .int 0, .int 0, .int 0, .int 0, .int 0, .int 1, .int 0]))]) (v := some (.int 0)) (st1 := [.int 0]) hP hD hS hA [0, 1] [] rfl rfl (by decide) (by decide) (by decide) (fun hPc hDc => run_V (As := [.ref aS]) (rest := []) ⟨hx, hb, hml, hown, hT⟩ (kX4_readKeyword_0 l D cI h0 a aS aV _) sw_606 lkv_X4_readKeyword (p_MZ_V (ci := 4) (q0 := 1) hPc hK hDc rfl rfl (fun U hW => hZ.on hS.2.1 (va_free (wc := [((a 0), .inr (9, [.ref (a 15), .int 0])), ((a 2), .inr (4, [.ref (a 0), .ref (a 20), .int 0, .int 0, .int 0, .int 0, .int 0, .int 0, .int (-1)]))]) hD hS hA [0, 1] rfl) hW)) rfl hl.1 rfl (Nat.le_of_ble_eq_true rfl) dX4_readHead_3 ⟨⟨Nat.le_of_ble_eq_true rfl, Nat.le_of_ble_eq_true rfl⟩, Nat.le_of_ble_eq_true rfl, Nat.le_of_ble_eq_true rfl⟩) rfl (fun u_1 H locs hP hD hS => ?_)
  have hP : va_P D vwCl [((a 0), .inr (9, [.ref (a 15), .int 0])), ((a 2), .inr (4, [.ref (a 0), .ref (a 20), .int 0, .int 0, .int 0, .int 0, .int 0, .int 1, .int 0]))] H := hP
  have hD : va_D A [((a 0), .inr (9, [.ref (a 15), .int 0])), ((a 2), .inr (4, [.ref (a 0), .ref (a 20), .int 0, .int 0, .int 0, .int 0, .int 0, .int 1, .int 0]))] := hD
  refine lv_if_eq (tgt := 25) hx hb dX4_readHead_6 (by decide) (fun _ => ?_) (fun h9 => absurd (by decide) h9)
  refine lv_iconst (v := 0) hx hb dX4_readHead_25 (by decide) ?_
  have hP9 := hP.sub (ws' := [((a 0), .inr (9, [.ref (a 15), .int 0])), ((a 2), .inr (4, [.ref (a 0), .ref (a 20), .int 0, .int 0, .int 0, .int 0, .int 0, .int 1, .int 0]))]) [0, 1] rfl
  have hD9 := hD.sub (ws' := [((a 0), .inr (9, [.ref (a 15), .int 0])), ((a 2), .inr (4, [.ref (a 0), .ref (a 20), .int 0, .int 0, .int 0, .int 0, .int 0, .int 1, .int 0]))]) [0, 1] (by decide) rfl
  exact W.zret (v := 0) hx hb hr (by decide) (fun t ht _ => ⟨rfl, ⟨(fun k => [].getD k 0, fun k => [].getD k zI), by rw [ht]; exact hP9, hD9⟩, hS.F ht⟩) hS.2.2 dX4_readHead_26
set_option maxHeartbeats 4000000 in
set_option maxRecDepth 100000 in
theorem kX4_readAll_0 (l : Launch) (D : va_G) (cI : ClassId) (h0 : Nat) (a : Nat → Nat) (aS aV : Nat) (sz : Nat) : Met l yX4_readAll (sw_ws yX4_readAll cX4_readAll 4 (some .int)) (rm_ 5 103 0 0) (p_MZ D vwCl [(cI, .int)] [.ref (a 2)] [((a 0), .inr (9, [.ref (a 15), .int 0])), ((a 2), .inr (4, [.ref (a 0), .ref (a 20), .int 0, .int 0, .int 0, .int 0, .int 0, .int 0, .int (-1)])), ((a 20), .inr (3, [.ref (a 21), .ref (a 22), .ref (a 23), .ref (a 24), .int 0, .int 0, .int 0, .int 0]))] sz aS aV) (q_M D vwCl (some (.int (-1))) (fun u => [((a 0), .inr (9, [.ref (a 15), .int 0])), ((a 2), .inr (4, [.ref (a 0), .ref (a 20), .int 0, .int 0, .int 0, .int 0, .int 0, .int 1, .int 0])), ((a 20), .inr (3, [.ref (a 21), .ref (a 22), .ref (a 23), .ref (a 24), .int 0, .int 0, .int 0, .int 0]))]) (va_A [((a 0), .inr (9, [.ref (a 15), .int 0])), ((a 2), .inr (4, [.ref (a 0), .ref (a 20), .int 0, .int 0, .int 0, .int 0, .int 0, .int 0, .int (-1)])), ((a 20), .inr (3, [.ref (a 21), .ref (a 22), .ref (a 23), .ref (a 24), .int 0, .int 0, .int 0, .int 0]))] sz)) 0 0 (va_A [((a 0), .inr (9, [.ref (a 15), .int 0])), ((a 2), .inr (4, [.ref (a 0), .ref (a 20), .int 0, .int 0, .int 0, .int 0, .int 0, .int 0, .int (-1)])), ((a 20), .inr (3, [.ref (a 21), .ref (a 22), .ref (a 23), .ref (a 24), .int 0, .int 0, .int 0, .int 0]))] sz) := by
  refine Met.ofW (cc := cX4_readAll) (maxL := 4) (ret := (some .int)) (by decide) rfl ?_
  intro p e s m args below meth c s₁ B hml hv
  obtain ⟨hv, hZ⟩ := hv
  obtain ⟨rfl, hsz, hP, hK, hD0⟩ := hv
  have hx := B.exec
  have hb := B.bytes
  have hr := B.returns
  have hT := sw_in (atoms_spec (ws := sw_ws yX4_readAll cX4_readAll 4 (some .int)) B.pre)
  have hown : s.vm.findClass RX4 = some m.cls := findClass_of_methodNamed B.named
  have hlocks := B.notSynchronized
  subst hsz
  have hD := hD0.self (sz := s.heap.size)
  generalize hAe : va_A [((a 0), .inr (9, [.ref (a 15), .int 0])), ((a 2), .inr (4, [.ref (a 0), .ref (a 20), .int 0, .int 0, .int 0, .int 0, .int 0, .int 0, .int (-1)])), ((a 20), .inr (3, [.ref (a 21), .ref (a 22), .ref (a 23), .ref (a 24), .int 0, .int 0, .int 0, .int 0]))] s.heap.size = A at hD hZ ⊢
  have hA : ∀ q : Nat, s.heap.size ≤ q → A q := fun q h => by rw [← hAe]; exact Or.inr h
  have hS : va_S A s.heap s.heap [] := va_S.rf
  have hl := lv_entry ([.ref (a 2)]) (n := 4) (Nat.le_of_ble_eq_true rfl)
  rw [lg_entry_eq]
  generalize (lg_sl ([.ref (a 2)]) ++ List.replicate (4 - (lg_sl ([.ref (a 2)])).length) Slot.unset).toArray = ls at hl ⊢
  have hl : lv_has ls 4 [(0, .ref (a 2))] := hl
  refine lv_aload_n hx hb dX4_readAll_0 rfl (lv_at hl 0 rfl) ?_
  refine lv_iconst (v := 0) hx hb dX4_readAll_1 (by decide) ?_
  refine va_put (D := D) (ci := 4) (v := .int 0) (ty := .int) (C := RX4) (T := TX4) (N := 9) hx hb hT ix_4 tyX4 tyX4_ok nmX4 hown hK hP hD hS 1 rfl rfl 2 (by decide) (hT _ sw_218) (fun _ h9 => h9) rfl (by decide +kernel) rfl rfl (Nat.le_of_ble_eq_true rfl) dX4_readAll_2 (fun H locs hP hD hS => ?_)
  have hP : va_P D vwCl [((a 0), .inr (9, [.ref (a 15), .int 0])), ((a 2), .inr (4, [.ref (a 0), .ref (a 20), .int 0, .int 0, .int 0, .int 0, .int 0, .int 0, .int (-1)])), ((a 20), .inr (3, [.ref (a 21), .ref (a 22), .ref (a 23), .ref (a 24), .int 0, .int 0, .int 0, .int 0]))] H := hP
  have hD : va_D A [((a 0), .inr (9, [.ref (a 15), .int 0])), ((a 2), .inr (4, [.ref (a 0), .ref (a 20), .int 0, .int 0, .int 0, .int 0, .int 0, .int 0, .int (-1)])), ((a 20), .inr (3, [.ref (a 21), .ref (a 22), .ref (a 23), .ref (a 24), .int 0, .int 0, .int 0, .int 0]))] := hD
  refine lv_aload_n hx hb dX4_readAll_5 rfl (lv_at hl 0 rfl) ?_
  refine lv_iconst (v := 0) hx hb dX4_readAll_6 (by decide) ?_
  refine va_put (D := D) (ci := 4) (v := .int 0) (ty := .int) (C := RX4) (T := TX4) (N := 9) hx hb hT ix_4 tyX4 tyX4_ok nmX4 hown hK hP hD hS 1 rfl rfl 7 (by decide) (hT _ sw_223) (fun _ h9 => h9) rfl (by decide +kernel) rfl rfl (Nat.le_of_ble_eq_true rfl) dX4_readAll_7 (fun H locs hP hD hS => ?_)
  have hP : va_P D vwCl [((a 0), .inr (9, [.ref (a 15), .int 0])), ((a 2), .inr (4, [.ref (a 0), .ref (a 20), .int 0, .int 0, .int 0, .int 0, .int 0, .int 0, .int (-1)])), ((a 20), .inr (3, [.ref (a 21), .ref (a 22), .ref (a 23), .ref (a 24), .int 0, .int 0, .int 0, .int 0]))] H := hP
  have hD : va_D A [((a 0), .inr (9, [.ref (a 15), .int 0])), ((a 2), .inr (4, [.ref (a 0), .ref (a 20), .int 0, .int 0, .int 0, .int 0, .int 0, .int 0, .int (-1)])), ((a 20), .inr (3, [.ref (a 21), .ref (a 22), .ref (a 23), .ref (a 24), .int 0, .int 0, .int 0, .int 0]))] := hD
  refine lv_aload_n hx hb dX4_readAll_10 rfl (lv_at hl 0 rfl) ?_
  refine lv_iconst (v := (-1)) hx hb dX4_readAll_11 (by decide) ?_
  refine va_put (D := D) (ci := 4) (v := .int (-1)) (ty := .int) (C := RX4) (T := TX4) (N := 9) hx hb hT ix_4 tyX4 tyX4_ok nmX4 hown hK hP hD hS 1 rfl rfl 8 (by decide) (hT _ sw_225) (fun _ h9 => h9) rfl (by decide +kernel) rfl rfl (Nat.le_of_ble_eq_true rfl) dX4_readAll_12 (fun H locs hP hD hS => ?_)
  have hP : va_P D vwCl [((a 0), .inr (9, [.ref (a 15), .int 0])), ((a 2), .inr (4, [.ref (a 0), .ref (a 20), .int 0, .int 0, .int 0, .int 0, .int 0, .int 0, .int (-1)])), ((a 20), .inr (3, [.ref (a 21), .ref (a 22), .ref (a 23), .ref (a 24), .int 0, .int 0, .int 0, .int 0]))] H := hP
  have hD : va_D A [((a 0), .inr (9, [.ref (a 15), .int 0])), ((a 2), .inr (4, [.ref (a 0), .ref (a 20), .int 0, .int 0, .int 0, .int 0, .int 0, .int 0, .int (-1)])), ((a 20), .inr (3, [.ref (a 21), .ref (a 22), .ref (a 23), .ref (a 24), .int 0, .int 0, .int 0, .int 0]))] := hD
  refine lv_aload_n hx hb dX4_readAll_15 rfl (lv_at hl 0 rfl) ?_
  refine va_get (D := D) (ci := 4) (v := .ref (a 20)) (C := RX4) (T := TX4) (N := 9) hx hb hT ix_4 hown hK hP 1 rfl rfl 1 (by decide) (hT _ sw_216) (fun _ h9 => h9) rfl dX4_readAll_16 ?_
  refine lv_iconst (v := 0) hx hb dX4_readAll_19 (by decide) ?_
  refine va_putN (D := D) (ci := 3) (v := .int 0) (ty := .int) (C := RX3) (T := TX3) (N := 8) hx hb hT ix_3 tyX3 tyX3_ok nmX3 hown hK hP hD hS 2 rfl rfl 6 (by decide) (hT _ sw_185) (fun _ h9 => h9) rfl (by decide +kernel) rfl rfl (Nat.le_of_ble_eq_true rfl) dX4_readAll_20 (fun H locs hP hD hS => ?_)
  have hP : va_P D vwCl [((a 0), .inr (9, [.ref (a 15), .int 0])), ((a 2), .inr (4, [.ref (a 0), .ref (a 20), .int 0, .int 0, .int 0, .int 0, .int 0, .int 0, .int (-1)])), ((a 20), .inr (3, [.ref (a 21), .ref (a 22), .ref (a 23), .ref (a 24), .int 0, .int 0, .int 0, .int 0]))] H := hP
  have hD : va_D A [((a 0), .inr (9, [.ref (a 15), .int 0])), ((a 2), .inr (4, [.ref (a 0), .ref (a 20), .int 0, .int 0, .int 0, .int 0, .int 0, .int 0, .int (-1)])), ((a 20), .inr (3, [.ref (a 21), .ref (a 22), .ref (a 23), .ref (a 24), .int 0, .int 0, .int 0, .int 0]))] := hD
  refine lv_aload_n hx hb dX4_readAll_23 rfl (lv_at hl 0 rfl) ?_
  refine va_get (D := D) (ci := 4) (v := .ref (a 20)) (C := RX4) (T := TX4) (N := 9) hx hb hT ix_4 hown hK hP 1 rfl rfl 1 (by decide) (hT _ sw_216) (fun _ h9 => h9) rfl dX4_readAll_24 ?_
  refine lv_iconst (v := 0) hx hb dX4_readAll_27 (by decide) ?_
  refine va_putN (D := D) (ci := 3) (v := .int 0) (ty := .int) (C := RX3) (T := TX3) (N := 8) hx hb hT ix_3 tyX3 tyX3_ok nmX3 hown hK hP hD hS 2 rfl rfl 7 (by decide) (hT _ sw_187) (fun _ h9 => h9) rfl (by decide +kernel) rfl rfl (Nat.le_of_ble_eq_true rfl) dX4_readAll_28 (fun H locs hP hD hS => ?_)
  have hP : va_P D vwCl [((a 0), .inr (9, [.ref (a 15), .int 0])), ((a 2), .inr (4, [.ref (a 0), .ref (a 20), .int 0, .int 0, .int 0, .int 0, .int 0, .int 0, .int (-1)])), ((a 20), .inr (3, [.ref (a 21), .ref (a 22), .ref (a 23), .ref (a 24), .int 0, .int 0, .int 0, .int 0]))] H := hP
  have hD : va_D A [((a 0), .inr (9, [.ref (a 15), .int 0])), ((a 2), .inr (4, [.ref (a 0), .ref (a 20), .int 0, .int 0, .int 0, .int 0, .int 0, .int 0, .int (-1)])), ((a 20), .inr (3, [.ref (a 21), .ref (a 22), .ref (a 23), .ref (a 24), .int 0, .int 0, .int 0, .int 0]))] := hD
  refine lv_aload_n hx hb dX4_readAll_31 rfl (lv_at hl 0 rfl) ?_
  refine go_M (wc := [((a 0), .inr (9, [.ref (a 15), .int 0])), ((a 2), .inr (4, [.ref (a 0), .ref (a 20), .int 0, .int 0, .int 0, .int 0, .int 0, .int 0, .int (-1)]))]) (wr := [((a 20), .inr (3, [.ref (a 21), .ref (a 22), .ref (a 23), .ref (a 24), .int 0, .int 0, .int 0, .int 0]))]) (w1 := fun u => [((a 0), .inr (9, [.ref (a 15), .int 0])), ((a 2), .inr (4, [.ref (a 0), .ref (a 20), .int 0, .int 0, .int 0, .int 0, .int 0, .int 1, .int 0]))]) (v := some (.int 0)) (st1 := [.int 0]) hP hD hS hA [0, 1] [2] rfl rfl (by decide) (by decide) (by decide) (fun hPc hDc => run_V (As := []) (rest := []) ⟨hx, hb, hml, hown, hT⟩ (kX4_readHead_0 l D cI h0 a aS aV _) sw_601 lkv_X4_readHead (p_MZ_V (ci := 4) (q0 := 1) hPc hK hDc rfl rfl (fun U hW => hZ.on hS.2.1 (va_free (wc := [((a 0), .inr (9, [.ref (a 15), .int 0])), ((a 2), .inr (4, [.ref (a 0), .ref (a 20), .int 0, .int 0, .int 0, .int 0, .int 0, .int 0, .int (-1)]))]) hD hS hA [0, 1] rfl) hW)) rfl hl.1 rfl (Nat.le_of_ble_eq_true rfl) dX4_readAll_32 ⟨⟨Nat.le_of_ble_eq_true rfl, Nat.le_of_ble_eq_true rfl⟩, Nat.le_of_ble_eq_true rfl, Nat.le_of_ble_eq_true rfl⟩) rfl (fun u_1 H locs hP hD hS => ?_)
  have hP : va_P D vwCl [((a 20), .inr (3, [.ref (a 21), .ref (a 22), .ref (a 23), .ref (a 24), .int 0, .int 0, .int 0, .int 0])), ((a 0), .inr (9, [.ref (a 15), .int 0])), ((a 2), .inr (4, [.ref (a 0), .ref (a 20), .int 0, .int 0, .int 0, .int 0, .int 0, .int 1, .int 0]))] H := hP
  have hD : va_D A [((a 20), .inr (3, [.ref (a 21), .ref (a 22), .ref (a 23), .ref (a 24), .int 0, .int 0, .int 0, .int 0])), ((a 0), .inr (9, [.ref (a 15), .int 0])), ((a 2), .inr (4, [.ref (a 0), .ref (a 20), .int 0, .int 0, .int 0, .int 0, .int 0, .int 1, .int 0]))] := hD
  refine lv_if_ne (tgt := 40) hx hb dX4_readAll_35 (by decide) (fun h9 => absurd (by decide) h9) (fun _ => ?_)
  refine lv_iconst (v := (-1)) hx hb dX4_readAll_38 (by decide) ?_
  have hP9 := hP.sub (ws' := [((a 0), .inr (9, [.ref (a 15), .int 0])), ((a 2), .inr (4, [.ref (a 0), .ref (a 20), .int 0, .int 0, .int 0, .int 0, .int 0, .int 1, .int 0])), ((a 20), .inr (3, [.ref (a 21), .ref (a 22), .ref (a 23), .ref (a 24), .int 0, .int 0, .int 0, .int 0]))]) [1, 2, 0] rfl
  have hD9 := hD.sub (ws' := [((a 0), .inr (9, [.ref (a 15), .int 0])), ((a 2), .inr (4, [.ref (a 0), .ref (a 20), .int 0, .int 0, .int 0, .int 0, .int 0, .int 1, .int 0])), ((a 20), .inr (3, [.ref (a 21), .ref (a 22), .ref (a 23), .ref (a 24), .int 0, .int 0, .int 0, .int 0]))]) [1, 2, 0] (by decide) rfl
  exact W.iret (v := (-1)) hx hb hr (fun t ht _ => ⟨rfl, ⟨(fun k => [].getD k 0, fun k => [].getD k zI), by rw [ht]; exact hP9, hD9⟩, hS.F ht⟩) hS.2.2 dX4_readAll_39
set_option maxHeartbeats 4000000 in
set_option maxRecDepth 100000 in
theorem kX11_refuse_1 (l : Launch) (D : va_G) (cI : ClassId) (h0 : Nat) (a : Nat → Nat) (g0 : Nat → Int32) (sz : Nat) : Met l yX11_refuse (sw_ws yX11_refuse cX11_refuse 2 (some .int)) (rm_ 0 0 0 0) (p_M D vwCl [(cI, .int)] [.ref h0, .int 1] [(h0, .inr (11, (Value.ref (a 0) :: Value.ref (a 1) :: Value.ref (a 2) :: Value.ref (a 3) :: Value.ref (a 4) :: Value.ref (a 5) :: Value.ref (a 6) :: Value.ref (a 7) :: Value.ref (a 8) :: Value.ref (a 9) :: Value.ref (a 10) :: Value.ref (a 11) :: Value.ref (a 12) :: Value.ref (a 13) :: Value.ref (a 14) :: Value.int 0 :: Value.int 0 :: Value.int 0 :: []))), ((a 13), .inl (cI, 6, .inl g0))] sz) (q_M D vwCl (some (.int (-1))) (fun u => [(h0, .inr (11, (Value.ref (a 0) :: Value.ref (a 1) :: Value.ref (a 2) :: Value.ref (a 3) :: Value.ref (a 4) :: Value.ref (a 5) :: Value.ref (a 6) :: Value.ref (a 7) :: Value.ref (a 8) :: Value.ref (a 9) :: Value.ref (a 10) :: Value.ref (a 11) :: Value.ref (a 12) :: Value.ref (a 13) :: Value.ref (a 14) :: Value.int 0 :: Value.int 0 :: Value.int 0 :: []))), ((a 13), .inl (cI, 6, .inl (u.2 0)))]) (va_A [(h0, .inr (11, (Value.ref (a 0) :: Value.ref (a 1) :: Value.ref (a 2) :: Value.ref (a 3) :: Value.ref (a 4) :: Value.ref (a 5) :: Value.ref (a 6) :: Value.ref (a 7) :: Value.ref (a 8) :: Value.ref (a 9) :: Value.ref (a 10) :: Value.ref (a 11) :: Value.ref (a 12) :: Value.ref (a 13) :: Value.ref (a 14) :: Value.int 0 :: Value.int 0 :: Value.int 0 :: []))), ((a 13), .inl (cI, 6, .inl g0))] sz)) 0 0 (va_A [(h0, .inr (11, (Value.ref (a 0) :: Value.ref (a 1) :: Value.ref (a 2) :: Value.ref (a 3) :: Value.ref (a 4) :: Value.ref (a 5) :: Value.ref (a 6) :: Value.ref (a 7) :: Value.ref (a 8) :: Value.ref (a 9) :: Value.ref (a 10) :: Value.ref (a 11) :: Value.ref (a 12) :: Value.ref (a 13) :: Value.ref (a 14) :: Value.int 0 :: Value.int 0 :: Value.int 0 :: []))), ((a 13), .inl (cI, 6, .inl g0))] sz) := by
  refine Met.ofW (cc := cX11_refuse) (maxL := 2) (ret := (some .int)) (by decide) rfl ?_
  intro p e s m args below meth c s₁ B hml hv
  obtain ⟨rfl, hsz, hP, hK, hD0⟩ := hv
  have hx := B.exec
  have hb := B.bytes
  have hr := B.returns
  have hT := sw_in (atoms_spec (ws := sw_ws yX11_refuse cX11_refuse 2 (some .int)) B.pre)
  have hown : s.vm.findClass RX11 = some m.cls := findClass_of_methodNamed B.named
  have hlocks := B.notSynchronized
  subst hsz
  have hD := hD0.self (sz := s.heap.size)
  generalize hAe : va_A [(h0, .inr (11, (Value.ref (a 0) :: Value.ref (a 1) :: Value.ref (a 2) :: Value.ref (a 3) :: Value.ref (a 4) :: Value.ref (a 5) :: Value.ref (a 6) :: Value.ref (a 7) :: Value.ref (a 8) :: Value.ref (a 9) :: Value.ref (a 10) :: Value.ref (a 11) :: Value.ref (a 12) :: Value.ref (a 13) :: Value.ref (a 14) :: Value.int 0 :: Value.int 0 :: Value.int 0 :: []))), ((a 13), .inl (cI, 6, .inl g0))] s.heap.size = A at hD ⊢
  have hA : ∀ q : Nat, s.heap.size ≤ q → A q := fun q h => by rw [← hAe]; exact Or.inr h
  have hS : va_S A s.heap s.heap [] := va_S.rf
  have hl := lv_entry ([.ref h0, .int 1]) (n := 2) (Nat.le_of_ble_eq_true rfl)
  rw [lg_entry_eq]
  generalize (lg_sl ([.ref h0, .int 1]) ++ List.replicate (2 - (lg_sl ([.ref h0, .int 1])).length) Slot.unset).toArray = ls at hl ⊢
  have hl : lv_has ls 2 [(0, .ref h0), (1, .int 1)] := hl
  refine lv_iload_n hx hb dX11_refuse_0 rfl (lv_at hl 1 rfl) ?_
  refine lv_if_lt (tgt := 23) hx hb dX11_refuse_1 (by decide) (fun h9 => absurd h9 (by decide)) (fun _ => ?_)
  refine lv_iload_n hx hb dX11_refuse_4 rfl (lv_at hl 1 rfl) ?_
  refine lv_aload_n hx hb dX11_refuse_5 rfl (lv_at hl 0 rfl) ?_
  refine va_get (D := D) (ci := 11) (v := .ref (a 13)) (C := RX11) (T := TX11) (N := 18) hx hb hT ix_11 hown hK hP 0 rfl rfl 13 (by decide) (hT _ sw_528) (fun _ h9 => h9) rfl dX11_refuse_6 ?_
  refine va_alen (v := 6) hx hb hK hP 1 0 rfl rfl (show Int32.ofNat 6 = 6 by decide) dX11_refuse_9 ?_
  refine lv_icmp_ge (tgt := 23) hx hb dX11_refuse_10 (by decide) (fun h9 => absurd h9 (by decide)) (fun _ => ?_)
  refine lv_aload_n hx hb dX11_refuse_13 rfl (lv_at hl 0 rfl) ?_
  refine va_get (D := D) (ci := 11) (v := .ref (a 13)) (C := RX11) (T := TX11) (N := 18) hx hb hT ix_11 hown hK hP 0 rfl rfl 13 (by decide) (hT _ sw_528) (fun _ h9 => h9) rfl dX11_refuse_14 ?_
  refine lv_iload_n hx hb dX11_refuse_17 rfl (lv_at hl 1 rfl) ?_
  refine lv_dup2_11 hx hb dX11_refuse_18 rfl rfl ?_
  refine va_iald hx hb hK hP 1 0 rfl rfl (vi_c (by decide +kernel)) dX11_refuse_19 ?_
  refine lv_topi (fun v_1 _ => ?_)
  refine lv_iconst (v := 1) hx hb dX11_refuse_20 (by decide) ?_
  refine lv_iadd hx hb dX11_refuse_21 ?_
  refine lv_topi (fun v_2 _ => ?_)
  refine va_iast hx hb hK hP hD hS 1 0 rfl rfl (vi_c (by decide +kernel)) dX11_refuse_22 (fun H locs hP hD hS => ?_)
  obtain ⟨f_3, hP, hD⟩ : ∃ f_3 : Nat → Int32, va_P D vwCl [(h0, .inr (11, (Value.ref (a 0) :: Value.ref (a 1) :: Value.ref (a 2) :: Value.ref (a 3) :: Value.ref (a 4) :: Value.ref (a 5) :: Value.ref (a 6) :: Value.ref (a 7) :: Value.ref (a 8) :: Value.ref (a 9) :: Value.ref (a 10) :: Value.ref (a 11) :: Value.ref (a 12) :: Value.ref (a 13) :: Value.ref (a 14) :: Value.int 0 :: Value.int 0 :: Value.int 0 :: []))), ((a 13), .inl (cI, 6, .inl f_3))] H ∧ va_D A [(h0, .inr (11, (Value.ref (a 0) :: Value.ref (a 1) :: Value.ref (a 2) :: Value.ref (a 3) :: Value.ref (a 4) :: Value.ref (a 5) :: Value.ref (a 6) :: Value.ref (a 7) :: Value.ref (a 8) :: Value.ref (a 9) :: Value.ref (a 10) :: Value.ref (a 11) :: Value.ref (a 12) :: Value.ref (a 13) :: Value.ref (a 14) :: Value.int 0 :: Value.int 0 :: Value.int 0 :: []))), ((a 13), .inl (cI, 6, .inl f_3))] := ⟨upd g0 (1 : Int32).toNatClampNeg v_2, hP, hD⟩
  refine lv_iconst (v := (-1)) hx hb dX11_refuse_23 (by decide) ?_
  have hP9 := hP.sub (ws' := [(h0, .inr (11, (Value.ref (a 0) :: Value.ref (a 1) :: Value.ref (a 2) :: Value.ref (a 3) :: Value.ref (a 4) :: Value.ref (a 5) :: Value.ref (a 6) :: Value.ref (a 7) :: Value.ref (a 8) :: Value.ref (a 9) :: Value.ref (a 10) :: Value.ref (a 11) :: Value.ref (a 12) :: Value.ref (a 13) :: Value.ref (a 14) :: Value.int 0 :: Value.int 0 :: Value.int 0 :: []))), ((a 13), .inl (cI, 6, .inl f_3))]) [0, 1] rfl
  have hD9 := hD.sub (ws' := [(h0, .inr (11, (Value.ref (a 0) :: Value.ref (a 1) :: Value.ref (a 2) :: Value.ref (a 3) :: Value.ref (a 4) :: Value.ref (a 5) :: Value.ref (a 6) :: Value.ref (a 7) :: Value.ref (a 8) :: Value.ref (a 9) :: Value.ref (a 10) :: Value.ref (a 11) :: Value.ref (a 12) :: Value.ref (a 13) :: Value.ref (a 14) :: Value.int 0 :: Value.int 0 :: Value.int 0 :: []))), ((a 13), .inl (cI, 6, .inl f_3))]) [0, 1] (by decide) rfl
  exact W.iret (v := (-1)) hx hb hr (fun t ht _ => ⟨rfl, ⟨(fun k => [].getD k 0, fun k => [f_3].getD k zI), by rw [ht]; exact hP9, hD9⟩, hS.F ht⟩) hS.2.2 dX11_refuse_24
set_option maxHeartbeats 4000000 in
set_option maxRecDepth 100000 in
theorem kX11_wheel_0 (l : Launch) (D : va_G) (cI : ClassId) (h0 : Nat) (a : Nat → Nat) (aS aV : Nat) (g0 : Nat → Int32) (sz : Nat) : Met l yX11_wheel (sw_ws yX11_wheel cX11_wheel 2 (some .int)) (rm_ 6 126 0 0) (p_MZ D vwCl [(cI, .int)] [.ref h0] [(h0, .inr (11, (Value.ref (a 0) :: Value.ref (a 1) :: Value.ref (a 2) :: Value.ref (a 3) :: Value.ref (a 4) :: Value.ref (a 5) :: Value.ref (a 6) :: Value.ref (a 7) :: Value.ref (a 8) :: Value.ref (a 9) :: Value.ref (a 10) :: Value.ref (a 11) :: Value.ref (a 12) :: Value.ref (a 13) :: Value.ref (a 14) :: Value.int 0 :: Value.int 0 :: Value.int 0 :: []))), ((a 0), .inr (9, [.ref (a 15), .int 0])), ((a 2), .inr (4, [.ref (a 0), .ref (a 20), .int 0, .int 0, .int 0, .int 0, .int 0, .int 0, .int (-1)])), ((a 20), .inr (3, [.ref (a 21), .ref (a 22), .ref (a 23), .ref (a 24), .int 0, .int 0, .int 0, .int 0])), ((a 13), .inl (cI, 6, .inl g0))] sz aS aV) (q_M D vwCl (some (.int (-1))) (fun u => []) (va_A [(h0, .inr (11, (Value.ref (a 0) :: Value.ref (a 1) :: Value.ref (a 2) :: Value.ref (a 3) :: Value.ref (a 4) :: Value.ref (a 5) :: Value.ref (a 6) :: Value.ref (a 7) :: Value.ref (a 8) :: Value.ref (a 9) :: Value.ref (a 10) :: Value.ref (a 11) :: Value.ref (a 12) :: Value.ref (a 13) :: Value.ref (a 14) :: Value.int 0 :: Value.int 0 :: Value.int 0 :: []))), ((a 0), .inr (9, [.ref (a 15), .int 0])), ((a 2), .inr (4, [.ref (a 0), .ref (a 20), .int 0, .int 0, .int 0, .int 0, .int 0, .int 0, .int (-1)])), ((a 20), .inr (3, [.ref (a 21), .ref (a 22), .ref (a 23), .ref (a 24), .int 0, .int 0, .int 0, .int 0])), ((a 13), .inl (cI, 6, .inl g0))] sz)) 0 0 (va_A [(h0, .inr (11, (Value.ref (a 0) :: Value.ref (a 1) :: Value.ref (a 2) :: Value.ref (a 3) :: Value.ref (a 4) :: Value.ref (a 5) :: Value.ref (a 6) :: Value.ref (a 7) :: Value.ref (a 8) :: Value.ref (a 9) :: Value.ref (a 10) :: Value.ref (a 11) :: Value.ref (a 12) :: Value.ref (a 13) :: Value.ref (a 14) :: Value.int 0 :: Value.int 0 :: Value.int 0 :: []))), ((a 0), .inr (9, [.ref (a 15), .int 0])), ((a 2), .inr (4, [.ref (a 0), .ref (a 20), .int 0, .int 0, .int 0, .int 0, .int 0, .int 0, .int (-1)])), ((a 20), .inr (3, [.ref (a 21), .ref (a 22), .ref (a 23), .ref (a 24), .int 0, .int 0, .int 0, .int 0])), ((a 13), .inl (cI, 6, .inl g0))] sz) := by
  refine Met.ofW (cc := cX11_wheel) (maxL := 2) (ret := (some .int)) (by decide) rfl ?_
  intro p e s m args below meth c s₁ B hml hv
  obtain ⟨hv, hZ⟩ := hv
  obtain ⟨rfl, hsz, hP, hK, hD0⟩ := hv
  have hx := B.exec
  have hb := B.bytes
  have hr := B.returns
  have hT := sw_in (atoms_spec (ws := sw_ws yX11_wheel cX11_wheel 2 (some .int)) B.pre)
  have hown : s.vm.findClass RX11 = some m.cls := findClass_of_methodNamed B.named
  have hlocks := B.notSynchronized
  subst hsz
  have hD := hD0.self (sz := s.heap.size)
  generalize hAe : va_A [(h0, .inr (11, (Value.ref (a 0) :: Value.ref (a 1) :: Value.ref (a 2) :: Value.ref (a 3) :: Value.ref (a 4) :: Value.ref (a 5) :: Value.ref (a 6) :: Value.ref (a 7) :: Value.ref (a 8) :: Value.ref (a 9) :: Value.ref (a 10) :: Value.ref (a 11) :: Value.ref (a 12) :: Value.ref (a 13) :: Value.ref (a 14) :: Value.int 0 :: Value.int 0 :: Value.int 0 :: []))), ((a 0), .inr (9, [.ref (a 15), .int 0])), ((a 2), .inr (4, [.ref (a 0), .ref (a 20), .int 0, .int 0, .int 0, .int 0, .int 0, .int 0, .int (-1)])), ((a 20), .inr (3, [.ref (a 21), .ref (a 22), .ref (a 23), .ref (a 24), .int 0, .int 0, .int 0, .int 0])), ((a 13), .inl (cI, 6, .inl g0))] s.heap.size = A at hD hZ ⊢
  have hA : ∀ q : Nat, s.heap.size ≤ q → A q := fun q h => by rw [← hAe]; exact Or.inr h
  have hS : va_S A s.heap s.heap [] := va_S.rf
  have hl := lv_entry ([.ref h0]) (n := 2) (Nat.le_of_ble_eq_true rfl)
  rw [lg_entry_eq]
  generalize (lg_sl ([.ref h0]) ++ List.replicate (2 - (lg_sl ([.ref h0])).length) Slot.unset).toArray = ls at hl ⊢
  have hl : lv_has ls 2 [(0, .ref h0)] := hl
  refine lv_aload_n hx hb dX11_wheel_0 rfl (lv_at hl 0 rfl) ?_
  refine va_get (D := D) (ci := 11) (v := .ref (a 2)) (C := RX11) (T := TX11) (N := 18) hx hb hT ix_11 hown hK hP 0 rfl rfl 2 (by decide) (hT _ sw_517) (fun _ h9 => h9) rfl dX11_wheel_1 ?_
  refine go_M (wc := [((a 0), .inr (9, [.ref (a 15), .int 0])), ((a 2), .inr (4, [.ref (a 0), .ref (a 20), .int 0, .int 0, .int 0, .int 0, .int 0, .int 0, .int (-1)])), ((a 20), .inr (3, [.ref (a 21), .ref (a 22), .ref (a 23), .ref (a 24), .int 0, .int 0, .int 0, .int 0]))]) (wr := [(h0, .inr (11, (Value.ref (a 0) :: Value.ref (a 1) :: Value.ref (a 2) :: Value.ref (a 3) :: Value.ref (a 4) :: Value.ref (a 5) :: Value.ref (a 6) :: Value.ref (a 7) :: Value.ref (a 8) :: Value.ref (a 9) :: Value.ref (a 10) :: Value.ref (a 11) :: Value.ref (a 12) :: Value.ref (a 13) :: Value.ref (a 14) :: Value.int 0 :: Value.int 0 :: Value.int 0 :: []))), ((a 13), .inl (cI, 6, .inl g0))]) (w1 := fun u => [((a 0), .inr (9, [.ref (a 15), .int 0])), ((a 2), .inr (4, [.ref (a 0), .ref (a 20), .int 0, .int 0, .int 0, .int 0, .int 0, .int 1, .int 0])), ((a 20), .inr (3, [.ref (a 21), .ref (a 22), .ref (a 23), .ref (a 24), .int 0, .int 0, .int 0, .int 0]))]) (v := some (.int (-1))) (st1 := [.int (-1)]) hP hD hS hA [1, 2, 3] [0, 4] rfl rfl (by decide) (by decide) (by decide) (fun hPc hDc => run_V (As := []) (rest := []) ⟨hx, hb, hml, hown, hT⟩ (kX4_readAll_0 l D cI h0 a aS aV _) sw_597 lkv_X4_readAll (p_MZ_V (ci := 4) (q0 := 1) hPc hK hDc rfl rfl (fun U hW => hZ.on hS.2.1 (va_free (wc := [((a 0), .inr (9, [.ref (a 15), .int 0])), ((a 2), .inr (4, [.ref (a 0), .ref (a 20), .int 0, .int 0, .int 0, .int 0, .int 0, .int 0, .int (-1)])), ((a 20), .inr (3, [.ref (a 21), .ref (a 22), .ref (a 23), .ref (a 24), .int 0, .int 0, .int 0, .int 0]))]) hD hS hA [1, 2, 3] rfl) hW)) rfl hl.1 rfl (Nat.le_of_ble_eq_true rfl) dX11_wheel_4 ⟨⟨Nat.le_of_ble_eq_true rfl, Nat.le_of_ble_eq_true rfl⟩, Nat.le_of_ble_eq_true rfl, Nat.le_of_ble_eq_true rfl⟩) rfl (fun u_1 H locs hP hD hS => ?_)
  have hP : va_P D vwCl [(h0, .inr (11, (Value.ref (a 0) :: Value.ref (a 1) :: Value.ref (a 2) :: Value.ref (a 3) :: Value.ref (a 4) :: Value.ref (a 5) :: Value.ref (a 6) :: Value.ref (a 7) :: Value.ref (a 8) :: Value.ref (a 9) :: Value.ref (a 10) :: Value.ref (a 11) :: Value.ref (a 12) :: Value.ref (a 13) :: Value.ref (a 14) :: Value.int 0 :: Value.int 0 :: Value.int 0 :: []))), ((a 13), .inl (cI, 6, .inl g0)), ((a 0), .inr (9, [.ref (a 15), .int 0])), ((a 2), .inr (4, [.ref (a 0), .ref (a 20), .int 0, .int 0, .int 0, .int 0, .int 0, .int 1, .int 0])), ((a 20), .inr (3, [.ref (a 21), .ref (a 22), .ref (a 23), .ref (a 24), .int 0, .int 0, .int 0, .int 0]))] H := hP
  have hD : va_D A [(h0, .inr (11, (Value.ref (a 0) :: Value.ref (a 1) :: Value.ref (a 2) :: Value.ref (a 3) :: Value.ref (a 4) :: Value.ref (a 5) :: Value.ref (a 6) :: Value.ref (a 7) :: Value.ref (a 8) :: Value.ref (a 9) :: Value.ref (a 10) :: Value.ref (a 11) :: Value.ref (a 12) :: Value.ref (a 13) :: Value.ref (a 14) :: Value.int 0 :: Value.int 0 :: Value.int 0 :: []))), ((a 13), .inl (cI, 6, .inl g0)), ((a 0), .inr (9, [.ref (a 15), .int 0])), ((a 2), .inr (4, [.ref (a 0), .ref (a 20), .int 0, .int 0, .int 0, .int 0, .int 0, .int 1, .int 0])), ((a 20), .inr (3, [.ref (a 21), .ref (a 22), .ref (a 23), .ref (a 24), .int 0, .int 0, .int 0, .int 0]))] := hD
  refine lv_istore_n (lv' := [(1, .int (-1)), (0, .ref h0)]) hx hb dX11_wheel_7 rfl hl (by decide) rfl (fun ls hl => ?_)
  refine lv_aload_n hx hb dX11_wheel_8 rfl (lv_at hl 1 rfl) ?_
  refine va_get (D := D) (ci := 11) (v := .ref (a 0)) (C := RX11) (T := TX11) (N := 18) hx hb hT ix_11 hown hK hP 0 rfl rfl 0 (by decide) (hT _ sw_515) (fun _ h9 => h9) rfl dX11_wheel_9 ?_
  refine lv_iconst (v := 0) hx hb dX11_wheel_12 (by decide) ?_
  refine va_putN (D := D) (ci := 9) (v := .int 0) (ty := .int) (C := RX9) (T := TX9) (N := 2) hx hb hT ix_9 tyX9 tyX9_ok nmX9 hown hK hP hD hS 2 rfl rfl 1 (by decide) (hT _ sw_157) (fun _ h9 => h9) rfl (by decide +kernel) rfl rfl (Nat.le_of_ble_eq_true rfl) dX11_wheel_13 (fun H locs hP hD hS => ?_)
  have hP : va_P D vwCl [(h0, .inr (11, (Value.ref (a 0) :: Value.ref (a 1) :: Value.ref (a 2) :: Value.ref (a 3) :: Value.ref (a 4) :: Value.ref (a 5) :: Value.ref (a 6) :: Value.ref (a 7) :: Value.ref (a 8) :: Value.ref (a 9) :: Value.ref (a 10) :: Value.ref (a 11) :: Value.ref (a 12) :: Value.ref (a 13) :: Value.ref (a 14) :: Value.int 0 :: Value.int 0 :: Value.int 0 :: []))), ((a 13), .inl (cI, 6, .inl g0)), ((a 0), .inr (9, [.ref (a 15), .int 0])), ((a 2), .inr (4, [.ref (a 0), .ref (a 20), .int 0, .int 0, .int 0, .int 0, .int 0, .int 1, .int 0])), ((a 20), .inr (3, [.ref (a 21), .ref (a 22), .ref (a 23), .ref (a 24), .int 0, .int 0, .int 0, .int 0]))] H := hP
  have hD : va_D A [(h0, .inr (11, (Value.ref (a 0) :: Value.ref (a 1) :: Value.ref (a 2) :: Value.ref (a 3) :: Value.ref (a 4) :: Value.ref (a 5) :: Value.ref (a 6) :: Value.ref (a 7) :: Value.ref (a 8) :: Value.ref (a 9) :: Value.ref (a 10) :: Value.ref (a 11) :: Value.ref (a 12) :: Value.ref (a 13) :: Value.ref (a 14) :: Value.int 0 :: Value.int 0 :: Value.int 0 :: []))), ((a 13), .inl (cI, 6, .inl g0)), ((a 0), .inr (9, [.ref (a 15), .int 0])), ((a 2), .inr (4, [.ref (a 0), .ref (a 20), .int 0, .int 0, .int 0, .int 0, .int 0, .int 1, .int 0])), ((a 20), .inr (3, [.ref (a 21), .ref (a 22), .ref (a 23), .ref (a 24), .int 0, .int 0, .int 0, .int 0]))] := hD
  refine lv_iload_n hx hb dX11_wheel_16 rfl (lv_at hl 0 rfl) ?_
  refine lv_iconst (v := (-1)) hx hb dX11_wheel_17 (by decide) ?_
  refine lv_icmp_ne (tgt := 27) hx hb dX11_wheel_18 (by decide) (fun h9 => absurd (by decide) h9) (fun _ => ?_)
  refine lv_aload_n hx hb dX11_wheel_21 rfl (lv_at hl 1 rfl) ?_
  refine lv_iconst (v := 1) hx hb dX11_wheel_22 (by decide) ?_
  refine go_M (wc := [(h0, .inr (11, (Value.ref (a 0) :: Value.ref (a 1) :: Value.ref (a 2) :: Value.ref (a 3) :: Value.ref (a 4) :: Value.ref (a 5) :: Value.ref (a 6) :: Value.ref (a 7) :: Value.ref (a 8) :: Value.ref (a 9) :: Value.ref (a 10) :: Value.ref (a 11) :: Value.ref (a 12) :: Value.ref (a 13) :: Value.ref (a 14) :: Value.int 0 :: Value.int 0 :: Value.int 0 :: []))), ((a 13), .inl (cI, 6, .inl g0))]) (wr := [((a 0), .inr (9, [.ref (a 15), .int 0])), ((a 2), .inr (4, [.ref (a 0), .ref (a 20), .int 0, .int 0, .int 0, .int 0, .int 0, .int 1, .int 0])), ((a 20), .inr (3, [.ref (a 21), .ref (a 22), .ref (a 23), .ref (a 24), .int 0, .int 0, .int 0, .int 0]))]) (w1 := fun u => [(h0, .inr (11, (Value.ref (a 0) :: Value.ref (a 1) :: Value.ref (a 2) :: Value.ref (a 3) :: Value.ref (a 4) :: Value.ref (a 5) :: Value.ref (a 6) :: Value.ref (a 7) :: Value.ref (a 8) :: Value.ref (a 9) :: Value.ref (a 10) :: Value.ref (a 11) :: Value.ref (a 12) :: Value.ref (a 13) :: Value.ref (a 14) :: Value.int 0 :: Value.int 0 :: Value.int 0 :: []))), ((a 13), .inl (cI, 6, .inl (u.2 0)))]) (v := some (.int (-1))) (st1 := [.int (-1)]) hP hD hS hA [0, 1] [2, 3, 4] rfl rfl (by decide) (by decide) (by decide) (fun hPc hDc => run_V (As := [.int 1]) (rest := []) ⟨hx, hb, hml, hown, hT⟩ (kX11_refuse_1 l D cI h0 a g0 _) sw_574 lkv_X11_refuse (p_M_V (ci := 11) (q0 := 0) hPc hK hDc rfl rfl) rfl hl.1 rfl (Nat.le_of_ble_eq_true rfl) dX11_wheel_23 ⟨⟨Nat.le_of_ble_eq_true rfl, Nat.le_of_ble_eq_true rfl⟩, Nat.le_of_ble_eq_true rfl, Nat.le_of_ble_eq_true rfl⟩) rfl (fun u_2 H locs hP hD hS => ?_)
  have hP : va_P D vwCl [((a 0), .inr (9, [.ref (a 15), .int 0])), ((a 2), .inr (4, [.ref (a 0), .ref (a 20), .int 0, .int 0, .int 0, .int 0, .int 0, .int 1, .int 0])), ((a 20), .inr (3, [.ref (a 21), .ref (a 22), .ref (a 23), .ref (a 24), .int 0, .int 0, .int 0, .int 0])), (h0, .inr (11, (Value.ref (a 0) :: Value.ref (a 1) :: Value.ref (a 2) :: Value.ref (a 3) :: Value.ref (a 4) :: Value.ref (a 5) :: Value.ref (a 6) :: Value.ref (a 7) :: Value.ref (a 8) :: Value.ref (a 9) :: Value.ref (a 10) :: Value.ref (a 11) :: Value.ref (a 12) :: Value.ref (a 13) :: Value.ref (a 14) :: Value.int 0 :: Value.int 0 :: Value.int 0 :: []))), ((a 13), .inl (cI, 6, .inl (u_2.2 0)))] H := hP
  have hD : va_D A [((a 0), .inr (9, [.ref (a 15), .int 0])), ((a 2), .inr (4, [.ref (a 0), .ref (a 20), .int 0, .int 0, .int 0, .int 0, .int 0, .int 1, .int 0])), ((a 20), .inr (3, [.ref (a 21), .ref (a 22), .ref (a 23), .ref (a 24), .int 0, .int 0, .int 0, .int 0])), (h0, .inr (11, (Value.ref (a 0) :: Value.ref (a 1) :: Value.ref (a 2) :: Value.ref (a 3) :: Value.ref (a 4) :: Value.ref (a 5) :: Value.ref (a 6) :: Value.ref (a 7) :: Value.ref (a 8) :: Value.ref (a 9) :: Value.ref (a 10) :: Value.ref (a 11) :: Value.ref (a 12) :: Value.ref (a 13) :: Value.ref (a 14) :: Value.int 0 :: Value.int 0 :: Value.int 0 :: []))), ((a 13), .inl (cI, 6, .inl (u_2.2 0)))] := hD
  have hP9 := hP.sub (ws' := []) [] rfl
  have hD9 := hD.sub (ws' := []) [] (by decide) rfl
  exact W.iret (v := (-1)) hx hb hr (fun t ht _ => ⟨rfl, ⟨(fun k => [].getD k 0, fun k => [].getD k zI), by rw [ht]; exact hP9, hD9⟩, hS.F ht⟩) hS.2.2 dX11_wheel_26
set_option maxHeartbeats 4000000 in
set_option maxRecDepth 100000 in
theorem kX11_fault_0 (l : Launch) (D : va_G) (cI : ClassId) (h0 : Nat) (a : Nat → Nat) (p0 : Int32) : Met l yX11_fault (sw_ws yX11_fault cX11_fault 2 (some .int)) (rm_ 0 0 0 0) (p_R D vwCl [(cI, .int)] [.ref h0, .int p0] [(h0, .inr (11, (Value.ref (a 0) :: Value.ref (a 1) :: Value.ref (a 2) :: Value.ref (a 3) :: Value.ref (a 4) :: Value.ref (a 5) :: Value.ref (a 6) :: Value.ref (a 7) :: Value.ref (a 8) :: Value.ref (a 9) :: Value.ref (a 10) :: Value.ref (a 11) :: Value.ref (a 12) :: Value.ref (a 13) :: Value.ref (a 14) :: Value.int 0 :: Value.int 0 :: Value.int 0 :: []))), ((a 2), .inr (4, [.ref (a 0), .ref (a 20), .int 0, .int 0, .int 0, .int 0, .int 0, .int 0, .int (-1)]))]) (q_R (some (.int (sp_fault p0)))) 0 0 (fun _ => False) := by
  refine Met.ofW (cc := cX11_fault) (maxL := 2) (ret := (some .int)) (by decide) rfl ?_
  intro p e s m args below meth c s₁ B hml hv
  obtain ⟨rfl, hP, hK⟩ := hv
  have hx := B.exec
  have hb := B.bytes
  have hr := B.returns
  have hT := sw_in (atoms_spec (ws := sw_ws yX11_fault cX11_fault 2 (some .int)) B.pre)
  have hown : s.vm.findClass RX11 = some m.cls := findClass_of_methodNamed B.named
  have hlocks := B.notSynchronized
  have hl := lv_entry ([.ref h0, .int p0]) (n := 2) (Nat.le_of_ble_eq_true rfl)
  rw [lg_entry_eq]
  generalize (lg_sl ([.ref h0, .int p0]) ++ List.replicate (2 - (lg_sl ([.ref h0, .int p0])).length) Slot.unset).toArray = ls at hl ⊢
  have hl : lv_has ls 2 [(0, .ref h0), (1, .int p0)] := hl
  refine lv_iload_n hx hb dX11_fault_0 rfl (lv_at hl 1 rfl) ?_
  refine lv_if_ne (tgt := 12) hx hb dX11_fault_1 (by decide) (fun c_1 => ?_) (fun c_1 => ?_)
  · refine lv_iload_n hx hb dX11_fault_12 rfl (lv_at hl 1 rfl) ?_
    refine lv_iconst (v := 1) hx hb dX11_fault_13 (by decide) ?_
    refine lv_icmp_ne (tgt := 27) hx hb dX11_fault_14 (by decide) (fun c_2 => ?_) (fun c_2 => ?_)
    · refine lv_iconst (v := (-1)) hx hb dX11_fault_27 (by decide) ?_
      refine ct_i (z := sp_fault p0) (pl_4 p0 c_1 c_2) ?_
      exact W.iret (v := sp_fault p0) hx hb hr (fun t ht _ => ⟨rfl, ht⟩) (fun _ h9 => nomatch h9) dX11_fault_28
    · refine lv_aload_n hx hb dX11_fault_17 rfl (lv_at hl 0 rfl) ?_
      refine va_get (D := D) (ci := 11) (v := .ref (a 2)) (C := RX11) (T := TX11) (N := 18) hx hb hT ix_11 hown hK hP 0 rfl rfl 2 (by decide) (hT _ sw_517) (fun _ h9 => h9) rfl dX11_fault_18 ?_
      refine va_getN (D := D) (ci := 4) (v := .int (-1)) (C := RX4) (T := TX4) (N := 9) hx hb hT ix_4 hown hK hP 1 rfl rfl 8 (by decide) (hT _ sw_226) (fun _ h9 => h9) rfl dX11_fault_21 ?_
      refine lv_goto (tgt := 28) hx hb dX11_fault_24 (by decide) ?_
      refine ct_i (z := sp_fault p0) (pl_5 p0 c_1 c_2) ?_
      exact W.iret (v := sp_fault p0) hx hb hr (fun t ht _ => ⟨rfl, ht⟩) (fun _ h9 => nomatch h9) dX11_fault_28
  · refine lv_aload_n hx hb dX11_fault_4 rfl (lv_at hl 0 rfl) ?_
    refine va_get (D := D) (ci := 11) (v := .ref (a 2)) (C := RX11) (T := TX11) (N := 18) hx hb hT ix_11 hown hK hP 0 rfl rfl 2 (by decide) (hT _ sw_517) (fun _ h9 => h9) rfl dX11_fault_5 ?_
    refine va_getN (D := D) (ci := 4) (v := .int 0) (C := RX4) (T := TX4) (N := 9) hx hb hT ix_4 hown hK hP 1 rfl rfl 7 (by decide) (hT _ sw_224) (fun _ h9 => h9) rfl dX11_fault_8 ?_
    refine ct_i (z := sp_fault p0) (pl_6 p0 c_1) ?_
    exact W.iret (v := sp_fault p0) hx hb hr (fun t ht _ => ⟨rfl, ht⟩) (fun _ h9 => nomatch h9) dX11_fault_11
set_option maxHeartbeats 4000000 in
set_option maxRecDepth 100000 in
theorem kX11_has_0 (l : Launch) (D : va_G) (cI : ClassId) (h0 : Nat) (a : Nat → Nat) (p0 : Int32) : Met l yX11_has (sw_ws yX11_has cX11_has 2 (some .int)) (rm_ 0 0 0 0) (p_R D vwCl [(cI, .int)] [.ref h0, .int p0] [(h0, .inr (11, (Value.ref (a 0) :: Value.ref (a 1) :: Value.ref (a 2) :: Value.ref (a 3) :: Value.ref (a 4) :: Value.ref (a 5) :: Value.ref (a 6) :: Value.ref (a 7) :: Value.ref (a 8) :: Value.ref (a 9) :: Value.ref (a 10) :: Value.ref (a 11) :: Value.ref (a 12) :: Value.ref (a 13) :: Value.ref (a 14) :: Value.int 0 :: Value.int 0 :: Value.int 0 :: []))), ((a 1), .inr (3, [.ref (a 16), .ref (a 17), .ref (a 18), .ref (a 19), .int 0, .int 0, .int 0, .int 0])), ((a 11), .inr (6, [.ref (a 44), .int 0, .int 0, .int 0, .int 1]))]) (q_R (some (.int (sp_has p0)))) 0 0 (fun _ => False) := by
  refine Met.ofW (cc := cX11_has) (maxL := 2) (ret := (some .int)) (by decide) rfl ?_
  intro p e s m args below meth c s₁ B hml hv
  obtain ⟨rfl, hP, hK⟩ := hv
  have hx := B.exec
  have hb := B.bytes
  have hr := B.returns
  have hT := sw_in (atoms_spec (ws := sw_ws yX11_has cX11_has 2 (some .int)) B.pre)
  have hown : s.vm.findClass RX11 = some m.cls := findClass_of_methodNamed B.named
  have hlocks := B.notSynchronized
  have hl := lv_entry ([.ref h0, .int p0]) (n := 2) (Nat.le_of_ble_eq_true rfl)
  rw [lg_entry_eq]
  generalize (lg_sl ([.ref h0, .int p0]) ++ List.replicate (2 - (lg_sl ([.ref h0, .int p0])).length) Slot.unset).toArray = ls at hl ⊢
  have hl : lv_has ls 2 [(0, .ref h0), (1, .int p0)] := hl
  refine lv_iload_n hx hb dX11_has_0 rfl (lv_at hl 1 rfl) ?_
  refine lv_bipush (v := 14) hx hb dX11_has_1 (by decide) ?_
  refine lv_icmp_ne (tgt := 14) hx hb dX11_has_3 (by decide) (fun c_1 => ?_) (fun c_1 => ?_)
  · refine lv_iload_n hx hb dX11_has_14 rfl (lv_at hl 1 rfl) ?_
    refine lv_if_lt (tgt := 24) hx hb dX11_has_15 (by decide) (fun c_2 => ?_) (fun c_2 => ?_)
    · refine lv_iconst (v := (-1)) hx hb dX11_has_24 (by decide) ?_
      refine ct_i (z := sp_has p0) (pl_7 p0 c_1 c_2) ?_
      exact W.iret (v := sp_has p0) hx hb hr (fun t ht _ => ⟨rfl, ht⟩) (fun _ h9 => nomatch h9) dX11_has_25
    · refine lv_iload_n hx hb dX11_has_18 rfl (lv_at hl 1 rfl) ?_
      refine lv_bipush (v := 14) hx hb dX11_has_19 (by decide) ?_
      refine lv_icmp_le (tgt := 26) hx hb dX11_has_21 (by decide) (fun c_3 => ?_) (fun c_3 => ?_)
      · refine lv_aload_n hx hb dX11_has_26 rfl (lv_at hl 0 rfl) ?_
        refine va_get (D := D) (ci := 11) (v := .ref (a 1)) (C := RX11) (T := TX11) (N := 18) hx hb hT ix_11 hown hK hP 0 rfl rfl 1 (by decide) (hT _ sw_516) (fun _ h9 => h9) rfl dX11_has_27 ?_
        refine va_getN (D := D) (ci := 3) (v := .int 0) (C := RX3) (T := TX3) (N := 8) hx hb hT ix_3 hown hK hP 1 rfl rfl 4 (by decide) (hT _ sw_180) (fun _ h9 => h9) rfl dX11_has_30 ?_
        refine lv_if_ne (tgt := 38) hx hb dX11_has_33 (by decide) (fun h9 => absurd (by decide) h9) (fun _ => ?_)
        refine lv_iconst (v := 0) hx hb dX11_has_36 (by decide) ?_
        refine ct_i (z := sp_has p0) (pl_8 p0 c_1 c_2 c_3) ?_
        exact W.iret (v := sp_has p0) hx hb hr (fun t ht _ => ⟨rfl, ht⟩) (fun _ h9 => nomatch h9) dX11_has_37
      · refine lv_iconst (v := (-1)) hx hb dX11_has_24 (by decide) ?_
        refine ct_i (z := sp_has p0) (pl_9 p0 c_1 c_2 c_3) ?_
        exact W.iret (v := sp_has p0) hx hb hr (fun t ht _ => ⟨rfl, ht⟩) (fun _ h9 => nomatch h9) dX11_has_25
  · refine lv_aload_n hx hb dX11_has_6 rfl (lv_at hl 0 rfl) ?_
    refine va_get (D := D) (ci := 11) (v := .ref (a 11)) (C := RX11) (T := TX11) (N := 18) hx hb hT ix_11 hown hK hP 0 rfl rfl 11 (by decide) (hT _ sw_526) (fun _ h9 => h9) rfl dX11_has_7 ?_
    refine va_getN (D := D) (ci := 6) (v := .int 1) (C := RX6) (T := TX6) (N := 5) hx hb hT ix_6 hown hK hP 2 rfl rfl 4 (by decide) (hT _ sw_506) (fun _ h9 => h9) rfl dX11_has_10 ?_
    refine ct_i (z := sp_has p0) (pl_10 p0 c_1) ?_
    exact W.iret (v := sp_has p0) hx hb hr (fun t ht _ => ⟨rfl, ht⟩) (fun _ h9 => nomatch h9) dX11_has_13
set_option maxHeartbeats 4000000 in
set_option maxRecDepth 100000 in
theorem kX11_isThing_0 (l : Launch) (D : va_G) (cI : ClassId) (h0 : Nat) (a : Nat → Nat) (p0 : Int32) : Met l yX11_isThing (sw_ws yX11_isThing cX11_isThing 2 (some .boolean)) (rm_ 0 0 0 0) (p_R D vwCl [(cI, .int)] [.ref h0, .int p0] [(h0, .inr (11, (Value.ref (a 0) :: Value.ref (a 1) :: Value.ref (a 2) :: Value.ref (a 3) :: Value.ref (a 4) :: Value.ref (a 5) :: Value.ref (a 6) :: Value.ref (a 7) :: Value.ref (a 8) :: Value.ref (a 9) :: Value.ref (a 10) :: Value.ref (a 11) :: Value.ref (a 12) :: Value.ref (a 13) :: Value.ref (a 14) :: Value.int 0 :: Value.int 0 :: Value.int 0 :: []))), ((a 5), .inr (5, (Value.ref (a 30) :: Value.ref (a 31) :: Value.ref (a 32) :: Value.ref (a 33) :: Value.ref (a 34) :: Value.ref (a 35) :: Value.ref (a 36) :: Value.ref (a 37) :: Value.int 0 :: Value.int 0 :: Value.int 0 :: Value.int 0 :: Value.int 0 :: Value.int 0 :: Value.int 0 :: [])))]) (q_R (some (.int 0))) 0 0 (fun _ => False) := by
  refine Met.ofW (cc := cX11_isThing) (maxL := 2) (ret := (some .boolean)) (by decide) rfl ?_
  intro p e s m args below meth c s₁ B hml hv
  obtain ⟨rfl, hP, hK⟩ := hv
  have hx := B.exec
  have hb := B.bytes
  have hr := B.returns
  have hT := sw_in (atoms_spec (ws := sw_ws yX11_isThing cX11_isThing 2 (some .boolean)) B.pre)
  have hown : s.vm.findClass RX11 = some m.cls := findClass_of_methodNamed B.named
  have hlocks := B.notSynchronized
  have hl := lv_entry ([.ref h0, .int p0]) (n := 2) (Nat.le_of_ble_eq_true rfl)
  rw [lg_entry_eq]
  generalize (lg_sl ([.ref h0, .int p0]) ++ List.replicate (2 - (lg_sl ([.ref h0, .int p0])).length) Slot.unset).toArray = ls at hl ⊢
  have hl : lv_has ls 2 [(0, .ref h0), (1, .int p0)] := hl
  refine lv_iload_n hx hb dX11_isThing_0 rfl (lv_at hl 1 rfl) ?_
  refine lv_if_lt (tgt := 25) hx hb dX11_isThing_1 (by decide) (fun c_1 => ?_) (fun c_1 => ?_)
  · refine lv_iconst (v := 0) hx hb dX11_isThing_25 (by decide) ?_
    exact W.zret (v := 0) hx hb hr (by decide) (fun t ht _ => ⟨rfl, ht⟩) (fun _ h9 => nomatch h9) dX11_isThing_26
  · refine lv_iload_n hx hb dX11_isThing_4 rfl (lv_at hl 1 rfl) ?_
    refine lv_aload_n hx hb dX11_isThing_5 rfl (lv_at hl 0 rfl) ?_
    refine va_get (D := D) (ci := 11) (v := .ref (a 5)) (C := RX11) (T := TX11) (N := 18) hx hb hT ix_11 hown hK hP 0 rfl rfl 5 (by decide) (hT _ sw_520) (fun _ h9 => h9) rfl dX11_isThing_6 ?_
    refine va_getN (D := D) (ci := 5) (v := .int 0) (C := RX5) (T := TX5) (N := 15) hx hb hT ix_5 hown hK hP 1 rfl rfl 8 (by decide) (hT _ sw_345) (fun _ h9 => h9) rfl dX11_isThing_9 ?_
    refine lv_icmp_ge (tgt := 25) hx hb dX11_isThing_12 (by decide) (fun c_2 => ?_) (fun c_2 => ?_)
    · refine lv_iconst (v := 0) hx hb dX11_isThing_25 (by decide) ?_
      exact W.zret (v := 0) hx hb hr (by decide) (fun t ht _ => ⟨rfl, ht⟩) (fun _ h9 => nomatch h9) dX11_isThing_26
    · exact (pl_11 p0 c_1 c_2).elim
set_option maxHeartbeats 4000000 in
set_option maxRecDepth 100000 in
theorem kX11_letter_0 (l : Launch) (D : va_G) (cI : ClassId) (h0 : Nat) (a : Nat → Nat) (p0 p1 : Int32) : Met l yX11_letter (sw_ws yX11_letter cX11_letter 3 (some .int)) (rm_ 1 21 0 0) (p_R D vwCl [(cI, .int)] [.ref h0, .int p0, .int p1] [(h0, .inr (11, (Value.ref (a 0) :: Value.ref (a 1) :: Value.ref (a 2) :: Value.ref (a 3) :: Value.ref (a 4) :: Value.ref (a 5) :: Value.ref (a 6) :: Value.ref (a 7) :: Value.ref (a 8) :: Value.ref (a 9) :: Value.ref (a 10) :: Value.ref (a 11) :: Value.ref (a 12) :: Value.ref (a 13) :: Value.ref (a 14) :: Value.int 0 :: Value.int 0 :: Value.int 0 :: []))), ((a 5), .inr (5, (Value.ref (a 30) :: Value.ref (a 31) :: Value.ref (a 32) :: Value.ref (a 33) :: Value.ref (a 34) :: Value.ref (a 35) :: Value.ref (a 36) :: Value.ref (a 37) :: Value.int 0 :: Value.int 0 :: Value.int 0 :: Value.int 0 :: Value.int 0 :: Value.int 0 :: Value.int 0 :: [])))]) (q_R (some (.int (-1)))) 0 0 (fun _ => False) := by
  refine Met.ofW (cc := cX11_letter) (maxL := 3) (ret := (some .int)) (by decide) rfl ?_
  intro p e s m args below meth c s₁ B hml hv
  obtain ⟨rfl, hP, hK⟩ := hv
  have hx := B.exec
  have hb := B.bytes
  have hr := B.returns
  have hT := sw_in (atoms_spec (ws := sw_ws yX11_letter cX11_letter 3 (some .int)) B.pre)
  have hown : s.vm.findClass RX11 = some m.cls := findClass_of_methodNamed B.named
  have hlocks := B.notSynchronized
  have hl := lv_entry ([.ref h0, .int p0, .int p1]) (n := 3) (Nat.le_of_ble_eq_true rfl)
  rw [lg_entry_eq]
  generalize (lg_sl ([.ref h0, .int p0, .int p1]) ++ List.replicate (3 - (lg_sl ([.ref h0, .int p0, .int p1])).length) Slot.unset).toArray = ls at hl ⊢
  have hl : lv_has ls 3 [(0, .ref h0), (1, .int p0), (2, .int p1)] := hl
  refine lv_aload_n hx hb dX11_letter_0 rfl (lv_at hl 0 rfl) ?_
  refine lv_iload_n hx hb dX11_letter_1 rfl (lv_at hl 1 rfl) ?_
  refine go_R (v := some (.int 0)) (st1 := [.int 0]) (run_V (As := [.int p0]) (rest := []) ⟨hx, hb, hml, hown, hT⟩ (kX11_isThing_0 l D cI h0 a p0) sw_830 lkv_X11_isThing (p_R_V (ci := 11) (q0 := 0) (hP.sub (ws' := [(h0, .inr (11, (Value.ref (a 0) :: Value.ref (a 1) :: Value.ref (a 2) :: Value.ref (a 3) :: Value.ref (a 4) :: Value.ref (a 5) :: Value.ref (a 6) :: Value.ref (a 7) :: Value.ref (a 8) :: Value.ref (a 9) :: Value.ref (a 10) :: Value.ref (a 11) :: Value.ref (a 12) :: Value.ref (a 13) :: Value.ref (a 14) :: Value.int 0 :: Value.int 0 :: Value.int 0 :: []))), ((a 5), .inr (5, (Value.ref (a 30) :: Value.ref (a 31) :: Value.ref (a 32) :: Value.ref (a 33) :: Value.ref (a 34) :: Value.ref (a 35) :: Value.ref (a 36) :: Value.ref (a 37) :: Value.int 0 :: Value.int 0 :: Value.int 0 :: Value.int 0 :: Value.int 0 :: Value.int 0 :: Value.int 0 :: [])))]) [0, 1] rfl) hK rfl rfl) rfl hl.1 rfl (Nat.le_of_ble_eq_true rfl) dX11_letter_2 ⟨⟨Nat.le_of_ble_eq_true rfl, Nat.le_of_ble_eq_true rfl⟩, Nat.le_of_ble_eq_true rfl, Nat.le_of_ble_eq_true rfl⟩) rfl ?_
  refine lv_if_eq (tgt := 24) hx hb dX11_letter_5 (by decide) (fun _ => ?_) (fun h9 => absurd (by decide) h9)
  refine lv_iconst (v := (-1)) hx hb dX11_letter_24 (by decide) ?_
  exact W.iret (v := (-1)) hx hb hr (fun t ht _ => ⟨rfl, ht⟩) (fun _ h9 => nomatch h9) dX11_letter_25
set_option maxHeartbeats 4000000 in
set_option maxRecDepth 100000 in
theorem kX11_thing_0 (l : Launch) (D : va_G) (cI : ClassId) (h0 : Nat) (a : Nat → Nat) (p0 p1 : Int32) : Met l yX11_thing (sw_ws yX11_thing cX11_thing 3 (some .int)) (rm_ 1 21 0 0) (p_R D vwCl [(cI, .int)] [.ref h0, .int p0, .int p1] [(h0, .inr (11, (Value.ref (a 0) :: Value.ref (a 1) :: Value.ref (a 2) :: Value.ref (a 3) :: Value.ref (a 4) :: Value.ref (a 5) :: Value.ref (a 6) :: Value.ref (a 7) :: Value.ref (a 8) :: Value.ref (a 9) :: Value.ref (a 10) :: Value.ref (a 11) :: Value.ref (a 12) :: Value.ref (a 13) :: Value.ref (a 14) :: Value.int 0 :: Value.int 0 :: Value.int 0 :: []))), ((a 5), .inr (5, (Value.ref (a 30) :: Value.ref (a 31) :: Value.ref (a 32) :: Value.ref (a 33) :: Value.ref (a 34) :: Value.ref (a 35) :: Value.ref (a 36) :: Value.ref (a 37) :: Value.int 0 :: Value.int 0 :: Value.int 0 :: Value.int 0 :: Value.int 0 :: Value.int 0 :: Value.int 0 :: [])))]) (q_R (some (.int (-1)))) 0 0 (fun _ => False) := by
  refine Met.ofW (cc := cX11_thing) (maxL := 3) (ret := (some .int)) (by decide) rfl ?_
  intro p e s m args below meth c s₁ B hml hv
  obtain ⟨rfl, hP, hK⟩ := hv
  have hx := B.exec
  have hb := B.bytes
  have hr := B.returns
  have hT := sw_in (atoms_spec (ws := sw_ws yX11_thing cX11_thing 3 (some .int)) B.pre)
  have hown : s.vm.findClass RX11 = some m.cls := findClass_of_methodNamed B.named
  have hlocks := B.notSynchronized
  have hl := lv_entry ([.ref h0, .int p0, .int p1]) (n := 3) (Nat.le_of_ble_eq_true rfl)
  rw [lg_entry_eq]
  generalize (lg_sl ([.ref h0, .int p0, .int p1]) ++ List.replicate (3 - (lg_sl ([.ref h0, .int p0, .int p1])).length) Slot.unset).toArray = ls at hl ⊢
  have hl : lv_has ls 3 [(0, .ref h0), (1, .int p0), (2, .int p1)] := hl
  refine lv_aload_n hx hb dX11_thing_0 rfl (lv_at hl 0 rfl) ?_
  refine lv_iload_n hx hb dX11_thing_1 rfl (lv_at hl 1 rfl) ?_
  refine go_R (v := some (.int 0)) (st1 := [.int 0]) (run_V (As := [.int p0]) (rest := []) ⟨hx, hb, hml, hown, hT⟩ (kX11_isThing_0 l D cI h0 a p0) sw_830 lkv_X11_isThing (p_R_V (ci := 11) (q0 := 0) (hP.sub (ws' := [(h0, .inr (11, (Value.ref (a 0) :: Value.ref (a 1) :: Value.ref (a 2) :: Value.ref (a 3) :: Value.ref (a 4) :: Value.ref (a 5) :: Value.ref (a 6) :: Value.ref (a 7) :: Value.ref (a 8) :: Value.ref (a 9) :: Value.ref (a 10) :: Value.ref (a 11) :: Value.ref (a 12) :: Value.ref (a 13) :: Value.ref (a 14) :: Value.int 0 :: Value.int 0 :: Value.int 0 :: []))), ((a 5), .inr (5, (Value.ref (a 30) :: Value.ref (a 31) :: Value.ref (a 32) :: Value.ref (a 33) :: Value.ref (a 34) :: Value.ref (a 35) :: Value.ref (a 36) :: Value.ref (a 37) :: Value.int 0 :: Value.int 0 :: Value.int 0 :: Value.int 0 :: Value.int 0 :: Value.int 0 :: Value.int 0 :: [])))]) [0, 1] rfl) hK rfl rfl) rfl hl.1 rfl (Nat.le_of_ble_eq_true rfl) dX11_thing_2 ⟨⟨Nat.le_of_ble_eq_true rfl, Nat.le_of_ble_eq_true rfl⟩, Nat.le_of_ble_eq_true rfl, Nat.le_of_ble_eq_true rfl⟩) rfl ?_
  refine lv_if_ne (tgt := 10) hx hb dX11_thing_5 (by decide) (fun h9 => absurd (by decide) h9) (fun _ => ?_)
  refine lv_iconst (v := (-1)) hx hb dX11_thing_8 (by decide) ?_
  exact W.iret (v := (-1)) hx hb hr (fun t ht _ => ⟨rfl, ht⟩) (fun _ h9 => nomatch h9) dX11_thing_9
set_option maxHeartbeats 4000000 in
set_option maxRecDepth 100000 in
theorem kX11_weight_0 (l : Launch) (D : va_G) (cI : ClassId) (h0 : Nat) (a : Nat → Nat) (p0 : Int32) : Met l yX11_weight (sw_ws yX11_weight cX11_weight 8 (some .long)) (rm_ 1 21 0 0) (p_R D vwCl [(cI, .int)] [.ref h0, .int p0] [(h0, .inr (11, (Value.ref (a 0) :: Value.ref (a 1) :: Value.ref (a 2) :: Value.ref (a 3) :: Value.ref (a 4) :: Value.ref (a 5) :: Value.ref (a 6) :: Value.ref (a 7) :: Value.ref (a 8) :: Value.ref (a 9) :: Value.ref (a 10) :: Value.ref (a 11) :: Value.ref (a 12) :: Value.ref (a 13) :: Value.ref (a 14) :: Value.int 0 :: Value.int 0 :: Value.int 0 :: []))), ((a 5), .inr (5, (Value.ref (a 30) :: Value.ref (a 31) :: Value.ref (a 32) :: Value.ref (a 33) :: Value.ref (a 34) :: Value.ref (a 35) :: Value.ref (a 36) :: Value.ref (a 37) :: Value.int 0 :: Value.int 0 :: Value.int 0 :: Value.int 0 :: Value.int 0 :: Value.int 0 :: Value.int 0 :: [])))]) (q_R (some (.long (-1)))) 0 0 (fun _ => False) := by
  refine Met.ofW (cc := cX11_weight) (maxL := 8) (ret := (some .long)) (by decide) rfl ?_
  intro p e s m args below meth c s₁ B hml hv
  obtain ⟨rfl, hP, hK⟩ := hv
  have hx := B.exec
  have hb := B.bytes
  have hr := B.returns
  have hT := sw_in (atoms_spec (ws := sw_ws yX11_weight cX11_weight 8 (some .long)) B.pre)
  have hown : s.vm.findClass RX11 = some m.cls := findClass_of_methodNamed B.named
  have hlocks := B.notSynchronized
  have hl := lv_entry ([.ref h0, .int p0]) (n := 8) (Nat.le_of_ble_eq_true rfl)
  rw [lg_entry_eq]
  generalize (lg_sl ([.ref h0, .int p0]) ++ List.replicate (8 - (lg_sl ([.ref h0, .int p0])).length) Slot.unset).toArray = ls at hl ⊢
  have hl : lv_has ls 8 [(0, .ref h0), (1, .int p0)] := hl
  refine lv_aload_n hx hb dX11_weight_0 rfl (lv_at hl 0 rfl) ?_
  refine lv_iload_n hx hb dX11_weight_1 rfl (lv_at hl 1 rfl) ?_
  refine go_R (v := some (.int 0)) (st1 := [.int 0]) (run_V (As := [.int p0]) (rest := []) ⟨hx, hb, hml, hown, hT⟩ (kX11_isThing_0 l D cI h0 a p0) sw_830 lkv_X11_isThing (p_R_V (ci := 11) (q0 := 0) (hP.sub (ws' := [(h0, .inr (11, (Value.ref (a 0) :: Value.ref (a 1) :: Value.ref (a 2) :: Value.ref (a 3) :: Value.ref (a 4) :: Value.ref (a 5) :: Value.ref (a 6) :: Value.ref (a 7) :: Value.ref (a 8) :: Value.ref (a 9) :: Value.ref (a 10) :: Value.ref (a 11) :: Value.ref (a 12) :: Value.ref (a 13) :: Value.ref (a 14) :: Value.int 0 :: Value.int 0 :: Value.int 0 :: []))), ((a 5), .inr (5, (Value.ref (a 30) :: Value.ref (a 31) :: Value.ref (a 32) :: Value.ref (a 33) :: Value.ref (a 34) :: Value.ref (a 35) :: Value.ref (a 36) :: Value.ref (a 37) :: Value.int 0 :: Value.int 0 :: Value.int 0 :: Value.int 0 :: Value.int 0 :: Value.int 0 :: Value.int 0 :: [])))]) [0, 1] rfl) hK rfl rfl) rfl hl.1 rfl (Nat.le_of_ble_eq_true rfl) dX11_weight_2 ⟨⟨Nat.le_of_ble_eq_true rfl, Nat.le_of_ble_eq_true rfl⟩, Nat.le_of_ble_eq_true rfl, Nat.le_of_ble_eq_true rfl⟩) rfl ?_
  refine lv_if_ne (tgt := 12) hx hb dX11_weight_5 (by decide) (fun h9 => absurd (by decide) h9) (fun _ => ?_)
  refine lv_ldc2 (own := RX11) (v := (-1)) hx hb hown (hT _ sw_847) dX11_weight_8 ?_
  exact W.lret (v := (-1)) hx hb hr (fun t ht _ => ⟨rfl, ht⟩) (fun _ h9 => nomatch h9) dX11_weight_11
set_option maxHeartbeats 4000000 in
set_option maxRecDepth 100000 in
theorem kX5_columns_0 (l : Launch) (D : va_G) (cI : ClassId) (h0 : Nat) (a : Nat → Nat) : Met l yX5_columns (sw_ws yX5_columns cX5_columns 1 (some .int)) (rm_ 0 0 0 0) (p_R D vwCl [(cI, .int)] [.ref (a 5)] [((a 5), .inr (5, (Value.ref (a 30) :: Value.ref (a 31) :: Value.ref (a 32) :: Value.ref (a 33) :: Value.ref (a 34) :: Value.ref (a 35) :: Value.ref (a 36) :: Value.ref (a 37) :: Value.int 0 :: Value.int 0 :: Value.int 0 :: Value.int 0 :: Value.int 0 :: Value.int 0 :: Value.int 0 :: [])))]) (q_R (some (.int 0))) 0 0 (fun _ => False) := by
  refine Met.ofW (cc := cX5_columns) (maxL := 1) (ret := (some .int)) (by decide) rfl ?_
  intro p e s m args below meth c s₁ B hml hv
  obtain ⟨rfl, hP, hK⟩ := hv
  have hx := B.exec
  have hb := B.bytes
  have hr := B.returns
  have hT := sw_in (atoms_spec (ws := sw_ws yX5_columns cX5_columns 1 (some .int)) B.pre)
  have hown : s.vm.findClass RX5 = some m.cls := findClass_of_methodNamed B.named
  have hlocks := B.notSynchronized
  have hl := lv_entry ([.ref (a 5)]) (n := 1) (Nat.le_of_ble_eq_true rfl)
  rw [lg_entry_eq]
  generalize (lg_sl ([.ref (a 5)]) ++ List.replicate (1 - (lg_sl ([.ref (a 5)])).length) Slot.unset).toArray = ls at hl ⊢
  have hl : lv_has ls 1 [(0, .ref (a 5))] := hl
  refine lv_aload_n hx hb dX5_columns_0 rfl (lv_at hl 0 rfl) ?_
  refine va_get (D := D) (ci := 5) (v := .int 0) (C := RX5) (T := TX5) (N := 15) hx hb hT ix_5 hown hK hP 0 rfl rfl 10 (by decide) (hT _ sw_350) (fun _ h9 => h9) rfl dX5_columns_1 ?_
  refine lv_if_le (tgt := 14) hx hb dX5_columns_4 (by decide) (fun _ => ?_) (fun h9 => absurd (by decide) h9)
  refine lv_iconst (v := 0) hx hb dX5_columns_14 (by decide) ?_
  exact W.iret (v := 0) hx hb hr (fun t ht _ => ⟨rfl, ht⟩) (fun _ h9 => nomatch h9) dX5_columns_15
set_option maxHeartbeats 4000000 in
set_option maxRecDepth 100000 in
theorem kX11_column_0 (l : Launch) (D : va_G) (cI : ClassId) (h0 : Nat) (a : Nat → Nat) (p0 p1 : Int32) : Met l yX11_column (sw_ws yX11_column cX11_column 3 (some .int)) (rm_ 1 20 0 0) (p_R D vwCl [(cI, .int)] [.ref h0, .int p0, .int p1] [(h0, .inr (11, (Value.ref (a 0) :: Value.ref (a 1) :: Value.ref (a 2) :: Value.ref (a 3) :: Value.ref (a 4) :: Value.ref (a 5) :: Value.ref (a 6) :: Value.ref (a 7) :: Value.ref (a 8) :: Value.ref (a 9) :: Value.ref (a 10) :: Value.ref (a 11) :: Value.ref (a 12) :: Value.ref (a 13) :: Value.ref (a 14) :: Value.int 0 :: Value.int 0 :: Value.int 0 :: []))), ((a 5), .inr (5, (Value.ref (a 30) :: Value.ref (a 31) :: Value.ref (a 32) :: Value.ref (a 33) :: Value.ref (a 34) :: Value.ref (a 35) :: Value.ref (a 36) :: Value.ref (a 37) :: Value.int 0 :: Value.int 0 :: Value.int 0 :: Value.int 0 :: Value.int 0 :: Value.int 0 :: Value.int 0 :: [])))]) (q_R (some (.int (-1)))) 0 0 (fun _ => False) := by
  refine Met.ofW (cc := cX11_column) (maxL := 3) (ret := (some .int)) (by decide) rfl ?_
  intro p e s m args below meth c s₁ B hml hv
  obtain ⟨rfl, hP, hK⟩ := hv
  have hx := B.exec
  have hb := B.bytes
  have hr := B.returns
  have hT := sw_in (atoms_spec (ws := sw_ws yX11_column cX11_column 3 (some .int)) B.pre)
  have hown : s.vm.findClass RX11 = some m.cls := findClass_of_methodNamed B.named
  have hlocks := B.notSynchronized
  have hl := lv_entry ([.ref h0, .int p0, .int p1]) (n := 3) (Nat.le_of_ble_eq_true rfl)
  rw [lg_entry_eq]
  generalize (lg_sl ([.ref h0, .int p0, .int p1]) ++ List.replicate (3 - (lg_sl ([.ref h0, .int p0, .int p1])).length) Slot.unset).toArray = ls at hl ⊢
  have hl : lv_has ls 3 [(0, .ref h0), (1, .int p0), (2, .int p1)] := hl
  refine lv_iload_n hx hb dX11_column_0 rfl (lv_at hl 1 rfl) ?_
  refine lv_if_lt (tgt := 15) hx hb dX11_column_1 (by decide) (fun c_1 => ?_) (fun c_1 => ?_)
  · refine lv_iconst (v := (-1)) hx hb dX11_column_15 (by decide) ?_
    exact W.iret (v := (-1)) hx hb hr (fun t ht _ => ⟨rfl, ht⟩) (fun _ h9 => nomatch h9) dX11_column_16
  · refine lv_iload_n hx hb dX11_column_4 rfl (lv_at hl 1 rfl) ?_
    refine lv_aload_n hx hb dX11_column_5 rfl (lv_at hl 0 rfl) ?_
    refine va_get (D := D) (ci := 11) (v := .ref (a 5)) (C := RX11) (T := TX11) (N := 18) hx hb hT ix_11 hown hK hP 0 rfl rfl 5 (by decide) (hT _ sw_520) (fun _ h9 => h9) rfl dX11_column_6 ?_
    refine go_R (v := some (.int 0)) (st1 := [.int 0, .int p0]) (run_V (As := []) (rest := [.int p0]) ⟨hx, hb, hml, hown, hT⟩ (kX5_columns_0 l D cI h0 a) sw_854 lkv_X5_columns (p_R_V (ci := 5) (q0 := 0) (hP.sub (ws' := [((a 5), .inr (5, (Value.ref (a 30) :: Value.ref (a 31) :: Value.ref (a 32) :: Value.ref (a 33) :: Value.ref (a 34) :: Value.ref (a 35) :: Value.ref (a 36) :: Value.ref (a 37) :: Value.int 0 :: Value.int 0 :: Value.int 0 :: Value.int 0 :: Value.int 0 :: Value.int 0 :: Value.int 0 :: [])))]) [1] rfl) hK rfl rfl) rfl hl.1 rfl (Nat.le_of_ble_eq_true rfl) dX11_column_9 ⟨⟨Nat.le_of_ble_eq_true rfl, Nat.le_of_ble_eq_true rfl⟩, Nat.le_of_ble_eq_true rfl, Nat.le_of_ble_eq_true rfl⟩) rfl ?_
    refine lv_icmp_lt (tgt := 17) hx hb dX11_column_12 (by decide) (fun c_2 => ?_) (fun c_2 => ?_)
    · exact (pl_12 p0 c_1 c_2).elim
    · refine lv_iconst (v := (-1)) hx hb dX11_column_15 (by decide) ?_
      exact W.iret (v := (-1)) hx hb hr (fun t ht _ => ⟨rfl, ht⟩) (fun _ h9 => nomatch h9) dX11_column_16
set_option maxHeartbeats 4000000 in
set_option maxRecDepth 100000 in
theorem kX11_mass_0 (l : Launch) (D : va_G) (cI : ClassId) (h0 : Nat) (a : Nat → Nat) (p0 : Int32) : Met l yX11_mass (sw_ws yX11_mass cX11_mass 4 (some .int)) (rm_ 1 21 0 0) (p_R D vwCl [(cI, .int)] [.ref h0, .int p0] [(h0, .inr (11, (Value.ref (a 0) :: Value.ref (a 1) :: Value.ref (a 2) :: Value.ref (a 3) :: Value.ref (a 4) :: Value.ref (a 5) :: Value.ref (a 6) :: Value.ref (a 7) :: Value.ref (a 8) :: Value.ref (a 9) :: Value.ref (a 10) :: Value.ref (a 11) :: Value.ref (a 12) :: Value.ref (a 13) :: Value.ref (a 14) :: Value.int 0 :: Value.int 0 :: Value.int 0 :: []))), ((a 5), .inr (5, (Value.ref (a 30) :: Value.ref (a 31) :: Value.ref (a 32) :: Value.ref (a 33) :: Value.ref (a 34) :: Value.ref (a 35) :: Value.ref (a 36) :: Value.ref (a 37) :: Value.int 0 :: Value.int 0 :: Value.int 0 :: Value.int 0 :: Value.int 0 :: Value.int 0 :: Value.int 0 :: [])))]) (q_R (some (.int (-1)))) 0 0 (fun _ => False) := by
  refine Met.ofW (cc := cX11_mass) (maxL := 4) (ret := (some .int)) (by decide) rfl ?_
  intro p e s m args below meth c s₁ B hml hv
  obtain ⟨rfl, hP, hK⟩ := hv
  have hx := B.exec
  have hb := B.bytes
  have hr := B.returns
  have hT := sw_in (atoms_spec (ws := sw_ws yX11_mass cX11_mass 4 (some .int)) B.pre)
  have hown : s.vm.findClass RX11 = some m.cls := findClass_of_methodNamed B.named
  have hlocks := B.notSynchronized
  have hl := lv_entry ([.ref h0, .int p0]) (n := 4) (Nat.le_of_ble_eq_true rfl)
  rw [lg_entry_eq]
  generalize (lg_sl ([.ref h0, .int p0]) ++ List.replicate (4 - (lg_sl ([.ref h0, .int p0])).length) Slot.unset).toArray = ls at hl ⊢
  have hl : lv_has ls 4 [(0, .ref h0), (1, .int p0)] := hl
  refine lv_aload_n hx hb dX11_mass_0 rfl (lv_at hl 0 rfl) ?_
  refine lv_iload_n hx hb dX11_mass_1 rfl (lv_at hl 1 rfl) ?_
  refine go_R (v := some (.int 0)) (st1 := [.int 0]) (run_V (As := [.int p0]) (rest := []) ⟨hx, hb, hml, hown, hT⟩ (kX11_isThing_0 l D cI h0 a p0) sw_830 lkv_X11_isThing (p_R_V (ci := 11) (q0 := 0) (hP.sub (ws' := [(h0, .inr (11, (Value.ref (a 0) :: Value.ref (a 1) :: Value.ref (a 2) :: Value.ref (a 3) :: Value.ref (a 4) :: Value.ref (a 5) :: Value.ref (a 6) :: Value.ref (a 7) :: Value.ref (a 8) :: Value.ref (a 9) :: Value.ref (a 10) :: Value.ref (a 11) :: Value.ref (a 12) :: Value.ref (a 13) :: Value.ref (a 14) :: Value.int 0 :: Value.int 0 :: Value.int 0 :: []))), ((a 5), .inr (5, (Value.ref (a 30) :: Value.ref (a 31) :: Value.ref (a 32) :: Value.ref (a 33) :: Value.ref (a 34) :: Value.ref (a 35) :: Value.ref (a 36) :: Value.ref (a 37) :: Value.int 0 :: Value.int 0 :: Value.int 0 :: Value.int 0 :: Value.int 0 :: Value.int 0 :: Value.int 0 :: [])))]) [0, 1] rfl) hK rfl rfl) rfl hl.1 rfl (Nat.le_of_ble_eq_true rfl) dX11_mass_2 ⟨⟨Nat.le_of_ble_eq_true rfl, Nat.le_of_ble_eq_true rfl⟩, Nat.le_of_ble_eq_true rfl, Nat.le_of_ble_eq_true rfl⟩) rfl ?_
  refine lv_if_eq (tgt := 18) hx hb dX11_mass_5 (by decide) (fun _ => ?_) (fun h9 => absurd (by decide) h9)
  refine lv_iconst (v := (-1)) hx hb dX11_mass_18 (by decide) ?_
  exact W.iret (v := (-1)) hx hb hr (fun t ht _ => ⟨rfl, ht⟩) (fun _ h9 => nomatch h9) dX11_mass_19
set_option maxHeartbeats 4000000 in
set_option maxRecDepth 100000 in
theorem kX5_ranked_0 (l : Launch) (D : va_G) (cI : ClassId) (h0 : Nat) (a : Nat → Nat) (p0 : Int32) : Met l yX5_ranked (sw_ws yX5_ranked cX5_ranked 5 (some .int)) (rm_ 0 0 0 0) (p_R D vwCl [(cI, .int)] [.ref (a 5), .int p0] [((a 5), .inr (5, (Value.ref (a 30) :: Value.ref (a 31) :: Value.ref (a 32) :: Value.ref (a 33) :: Value.ref (a 34) :: Value.ref (a 35) :: Value.ref (a 36) :: Value.ref (a 37) :: Value.int 0 :: Value.int 0 :: Value.int 0 :: Value.int 0 :: Value.int 0 :: Value.int 0 :: Value.int 0 :: [])))]) (q_R (some (.int (-1)))) 0 0 (fun _ => False) := by
  refine Met.ofW (cc := cX5_ranked) (maxL := 5) (ret := (some .int)) (by decide) rfl ?_
  intro p e s m args below meth c s₁ B hml hv
  obtain ⟨rfl, hP, hK⟩ := hv
  have hx := B.exec
  have hb := B.bytes
  have hr := B.returns
  have hT := sw_in (atoms_spec (ws := sw_ws yX5_ranked cX5_ranked 5 (some .int)) B.pre)
  have hown : s.vm.findClass RX5 = some m.cls := findClass_of_methodNamed B.named
  have hlocks := B.notSynchronized
  have hl := lv_entry ([.ref (a 5), .int p0]) (n := 5) (Nat.le_of_ble_eq_true rfl)
  rw [lg_entry_eq]
  generalize (lg_sl ([.ref (a 5), .int p0]) ++ List.replicate (5 - (lg_sl ([.ref (a 5), .int p0])).length) Slot.unset).toArray = ls at hl ⊢
  have hl : lv_has ls 5 [(0, .ref (a 5)), (1, .int p0)] := hl
  refine lv_iconst (v := 0) hx hb dX5_ranked_0 (by decide) ?_
  refine lv_istore_n (lv' := [(2, .int 0), (0, .ref (a 5)), (1, .int p0)]) hx hb dX5_ranked_1 rfl hl (by decide) rfl (fun ls hl => ?_)
  refine lv_iload_n hx hb dX5_ranked_2 rfl (lv_at hl 0 rfl) ?_
  refine lv_aload_n hx hb dX5_ranked_3 rfl (lv_at hl 1 rfl) ?_
  refine va_get (D := D) (ci := 5) (v := .int 0) (C := RX5) (T := TX5) (N := 15) hx hb hT ix_5 hown hK hP 0 rfl rfl 8 (by decide) (hT _ sw_343) (fun _ h9 => h9) rfl dX5_ranked_4 ?_
  refine lv_icmp_ge (tgt := 89) hx hb dX5_ranked_7 (by decide) (fun _ => ?_) (fun h9 => absurd (by decide) h9)
  refine lv_iconst (v := (-1)) hx hb dX5_ranked_89 (by decide) ?_
  exact W.iret (v := (-1)) hx hb hr (fun t ht _ => ⟨rfl, ht⟩) (fun _ h9 => nomatch h9) dX5_ranked_90
set_option maxHeartbeats 4000000 in
set_option maxRecDepth 100000 in
theorem kX11_rank_0 (l : Launch) (D : va_G) (cI : ClassId) (h0 : Nat) (a : Nat → Nat) (p0 : Int32) : Met l yX11_rank (sw_ws yX11_rank cX11_rank 2 (some .int)) (rm_ 1 24 0 0) (p_R D vwCl [(cI, .int)] [.ref h0, .int p0] [(h0, .inr (11, (Value.ref (a 0) :: Value.ref (a 1) :: Value.ref (a 2) :: Value.ref (a 3) :: Value.ref (a 4) :: Value.ref (a 5) :: Value.ref (a 6) :: Value.ref (a 7) :: Value.ref (a 8) :: Value.ref (a 9) :: Value.ref (a 10) :: Value.ref (a 11) :: Value.ref (a 12) :: Value.ref (a 13) :: Value.ref (a 14) :: Value.int 0 :: Value.int 0 :: Value.int 0 :: []))), ((a 5), .inr (5, (Value.ref (a 30) :: Value.ref (a 31) :: Value.ref (a 32) :: Value.ref (a 33) :: Value.ref (a 34) :: Value.ref (a 35) :: Value.ref (a 36) :: Value.ref (a 37) :: Value.int 0 :: Value.int 0 :: Value.int 0 :: Value.int 0 :: Value.int 0 :: Value.int 0 :: Value.int 0 :: [])))]) (q_R (some (.int (-1)))) 0 0 (fun _ => False) := by
  refine Met.ofW (cc := cX11_rank) (maxL := 2) (ret := (some .int)) (by decide) rfl ?_
  intro p e s m args below meth c s₁ B hml hv
  obtain ⟨rfl, hP, hK⟩ := hv
  have hx := B.exec
  have hb := B.bytes
  have hr := B.returns
  have hT := sw_in (atoms_spec (ws := sw_ws yX11_rank cX11_rank 2 (some .int)) B.pre)
  have hown : s.vm.findClass RX11 = some m.cls := findClass_of_methodNamed B.named
  have hlocks := B.notSynchronized
  have hl := lv_entry ([.ref h0, .int p0]) (n := 2) (Nat.le_of_ble_eq_true rfl)
  rw [lg_entry_eq]
  generalize (lg_sl ([.ref h0, .int p0]) ++ List.replicate (2 - (lg_sl ([.ref h0, .int p0])).length) Slot.unset).toArray = ls at hl ⊢
  have hl : lv_has ls 2 [(0, .ref h0), (1, .int p0)] := hl
  refine lv_aload_n hx hb dX11_rank_0 rfl (lv_at hl 0 rfl) ?_
  refine va_get (D := D) (ci := 11) (v := .ref (a 5)) (C := RX11) (T := TX11) (N := 18) hx hb hT ix_11 hown hK hP 0 rfl rfl 5 (by decide) (hT _ sw_520) (fun _ h9 => h9) rfl dX11_rank_1 ?_
  refine lv_iload_n hx hb dX11_rank_4 rfl (lv_at hl 1 rfl) ?_
  refine go_R (v := some (.int (-1))) (st1 := [.int (-1)]) (run_V (As := [.int p0]) (rest := []) ⟨hx, hb, hml, hown, hT⟩ (kX5_ranked_0 l D cI h0 a p0) sw_867 lkv_X5_ranked (p_R_V (ci := 5) (q0 := 0) (hP.sub (ws' := [((a 5), .inr (5, (Value.ref (a 30) :: Value.ref (a 31) :: Value.ref (a 32) :: Value.ref (a 33) :: Value.ref (a 34) :: Value.ref (a 35) :: Value.ref (a 36) :: Value.ref (a 37) :: Value.int 0 :: Value.int 0 :: Value.int 0 :: Value.int 0 :: Value.int 0 :: Value.int 0 :: Value.int 0 :: [])))]) [1] rfl) hK rfl rfl) rfl hl.1 rfl (Nat.le_of_ble_eq_true rfl) dX11_rank_5 ⟨⟨Nat.le_of_ble_eq_true rfl, Nat.le_of_ble_eq_true rfl⟩, Nat.le_of_ble_eq_true rfl, Nat.le_of_ble_eq_true rfl⟩) rfl ?_
  exact W.iret (v := (-1)) hx hb hr (fun t ht _ => ⟨rfl, ht⟩) (fun _ h9 => nomatch h9) dX11_rank_8
set_option maxHeartbeats 4000000 in
set_option maxRecDepth 100000 in
theorem kX11_share_0 (l : Launch) (D : va_G) (cI : ClassId) (h0 : Nat) (a : Nat → Nat) (p0 p1 : Int32) : Met l yX11_share (sw_ws yX11_share cX11_share 3 (some .int)) (rm_ 1 21 0 0) (p_R D vwCl [(cI, .int)] [.ref h0, .int p0, .int p1] [(h0, .inr (11, (Value.ref (a 0) :: Value.ref (a 1) :: Value.ref (a 2) :: Value.ref (a 3) :: Value.ref (a 4) :: Value.ref (a 5) :: Value.ref (a 6) :: Value.ref (a 7) :: Value.ref (a 8) :: Value.ref (a 9) :: Value.ref (a 10) :: Value.ref (a 11) :: Value.ref (a 12) :: Value.ref (a 13) :: Value.ref (a 14) :: Value.int 0 :: Value.int 0 :: Value.int 0 :: []))), ((a 5), .inr (5, (Value.ref (a 30) :: Value.ref (a 31) :: Value.ref (a 32) :: Value.ref (a 33) :: Value.ref (a 34) :: Value.ref (a 35) :: Value.ref (a 36) :: Value.ref (a 37) :: Value.int 0 :: Value.int 0 :: Value.int 0 :: Value.int 0 :: Value.int 0 :: Value.int 0 :: Value.int 0 :: [])))]) (q_R (some (.int (-1)))) 0 0 (fun _ => False) := by
  refine Met.ofW (cc := cX11_share) (maxL := 3) (ret := (some .int)) (by decide) rfl ?_
  intro p e s m args below meth c s₁ B hml hv
  obtain ⟨rfl, hP, hK⟩ := hv
  have hx := B.exec
  have hb := B.bytes
  have hr := B.returns
  have hT := sw_in (atoms_spec (ws := sw_ws yX11_share cX11_share 3 (some .int)) B.pre)
  have hown : s.vm.findClass RX11 = some m.cls := findClass_of_methodNamed B.named
  have hlocks := B.notSynchronized
  have hl := lv_entry ([.ref h0, .int p0, .int p1]) (n := 3) (Nat.le_of_ble_eq_true rfl)
  rw [lg_entry_eq]
  generalize (lg_sl ([.ref h0, .int p0, .int p1]) ++ List.replicate (3 - (lg_sl ([.ref h0, .int p0, .int p1])).length) Slot.unset).toArray = ls at hl ⊢
  have hl : lv_has ls 3 [(0, .ref h0), (1, .int p0), (2, .int p1)] := hl
  refine lv_aload_n hx hb dX11_share_0 rfl (lv_at hl 0 rfl) ?_
  refine lv_iload_n hx hb dX11_share_1 rfl (lv_at hl 1 rfl) ?_
  refine go_R (v := some (.int 0)) (st1 := [.int 0]) (run_V (As := [.int p0]) (rest := []) ⟨hx, hb, hml, hown, hT⟩ (kX11_isThing_0 l D cI h0 a p0) sw_830 lkv_X11_isThing (p_R_V (ci := 11) (q0 := 0) (hP.sub (ws' := [(h0, .inr (11, (Value.ref (a 0) :: Value.ref (a 1) :: Value.ref (a 2) :: Value.ref (a 3) :: Value.ref (a 4) :: Value.ref (a 5) :: Value.ref (a 6) :: Value.ref (a 7) :: Value.ref (a 8) :: Value.ref (a 9) :: Value.ref (a 10) :: Value.ref (a 11) :: Value.ref (a 12) :: Value.ref (a 13) :: Value.ref (a 14) :: Value.int 0 :: Value.int 0 :: Value.int 0 :: []))), ((a 5), .inr (5, (Value.ref (a 30) :: Value.ref (a 31) :: Value.ref (a 32) :: Value.ref (a 33) :: Value.ref (a 34) :: Value.ref (a 35) :: Value.ref (a 36) :: Value.ref (a 37) :: Value.int 0 :: Value.int 0 :: Value.int 0 :: Value.int 0 :: Value.int 0 :: Value.int 0 :: Value.int 0 :: [])))]) [0, 1] rfl) hK rfl rfl) rfl hl.1 rfl (Nat.le_of_ble_eq_true rfl) dX11_share_2 ⟨⟨Nat.le_of_ble_eq_true rfl, Nat.le_of_ble_eq_true rfl⟩, Nat.le_of_ble_eq_true rfl, Nat.le_of_ble_eq_true rfl⟩) rfl ?_
  refine lv_if_eq (tgt := 31) hx hb dX11_share_5 (by decide) (fun _ => ?_) (fun h9 => absurd (by decide) h9)
  refine lv_iconst (v := (-1)) hx hb dX11_share_31 (by decide) ?_
  exact W.iret (v := (-1)) hx hb hr (fun t ht _ => ⟨rfl, ht⟩) (fun _ h9 => nomatch h9) dX11_share_32
set_option maxHeartbeats 4000000 in
set_option maxRecDepth 100000 in
theorem kX11_lowest_0 (l : Launch) (D : va_G) (cI : ClassId) (h0 : Nat) (a : Nat → Nat) (p0 : Int32) : Met l yX11_lowest (sw_ws yX11_lowest cX11_lowest 4 (some .int)) (rm_ 0 0 0 0) (p_R D vwCl [(cI, .int)] [.int 0, .int 0, .int p0] []) (q_R (some (.int (-1)))) 0 0 (fun _ => False) := by
  refine Met.ofW (cc := cX11_lowest) (maxL := 4) (ret := (some .int)) (by decide) rfl ?_
  intro p e s m args below meth c s₁ B hml hv
  obtain ⟨rfl, hP, hK⟩ := hv
  have hx := B.exec
  have hb := B.bytes
  have hr := B.returns
  have hT := sw_in (atoms_spec (ws := sw_ws yX11_lowest cX11_lowest 4 (some .int)) B.pre)
  have hown : s.vm.findClass RX11 = some m.cls := findClass_of_methodNamed B.named
  have hlocks := B.notSynchronized
  have hl := lv_entry ([.int 0, .int 0, .int p0]) (n := 4) (Nat.le_of_ble_eq_true rfl)
  rw [lg_entry_eq]
  generalize (lg_sl ([.int 0, .int 0, .int p0]) ++ List.replicate (4 - (lg_sl ([.int 0, .int 0, .int p0])).length) Slot.unset).toArray = ls at hl ⊢
  have hl : lv_has ls 4 [(0, .int 0), (1, .int 0), (2, .int p0)] := hl
  refine lv_iload_n hx hb dX11_lowest_0 rfl (lv_at hl 1 rfl) ?_
  refine lv_if_le (tgt := 13) hx hb dX11_lowest_1 (by decide) (fun _ => ?_) (fun h9 => absurd (by decide) h9)
  refine lv_iconst (v := (-1)) hx hb dX11_lowest_13 (by decide) ?_
  exact W.iret (v := (-1)) hx hb hr (fun t ht _ => ⟨rfl, ht⟩) (fun _ h9 => nomatch h9) dX11_lowest_14
set_option maxHeartbeats 4000000 in
set_option maxRecDepth 100000 in
theorem kX11_goes_0 (l : Launch) (D : va_G) (cI : ClassId) (h0 : Nat) (a : Nat → Nat) (p0 : Int32) : Met l yX11_goes (sw_ws yX11_goes cX11_goes 2 (some .int)) (rm_ 1 23 0 0) (p_R D vwCl [(cI, .int)] [.ref h0, .int p0] [(h0, .inr (11, (Value.ref (a 0) :: Value.ref (a 1) :: Value.ref (a 2) :: Value.ref (a 3) :: Value.ref (a 4) :: Value.ref (a 5) :: Value.ref (a 6) :: Value.ref (a 7) :: Value.ref (a 8) :: Value.ref (a 9) :: Value.ref (a 10) :: Value.ref (a 11) :: Value.ref (a 12) :: Value.ref (a 13) :: Value.ref (a 14) :: Value.int 0 :: Value.int 0 :: Value.int 0 :: []))), ((a 5), .inr (5, (Value.ref (a 30) :: Value.ref (a 31) :: Value.ref (a 32) :: Value.ref (a 33) :: Value.ref (a 34) :: Value.ref (a 35) :: Value.ref (a 36) :: Value.ref (a 37) :: Value.int 0 :: Value.int 0 :: Value.int 0 :: Value.int 0 :: Value.int 0 :: Value.int 0 :: Value.int 0 :: [])))]) (q_R (some (.int (-1)))) 0 0 (fun _ => False) := by
  refine Met.ofW (cc := cX11_goes) (maxL := 2) (ret := (some .int)) (by decide) rfl ?_
  intro p e s m args below meth c s₁ B hml hv
  obtain ⟨rfl, hP, hK⟩ := hv
  have hx := B.exec
  have hb := B.bytes
  have hr := B.returns
  have hT := sw_in (atoms_spec (ws := sw_ws yX11_goes cX11_goes 2 (some .int)) B.pre)
  have hown : s.vm.findClass RX11 = some m.cls := findClass_of_methodNamed B.named
  have hlocks := B.notSynchronized
  have hl := lv_entry ([.ref h0, .int p0]) (n := 2) (Nat.le_of_ble_eq_true rfl)
  rw [lg_entry_eq]
  generalize (lg_sl ([.ref h0, .int p0]) ++ List.replicate (2 - (lg_sl ([.ref h0, .int p0])).length) Slot.unset).toArray = ls at hl ⊢
  have hl : lv_has ls 2 [(0, .ref h0), (1, .int p0)] := hl
  refine lv_aload_n hx hb dX11_goes_0 rfl (lv_at hl 0 rfl) ?_
  refine va_get (D := D) (ci := 11) (v := .ref (a 5)) (C := RX11) (T := TX11) (N := 18) hx hb hT ix_11 hown hK hP 0 rfl rfl 5 (by decide) (hT _ sw_520) (fun _ h9 => h9) rfl dX11_goes_1 ?_
  refine va_getN (D := D) (ci := 5) (v := .int 0) (C := RX5) (T := TX5) (N := 15) hx hb hT ix_5 hown hK hP 1 rfl rfl 10 (by decide) (hT _ sw_352) (fun _ h9 => h9) rfl dX11_goes_4 ?_
  refine lv_aload_n hx hb dX11_goes_7 rfl (lv_at hl 0 rfl) ?_
  refine va_get (D := D) (ci := 11) (v := .ref (a 5)) (C := RX11) (T := TX11) (N := 18) hx hb hT ix_11 hown hK hP 0 rfl rfl 5 (by decide) (hT _ sw_520) (fun _ h9 => h9) rfl dX11_goes_8 ?_
  refine va_getN (D := D) (ci := 5) (v := .int 0) (C := RX5) (T := TX5) (N := 15) hx hb hT ix_5 hown hK hP 1 rfl rfl 11 (by decide) (hT _ sw_355) (fun _ h9 => h9) rfl dX11_goes_11 ?_
  refine lv_iadd hx hb dX11_goes_14 ?_
  refine ct_i (z := 0) (by decide) ?_
  refine lv_aload_n hx hb dX11_goes_15 rfl (lv_at hl 0 rfl) ?_
  refine va_get (D := D) (ci := 11) (v := .ref (a 5)) (C := RX11) (T := TX11) (N := 18) hx hb hT ix_11 hown hK hP 0 rfl rfl 5 (by decide) (hT _ sw_520) (fun _ h9 => h9) rfl dX11_goes_16 ?_
  refine va_getN (D := D) (ci := 5) (v := .int 0) (C := RX5) (T := TX5) (N := 15) hx hb hT ix_5 hown hK hP 1 rfl rfl 9 (by decide) (hT _ sw_349) (fun _ h9 => h9) rfl dX11_goes_19 ?_
  refine lv_iload_n hx hb dX11_goes_22 rfl (lv_at hl 1 rfl) ?_
  refine go_R (v := some (.int (-1))) (st1 := [.int (-1)]) (run_S (As := [.int 0, .int 0, .int p0]) (rest := []) ⟨hx, hb, hml, hown, hT⟩ (kX11_lowest_0 l D cI h0 a p0) sw_875 lks_X11_lowest (p_R_S (hP.sub (ws' := []) [] rfl) hK) rfl hl.1 rfl (Nat.le_of_ble_eq_true rfl) dX11_goes_23 ⟨⟨Nat.le_of_ble_eq_true rfl, Nat.le_of_ble_eq_true rfl⟩, Nat.le_of_ble_eq_true rfl, Nat.le_of_ble_eq_true rfl⟩) rfl ?_
  exact W.iret (v := (-1)) hx hb hr (fun t ht _ => ⟨rfl, ht⟩) (fun _ h9 => nomatch h9) dX11_goes_26
set_option maxHeartbeats 4000000 in
set_option maxRecDepth 100000 in
theorem kX11_would_0 (l : Launch) (D : va_G) (cI : ClassId) (h0 : Nat) (a : Nat → Nat) (p0 p1 p2 p3 : Int32) : Met l yX11_would (sw_ws yX11_would cX11_would 6 (some .int)) (rm_ 1 21 0 0) (p_R D vwCl [(cI, .int)] [.ref h0, .int p0, .int p1, .int p2, .int p3] [(h0, .inr (11, (Value.ref (a 0) :: Value.ref (a 1) :: Value.ref (a 2) :: Value.ref (a 3) :: Value.ref (a 4) :: Value.ref (a 5) :: Value.ref (a 6) :: Value.ref (a 7) :: Value.ref (a 8) :: Value.ref (a 9) :: Value.ref (a 10) :: Value.ref (a 11) :: Value.ref (a 12) :: Value.ref (a 13) :: Value.ref (a 14) :: Value.int 0 :: Value.int 0 :: Value.int 0 :: []))), ((a 5), .inr (5, (Value.ref (a 30) :: Value.ref (a 31) :: Value.ref (a 32) :: Value.ref (a 33) :: Value.ref (a 34) :: Value.ref (a 35) :: Value.ref (a 36) :: Value.ref (a 37) :: Value.int 0 :: Value.int 0 :: Value.int 0 :: Value.int 0 :: Value.int 0 :: Value.int 0 :: Value.int 0 :: [])))]) (q_R (some (.int (-1)))) 0 0 (fun _ => False) := by
  refine Met.ofW (cc := cX11_would) (maxL := 6) (ret := (some .int)) (by decide) rfl ?_
  intro p e s m args below meth c s₁ B hml hv
  obtain ⟨rfl, hP, hK⟩ := hv
  have hx := B.exec
  have hb := B.bytes
  have hr := B.returns
  have hT := sw_in (atoms_spec (ws := sw_ws yX11_would cX11_would 6 (some .int)) B.pre)
  have hown : s.vm.findClass RX11 = some m.cls := findClass_of_methodNamed B.named
  have hlocks := B.notSynchronized
  have hl := lv_entry ([.ref h0, .int p0, .int p1, .int p2, .int p3]) (n := 6) (Nat.le_of_ble_eq_true rfl)
  rw [lg_entry_eq]
  generalize (lg_sl ([.ref h0, .int p0, .int p1, .int p2, .int p3]) ++ List.replicate (6 - (lg_sl ([.ref h0, .int p0, .int p1, .int p2, .int p3])).length) Slot.unset).toArray = ls at hl ⊢
  have hl : lv_has ls 6 [(0, .ref h0), (1, .int p0), (2, .int p1), (3, .int p2), (4, .int p3)] := hl
  refine lv_aload_n hx hb dX11_would_0 rfl (lv_at hl 0 rfl) ?_
  refine lv_iload_n hx hb dX11_would_1 rfl (lv_at hl 1 rfl) ?_
  refine go_R (v := some (.int 0)) (st1 := [.int 0]) (run_V (As := [.int p0]) (rest := []) ⟨hx, hb, hml, hown, hT⟩ (kX11_isThing_0 l D cI h0 a p0) sw_830 lkv_X11_isThing (p_R_V (ci := 11) (q0 := 0) (hP.sub (ws' := [(h0, .inr (11, (Value.ref (a 0) :: Value.ref (a 1) :: Value.ref (a 2) :: Value.ref (a 3) :: Value.ref (a 4) :: Value.ref (a 5) :: Value.ref (a 6) :: Value.ref (a 7) :: Value.ref (a 8) :: Value.ref (a 9) :: Value.ref (a 10) :: Value.ref (a 11) :: Value.ref (a 12) :: Value.ref (a 13) :: Value.ref (a 14) :: Value.int 0 :: Value.int 0 :: Value.int 0 :: []))), ((a 5), .inr (5, (Value.ref (a 30) :: Value.ref (a 31) :: Value.ref (a 32) :: Value.ref (a 33) :: Value.ref (a 34) :: Value.ref (a 35) :: Value.ref (a 36) :: Value.ref (a 37) :: Value.int 0 :: Value.int 0 :: Value.int 0 :: Value.int 0 :: Value.int 0 :: Value.int 0 :: Value.int 0 :: [])))]) [0, 1] rfl) hK rfl rfl) rfl hl.1 rfl (Nat.le_of_ble_eq_true rfl) dX11_would_2 ⟨⟨Nat.le_of_ble_eq_true rfl, Nat.le_of_ble_eq_true rfl⟩, Nat.le_of_ble_eq_true rfl, Nat.le_of_ble_eq_true rfl⟩) rfl ?_
  refine lv_if_eq (tgt := 23) hx hb dX11_would_5 (by decide) (fun _ => ?_) (fun h9 => absurd (by decide) h9)
  refine lv_iconst (v := (-1)) hx hb dX11_would_23 (by decide) ?_
  exact W.iret (v := (-1)) hx hb hr (fun t ht _ => ⟨rfl, ht⟩) (fun _ h9 => nomatch h9) dX11_would_24
set_option maxHeartbeats 4000000 in
set_option maxRecDepth 100000 in
theorem kX11_needs_0 (l : Launch) (D : va_G) (cI : ClassId) (h0 : Nat) (a : Nat → Nat) (p0 p1 p2 : Int32) : Met l yX11_needs (sw_ws yX11_needs cX11_needs 8 (some .int)) (rm_ 1 21 0 0) (p_R D vwCl [(cI, .int)] [.ref h0, .int p0, .int p1, .int p2] [(h0, .inr (11, (Value.ref (a 0) :: Value.ref (a 1) :: Value.ref (a 2) :: Value.ref (a 3) :: Value.ref (a 4) :: Value.ref (a 5) :: Value.ref (a 6) :: Value.ref (a 7) :: Value.ref (a 8) :: Value.ref (a 9) :: Value.ref (a 10) :: Value.ref (a 11) :: Value.ref (a 12) :: Value.ref (a 13) :: Value.ref (a 14) :: Value.int 0 :: Value.int 0 :: Value.int 0 :: []))), ((a 5), .inr (5, (Value.ref (a 30) :: Value.ref (a 31) :: Value.ref (a 32) :: Value.ref (a 33) :: Value.ref (a 34) :: Value.ref (a 35) :: Value.ref (a 36) :: Value.ref (a 37) :: Value.int 0 :: Value.int 0 :: Value.int 0 :: Value.int 0 :: Value.int 0 :: Value.int 0 :: Value.int 0 :: [])))]) (q_R (some (.int (-1)))) 0 0 (fun _ => False) := by
  refine Met.ofW (cc := cX11_needs) (maxL := 8) (ret := (some .int)) (by decide) rfl ?_
  intro p e s m args below meth c s₁ B hml hv
  obtain ⟨rfl, hP, hK⟩ := hv
  have hx := B.exec
  have hb := B.bytes
  have hr := B.returns
  have hT := sw_in (atoms_spec (ws := sw_ws yX11_needs cX11_needs 8 (some .int)) B.pre)
  have hown : s.vm.findClass RX11 = some m.cls := findClass_of_methodNamed B.named
  have hlocks := B.notSynchronized
  have hl := lv_entry ([.ref h0, .int p0, .int p1, .int p2]) (n := 8) (Nat.le_of_ble_eq_true rfl)
  rw [lg_entry_eq]
  generalize (lg_sl ([.ref h0, .int p0, .int p1, .int p2]) ++ List.replicate (8 - (lg_sl ([.ref h0, .int p0, .int p1, .int p2])).length) Slot.unset).toArray = ls at hl ⊢
  have hl : lv_has ls 8 [(0, .ref h0), (1, .int p0), (2, .int p1), (3, .int p2)] := hl
  refine lv_aload_n hx hb dX11_needs_0 rfl (lv_at hl 0 rfl) ?_
  refine lv_iload_n hx hb dX11_needs_1 rfl (lv_at hl 1 rfl) ?_
  refine go_R (v := some (.int 0)) (st1 := [.int 0]) (run_V (As := [.int p0]) (rest := []) ⟨hx, hb, hml, hown, hT⟩ (kX11_isThing_0 l D cI h0 a p0) sw_830 lkv_X11_isThing (p_R_V (ci := 11) (q0 := 0) (hP.sub (ws' := [(h0, .inr (11, (Value.ref (a 0) :: Value.ref (a 1) :: Value.ref (a 2) :: Value.ref (a 3) :: Value.ref (a 4) :: Value.ref (a 5) :: Value.ref (a 6) :: Value.ref (a 7) :: Value.ref (a 8) :: Value.ref (a 9) :: Value.ref (a 10) :: Value.ref (a 11) :: Value.ref (a 12) :: Value.ref (a 13) :: Value.ref (a 14) :: Value.int 0 :: Value.int 0 :: Value.int 0 :: []))), ((a 5), .inr (5, (Value.ref (a 30) :: Value.ref (a 31) :: Value.ref (a 32) :: Value.ref (a 33) :: Value.ref (a 34) :: Value.ref (a 35) :: Value.ref (a 36) :: Value.ref (a 37) :: Value.int 0 :: Value.int 0 :: Value.int 0 :: Value.int 0 :: Value.int 0 :: Value.int 0 :: Value.int 0 :: [])))]) [0, 1] rfl) hK rfl rfl) rfl hl.1 rfl (Nat.le_of_ble_eq_true rfl) dX11_needs_2 ⟨⟨Nat.le_of_ble_eq_true rfl, Nat.le_of_ble_eq_true rfl⟩, Nat.le_of_ble_eq_true rfl, Nat.le_of_ble_eq_true rfl⟩) rfl ?_
  refine lv_if_eq (tgt := 21) hx hb dX11_needs_5 (by decide) (fun _ => ?_) (fun h9 => absurd (by decide) h9)
  refine lv_iconst (v := (-1)) hx hb dX11_needs_21 (by decide) ?_
  exact W.iret (v := (-1)) hx hb hr (fun t ht _ => ⟨rfl, ht⟩) (fun _ h9 => nomatch h9) dX11_needs_22
set_option maxHeartbeats 4000000 in
set_option maxRecDepth 100000 in
theorem kX11_merges_0 (l : Launch) (D : va_G) (cI : ClassId) (h0 : Nat) (a : Nat → Nat) (p0 p1 : Int32) : Met l yX11_merges (sw_ws yX11_merges cX11_merges 6 (some .int)) (rm_ 1 21 0 0) (p_R D vwCl [(cI, .int)] [.ref h0, .int p0, .int p1] [(h0, .inr (11, (Value.ref (a 0) :: Value.ref (a 1) :: Value.ref (a 2) :: Value.ref (a 3) :: Value.ref (a 4) :: Value.ref (a 5) :: Value.ref (a 6) :: Value.ref (a 7) :: Value.ref (a 8) :: Value.ref (a 9) :: Value.ref (a 10) :: Value.ref (a 11) :: Value.ref (a 12) :: Value.ref (a 13) :: Value.ref (a 14) :: Value.int 0 :: Value.int 0 :: Value.int 0 :: []))), ((a 5), .inr (5, (Value.ref (a 30) :: Value.ref (a 31) :: Value.ref (a 32) :: Value.ref (a 33) :: Value.ref (a 34) :: Value.ref (a 35) :: Value.ref (a 36) :: Value.ref (a 37) :: Value.int 0 :: Value.int 0 :: Value.int 0 :: Value.int 0 :: Value.int 0 :: Value.int 0 :: Value.int 0 :: [])))]) (q_R (some (.int (-1)))) 0 0 (fun _ => False) := by
  refine Met.ofW (cc := cX11_merges) (maxL := 6) (ret := (some .int)) (by decide) rfl ?_
  intro p e s m args below meth c s₁ B hml hv
  obtain ⟨rfl, hP, hK⟩ := hv
  have hx := B.exec
  have hb := B.bytes
  have hr := B.returns
  have hT := sw_in (atoms_spec (ws := sw_ws yX11_merges cX11_merges 6 (some .int)) B.pre)
  have hown : s.vm.findClass RX11 = some m.cls := findClass_of_methodNamed B.named
  have hlocks := B.notSynchronized
  have hl := lv_entry ([.ref h0, .int p0, .int p1]) (n := 6) (Nat.le_of_ble_eq_true rfl)
  rw [lg_entry_eq]
  generalize (lg_sl ([.ref h0, .int p0, .int p1]) ++ List.replicate (6 - (lg_sl ([.ref h0, .int p0, .int p1])).length) Slot.unset).toArray = ls at hl ⊢
  have hl : lv_has ls 6 [(0, .ref h0), (1, .int p0), (2, .int p1)] := hl
  refine lv_aload_n hx hb dX11_merges_0 rfl (lv_at hl 0 rfl) ?_
  refine lv_iload_n hx hb dX11_merges_1 rfl (lv_at hl 1 rfl) ?_
  refine go_R (v := some (.int 0)) (st1 := [.int 0]) (run_V (As := [.int p0]) (rest := []) ⟨hx, hb, hml, hown, hT⟩ (kX11_isThing_0 l D cI h0 a p0) sw_830 lkv_X11_isThing (p_R_V (ci := 11) (q0 := 0) (hP.sub (ws' := [(h0, .inr (11, (Value.ref (a 0) :: Value.ref (a 1) :: Value.ref (a 2) :: Value.ref (a 3) :: Value.ref (a 4) :: Value.ref (a 5) :: Value.ref (a 6) :: Value.ref (a 7) :: Value.ref (a 8) :: Value.ref (a 9) :: Value.ref (a 10) :: Value.ref (a 11) :: Value.ref (a 12) :: Value.ref (a 13) :: Value.ref (a 14) :: Value.int 0 :: Value.int 0 :: Value.int 0 :: []))), ((a 5), .inr (5, (Value.ref (a 30) :: Value.ref (a 31) :: Value.ref (a 32) :: Value.ref (a 33) :: Value.ref (a 34) :: Value.ref (a 35) :: Value.ref (a 36) :: Value.ref (a 37) :: Value.int 0 :: Value.int 0 :: Value.int 0 :: Value.int 0 :: Value.int 0 :: Value.int 0 :: Value.int 0 :: [])))]) [0, 1] rfl) hK rfl rfl) rfl hl.1 rfl (Nat.le_of_ble_eq_true rfl) dX11_merges_2 ⟨⟨Nat.le_of_ble_eq_true rfl, Nat.le_of_ble_eq_true rfl⟩, Nat.le_of_ble_eq_true rfl, Nat.le_of_ble_eq_true rfl⟩) rfl ?_
  refine lv_if_eq (tgt := 15) hx hb dX11_merges_5 (by decide) (fun _ => ?_) (fun h9 => absurd (by decide) h9)
  refine lv_iconst (v := (-1)) hx hb dX11_merges_15 (by decide) ?_
  exact W.iret (v := (-1)) hx hb hr (fun t ht _ => ⟨rfl, ht⟩) (fun _ h9 => nomatch h9) dX11_merges_16
