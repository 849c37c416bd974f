set_option maxHeartbeats 4000000 in
set_option maxRecDepth 100000 in
theorem kX11_putByte_0 (l : Launch) (D : va_G) (cI : ClassId) (h0 : Nat) (a : Nat → Nat) (p0 p1 : Int32) (g0 : Nat → Int32) (sz : Nat) : Met l yX11_putByte (sw_ws yX11_putByte cX11_putByte 5 none) (rm_ 0 0 0 0) (p_M D vwCl [(cI, .int)] [.ref (a 15), .int p0, .int p1] [((a 15), .inl (cI, 300, .inl g0))] sz) (q_M D vwCl none (fun u => [((a 15), .inl (cI, 300, .inl (u.2 0)))]) (va_A [((a 15), .inl (cI, 300, .inl g0))] sz)) 0 0 (va_A [((a 15), .inl (cI, 300, .inl g0))] sz) := by
  refine Met.ofW (cc := cX11_putByte) (maxL := 5) (ret := none) (by decide) rfl ?_
  intro p e s m args below meth c s₁ B hml hv
  obtain ⟨rfl, hsz, hP, hK, hD0⟩ := hv
  have hx := B.exec
  have hb := B.bytes
  have hr := B.returns
  have hT := sw_in (atoms_spec (ws := sw_ws yX11_putByte cX11_putByte 5 none) B.pre)
  have hown : s.vm.findClass RX11 = some m.cls := findClass_of_methodNamed B.named
  have hlocks := B.notSynchronized
  subst hsz
  have hD := hD0.self (sz := s.heap.size)
  generalize hAe : va_A [((a 15), .inl (cI, 300, .inl g0))] s.heap.size = A at hD ⊢
  have hA : ∀ q : Nat, s.heap.size ≤ q → A q := fun q h => by rw [← hAe]; exact Or.inr h
  have hS : va_S A s.heap s.heap [] := va_S.rf
  have hl := lv_entry ([.ref (a 15), .int p0, .int p1]) (n := 5) (Nat.le_of_ble_eq_true rfl)
  rw [lg_entry_eq]
  generalize (lg_sl ([.ref (a 15), .int p0, .int p1]) ++ List.replicate (5 - (lg_sl ([.ref (a 15), .int p0, .int p1])).length) Slot.unset).toArray = ls at hl ⊢
  have hl : lv_has ls 5 [(0, .ref (a 15)), (1, .int p0), (2, .int p1)] := hl
  refine lv_iload_n hx hb dX11_putByte_0 rfl (lv_at hl 1 rfl) ?_
  refine lv_iconst (v := 2) hx hb dX11_putByte_1 (by decide) ?_
  refine lv_ishr hx hb dX11_putByte_2 ?_
  refine lv_topi (fun v_1 _ => ?_)
  refine lv_istore_n (lv' := [(3, .int v_1), (0, .ref (a 15)), (1, .int p0), (2, .int p1)]) hx hb dX11_putByte_3 rfl hl (by decide) rfl (fun ls hl => ?_)
  refine lv_iload_n hx hb dX11_putByte_4 rfl (lv_at hl 0 rfl) ?_
  refine lv_if_lt (tgt := 49) hx hb dX11_putByte_5 (by decide) (fun c_2 => ?_) (fun c_2 => ?_)
  · have hP9 := hP.sub (ws' := [((a 15), .inl (cI, 300, .inl g0))]) [0] rfl
    have hD9 := hD.sub (ws' := [((a 15), .inl (cI, 300, .inl g0))]) [0] (by decide) rfl
    exact W.vret hx hb hr (fun t ht _ => ⟨rfl, ⟨(fun k => [].getD k 0, fun k => [g0].getD k zI), by rw [ht]; exact hP9, hD9⟩, hS.F ht⟩) hS.2.2 dX11_putByte_49
  · refine lv_iload_n hx hb dX11_putByte_8 rfl (lv_at hl 0 rfl) ?_
    refine lv_aload_n hx hb dX11_putByte_9 rfl (lv_at hl 1 rfl) ?_
    refine va_alen (v := 300) hx hb hK hP 0 0 rfl rfl (show Int32.ofNat 300 = 300 by decide) dX11_putByte_10 ?_
    refine lv_icmp_ge (tgt := 49) hx hb dX11_putByte_11 (by decide) (fun c_3 => ?_) (fun c_3 => ?_)
    · have hP9 := hP.sub (ws' := [((a 15), .inl (cI, 300, .inl g0))]) [0] rfl
      have hD9 := hD.sub (ws' := [((a 15), .inl (cI, 300, .inl g0))]) [0] (by decide) rfl
      exact W.vret hx hb hr (fun t ht _ => ⟨rfl, ⟨(fun k => [].getD k 0, fun k => [g0].getD k zI), by rw [ht]; exact hP9, hD9⟩, hS.F ht⟩) hS.2.2 dX11_putByte_49
    · refine lv_bipush (v := 24) hx hb dX11_putByte_14 (by decide) ?_
      refine lv_bipush (v := 8) hx hb dX11_putByte_16 (by decide) ?_
      refine lv_iload_n hx hb dX11_putByte_18 rfl (lv_at hl 2 rfl) ?_
      refine lv_iconst (v := 3) hx hb dX11_putByte_19 (by decide) ?_
      refine lv_iand hx hb dX11_putByte_20 ?_
      refine lv_topi (fun v_4 _ => ?_)
      refine lv_imul hx hb dX11_putByte_21 ?_
      refine lv_topi (fun v_5 _ => ?_)
      refine lv_isub hx hb dX11_putByte_22 ?_
      refine lv_topi (fun v_6 _ => ?_)
      refine lv_istore (lv' := [(4, .int v_6), (3, .int v_1), (0, .ref (a 15)), (1, .int p0), (2, .int p1)]) hx hb dX11_putByte_23 hl (by decide) rfl (fun ls hl => ?_)
      refine lv_aload_n hx hb dX11_putByte_25 rfl (lv_at hl 2 rfl) ?_
      refine lv_iload_n hx hb dX11_putByte_26 rfl (lv_at hl 1 rfl) ?_
      refine lv_aload_n hx hb dX11_putByte_27 rfl (lv_at hl 2 rfl) ?_
      refine lv_iload_n hx hb dX11_putByte_28 rfl (lv_at hl 1 rfl) ?_
      refine va_iald hx hb hK hP 0 0 rfl rfl (pl_0 v_1 c_2 c_3) dX11_putByte_29 ?_
      refine lv_topi (fun v_7 _ => ?_)
      refine lv_sipush (v := 255) hx hb dX11_putByte_30 (by decide) ?_
      refine lv_iload hx hb dX11_putByte_33 (lv_at hl 0 rfl) ?_
      refine lv_ishl hx hb dX11_putByte_35 ?_
      refine lv_topi (fun v_8 _ => ?_)
      refine lv_iconst (v := (-1)) hx hb dX11_putByte_36 (by decide) ?_
      refine lv_ixor hx hb dX11_putByte_37 ?_
      refine lv_topi (fun v_9 _ => ?_)
      refine lv_iand hx hb dX11_putByte_38 ?_
      refine lv_topi (fun v_10 _ => ?_)
      refine lv_iload_n hx hb dX11_putByte_39 rfl (lv_at hl 4 rfl) ?_
      refine lv_sipush (v := 255) hx hb dX11_putByte_40 (by decide) ?_
      refine lv_iand hx hb dX11_putByte_43 ?_
      refine lv_topi (fun v_11 _ => ?_)
      refine lv_iload hx hb dX11_putByte_44 (lv_at hl 0 rfl) ?_
      refine lv_ishl hx hb dX11_putByte_46 ?_
      refine lv_topi (fun v_12 _ => ?_)
      refine lv_ior hx hb dX11_putByte_47 ?_
      refine lv_topi (fun v_13 _ => ?_)
      refine va_iast hx hb hK hP hD hS 0 0 rfl rfl (pl_0 v_1 c_2 c_3) dX11_putByte_48 (fun H locs hP hD hS => ?_)
      obtain ⟨f_14, hP, hD⟩ : ∃ f_14 : Nat → Int32, va_P D vwCl [((a 15), .inl (cI, 300, .inl f_14))] H ∧ va_D A [((a 15), .inl (cI, 300, .inl f_14))] := ⟨upd g0 (v_1 : Int32).toNatClampNeg v_13, hP, hD⟩
      have hP9 := hP.sub (ws' := [((a 15), .inl (cI, 300, .inl f_14))]) [0] rfl
      have hD9 := hD.sub (ws' := [((a 15), .inl (cI, 300, .inl f_14))]) [0] (by decide) rfl
      exact W.vret hx hb hr (fun t ht _ => ⟨rfl, ⟨(fun k => [].getD k 0, fun k => [f_14].getD k zI), by rw [ht]; exact hP9, hD9⟩, hS.F ht⟩) hS.2.2 dX11_putByte_49
set_option maxHeartbeats 4000000 in
set_option maxRecDepth 100000 in
theorem kX9_add_0 (l : Launch) (D : va_G) (cI : ClassId) (h0 : Nat) (a : Nat → Nat) (p0 : Int32) (g0 : Nat → Int32) (sz : Nat) : Met l yX9_add (sw_ws yX9_add cX9_add 3 none) (rm_ 1 24 0 0) (p_M D vwCl [(cI, .int)] [.ref (a 0), .int p0] [((a 0), .inr (9, [.ref (a 15), .int 0])), ((a 15), .inl (cI, 300, .inl g0))] sz) (q_M D vwCl none (fun u => [((a 0), .inr (9, [.ref (a 15), .int 4])), ((a 15), .inl (cI, 300, .inl (u.2 0)))]) (va_A [((a 0), .inr (9, [.ref (a 15), .int 0])), ((a 15), .inl (cI, 300, .inl g0))] sz)) 0 0 (va_A [((a 0), .inr (9, [.ref (a 15), .int 0])), ((a 15), .inl (cI, 300, .inl g0))] sz) := by
  refine Met.ofW (cc := cX9_add) (maxL := 3) (ret := none) (by decide) rfl ?_
  intro p e s m args below meth c s₁ B hml hv
  obtain ⟨rfl, hsz, hP, hK, hD0⟩ := hv
  have hx := B.exec
  have hb := B.bytes
  have hr := B.returns
  have hT := sw_in (atoms_spec (ws := sw_ws yX9_add cX9_add 3 none) B.pre)
  have hown : s.vm.findClass RX9 = some m.cls := findClass_of_methodNamed B.named
  have hlocks := B.notSynchronized
  subst hsz
  have hD := hD0.self (sz := s.heap.size)
  generalize hAe : va_A [((a 0), .inr (9, [.ref (a 15), .int 0])), ((a 15), .inl (cI, 300, .inl g0))] s.heap.size = A at hD ⊢
  have hA : ∀ q : Nat, s.heap.size ≤ q → A q := fun q h => by rw [← hAe]; exact Or.inr h
  have hS : va_S A s.heap s.heap [] := va_S.rf
  have hl := lv_entry ([.ref (a 0), .int p0]) (n := 3) (Nat.le_of_ble_eq_true rfl)
  rw [lg_entry_eq]
  generalize (lg_sl ([.ref (a 0), .int p0]) ++ List.replicate (3 - (lg_sl ([.ref (a 0), .int p0])).length) Slot.unset).toArray = ls at hl ⊢
  have hl : lv_has ls 3 [(0, .ref (a 0)), (1, .int p0)] := hl
  refine lv_bipush (v := 24) hx hb dX9_add_0 (by decide) ?_
  refine lv_istore_n (lv' := [(2, .int 24), (0, .ref (a 0)), (1, .int p0)]) hx hb dX9_add_2 rfl hl (by decide) rfl (fun ls hl => ?_)
  refine lv_iload_n hx hb dX9_add_3 rfl (lv_at hl 0 rfl) ?_
  refine lv_if_lt (tgt := 37) hx hb dX9_add_4 (by decide) (fun h9 => absurd h9 (by decide)) (fun _ => ?_)
  refine lv_aload_n hx hb dX9_add_7 rfl (lv_at hl 1 rfl) ?_
  refine va_get (D := D) (ci := 9) (v := .ref (a 15)) (C := RX9) (T := TX9) (N := 2) hx hb hT ix_9 hown hK hP 0 rfl rfl 0 (by decide) (hT _ sw_152) (fun _ h9 => h9) rfl dX9_add_8 ?_
  refine lv_aload_n hx hb dX9_add_11 rfl (lv_at hl 1 rfl) ?_
  refine va_get (D := D) (ci := 9) (v := .int 0) (C := RX9) (T := TX9) (N := 2) hx hb hT ix_9 hown hK hP 0 rfl rfl 1 (by decide) (hT _ sw_158) (fun _ h9 => h9) rfl dX9_add_12 ?_
  refine lv_iload_n hx hb dX9_add_15 rfl (lv_at hl 2 rfl) ?_
  refine lv_iload_n hx hb dX9_add_16 rfl (lv_at hl 0 rfl) ?_
  refine lv_iushr hx hb dX9_add_17 rfl ?_
  refine lv_topi (fun v_1 _ => ?_)
  refine go_M (wc := [((a 15), .inl (cI, 300, .inl g0))]) (wr := [((a 0), .inr (9, [.ref (a 15), .int 0]))]) (w1 := fun u => [((a 15), .inl (cI, 300, .inl (u.2 0)))]) (v := none) (st1 := []) hP hD hS hA [1] [0] rfl rfl (by decide) (by decide) (by decide) (fun hPc hDc => run_SN (As := [.ref (a 15), .int 0, .int v_1]) (rest := []) ⟨hx, hb, hml, hown, hT⟩ (kX11_putByte_0 l D cI h0 a 0 v_1 g0 _) sw_582 lks_X11_putByte (p_M_S hPc hK hDc) rfl hl.1 rfl (Nat.le_of_ble_eq_true rfl) dX9_add_18 ⟨⟨Nat.le_of_ble_eq_true rfl, Nat.le_of_ble_eq_true rfl⟩, Nat.le_of_ble_eq_true rfl, Nat.le_of_ble_eq_true rfl⟩) rfl (fun u_2 H locs hP hD hS => ?_)
  have hP : va_P D vwCl [((a 0), .inr (9, [.ref (a 15), .int 0])), ((a 15), .inl (cI, 300, .inl (u_2.2 0)))] H := hP
  have hD : va_D A [((a 0), .inr (9, [.ref (a 15), .int 0])), ((a 15), .inl (cI, 300, .inl (u_2.2 0)))] := hD
  refine lv_aload_n hx hb dX9_add_21 rfl (lv_at hl 1 rfl) ?_
  refine lv_dup hx hb dX9_add_22 rfl ?_
  refine va_get (D := D) (ci := 9) (v := .int 0) (C := RX9) (T := TX9) (N := 2) hx hb hT ix_9 hown hK hP 0 rfl rfl 1 (by decide) (hT _ sw_158) (fun _ h9 => h9) rfl dX9_add_23 ?_
  refine lv_iconst (v := 1) hx hb dX9_add_26 (by decide) ?_
  refine lv_iadd hx hb dX9_add_27 ?_
  refine ct_i (z := 1) (by decide) ?_
  refine va_put (D := D) (ci := 9) (v := .int 1) (ty := .int) (C := RX9) (T := TX9) (N := 2) hx hb hT ix_9 tyX9 tyX9_ok nmX9 hown hK hP hD hS 0 rfl rfl 1 (by decide) (hT _ sw_158) (fun _ h9 => h9) rfl (by decide +kernel) rfl rfl (Nat.le_of_ble_eq_true rfl) dX9_add_28 (fun H locs hP hD hS => ?_)
  have hP : va_P D vwCl [((a 0), .inr (9, [.ref (a 15), .int 1])), ((a 15), .inl (cI, 300, .inl (u_2.2 0)))] H := hP
  have hD : va_D A [((a 0), .inr (9, [.ref (a 15), .int 1])), ((a 15), .inl (cI, 300, .inl (u_2.2 0)))] := hD
  refine lv_iinc (v := 16) (lv' := [(2, .int 16), (0, .ref (a 0)), (1, .int p0)]) hx hb dX9_add_31 hl (k := 0) rfl (by decide) (by decide) rfl (fun ls hl => ?_)
  refine lv_goto (tgt := 3) hx hb dX9_add_34 (by decide) ?_
  refine lv_iload_n hx hb dX9_add_3 rfl (lv_at hl 0 rfl) ?_
  refine lv_if_lt (tgt := 37) hx hb dX9_add_4 (by decide) (fun h9 => absurd h9 (by decide)) (fun _ => ?_)
  refine lv_aload_n hx hb dX9_add_7 rfl (lv_at hl 1 rfl) ?_
  refine va_get (D := D) (ci := 9) (v := .ref (a 15)) (C := RX9) (T := TX9) (N := 2) hx hb hT ix_9 hown hK hP 0 rfl rfl 0 (by decide) (hT _ sw_152) (fun _ h9 => h9) rfl dX9_add_8 ?_
  refine lv_aload_n hx hb dX9_add_11 rfl (lv_at hl 1 rfl) ?_
  refine va_get (D := D) (ci := 9) (v := .int 1) (C := RX9) (T := TX9) (N := 2) hx hb hT ix_9 hown hK hP 0 rfl rfl 1 (by decide) (hT _ sw_158) (fun _ h9 => h9) rfl dX9_add_12 ?_
  refine lv_iload_n hx hb dX9_add_15 rfl (lv_at hl 2 rfl) ?_
  refine lv_iload_n hx hb dX9_add_16 rfl (lv_at hl 0 rfl) ?_
  refine lv_iushr hx hb dX9_add_17 rfl ?_
  refine lv_topi (fun v_3 _ => ?_)
  refine go_M (wc := [((a 15), .inl (cI, 300, .inl (u_2.2 0)))]) (wr := [((a 0), .inr (9, [.ref (a 15), .int 1]))]) (w1 := fun u => [((a 15), .inl (cI, 300, .inl (u.2 0)))]) (v := none) (st1 := []) hP hD hS hA [1] [0] rfl rfl (by decide) (by decide) (by decide) (fun hPc hDc => run_SN (As := [.ref (a 15), .int 1, .int v_3]) (rest := []) ⟨hx, hb, hml, hown, hT⟩ (kX11_putByte_0 l D cI h0 a 1 v_3 (u_2.2 0) _) sw_582 lks_X11_putByte (p_M_S hPc hK hDc) rfl hl.1 rfl (Nat.le_of_ble_eq_true rfl) dX9_add_18 ⟨⟨Nat.le_of_ble_eq_true rfl, Nat.le_of_ble_eq_true rfl⟩, Nat.le_of_ble_eq_true rfl, Nat.le_of_ble_eq_true rfl⟩) rfl (fun u_4 H locs hP hD hS => ?_)
  have hP : va_P D vwCl [((a 0), .inr (9, [.ref (a 15), .int 1])), ((a 15), .inl (cI, 300, .inl (u_4.2 0)))] H := hP
  have hD : va_D A [((a 0), .inr (9, [.ref (a 15), .int 1])), ((a 15), .inl (cI, 300, .inl (u_4.2 0)))] := hD
  refine lv_aload_n hx hb dX9_add_21 rfl (lv_at hl 1 rfl) ?_
  refine lv_dup hx hb dX9_add_22 rfl ?_
  refine va_get (D := D) (ci := 9) (v := .int 1) (C := RX9) (T := TX9) (N := 2) hx hb hT ix_9 hown hK hP 0 rfl rfl 1 (by decide) (hT _ sw_158) (fun _ h9 => h9) rfl dX9_add_23 ?_
  refine lv_iconst (v := 1) hx hb dX9_add_26 (by decide) ?_
  refine lv_iadd hx hb dX9_add_27 ?_
  refine ct_i (z := 2) (by decide) ?_
  refine va_put (D := D) (ci := 9) (v := .int 2) (ty := .int) (C := RX9) (T := TX9) (N := 2) hx hb hT ix_9 tyX9 tyX9_ok nmX9 hown hK hP hD hS 0 rfl rfl 1 (by decide) (hT _ sw_158) (fun _ h9 => h9) rfl (by decide +kernel) rfl rfl (Nat.le_of_ble_eq_true rfl) dX9_add_28 (fun H locs hP hD hS => ?_)
  have hP : va_P D vwCl [((a 0), .inr (9, [.ref (a 15), .int 2])), ((a 15), .inl (cI, 300, .inl (u_4.2 0)))] H := hP
  have hD : va_D A [((a 0), .inr (9, [.ref (a 15), .int 2])), ((a 15), .inl (cI, 300, .inl (u_4.2 0)))] := hD
  refine lv_iinc (v := 8) (lv' := [(2, .int 8), (0, .ref (a 0)), (1, .int p0)]) hx hb dX9_add_31 hl (k := 0) rfl (by decide) (by decide) rfl (fun ls hl => ?_)
  refine lv_goto (tgt := 3) hx hb dX9_add_34 (by decide) ?_
  refine lv_iload_n hx hb dX9_add_3 rfl (lv_at hl 0 rfl) ?_
  refine lv_if_lt (tgt := 37) hx hb dX9_add_4 (by decide) (fun h9 => absurd h9 (by decide)) (fun _ => ?_)
  refine lv_aload_n hx hb dX9_add_7 rfl (lv_at hl 1 rfl) ?_
  refine va_get (D := D) (ci := 9) (v := .ref (a 15)) (C := RX9) (T := TX9) (N := 2) hx hb hT ix_9 hown hK hP 0 rfl rfl 0 (by decide) (hT _ sw_152) (fun _ h9 => h9) rfl dX9_add_8 ?_
  refine lv_aload_n hx hb dX9_add_11 rfl (lv_at hl 1 rfl) ?_
  refine va_get (D := D) (ci := 9) (v := .int 2) (C := RX9) (T := TX9) (N := 2) hx hb hT ix_9 hown hK hP 0 rfl rfl 1 (by decide) (hT _ sw_158) (fun _ h9 => h9) rfl dX9_add_12 ?_
  refine lv_iload_n hx hb dX9_add_15 rfl (lv_at hl 2 rfl) ?_
  refine lv_iload_n hx hb dX9_add_16 rfl (lv_at hl 0 rfl) ?_
  refine lv_iushr hx hb dX9_add_17 rfl ?_
  refine lv_topi (fun v_5 _ => ?_)
  refine go_M (wc := [((a 15), .inl (cI, 300, .inl (u_4.2 0)))]) (wr := [((a 0), .inr (9, [.ref (a 15), .int 2]))]) (w1 := fun u => [((a 15), .inl (cI, 300, .inl (u.2 0)))]) (v := none) (st1 := []) hP hD hS hA [1] [0] rfl rfl (by decide) (by decide) (by decide) (fun hPc hDc => run_SN (As := [.ref (a 15), .int 2, .int v_5]) (rest := []) ⟨hx, hb, hml, hown, hT⟩ (kX11_putByte_0 l D cI h0 a 2 v_5 (u_4.2 0) _) sw_582 lks_X11_putByte (p_M_S hPc hK hDc) rfl hl.1 rfl (Nat.le_of_ble_eq_true rfl) dX9_add_18 ⟨⟨Nat.le_of_ble_eq_true rfl, Nat.le_of_ble_eq_true rfl⟩, Nat.le_of_ble_eq_true rfl, Nat.le_of_ble_eq_true rfl⟩) rfl (fun u_6 H locs hP hD hS => ?_)
  have hP : va_P D vwCl [((a 0), .inr (9, [.ref (a 15), .int 2])), ((a 15), .inl (cI, 300, .inl (u_6.2 0)))] H := hP
  have hD : va_D A [((a 0), .inr (9, [.ref (a 15), .int 2])), ((a 15), .inl (cI, 300, .inl (u_6.2 0)))] := hD
  refine lv_aload_n hx hb dX9_add_21 rfl (lv_at hl 1 rfl) ?_
  refine lv_dup hx hb dX9_add_22 rfl ?_
  refine va_get (D := D) (ci := 9) (v := .int 2) (C := RX9) (T := TX9) (N := 2) hx hb hT ix_9 hown hK hP 0 rfl rfl 1 (by decide) (hT _ sw_158) (fun _ h9 => h9) rfl dX9_add_23 ?_
  refine lv_iconst (v := 1) hx hb dX9_add_26 (by decide) ?_
  refine lv_iadd hx hb dX9_add_27 ?_
  refine ct_i (z := 3) (by decide) ?_
  refine va_put (D := D) (ci := 9) (v := .int 3) (ty := .int) (C := RX9) (T := TX9) (N := 2) hx hb hT ix_9 tyX9 tyX9_ok nmX9 hown hK hP hD hS 0 rfl rfl 1 (by decide) (hT _ sw_158) (fun _ h9 => h9) rfl (by decide +kernel) rfl rfl (Nat.le_of_ble_eq_true rfl) dX9_add_28 (fun H locs hP hD hS => ?_)
  have hP : va_P D vwCl [((a 0), .inr (9, [.ref (a 15), .int 3])), ((a 15), .inl (cI, 300, .inl (u_6.2 0)))] H := hP
  have hD : va_D A [((a 0), .inr (9, [.ref (a 15), .int 3])), ((a 15), .inl (cI, 300, .inl (u_6.2 0)))] := hD
  refine lv_iinc (v := 0) (lv' := [(2, .int 0), (0, .ref (a 0)), (1, .int p0)]) hx hb dX9_add_31 hl (k := 0) rfl (by decide) (by decide) rfl (fun ls hl => ?_)
  refine lv_goto (tgt := 3) hx hb dX9_add_34 (by decide) ?_
  refine lv_iload_n hx hb dX9_add_3 rfl (lv_at hl 0 rfl) ?_
  refine lv_if_lt (tgt := 37) hx hb dX9_add_4 (by decide) (fun h9 => absurd h9 (by decide)) (fun _ => ?_)
  refine lv_aload_n hx hb dX9_add_7 rfl (lv_at hl 1 rfl) ?_
  refine va_get (D := D) (ci := 9) (v := .ref (a 15)) (C := RX9) (T := TX9) (N := 2) hx hb hT ix_9 hown hK hP 0 rfl rfl 0 (by decide) (hT _ sw_152) (fun _ h9 => h9) rfl dX9_add_8 ?_
  refine lv_aload_n hx hb dX9_add_11 rfl (lv_at hl 1 rfl) ?_
  refine va_get (D := D) (ci := 9) (v := .int 3) (C := RX9) (T := TX9) (N := 2) hx hb hT ix_9 hown hK hP 0 rfl rfl 1 (by decide) (hT _ sw_158) (fun _ h9 => h9) rfl dX9_add_12 ?_
  refine lv_iload_n hx hb dX9_add_15 rfl (lv_at hl 2 rfl) ?_
  refine lv_iload_n hx hb dX9_add_16 rfl (lv_at hl 0 rfl) ?_
  refine lv_iushr hx hb dX9_add_17 rfl ?_
  refine lv_topi (fun v_7 _ => ?_)
  refine go_M (wc := [((a 15), .inl (cI, 300, .inl (u_6.2 0)))]) (wr := [((a 0), .inr (9, [.ref (a 15), .int 3]))]) (w1 := fun u => [((a 15), .inl (cI, 300, .inl (u.2 0)))]) (v := none) (st1 := []) hP hD hS hA [1] [0] rfl rfl (by decide) (by decide) (by decide) (fun hPc hDc => run_SN (As := [.ref (a 15), .int 3, .int v_7]) (rest := []) ⟨hx, hb, hml, hown, hT⟩ (kX11_putByte_0 l D cI h0 a 3 v_7 (u_6.2 0) _) sw_582 lks_X11_putByte (p_M_S hPc hK hDc) rfl hl.1 rfl (Nat.le_of_ble_eq_true rfl) dX9_add_18 ⟨⟨Nat.le_of_ble_eq_true rfl, Nat.le_of_ble_eq_true rfl⟩, Nat.le_of_ble_eq_true rfl, Nat.le_of_ble_eq_true rfl⟩) rfl (fun u_8 H locs hP hD hS => ?_)
  have hP : va_P D vwCl [((a 0), .inr (9, [.ref (a 15), .int 3])), ((a 15), .inl (cI, 300, .inl (u_8.2 0)))] H := hP
  have hD : va_D A [((a 0), .inr (9, [.ref (a 15), .int 3])), ((a 15), .inl (cI, 300, .inl (u_8.2 0)))] := hD
  refine lv_aload_n hx hb dX9_add_21 rfl (lv_at hl 1 rfl) ?_
  refine lv_dup hx hb dX9_add_22 rfl ?_
  refine va_get (D := D) (ci := 9) (v := .int 3) (C := RX9) (T := TX9) (N := 2) hx hb hT ix_9 hown hK hP 0 rfl rfl 1 (by decide) (hT _ sw_158) (fun _ h9 => h9) rfl dX9_add_23 ?_
  refine lv_iconst (v := 1) hx hb dX9_add_26 (by decide) ?_
  refine lv_iadd hx hb dX9_add_27 ?_
  refine ct_i (z := 4) (by decide) ?_
  refine va_put (D := D) (ci := 9) (v := .int 4) (ty := .int) (C := RX9) (T := TX9) (N := 2) hx hb hT ix_9 tyX9 tyX9_ok nmX9 hown hK hP hD hS 0 rfl rfl 1 (by decide) (hT _ sw_158) (fun _ h9 => h9) rfl (by decide +kernel) rfl rfl (Nat.le_of_ble_eq_true rfl) dX9_add_28 (fun H locs hP hD hS => ?_)
  have hP : va_P D vwCl [((a 0), .inr (9, [.ref (a 15), .int 4])), ((a 15), .inl (cI, 300, .inl (u_8.2 0)))] H := hP
  have hD : va_D A [((a 0), .inr (9, [.ref (a 15), .int 4])), ((a 15), .inl (cI, 300, .inl (u_8.2 0)))] := hD
  refine lv_iinc (v := (-8)) (lv' := [(2, .int (-8)), (0, .ref (a 0)), (1, .int p0)]) hx hb dX9_add_31 hl (k := 0) rfl (by decide) (by decide) rfl (fun ls hl => ?_)
  refine lv_goto (tgt := 3) hx hb dX9_add_34 (by decide) ?_
  refine lv_iload_n hx hb dX9_add_3 rfl (lv_at hl 0 rfl) ?_
  refine lv_if_lt (tgt := 37) hx hb dX9_add_4 (by decide) (fun _ => ?_) (fun h9 => absurd (by decide) h9)
  have hP9 := hP.sub (ws' := [((a 0), .inr (9, [.ref (a 15), .int 4])), ((a 15), .inl (cI, 300, .inl (u_8.2 0)))]) [0, 1] rfl
  have hD9 := hD.sub (ws' := [((a 0), .inr (9, [.ref (a 15), .int 4])), ((a 15), .inl (cI, 300, .inl (u_8.2 0)))]) [0, 1] (by decide) rfl
  exact W.vret hx hb hr (fun t ht _ => ⟨rfl, ⟨(fun k => [].getD k 0, fun k => [(u_8.2 0)].getD k zI), by rw [ht]; exact hP9, hD9⟩, hS.F ht⟩) hS.2.2 dX9_add_37
set_option maxHeartbeats 4000000 in
set_option maxRecDepth 100000 in
theorem kX9_add_1 (l : Launch) (D : va_G) (cI : ClassId) (h0 : Nat) (a : Nat → Nat) (p0 : Int32) (g0 : Nat → Int32) (sz : Nat) : Met l yX9_add (sw_ws yX9_add cX9_add 3 none) (rm_ 1 24 0 0) (p_M D vwCl [(cI, .int)] [.ref (a 0), .int p0] [((a 0), .inr (9, [.ref (a 15), .int 4])), ((a 15), .inl (cI, 300, .inl g0))] sz) (q_M D vwCl none (fun u => [((a 0), .inr (9, [.ref (a 15), .int 8])), ((a 15), .inl (cI, 300, .inl (u.2 0)))]) (va_A [((a 0), .inr (9, [.ref (a 15), .int 4])), ((a 15), .inl (cI, 300, .inl g0))] sz)) 0 0 (va_A [((a 0), .inr (9, [.ref (a 15), .int 4])), ((a 15), .inl (cI, 300, .inl g0))] sz) := by
  refine Met.ofW (cc := cX9_add) (maxL := 3) (ret := none) (by decide) rfl ?_
  intro p e s m args below meth c s₁ B hml hv
  obtain ⟨rfl, hsz, hP, hK, hD0⟩ := hv
  have hx := B.exec
  have hb := B.bytes
  have hr := B.returns
  have hT := sw_in (atoms_spec (ws := sw_ws yX9_add cX9_add 3 none) B.pre)
  have hown : s.vm.findClass RX9 = some m.cls := findClass_of_methodNamed B.named
  have hlocks := B.notSynchronized
  subst hsz
  have hD := hD0.self (sz := s.heap.size)
  generalize hAe : va_A [((a 0), .inr (9, [.ref (a 15), .int 4])), ((a 15), .inl (cI, 300, .inl g0))] s.heap.size = A at hD ⊢
  have hA : ∀ q : Nat, s.heap.size ≤ q → A q := fun q h => by rw [← hAe]; exact Or.inr h
  have hS : va_S A s.heap s.heap [] := va_S.rf
  have hl := lv_entry ([.ref (a 0), .int p0]) (n := 3) (Nat.le_of_ble_eq_true rfl)
  rw [lg_entry_eq]
  generalize (lg_sl ([.ref (a 0), .int p0]) ++ List.replicate (3 - (lg_sl ([.ref (a 0), .int p0])).length) Slot.unset).toArray = ls at hl ⊢
  have hl : lv_has ls 3 [(0, .ref (a 0)), (1, .int p0)] := hl
  refine lv_bipush (v := 24) hx hb dX9_add_0 (by decide) ?_
  refine lv_istore_n (lv' := [(2, .int 24), (0, .ref (a 0)), (1, .int p0)]) hx hb dX9_add_2 rfl hl (by decide) rfl (fun ls hl => ?_)
  refine lv_iload_n hx hb dX9_add_3 rfl (lv_at hl 0 rfl) ?_
  refine lv_if_lt (tgt := 37) hx hb dX9_add_4 (by decide) (fun h9 => absurd h9 (by decide)) (fun _ => ?_)
  refine lv_aload_n hx hb dX9_add_7 rfl (lv_at hl 1 rfl) ?_
  refine va_get (D := D) (ci := 9) (v := .ref (a 15)) (C := RX9) (T := TX9) (N := 2) hx hb hT ix_9 hown hK hP 0 rfl rfl 0 (by decide) (hT _ sw_152) (fun _ h9 => h9) rfl dX9_add_8 ?_
  refine lv_aload_n hx hb dX9_add_11 rfl (lv_at hl 1 rfl) ?_
  refine va_get (D := D) (ci := 9) (v := .int 4) (C := RX9) (T := TX9) (N := 2) hx hb hT ix_9 hown hK hP 0 rfl rfl 1 (by decide) (hT _ sw_158) (fun _ h9 => h9) rfl dX9_add_12 ?_
  refine lv_iload_n hx hb dX9_add_15 rfl (lv_at hl 2 rfl) ?_
  refine lv_iload_n hx hb dX9_add_16 rfl (lv_at hl 0 rfl) ?_
  refine lv_iushr hx hb dX9_add_17 rfl ?_
  refine lv_topi (fun v_1 _ => ?_)
  refine go_M (wc := [((a 15), .inl (cI, 300, .inl g0))]) (wr := [((a 0), .inr (9, [.ref (a 15), .int 4]))]) (w1 := fun u => [((a 15), .inl (cI, 300, .inl (u.2 0)))]) (v := none) (st1 := []) hP hD hS hA [1] [0] rfl rfl (by decide) (by decide) (by decide) (fun hPc hDc => run_SN (As := [.ref (a 15), .int 4, .int v_1]) (rest := []) ⟨hx, hb, hml, hown, hT⟩ (kX11_putByte_0 l D cI h0 a 4 v_1 g0 _) sw_582 lks_X11_putByte (p_M_S hPc hK hDc) rfl hl.1 rfl (Nat.le_of_ble_eq_true rfl) dX9_add_18 ⟨⟨Nat.le_of_ble_eq_true rfl, Nat.le_of_ble_eq_true rfl⟩, Nat.le_of_ble_eq_true rfl, Nat.le_of_ble_eq_true rfl⟩) rfl (fun u_2 H locs hP hD hS => ?_)
  have hP : va_P D vwCl [((a 0), .inr (9, [.ref (a 15), .int 4])), ((a 15), .inl (cI, 300, .inl (u_2.2 0)))] H := hP
  have hD : va_D A [((a 0), .inr (9, [.ref (a 15), .int 4])), ((a 15), .inl (cI, 300, .inl (u_2.2 0)))] := hD
  refine lv_aload_n hx hb dX9_add_21 rfl (lv_at hl 1 rfl) ?_
  refine lv_dup hx hb dX9_add_22 rfl ?_
  refine va_get (D := D) (ci := 9) (v := .int 4) (C := RX9) (T := TX9) (N := 2) hx hb hT ix_9 hown hK hP 0 rfl rfl 1 (by decide) (hT _ sw_158) (fun _ h9 => h9) rfl dX9_add_23 ?_
  refine lv_iconst (v := 1) hx hb dX9_add_26 (by decide) ?_
  refine lv_iadd hx hb dX9_add_27 ?_
  refine ct_i (z := 5) (by decide) ?_
  refine va_put (D := D) (ci := 9) (v := .int 5) (ty := .int) (C := RX9) (T := TX9) (N := 2) hx hb hT ix_9 tyX9 tyX9_ok nmX9 hown hK hP hD hS 0 rfl rfl 1 (by decide) (hT _ sw_158) (fun _ h9 => h9) rfl (by decide +kernel) rfl rfl (Nat.le_of_ble_eq_true rfl) dX9_add_28 (fun H locs hP hD hS => ?_)
  have hP : va_P D vwCl [((a 0), .inr (9, [.ref (a 15), .int 5])), ((a 15), .inl (cI, 300, .inl (u_2.2 0)))] H := hP
  have hD : va_D A [((a 0), .inr (9, [.ref (a 15), .int 5])), ((a 15), .inl (cI, 300, .inl (u_2.2 0)))] := hD
  refine lv_iinc (v := 16) (lv' := [(2, .int 16), (0, .ref (a 0)), (1, .int p0)]) hx hb dX9_add_31 hl (k := 0) rfl (by decide) (by decide) rfl (fun ls hl => ?_)
  refine lv_goto (tgt := 3) hx hb dX9_add_34 (by decide) ?_
  refine lv_iload_n hx hb dX9_add_3 rfl (lv_at hl 0 rfl) ?_
  refine lv_if_lt (tgt := 37) hx hb dX9_add_4 (by decide) (fun h9 => absurd h9 (by decide)) (fun _ => ?_)
  refine lv_aload_n hx hb dX9_add_7 rfl (lv_at hl 1 rfl) ?_
  refine va_get (D := D) (ci := 9) (v := .ref (a 15)) (C := RX9) (T := TX9) (N := 2) hx hb hT ix_9 hown hK hP 0 rfl rfl 0 (by decide) (hT _ sw_152) (fun _ h9 => h9) rfl dX9_add_8 ?_
  refine lv_aload_n hx hb dX9_add_11 rfl (lv_at hl 1 rfl) ?_
  refine va_get (D := D) (ci := 9) (v := .int 5) (C := RX9) (T := TX9) (N := 2) hx hb hT ix_9 hown hK hP 0 rfl rfl 1 (by decide) (hT _ sw_158) (fun _ h9 => h9) rfl dX9_add_12 ?_
  refine lv_iload_n hx hb dX9_add_15 rfl (lv_at hl 2 rfl) ?_
  refine lv_iload_n hx hb dX9_add_16 rfl (lv_at hl 0 rfl) ?_
  refine lv_iushr hx hb dX9_add_17 rfl ?_
  refine lv_topi (fun v_3 _ => ?_)
  refine go_M (wc := [((a 15), .inl (cI, 300, .inl (u_2.2 0)))]) (wr := [((a 0), .inr (9, [.ref (a 15), .int 5]))]) (w1 := fun u => [((a 15), .inl (cI, 300, .inl (u.2 0)))]) (v := none) (st1 := []) hP hD hS hA [1] [0] rfl rfl (by decide) (by decide) (by decide) (fun hPc hDc => run_SN (As := [.ref (a 15), .int 5, .int v_3]) (rest := []) ⟨hx, hb, hml, hown, hT⟩ (kX11_putByte_0 l D cI h0 a 5 v_3 (u_2.2 0) _) sw_582 lks_X11_putByte (p_M_S hPc hK hDc) rfl hl.1 rfl (Nat.le_of_ble_eq_true rfl) dX9_add_18 ⟨⟨Nat.le_of_ble_eq_true rfl, Nat.le_of_ble_eq_true rfl⟩, Nat.le_of_ble_eq_true rfl, Nat.le_of_ble_eq_true rfl⟩) rfl (fun u_4 H locs hP hD hS => ?_)
  have hP : va_P D vwCl [((a 0), .inr (9, [.ref (a 15), .int 5])), ((a 15), .inl (cI, 300, .inl (u_4.2 0)))] H := hP
  have hD : va_D A [((a 0), .inr (9, [.ref (a 15), .int 5])), ((a 15), .inl (cI, 300, .inl (u_4.2 0)))] := hD
  refine lv_aload_n hx hb dX9_add_21 rfl (lv_at hl 1 rfl) ?_
  refine lv_dup hx hb dX9_add_22 rfl ?_
  refine va_get (D := D) (ci := 9) (v := .int 5) (C := RX9) (T := TX9) (N := 2) hx hb hT ix_9 hown hK hP 0 rfl rfl 1 (by decide) (hT _ sw_158) (fun _ h9 => h9) rfl dX9_add_23 ?_
  refine lv_iconst (v := 1) hx hb dX9_add_26 (by decide) ?_
  refine lv_iadd hx hb dX9_add_27 ?_
  refine ct_i (z := 6) (by decide) ?_
  refine va_put (D := D) (ci := 9) (v := .int 6) (ty := .int) (C := RX9) (T := TX9) (N := 2) hx hb hT ix_9 tyX9 tyX9_ok nmX9 hown hK hP hD hS 0 rfl rfl 1 (by decide) (hT _ sw_158) (fun _ h9 => h9) rfl (by decide +kernel) rfl rfl (Nat.le_of_ble_eq_true rfl) dX9_add_28 (fun H locs hP hD hS => ?_)
  have hP : va_P D vwCl [((a 0), .inr (9, [.ref (a 15), .int 6])), ((a 15), .inl (cI, 300, .inl (u_4.2 0)))] H := hP
  have hD : va_D A [((a 0), .inr (9, [.ref (a 15), .int 6])), ((a 15), .inl (cI, 300, .inl (u_4.2 0)))] := hD
  refine lv_iinc (v := 8) (lv' := [(2, .int 8), (0, .ref (a 0)), (1, .int p0)]) hx hb dX9_add_31 hl (k := 0) rfl (by decide) (by decide) rfl (fun ls hl => ?_)
  refine lv_goto (tgt := 3) hx hb dX9_add_34 (by decide) ?_
  refine lv_iload_n hx hb dX9_add_3 rfl (lv_at hl 0 rfl) ?_
  refine lv_if_lt (tgt := 37) hx hb dX9_add_4 (by decide) (fun h9 => absurd h9 (by decide)) (fun _ => ?_)
  refine lv_aload_n hx hb dX9_add_7 rfl (lv_at hl 1 rfl) ?_
  refine va_get (D := D) (ci := 9) (v := .ref (a 15)) (C := RX9) (T := TX9) (N := 2) hx hb hT ix_9 hown hK hP 0 rfl rfl 0 (by decide) (hT _ sw_152) (fun _ h9 => h9) rfl dX9_add_8 ?_
  refine lv_aload_n hx hb dX9_add_11 rfl (lv_at hl 1 rfl) ?_
  refine va_get (D := D) (ci := 9) (v := .int 6) (C := RX9) (T := TX9) (N := 2) hx hb hT ix_9 hown hK hP 0 rfl rfl 1 (by decide) (hT _ sw_158) (fun _ h9 => h9) rfl dX9_add_12 ?_
  refine lv_iload_n hx hb dX9_add_15 rfl (lv_at hl 2 rfl) ?_
  refine lv_iload_n hx hb dX9_add_16 rfl (lv_at hl 0 rfl) ?_
  refine lv_iushr hx hb dX9_add_17 rfl ?_
  refine lv_topi (fun v_5 _ => ?_)
  refine go_M (wc := [((a 15), .inl (cI, 300, .inl (u_4.2 0)))]) (wr := [((a 0), .inr (9, [.ref (a 15), .int 6]))]) (w1 := fun u => [((a 15), .inl (cI, 300, .inl (u.2 0)))]) (v := none) (st1 := []) hP hD hS hA [1] [0] rfl rfl (by decide) (by decide) (by decide) (fun hPc hDc => run_SN (As := [.ref (a 15), .int 6, .int v_5]) (rest := []) ⟨hx, hb, hml, hown, hT⟩ (kX11_putByte_0 l D cI h0 a 6 v_5 (u_4.2 0) _) sw_582 lks_X11_putByte (p_M_S hPc hK hDc) rfl hl.1 rfl (Nat.le_of_ble_eq_true rfl) dX9_add_18 ⟨⟨Nat.le_of_ble_eq_true rfl, Nat.le_of_ble_eq_true rfl⟩, Nat.le_of_ble_eq_true rfl, Nat.le_of_ble_eq_true rfl⟩) rfl (fun u_6 H locs hP hD hS => ?_)
  have hP : va_P D vwCl [((a 0), .inr (9, [.ref (a 15), .int 6])), ((a 15), .inl (cI, 300, .inl (u_6.2 0)))] H := hP
  have hD : va_D A [((a 0), .inr (9, [.ref (a 15), .int 6])), ((a 15), .inl (cI, 300, .inl (u_6.2 0)))] := hD
  refine lv_aload_n hx hb dX9_add_21 rfl (lv_at hl 1 rfl) ?_
  refine lv_dup hx hb dX9_add_22 rfl ?_
  refine va_get (D := D) (ci := 9) (v := .int 6) (C := RX9) (T := TX9) (N := 2) hx hb hT ix_9 hown hK hP 0 rfl rfl 1 (by decide) (hT _ sw_158) (fun _ h9 => h9) rfl dX9_add_23 ?_
  refine lv_iconst (v := 1) hx hb dX9_add_26 (by decide) ?_
  refine lv_iadd hx hb dX9_add_27 ?_
  refine ct_i (z := 7) (by decide) ?_
  refine va_put (D := D) (ci := 9) (v := .int 7) (ty := .int) (C := RX9) (T := TX9) (N := 2) hx hb hT ix_9 tyX9 tyX9_ok nmX9 hown hK hP hD hS 0 rfl rfl 1 (by decide) (hT _ sw_158) (fun _ h9 => h9) rfl (by decide +kernel) rfl rfl (Nat.le_of_ble_eq_true rfl) dX9_add_28 (fun H locs hP hD hS => ?_)
  have hP : va_P D vwCl [((a 0), .inr (9, [.ref (a 15), .int 7])), ((a 15), .inl (cI, 300, .inl (u_6.2 0)))] H := hP
  have hD : va_D A [((a 0), .inr (9, [.ref (a 15), .int 7])), ((a 15), .inl (cI, 300, .inl (u_6.2 0)))] := hD
  refine lv_iinc (v := 0) (lv' := [(2, .int 0), (0, .ref (a 0)), (1, .int p0)]) hx hb dX9_add_31 hl (k := 0) rfl (by decide) (by decide) rfl (fun ls hl => ?_)
  refine lv_goto (tgt := 3) hx hb dX9_add_34 (by decide) ?_
  refine lv_iload_n hx hb dX9_add_3 rfl (lv_at hl 0 rfl) ?_
  refine lv_if_lt (tgt := 37) hx hb dX9_add_4 (by decide) (fun h9 => absurd h9 (by decide)) (fun _ => ?_)
  refine lv_aload_n hx hb dX9_add_7 rfl (lv_at hl 1 rfl) ?_
  refine va_get (D := D) (ci := 9) (v := .ref (a 15)) (C := RX9) (T := TX9) (N := 2) hx hb hT ix_9 hown hK hP 0 rfl rfl 0 (by decide) (hT _ sw_152) (fun _ h9 => h9) rfl dX9_add_8 ?_
  refine lv_aload_n hx hb dX9_add_11 rfl (lv_at hl 1 rfl) ?_
  refine va_get (D := D) (ci := 9) (v := .int 7) (C := RX9) (T := TX9) (N := 2) hx hb hT ix_9 hown hK hP 0 rfl rfl 1 (by decide) (hT _ sw_158) (fun _ h9 => h9) rfl dX9_add_12 ?_
  refine lv_iload_n hx hb dX9_add_15 rfl (lv_at hl 2 rfl) ?_
  refine lv_iload_n hx hb dX9_add_16 rfl (lv_at hl 0 rfl) ?_
  refine lv_iushr hx hb dX9_add_17 rfl ?_
  refine lv_topi (fun v_7 _ => ?_)
  refine go_M (wc := [((a 15), .inl (cI, 300, .inl (u_6.2 0)))]) (wr := [((a 0), .inr (9, [.ref (a 15), .int 7]))]) (w1 := fun u => [((a 15), .inl (cI, 300, .inl (u.2 0)))]) (v := none) (st1 := []) hP hD hS hA [1] [0] rfl rfl (by decide) (by decide) (by decide) (fun hPc hDc => run_SN (As := [.ref (a 15), .int 7, .int v_7]) (rest := []) ⟨hx, hb, hml, hown, hT⟩ (kX11_putByte_0 l D cI h0 a 7 v_7 (u_6.2 0) _) sw_582 lks_X11_putByte (p_M_S hPc hK hDc) rfl hl.1 rfl (Nat.le_of_ble_eq_true rfl) dX9_add_18 ⟨⟨Nat.le_of_ble_eq_true rfl, Nat.le_of_ble_eq_true rfl⟩, Nat.le_of_ble_eq_true rfl, Nat.le_of_ble_eq_true rfl⟩) rfl (fun u_8 H locs hP hD hS => ?_)
  have hP : va_P D vwCl [((a 0), .inr (9, [.ref (a 15), .int 7])), ((a 15), .inl (cI, 300, .inl (u_8.2 0)))] H := hP
  have hD : va_D A [((a 0), .inr (9, [.ref (a 15), .int 7])), ((a 15), .inl (cI, 300, .inl (u_8.2 0)))] := hD
  refine lv_aload_n hx hb dX9_add_21 rfl (lv_at hl 1 rfl) ?_
  refine lv_dup hx hb dX9_add_22 rfl ?_
  refine va_get (D := D) (ci := 9) (v := .int 7) (C := RX9) (T := TX9) (N := 2) hx hb hT ix_9 hown hK hP 0 rfl rfl 1 (by decide) (hT _ sw_158) (fun _ h9 => h9) rfl dX9_add_23 ?_
  refine lv_iconst (v := 1) hx hb dX9_add_26 (by decide) ?_
  refine lv_iadd hx hb dX9_add_27 ?_
  refine ct_i (z := 8) (by decide) ?_
  refine va_put (D := D) (ci := 9) (v := .int 8) (ty := .int) (C := RX9) (T := TX9) (N := 2) hx hb hT ix_9 tyX9 tyX9_ok nmX9 hown hK hP hD hS 0 rfl rfl 1 (by decide) (hT _ sw_158) (fun _ h9 => h9) rfl (by decide +kernel) rfl rfl (Nat.le_of_ble_eq_true rfl) dX9_add_28 (fun H locs hP hD hS => ?_)
  have hP : va_P D vwCl [((a 0), .inr (9, [.ref (a 15), .int 8])), ((a 15), .inl (cI, 300, .inl (u_8.2 0)))] H := hP
  have hD : va_D A [((a 0), .inr (9, [.ref (a 15), .int 8])), ((a 15), .inl (cI, 300, .inl (u_8.2 0)))] := hD
  refine lv_iinc (v := (-8)) (lv' := [(2, .int (-8)), (0, .ref (a 0)), (1, .int p0)]) hx hb dX9_add_31 hl (k := 0) rfl (by decide) (by decide) rfl (fun ls hl => ?_)
  refine lv_goto (tgt := 3) hx hb dX9_add_34 (by decide) ?_
  refine lv_iload_n hx hb dX9_add_3 rfl (lv_at hl 0 rfl) ?_
  refine lv_if_lt (tgt := 37) hx hb dX9_add_4 (by decide) (fun _ => ?_) (fun h9 => absurd (by decide) h9)
  have hP9 := hP.sub (ws' := [((a 0), .inr (9, [.ref (a 15), .int 8])), ((a 15), .inl (cI, 300, .inl (u_8.2 0)))]) [0, 1] rfl
  have hD9 := hD.sub (ws' := [((a 0), .inr (9, [.ref (a 15), .int 8])), ((a 15), .inl (cI, 300, .inl (u_8.2 0)))]) [0, 1] (by decide) rfl
  exact W.vret hx hb hr (fun t ht _ => ⟨rfl, ⟨(fun k => [].getD k 0, fun k => [(u_8.2 0)].getD k zI), by rw [ht]; exact hP9, hD9⟩, hS.F ht⟩) hS.2.2 dX9_add_37
set_option maxHeartbeats 4000000 in
set_option maxRecDepth 100000 in
theorem kX9_add_2 (l : Launch) (D : va_G) (cI : ClassId) (h0 : Nat) (a : Nat → Nat) (p0 : Int32) (g0 : Nat → Int32) (sz : Nat) : Met l yX9_add (sw_ws yX9_add cX9_add 3 none) (rm_ 1 24 0 0) (p_M D vwCl [(cI, .int)] [.ref (a 0), .int p0] [((a 0), .inr (9, [.ref (a 15), .int 8])), ((a 15), .inl (cI, 300, .inl g0))] sz) (q_M D vwCl none (fun u => [((a 0), .inr (9, [.ref (a 15), .int 12])), ((a 15), .inl (cI, 300, .inl (u.2 0)))]) (va_A [((a 0), .inr (9, [.ref (a 15), .int 8])), ((a 15), .inl (cI, 300, .inl g0))] sz)) 0 0 (va_A [((a 0), .inr (9, [.ref (a 15), .int 8])), ((a 15), .inl (cI, 300, .inl g0))] sz) := by
  refine Met.ofW (cc := cX9_add) (maxL := 3) (ret := none) (by decide) rfl ?_
  intro p e s m args below meth c s₁ B hml hv
  obtain ⟨rfl, hsz, hP, hK, hD0⟩ := hv
  have hx := B.exec
  have hb := B.bytes
  have hr := B.returns
  have hT := sw_in (atoms_spec (ws := sw_ws yX9_add cX9_add 3 none) B.pre)
  have hown : s.vm.findClass RX9 = some m.cls := findClass_of_methodNamed B.named
  have hlocks := B.notSynchronized
  subst hsz
  have hD := hD0.self (sz := s.heap.size)
  generalize hAe : va_A [((a 0), .inr (9, [.ref (a 15), .int 8])), ((a 15), .inl (cI, 300, .inl g0))] s.heap.size = A at hD ⊢
  have hA : ∀ q : Nat, s.heap.size ≤ q → A q := fun q h => by rw [← hAe]; exact Or.inr h
  have hS : va_S A s.heap s.heap [] := va_S.rf
  have hl := lv_entry ([.ref (a 0), .int p0]) (n := 3) (Nat.le_of_ble_eq_true rfl)
  rw [lg_entry_eq]
  generalize (lg_sl ([.ref (a 0), .int p0]) ++ List.replicate (3 - (lg_sl ([.ref (a 0), .int p0])).length) Slot.unset).toArray = ls at hl ⊢
  have hl : lv_has ls 3 [(0, .ref (a 0)), (1, .int p0)] := hl
  refine lv_bipush (v := 24) hx hb dX9_add_0 (by decide) ?_
  refine lv_istore_n (lv' := [(2, .int 24), (0, .ref (a 0)), (1, .int p0)]) hx hb dX9_add_2 rfl hl (by decide) rfl (fun ls hl => ?_)
  refine lv_iload_n hx hb dX9_add_3 rfl (lv_at hl 0 rfl) ?_
  refine lv_if_lt (tgt := 37) hx hb dX9_add_4 (by decide) (fun h9 => absurd h9 (by decide)) (fun _ => ?_)
  refine lv_aload_n hx hb dX9_add_7 rfl (lv_at hl 1 rfl) ?_
  refine va_get (D := D) (ci := 9) (v := .ref (a 15)) (C := RX9) (T := TX9) (N := 2) hx hb hT ix_9 hown hK hP 0 rfl rfl 0 (by decide) (hT _ sw_152) (fun _ h9 => h9) rfl dX9_add_8 ?_
  refine lv_aload_n hx hb dX9_add_11 rfl (lv_at hl 1 rfl) ?_
  refine va_get (D := D) (ci := 9) (v := .int 8) (C := RX9) (T := TX9) (N := 2) hx hb hT ix_9 hown hK hP 0 rfl rfl 1 (by decide) (hT _ sw_158) (fun _ h9 => h9) rfl dX9_add_12 ?_
  refine lv_iload_n hx hb dX9_add_15 rfl (lv_at hl 2 rfl) ?_
  refine lv_iload_n hx hb dX9_add_16 rfl (lv_at hl 0 rfl) ?_
  refine lv_iushr hx hb dX9_add_17 rfl ?_
  refine lv_topi (fun v_1 _ => ?_)
  refine go_M (wc := [((a 15), .inl (cI, 300, .inl g0))]) (wr := [((a 0), .inr (9, [.ref (a 15), .int 8]))]) (w1 := fun u => [((a 15), .inl (cI, 300, .inl (u.2 0)))]) (v := none) (st1 := []) hP hD hS hA [1] [0] rfl rfl (by decide) (by decide) (by decide) (fun hPc hDc => run_SN (As := [.ref (a 15), .int 8, .int v_1]) (rest := []) ⟨hx, hb, hml, hown, hT⟩ (kX11_putByte_0 l D cI h0 a 8 v_1 g0 _) sw_582 lks_X11_putByte (p_M_S hPc hK hDc) rfl hl.1 rfl (Nat.le_of_ble_eq_true rfl) dX9_add_18 ⟨⟨Nat.le_of_ble_eq_true rfl, Nat.le_of_ble_eq_true rfl⟩, Nat.le_of_ble_eq_true rfl, Nat.le_of_ble_eq_true rfl⟩) rfl (fun u_2 H locs hP hD hS => ?_)
  have hP : va_P D vwCl [((a 0), .inr (9, [.ref (a 15), .int 8])), ((a 15), .inl (cI, 300, .inl (u_2.2 0)))] H := hP
  have hD : va_D A [((a 0), .inr (9, [.ref (a 15), .int 8])), ((a 15), .inl (cI, 300, .inl (u_2.2 0)))] := hD
  refine lv_aload_n hx hb dX9_add_21 rfl (lv_at hl 1 rfl) ?_
  refine lv_dup hx hb dX9_add_22 rfl ?_
  refine va_get (D := D) (ci := 9) (v := .int 8) (C := RX9) (T := TX9) (N := 2) hx hb hT ix_9 hown hK hP 0 rfl rfl 1 (by decide) (hT _ sw_158) (fun _ h9 => h9) rfl dX9_add_23 ?_
  refine lv_iconst (v := 1) hx hb dX9_add_26 (by decide) ?_
  refine lv_iadd hx hb dX9_add_27 ?_
  refine ct_i (z := 9) (by decide) ?_
  refine va_put (D := D) (ci := 9) (v := .int 9) (ty := .int) (C := RX9) (T := TX9) (N := 2) hx hb hT ix_9 tyX9 tyX9_ok nmX9 hown hK hP hD hS 0 rfl rfl 1 (by decide) (hT _ sw_158) (fun _ h9 => h9) rfl (by decide +kernel) rfl rfl (Nat.le_of_ble_eq_true rfl) dX9_add_28 (fun H locs hP hD hS => ?_)
  have hP : va_P D vwCl [((a 0), .inr (9, [.ref (a 15), .int 9])), ((a 15), .inl (cI, 300, .inl (u_2.2 0)))] H := hP
  have hD : va_D A [((a 0), .inr (9, [.ref (a 15), .int 9])), ((a 15), .inl (cI, 300, .inl (u_2.2 0)))] := hD
  refine lv_iinc (v := 16) (lv' := [(2, .int 16), (0, .ref (a 0)), (1, .int p0)]) hx hb dX9_add_31 hl (k := 0) rfl (by decide) (by decide) rfl (fun ls hl => ?_)
  refine lv_goto (tgt := 3) hx hb dX9_add_34 (by decide) ?_
  refine lv_iload_n hx hb dX9_add_3 rfl (lv_at hl 0 rfl) ?_
  refine lv_if_lt (tgt := 37) hx hb dX9_add_4 (by decide) (fun h9 => absurd h9 (by decide)) (fun _ => ?_)
  refine lv_aload_n hx hb dX9_add_7 rfl (lv_at hl 1 rfl) ?_
  refine va_get (D := D) (ci := 9) (v := .ref (a 15)) (C := RX9) (T := TX9) (N := 2) hx hb hT ix_9 hown hK hP 0 rfl rfl 0 (by decide) (hT _ sw_152) (fun _ h9 => h9) rfl dX9_add_8 ?_
  refine lv_aload_n hx hb dX9_add_11 rfl (lv_at hl 1 rfl) ?_
  refine va_get (D := D) (ci := 9) (v := .int 9) (C := RX9) (T := TX9) (N := 2) hx hb hT ix_9 hown hK hP 0 rfl rfl 1 (by decide) (hT _ sw_158) (fun _ h9 => h9) rfl dX9_add_12 ?_
  refine lv_iload_n hx hb dX9_add_15 rfl (lv_at hl 2 rfl) ?_
  refine lv_iload_n hx hb dX9_add_16 rfl (lv_at hl 0 rfl) ?_
  refine lv_iushr hx hb dX9_add_17 rfl ?_
  refine lv_topi (fun v_3 _ => ?_)
  refine go_M (wc := [((a 15), .inl (cI, 300, .inl (u_2.2 0)))]) (wr := [((a 0), .inr (9, [.ref (a 15), .int 9]))]) (w1 := fun u => [((a 15), .inl (cI, 300, .inl (u.2 0)))]) (v := none) (st1 := []) hP hD hS hA [1] [0] rfl rfl (by decide) (by decide) (by decide) (fun hPc hDc => run_SN (As := [.ref (a 15), .int 9, .int v_3]) (rest := []) ⟨hx, hb, hml, hown, hT⟩ (kX11_putByte_0 l D cI h0 a 9 v_3 (u_2.2 0) _) sw_582 lks_X11_putByte (p_M_S hPc hK hDc) rfl hl.1 rfl (Nat.le_of_ble_eq_true rfl) dX9_add_18 ⟨⟨Nat.le_of_ble_eq_true rfl, Nat.le_of_ble_eq_true rfl⟩, Nat.le_of_ble_eq_true rfl, Nat.le_of_ble_eq_true rfl⟩) rfl (fun u_4 H locs hP hD hS => ?_)
  have hP : va_P D vwCl [((a 0), .inr (9, [.ref (a 15), .int 9])), ((a 15), .inl (cI, 300, .inl (u_4.2 0)))] H := hP
  have hD : va_D A [((a 0), .inr (9, [.ref (a 15), .int 9])), ((a 15), .inl (cI, 300, .inl (u_4.2 0)))] := hD
  refine lv_aload_n hx hb dX9_add_21 rfl (lv_at hl 1 rfl) ?_
  refine lv_dup hx hb dX9_add_22 rfl ?_
  refine va_get (D := D) (ci := 9) (v := .int 9) (C := RX9) (T := TX9) (N := 2) hx hb hT ix_9 hown hK hP 0 rfl rfl 1 (by decide) (hT _ sw_158) (fun _ h9 => h9) rfl dX9_add_23 ?_
  refine lv_iconst (v := 1) hx hb dX9_add_26 (by decide) ?_
  refine lv_iadd hx hb dX9_add_27 ?_
  refine ct_i (z := 10) (by decide) ?_
  refine va_put (D := D) (ci := 9) (v := .int 10) (ty := .int) (C := RX9) (T := TX9) (N := 2) hx hb hT ix_9 tyX9 tyX9_ok nmX9 hown hK hP hD hS 0 rfl rfl 1 (by decide) (hT _ sw_158) (fun _ h9 => h9) rfl (by decide +kernel) rfl rfl (Nat.le_of_ble_eq_true rfl) dX9_add_28 (fun H locs hP hD hS => ?_)
  have hP : va_P D vwCl [((a 0), .inr (9, [.ref (a 15), .int 10])), ((a 15), .inl (cI, 300, .inl (u_4.2 0)))] H := hP
  have hD : va_D A [((a 0), .inr (9, [.ref (a 15), .int 10])), ((a 15), .inl (cI, 300, .inl (u_4.2 0)))] := hD
  refine lv_iinc (v := 8) (lv' := [(2, .int 8), (0, .ref (a 0)), (1, .int p0)]) hx hb dX9_add_31 hl (k := 0) rfl (by decide) (by decide) rfl (fun ls hl => ?_)
  refine lv_goto (tgt := 3) hx hb dX9_add_34 (by decide) ?_
  refine lv_iload_n hx hb dX9_add_3 rfl (lv_at hl 0 rfl) ?_
  refine lv_if_lt (tgt := 37) hx hb dX9_add_4 (by decide) (fun h9 => absurd h9 (by decide)) (fun _ => ?_)
  refine lv_aload_n hx hb dX9_add_7 rfl (lv_at hl 1 rfl) ?_
  refine va_get (D := D) (ci := 9) (v := .ref (a 15)) (C := RX9) (T := TX9) (N := 2) hx hb hT ix_9 hown hK hP 0 rfl rfl 0 (by decide) (hT _ sw_152) (fun _ h9 => h9) rfl dX9_add_8 ?_
  refine lv_aload_n hx hb dX9_add_11 rfl (lv_at hl 1 rfl) ?_
  refine va_get (D := D) (ci := 9) (v := .int 10) (C := RX9) (T := TX9) (N := 2) hx hb hT ix_9 hown hK hP 0 rfl rfl 1 (by decide) (hT _ sw_158) (fun _ h9 => h9) rfl dX9_add_12 ?_
  refine lv_iload_n hx hb dX9_add_15 rfl (lv_at hl 2 rfl) ?_
  refine lv_iload_n hx hb dX9_add_16 rfl (lv_at hl 0 rfl) ?_
  refine lv_iushr hx hb dX9_add_17 rfl ?_
  refine lv_topi (fun v_5 _ => ?_)
  refine go_M (wc := [((a 15), .inl (cI, 300, .inl (u_4.2 0)))]) (wr := [((a 0), .inr (9, [.ref (a 15), .int 10]))]) (w1 := fun u => [((a 15), .inl (cI, 300, .inl (u.2 0)))]) (v := none) (st1 := []) hP hD hS hA [1] [0] rfl rfl (by decide) (by decide) (by decide) (fun hPc hDc => run_SN (As := [.ref (a 15), .int 10, .int v_5]) (rest := []) ⟨hx, hb, hml, hown, hT⟩ (kX11_putByte_0 l D cI h0 a 10 v_5 (u_4.2 0) _) sw_582 lks_X11_putByte (p_M_S hPc hK hDc) rfl hl.1 rfl (Nat.le_of_ble_eq_true rfl) dX9_add_18 ⟨⟨Nat.le_of_ble_eq_true rfl, Nat.le_of_ble_eq_true rfl⟩, Nat.le_of_ble_eq_true rfl, Nat.le_of_ble_eq_true rfl⟩) rfl (fun u_6 H locs hP hD hS => ?_)
  have hP : va_P D vwCl [((a 0), .inr (9, [.ref (a 15), .int 10])), ((a 15), .inl (cI, 300, .inl (u_6.2 0)))] H := hP
  have hD : va_D A [((a 0), .inr (9, [.ref (a 15), .int 10])), ((a 15), .inl (cI, 300, .inl (u_6.2 0)))] := hD
  refine lv_aload_n hx hb dX9_add_21 rfl (lv_at hl 1 rfl) ?_
  refine lv_dup hx hb dX9_add_22 rfl ?_
  refine va_get (D := D) (ci := 9) (v := .int 10) (C := RX9) (T := TX9) (N := 2) hx hb hT ix_9 hown hK hP 0 rfl rfl 1 (by decide) (hT _ sw_158) (fun _ h9 => h9) rfl dX9_add_23 ?_
  refine lv_iconst (v := 1) hx hb dX9_add_26 (by decide) ?_
  refine lv_iadd hx hb dX9_add_27 ?_
  refine ct_i (z := 11) (by decide) ?_
  refine va_put (D := D) (ci := 9) (v := .int 11) (ty := .int) (C := RX9) (T := TX9) (N := 2) hx hb hT ix_9 tyX9 tyX9_ok nmX9 hown hK hP hD hS 0 rfl rfl 1 (by decide) (hT _ sw_158) (fun _ h9 => h9) rfl (by decide +kernel) rfl rfl (Nat.le_of_ble_eq_true rfl) dX9_add_28 (fun H locs hP hD hS => ?_)
  have hP : va_P D vwCl [((a 0), .inr (9, [.ref (a 15), .int 11])), ((a 15), .inl (cI, 300, .inl (u_6.2 0)))] H := hP
  have hD : va_D A [((a 0), .inr (9, [.ref (a 15), .int 11])), ((a 15), .inl (cI, 300, .inl (u_6.2 0)))] := hD
  refine lv_iinc (v := 0) (lv' := [(2, .int 0), (0, .ref (a 0)), (1, .int p0)]) hx hb dX9_add_31 hl (k := 0) rfl (by decide) (by decide) rfl (fun ls hl => ?_)
  refine lv_goto (tgt := 3) hx hb dX9_add_34 (by decide) ?_
  refine lv_iload_n hx hb dX9_add_3 rfl (lv_at hl 0 rfl) ?_
  refine lv_if_lt (tgt := 37) hx hb dX9_add_4 (by decide) (fun h9 => absurd h9 (by decide)) (fun _ => ?_)
  refine lv_aload_n hx hb dX9_add_7 rfl (lv_at hl 1 rfl) ?_
  refine va_get (D := D) (ci := 9) (v := .ref (a 15)) (C := RX9) (T := TX9) (N := 2) hx hb hT ix_9 hown hK hP 0 rfl rfl 0 (by decide) (hT _ sw_152) (fun _ h9 => h9) rfl dX9_add_8 ?_
  refine lv_aload_n hx hb dX9_add_11 rfl (lv_at hl 1 rfl) ?_
  refine va_get (D := D) (ci := 9) (v := .int 11) (C := RX9) (T := TX9) (N := 2) hx hb hT ix_9 hown hK hP 0 rfl rfl 1 (by decide) (hT _ sw_158) (fun _ h9 => h9) rfl dX9_add_12 ?_
  refine lv_iload_n hx hb dX9_add_15 rfl (lv_at hl 2 rfl) ?_
  refine lv_iload_n hx hb dX9_add_16 rfl (lv_at hl 0 rfl) ?_
  refine lv_iushr hx hb dX9_add_17 rfl ?_
  refine lv_topi (fun v_7 _ => ?_)
  refine go_M (wc := [((a 15), .inl (cI, 300, .inl (u_6.2 0)))]) (wr := [((a 0), .inr (9, [.ref (a 15), .int 11]))]) (w1 := fun u => [((a 15), .inl (cI, 300, .inl (u.2 0)))]) (v := none) (st1 := []) hP hD hS hA [1] [0] rfl rfl (by decide) (by decide) (by decide) (fun hPc hDc => run_SN (As := [.ref (a 15), .int 11, .int v_7]) (rest := []) ⟨hx, hb, hml, hown, hT⟩ (kX11_putByte_0 l D cI h0 a 11 v_7 (u_6.2 0) _) sw_582 lks_X11_putByte (p_M_S hPc hK hDc) rfl hl.1 rfl (Nat.le_of_ble_eq_true rfl) dX9_add_18 ⟨⟨Nat.le_of_ble_eq_true rfl, Nat.le_of_ble_eq_true rfl⟩, Nat.le_of_ble_eq_true rfl, Nat.le_of_ble_eq_true rfl⟩) rfl (fun u_8 H locs hP hD hS => ?_)
  have hP : va_P D vwCl [((a 0), .inr (9, [.ref (a 15), .int 11])), ((a 15), .inl (cI, 300, .inl (u_8.2 0)))] H := hP
  have hD : va_D A [((a 0), .inr (9, [.ref (a 15), .int 11])), ((a 15), .inl (cI, 300, .inl (u_8.2 0)))] := hD
  refine lv_aload_n hx hb dX9_add_21 rfl (lv_at hl 1 rfl) ?_
  refine lv_dup hx hb dX9_add_22 rfl ?_
  refine va_get (D := D) (ci := 9) (v := .int 11) (C := RX9) (T := TX9) (N := 2) hx hb hT ix_9 hown hK hP 0 rfl rfl 1 (by decide) (hT _ sw_158) (fun _ h9 => h9) rfl dX9_add_23 ?_
  refine lv_iconst (v := 1) hx hb dX9_add_26 (by decide) ?_
  refine lv_iadd hx hb dX9_add_27 ?_
  refine ct_i (z := 12) (by decide) ?_
  refine va_put (D := D) (ci := 9) (v := .int 12) (ty := .int) (C := RX9) (T := TX9) (N := 2) hx hb hT ix_9 tyX9 tyX9_ok nmX9 hown hK hP hD hS 0 rfl rfl 1 (by decide) (hT _ sw_158) (fun _ h9 => h9) rfl (by decide +kernel) rfl rfl (Nat.le_of_ble_eq_true rfl) dX9_add_28 (fun H locs hP hD hS => ?_)
  have hP : va_P D vwCl [((a 0), .inr (9, [.ref (a 15), .int 12])), ((a 15), .inl (cI, 300, .inl (u_8.2 0)))] H := hP
  have hD : va_D A [((a 0), .inr (9, [.ref (a 15), .int 12])), ((a 15), .inl (cI, 300, .inl (u_8.2 0)))] := hD
  refine lv_iinc (v := (-8)) (lv' := [(2, .int (-8)), (0, .ref (a 0)), (1, .int p0)]) hx hb dX9_add_31 hl (k := 0) rfl (by decide) (by decide) rfl (fun ls hl => ?_)
  refine lv_goto (tgt := 3) hx hb dX9_add_34 (by decide) ?_
  refine lv_iload_n hx hb dX9_add_3 rfl (lv_at hl 0 rfl) ?_
  refine lv_if_lt (tgt := 37) hx hb dX9_add_4 (by decide) (fun _ => ?_) (fun h9 => absurd (by decide) h9)
  have hP9 := hP.sub (ws' := [((a 0), .inr (9, [.ref (a 15), .int 12])), ((a 15), .inl (cI, 300, .inl (u_8.2 0)))]) [0, 1] rfl
  have hD9 := hD.sub (ws' := [((a 0), .inr (9, [.ref (a 15), .int 12])), ((a 15), .inl (cI, 300, .inl (u_8.2 0)))]) [0, 1] (by decide) rfl
  exact W.vret hx hb hr (fun t ht _ => ⟨rfl, ⟨(fun k => [].getD k 0, fun k => [(u_8.2 0)].getD k zI), by rw [ht]; exact hP9, hD9⟩, hS.F ht⟩) hS.2.2 dX9_add_37
set_option maxHeartbeats 4000000 in
set_option maxRecDepth 100000 in
theorem kX9_add_3 (l : Launch) (D : va_G) (cI : ClassId) (h0 : Nat) (a : Nat → Nat) (p0 : Int32) (g0 : Nat → Int32) (sz : Nat) : Met l yX9_add (sw_ws yX9_add cX9_add 3 none) (rm_ 1 24 0 0) (p_M D vwCl [(cI, .int)] [.ref (a 0), .int p0] [((a 0), .inr (9, [.ref (a 15), .int 12])), ((a 15), .inl (cI, 300, .inl g0))] sz) (q_M D vwCl none (fun u => [((a 0), .inr (9, [.ref (a 15), .int 16])), ((a 15), .inl (cI, 300, .inl (u.2 0)))]) (va_A [((a 0), .inr (9, [.ref (a 15), .int 12])), ((a 15), .inl (cI, 300, .inl g0))] sz)) 0 0 (va_A [((a 0), .inr (9, [.ref (a 15), .int 12])), ((a 15), .inl (cI, 300, .inl g0))] sz) := by
  refine Met.ofW (cc := cX9_add) (maxL := 3) (ret := none) (by decide) rfl ?_
  intro p e s m args below meth c s₁ B hml hv
  obtain ⟨rfl, hsz, hP, hK, hD0⟩ := hv
  have hx := B.exec
  have hb := B.bytes
  have hr := B.returns
  have hT := sw_in (atoms_spec (ws := sw_ws yX9_add cX9_add 3 none) B.pre)
  have hown : s.vm.findClass RX9 = some m.cls := findClass_of_methodNamed B.named
  have hlocks := B.notSynchronized
  subst hsz
  have hD := hD0.self (sz := s.heap.size)
  generalize hAe : va_A [((a 0), .inr (9, [.ref (a 15), .int 12])), ((a 15), .inl (cI, 300, .inl g0))] s.heap.size = A at hD ⊢
  have hA : ∀ q : Nat, s.heap.size ≤ q → A q := fun q h => by rw [← hAe]; exact Or.inr h
  have hS : va_S A s.heap s.heap [] := va_S.rf
  have hl := lv_entry ([.ref (a 0), .int p0]) (n := 3) (Nat.le_of_ble_eq_true rfl)
  rw [lg_entry_eq]
  generalize (lg_sl ([.ref (a 0), .int p0]) ++ List.replicate (3 - (lg_sl ([.ref (a 0), .int p0])).length) Slot.unset).toArray = ls at hl ⊢
  have hl : lv_has ls 3 [(0, .ref (a 0)), (1, .int p0)] := hl
  refine lv_bipush (v := 24) hx hb dX9_add_0 (by decide) ?_
  refine lv_istore_n (lv' := [(2, .int 24), (0, .ref (a 0)), (1, .int p0)]) hx hb dX9_add_2 rfl hl (by decide) rfl (fun ls hl => ?_)
  refine lv_iload_n hx hb dX9_add_3 rfl (lv_at hl 0 rfl) ?_
  refine lv_if_lt (tgt := 37) hx hb dX9_add_4 (by decide) (fun h9 => absurd h9 (by decide)) (fun _ => ?_)
  refine lv_aload_n hx hb dX9_add_7 rfl (lv_at hl 1 rfl) ?_
  refine va_get (D := D) (ci := 9) (v := .ref (a 15)) (C := RX9) (T := TX9) (N := 2) hx hb hT ix_9 hown hK hP 0 rfl rfl 0 (by decide) (hT _ sw_152) (fun _ h9 => h9) rfl dX9_add_8 ?_
  refine lv_aload_n hx hb dX9_add_11 rfl (lv_at hl 1 rfl) ?_
  refine va_get (D := D) (ci := 9) (v := .int 12) (C := RX9) (T := TX9) (N := 2) hx hb hT ix_9 hown hK hP 0 rfl rfl 1 (by decide) (hT _ sw_158) (fun _ h9 => h9) rfl dX9_add_12 ?_
  refine lv_iload_n hx hb dX9_add_15 rfl (lv_at hl 2 rfl) ?_
  refine lv_iload_n hx hb dX9_add_16 rfl (lv_at hl 0 rfl) ?_
  refine lv_iushr hx hb dX9_add_17 rfl ?_
  refine lv_topi (fun v_1 _ => ?_)
  refine go_M (wc := [((a 15), .inl (cI, 300, .inl g0))]) (wr := [((a 0), .inr (9, [.ref (a 15), .int 12]))]) (w1 := fun u => [((a 15), .inl (cI, 300, .inl (u.2 0)))]) (v := none) (st1 := []) hP hD hS hA [1] [0] rfl rfl (by decide) (by decide) (by decide) (fun hPc hDc => run_SN (As := [.ref (a 15), .int 12, .int v_1]) (rest := []) ⟨hx, hb, hml, hown, hT⟩ (kX11_putByte_0 l D cI h0 a 12 v_1 g0 _) sw_582 lks_X11_putByte (p_M_S hPc hK hDc) rfl hl.1 rfl (Nat.le_of_ble_eq_true rfl) dX9_add_18 ⟨⟨Nat.le_of_ble_eq_true rfl, Nat.le_of_ble_eq_true rfl⟩, Nat.le_of_ble_eq_true rfl, Nat.le_of_ble_eq_true rfl⟩) rfl (fun u_2 H locs hP hD hS => ?_)
  have hP : va_P D vwCl [((a 0), .inr (9, [.ref (a 15), .int 12])), ((a 15), .inl (cI, 300, .inl (u_2.2 0)))] H := hP
  have hD : va_D A [((a 0), .inr (9, [.ref (a 15), .int 12])), ((a 15), .inl (cI, 300, .inl (u_2.2 0)))] := hD
  refine lv_aload_n hx hb dX9_add_21 rfl (lv_at hl 1 rfl) ?_
  refine lv_dup hx hb dX9_add_22 rfl ?_
  refine va_get (D := D) (ci := 9) (v := .int 12) (C := RX9) (T := TX9) (N := 2) hx hb hT ix_9 hown hK hP 0 rfl rfl 1 (by decide) (hT _ sw_158) (fun _ h9 => h9) rfl dX9_add_23 ?_
  refine lv_iconst (v := 1) hx hb dX9_add_26 (by decide) ?_
  refine lv_iadd hx hb dX9_add_27 ?_
  refine ct_i (z := 13) (by decide) ?_
  refine va_put (D := D) (ci := 9) (v := .int 13) (ty := .int) (C := RX9) (T := TX9) (N := 2) hx hb hT ix_9 tyX9 tyX9_ok nmX9 hown hK hP hD hS 0 rfl rfl 1 (by decide) (hT _ sw_158) (fun _ h9 => h9) rfl (by decide +kernel) rfl rfl (Nat.le_of_ble_eq_true rfl) dX9_add_28 (fun H locs hP hD hS => ?_)
  have hP : va_P D vwCl [((a 0), .inr (9, [.ref (a 15), .int 13])), ((a 15), .inl (cI, 300, .inl (u_2.2 0)))] H := hP
  have hD : va_D A [((a 0), .inr (9, [.ref (a 15), .int 13])), ((a 15), .inl (cI, 300, .inl (u_2.2 0)))] := hD
  refine lv_iinc (v := 16) (lv' := [(2, .int 16), (0, .ref (a 0)), (1, .int p0)]) hx hb dX9_add_31 hl (k := 0) rfl (by decide) (by decide) rfl (fun ls hl => ?_)
  refine lv_goto (tgt := 3) hx hb dX9_add_34 (by decide) ?_
  refine lv_iload_n hx hb dX9_add_3 rfl (lv_at hl 0 rfl) ?_
  refine lv_if_lt (tgt := 37) hx hb dX9_add_4 (by decide) (fun h9 => absurd h9 (by decide)) (fun _ => ?_)
  refine lv_aload_n hx hb dX9_add_7 rfl (lv_at hl 1 rfl) ?_
  refine va_get (D := D) (ci := 9) (v := .ref (a 15)) (C := RX9) (T := TX9) (N := 2) hx hb hT ix_9 hown hK hP 0 rfl rfl 0 (by decide) (hT _ sw_152) (fun _ h9 => h9) rfl dX9_add_8 ?_
  refine lv_aload_n hx hb dX9_add_11 rfl (lv_at hl 1 rfl) ?_
  refine va_get (D := D) (ci := 9) (v := .int 13) (C := RX9) (T := TX9) (N := 2) hx hb hT ix_9 hown hK hP 0 rfl rfl 1 (by decide) (hT _ sw_158) (fun _ h9 => h9) rfl dX9_add_12 ?_
  refine lv_iload_n hx hb dX9_add_15 rfl (lv_at hl 2 rfl) ?_
  refine lv_iload_n hx hb dX9_add_16 rfl (lv_at hl 0 rfl) ?_
  refine lv_iushr hx hb dX9_add_17 rfl ?_
  refine lv_topi (fun v_3 _ => ?_)
  refine go_M (wc := [((a 15), .inl (cI, 300, .inl (u_2.2 0)))]) (wr := [((a 0), .inr (9, [.ref (a 15), .int 13]))]) (w1 := fun u => [((a 15), .inl (cI, 300, .inl (u.2 0)))]) (v := none) (st1 := []) hP hD hS hA [1] [0] rfl rfl (by decide) (by decide) (by decide) (fun hPc hDc => run_SN (As := [.ref (a 15), .int 13, .int v_3]) (rest := []) ⟨hx, hb, hml, hown, hT⟩ (kX11_putByte_0 l D cI h0 a 13 v_3 (u_2.2 0) _) sw_582 lks_X11_putByte (p_M_S hPc hK hDc) rfl hl.1 rfl (Nat.le_of_ble_eq_true rfl) dX9_add_18 ⟨⟨Nat.le_of_ble_eq_true rfl, Nat.le_of_ble_eq_true rfl⟩, Nat.le_of_ble_eq_true rfl, Nat.le_of_ble_eq_true rfl⟩) rfl (fun u_4 H locs hP hD hS => ?_)
  have hP : va_P D vwCl [((a 0), .inr (9, [.ref (a 15), .int 13])), ((a 15), .inl (cI, 300, .inl (u_4.2 0)))] H := hP
  have hD : va_D A [((a 0), .inr (9, [.ref (a 15), .int 13])), ((a 15), .inl (cI, 300, .inl (u_4.2 0)))] := hD
  refine lv_aload_n hx hb dX9_add_21 rfl (lv_at hl 1 rfl) ?_
  refine lv_dup hx hb dX9_add_22 rfl ?_
  refine va_get (D := D) (ci := 9) (v := .int 13) (C := RX9) (T := TX9) (N := 2) hx hb hT ix_9 hown hK hP 0 rfl rfl 1 (by decide) (hT _ sw_158) (fun _ h9 => h9) rfl dX9_add_23 ?_
  refine lv_iconst (v := 1) hx hb dX9_add_26 (by decide) ?_
  refine lv_iadd hx hb dX9_add_27 ?_
  refine ct_i (z := 14) (by decide) ?_
  refine va_put (D := D) (ci := 9) (v := .int 14) (ty := .int) (C := RX9) (T := TX9) (N := 2) hx hb hT ix_9 tyX9 tyX9_ok nmX9 hown hK hP hD hS 0 rfl rfl 1 (by decide) (hT _ sw_158) (fun _ h9 => h9) rfl (by decide +kernel) rfl rfl (Nat.le_of_ble_eq_true rfl) dX9_add_28 (fun H locs hP hD hS => ?_)
  have hP : va_P D vwCl [((a 0), .inr (9, [.ref (a 15), .int 14])), ((a 15), .inl (cI, 300, .inl (u_4.2 0)))] H := hP
  have hD : va_D A [((a 0), .inr (9, [.ref (a 15), .int 14])), ((a 15), .inl (cI, 300, .inl (u_4.2 0)))] := hD
  refine lv_iinc (v := 8) (lv' := [(2, .int 8), (0, .ref (a 0)), (1, .int p0)]) hx hb dX9_add_31 hl (k := 0) rfl (by decide) (by decide) rfl (fun ls hl => ?_)
  refine lv_goto (tgt := 3) hx hb dX9_add_34 (by decide) ?_
  refine lv_iload_n hx hb dX9_add_3 rfl (lv_at hl 0 rfl) ?_
  refine lv_if_lt (tgt := 37) hx hb dX9_add_4 (by decide) (fun h9 => absurd h9 (by decide)) (fun _ => ?_)
  refine lv_aload_n hx hb dX9_add_7 rfl (lv_at hl 1 rfl) ?_
  refine va_get (D := D) (ci := 9) (v := .ref (a 15)) (C := RX9) (T := TX9) (N := 2) hx hb hT ix_9 hown hK hP 0 rfl rfl 0 (by decide) (hT _ sw_152) (fun _ h9 => h9) rfl dX9_add_8 ?_
  refine lv_aload_n hx hb dX9_add_11 rfl (lv_at hl 1 rfl) ?_
  refine va_get (D := D) (ci := 9) (v := .int 14) (C := RX9) (T := TX9) (N := 2) hx hb hT ix_9 hown hK hP 0 rfl rfl 1 (by decide) (hT _ sw_158) (fun _ h9 => h9) rfl dX9_add_12 ?_
  refine lv_iload_n hx hb dX9_add_15 rfl (lv_at hl 2 rfl) ?_
  refine lv_iload_n hx hb dX9_add_16 rfl (lv_at hl 0 rfl) ?_
  refine lv_iushr hx hb dX9_add_17 rfl ?_
  refine lv_topi (fun v_5 _ => ?_)
  refine go_M (wc := [((a 15), .inl (cI, 300, .inl (u_4.2 0)))]) (wr := [((a 0), .inr (9, [.ref (a 15), .int 14]))]) (w1 := fun u => [((a 15), .inl (cI, 300, .inl (u.2 0)))]) (v := none) (st1 := []) hP hD hS hA [1] [0] rfl rfl (by decide) (by decide) (by decide) (fun hPc hDc => run_SN (As := [.ref (a 15), .int 14, .int v_5]) (rest := []) ⟨hx, hb, hml, hown, hT⟩ (kX11_putByte_0 l D cI h0 a 14 v_5 (u_4.2 0) _) sw_582 lks_X11_putByte (p_M_S hPc hK hDc) rfl hl.1 rfl (Nat.le_of_ble_eq_true rfl) dX9_add_18 ⟨⟨Nat.le_of_ble_eq_true rfl, Nat.le_of_ble_eq_true rfl⟩, Nat.le_of_ble_eq_true rfl, Nat.le_of_ble_eq_true rfl⟩) rfl (fun u_6 H locs hP hD hS => ?_)
  have hP : va_P D vwCl [((a 0), .inr (9, [.ref (a 15), .int 14])), ((a 15), .inl (cI, 300, .inl (u_6.2 0)))] H := hP
  have hD : va_D A [((a 0), .inr (9, [.ref (a 15), .int 14])), ((a 15), .inl (cI, 300, .inl (u_6.2 0)))] := hD
  refine lv_aload_n hx hb dX9_add_21 rfl (lv_at hl 1 rfl) ?_
  refine lv_dup hx hb dX9_add_22 rfl ?_
  refine va_get (D := D) (ci := 9) (v := .int 14) (C := RX9) (T := TX9) (N := 2) hx hb hT ix_9 hown hK hP 0 rfl rfl 1 (by decide) (hT _ sw_158) (fun _ h9 => h9) rfl dX9_add_23 ?_
  refine lv_iconst (v := 1) hx hb dX9_add_26 (by decide) ?_
  refine lv_iadd hx hb dX9_add_27 ?_
  refine ct_i (z := 15) (by decide) ?_
  refine va_put (D := D) (ci := 9) (v := .int 15) (ty := .int) (C := RX9) (T := TX9) (N := 2) hx hb hT ix_9 tyX9 tyX9_ok nmX9 hown hK hP hD hS 0 rfl rfl 1 (by decide) (hT _ sw_158) (fun _ h9 => h9) rfl (by decide +kernel) rfl rfl (Nat.le_of_ble_eq_true rfl) dX9_add_28 (fun H locs hP hD hS => ?_)
  have hP : va_P D vwCl [((a 0), .inr (9, [.ref (a 15), .int 15])), ((a 15), .inl (cI, 300, .inl (u_6.2 0)))] H := hP
  have hD : va_D A [((a 0), .inr (9, [.ref (a 15), .int 15])), ((a 15), .inl (cI, 300, .inl (u_6.2 0)))] := hD
  refine lv_iinc (v := 0) (lv' := [(2, .int 0), (0, .ref (a 0)), (1, .int p0)]) hx hb dX9_add_31 hl (k := 0) rfl (by decide) (by decide) rfl (fun ls hl => ?_)
  refine lv_goto (tgt := 3) hx hb dX9_add_34 (by decide) ?_
  refine lv_iload_n hx hb dX9_add_3 rfl (lv_at hl 0 rfl) ?_
  refine lv_if_lt (tgt := 37) hx hb dX9_add_4 (by decide) (fun h9 => absurd h9 (by decide)) (fun _ => ?_)
  refine lv_aload_n hx hb dX9_add_7 rfl (lv_at hl 1 rfl) ?_
  refine va_get (D := D) (ci := 9) (v := .ref (a 15)) (C := RX9) (T := TX9) (N := 2) hx hb hT ix_9 hown hK hP 0 rfl rfl 0 (by decide) (hT _ sw_152) (fun _ h9 => h9) rfl dX9_add_8 ?_
  refine lv_aload_n hx hb dX9_add_11 rfl (lv_at hl 1 rfl) ?_
  refine va_get (D := D) (ci := 9) (v := .int 15) (C := RX9) (T := TX9) (N := 2) hx hb hT ix_9 hown hK hP 0 rfl rfl 1 (by decide) (hT _ sw_158) (fun _ h9 => h9) rfl dX9_add_12 ?_
  refine lv_iload_n hx hb dX9_add_15 rfl (lv_at hl 2 rfl) ?_
  refine lv_iload_n hx hb dX9_add_16 rfl (lv_at hl 0 rfl) ?_
  refine lv_iushr hx hb dX9_add_17 rfl ?_
  refine lv_topi (fun v_7 _ => ?_)
  refine go_M (wc := [((a 15), .inl (cI, 300, .inl (u_6.2 0)))]) (wr := [((a 0), .inr (9, [.ref (a 15), .int 15]))]) (w1 := fun u => [((a 15), .inl (cI, 300, .inl (u.2 0)))]) (v := none) (st1 := []) hP hD hS hA [1] [0] rfl rfl (by decide) (by decide) (by decide) (fun hPc hDc => run_SN (As := [.ref (a 15), .int 15, .int v_7]) (rest := []) ⟨hx, hb, hml, hown, hT⟩ (kX11_putByte_0 l D cI h0 a 15 v_7 (u_6.2 0) _) sw_582 lks_X11_putByte (p_M_S hPc hK hDc) rfl hl.1 rfl (Nat.le_of_ble_eq_true rfl) dX9_add_18 ⟨⟨Nat.le_of_ble_eq_true rfl, Nat.le_of_ble_eq_true rfl⟩, Nat.le_of_ble_eq_true rfl, Nat.le_of_ble_eq_true rfl⟩) rfl (fun u_8 H locs hP hD hS => ?_)
  have hP : va_P D vwCl [((a 0), .inr (9, [.ref (a 15), .int 15])), ((a 15), .inl (cI, 300, .inl (u_8.2 0)))] H := hP
  have hD : va_D A [((a 0), .inr (9, [.ref (a 15), .int 15])), ((a 15), .inl (cI, 300, .inl (u_8.2 0)))] := hD
  refine lv_aload_n hx hb dX9_add_21 rfl (lv_at hl 1 rfl) ?_
  refine lv_dup hx hb dX9_add_22 rfl ?_
  refine va_get (D := D) (ci := 9) (v := .int 15) (C := RX9) (T := TX9) (N := 2) hx hb hT ix_9 hown hK hP 0 rfl rfl 1 (by decide) (hT _ sw_158) (fun _ h9 => h9) rfl dX9_add_23 ?_
  refine lv_iconst (v := 1) hx hb dX9_add_26 (by decide) ?_
  refine lv_iadd hx hb dX9_add_27 ?_
  refine ct_i (z := 16) (by decide) ?_
  refine va_put (D := D) (ci := 9) (v := .int 16) (ty := .int) (C := RX9) (T := TX9) (N := 2) hx hb hT ix_9 tyX9 tyX9_ok nmX9 hown hK hP hD hS 0 rfl rfl 1 (by decide) (hT _ sw_158) (fun _ h9 => h9) rfl (by decide +kernel) rfl rfl (Nat.le_of_ble_eq_true rfl) dX9_add_28 (fun H locs hP hD hS => ?_)
  have hP : va_P D vwCl [((a 0), .inr (9, [.ref (a 15), .int 16])), ((a 15), .inl (cI, 300, .inl (u_8.2 0)))] H := hP
  have hD : va_D A [((a 0), .inr (9, [.ref (a 15), .int 16])), ((a 15), .inl (cI, 300, .inl (u_8.2 0)))] := hD
  refine lv_iinc (v := (-8)) (lv' := [(2, .int (-8)), (0, .ref (a 0)), (1, .int p0)]) hx hb dX9_add_31 hl (k := 0) rfl (by decide) (by decide) rfl (fun ls hl => ?_)
  refine lv_goto (tgt := 3) hx hb dX9_add_34 (by decide) ?_
  refine lv_iload_n hx hb dX9_add_3 rfl (lv_at hl 0 rfl) ?_
  refine lv_if_lt (tgt := 37) hx hb dX9_add_4 (by decide) (fun _ => ?_) (fun h9 => absurd (by decide) h9)
  have hP9 := hP.sub (ws' := [((a 0), .inr (9, [.ref (a 15), .int 16])), ((a 15), .inl (cI, 300, .inl (u_8.2 0)))]) [0, 1] rfl
  have hD9 := hD.sub (ws' := [((a 0), .inr (9, [.ref (a 15), .int 16])), ((a 15), .inl (cI, 300, .inl (u_8.2 0)))]) [0, 1] (by decide) rfl
  exact W.vret hx hb hr (fun t ht _ => ⟨rfl, ⟨(fun k => [].getD k 0, fun k => [(u_8.2 0)].getD k zI), by rw [ht]; exact hP9, hD9⟩, hS.F ht⟩) hS.2.2 dX9_add_37
set_option maxHeartbeats 4000000 in
set_option maxRecDepth 100000 in
theorem kX9_add_4 (l : Launch) (D : va_G) (cI : ClassId) (h0 : Nat) (a : Nat → Nat) (p0 : Int32) (g0 : Nat → Int32) (sz : Nat) : Met l yX9_add (sw_ws yX9_add cX9_add 3 none) (rm_ 1 24 0 0) (p_M D vwCl [(cI, .int)] [.ref (a 0), .int p0] [((a 0), .inr (9, [.ref (a 15), .int 16])), ((a 15), .inl (cI, 300, .inl g0))] sz) (q_M D vwCl none (fun u => [((a 0), .inr (9, [.ref (a 15), .int 20])), ((a 15), .inl (cI, 300, .inl (u.2 0)))]) (va_A [((a 0), .inr (9, [.ref (a 15), .int 16])), ((a 15), .inl (cI, 300, .inl g0))] sz)) 0 0 (va_A [((a 0), .inr (9, [.ref (a 15), .int 16])), ((a 15), .inl (cI, 300, .inl g0))] sz) := by
  refine Met.ofW (cc := cX9_add) (maxL := 3) (ret := none) (by decide) rfl ?_
  intro p e s m args below meth c s₁ B hml hv
  obtain ⟨rfl, hsz, hP, hK, hD0⟩ := hv
  have hx := B.exec
  have hb := B.bytes
  have hr := B.returns
  have hT := sw_in (atoms_spec (ws := sw_ws yX9_add cX9_add 3 none) B.pre)
  have hown : s.vm.findClass RX9 = some m.cls := findClass_of_methodNamed B.named
  have hlocks := B.notSynchronized
  subst hsz
  have hD := hD0.self (sz := s.heap.size)
  generalize hAe : va_A [((a 0), .inr (9, [.ref (a 15), .int 16])), ((a 15), .inl (cI, 300, .inl g0))] s.heap.size = A at hD ⊢
  have hA : ∀ q : Nat, s.heap.size ≤ q → A q := fun q h => by rw [← hAe]; exact Or.inr h
  have hS : va_S A s.heap s.heap [] := va_S.rf
  have hl := lv_entry ([.ref (a 0), .int p0]) (n := 3) (Nat.le_of_ble_eq_true rfl)
  rw [lg_entry_eq]
  generalize (lg_sl ([.ref (a 0), .int p0]) ++ List.replicate (3 - (lg_sl ([.ref (a 0), .int p0])).length) Slot.unset).toArray = ls at hl ⊢
  have hl : lv_has ls 3 [(0, .ref (a 0)), (1, .int p0)] := hl
  refine lv_bipush (v := 24) hx hb dX9_add_0 (by decide) ?_
  refine lv_istore_n (lv' := [(2, .int 24), (0, .ref (a 0)), (1, .int p0)]) hx hb dX9_add_2 rfl hl (by decide) rfl (fun ls hl => ?_)
  refine lv_iload_n hx hb dX9_add_3 rfl (lv_at hl 0 rfl) ?_
  refine lv_if_lt (tgt := 37) hx hb dX9_add_4 (by decide) (fun h9 => absurd h9 (by decide)) (fun _ => ?_)
  refine lv_aload_n hx hb dX9_add_7 rfl (lv_at hl 1 rfl) ?_
  refine va_get (D := D) (ci := 9) (v := .ref (a 15)) (C := RX9) (T := TX9) (N := 2) hx hb hT ix_9 hown hK hP 0 rfl rfl 0 (by decide) (hT _ sw_152) (fun _ h9 => h9) rfl dX9_add_8 ?_
  refine lv_aload_n hx hb dX9_add_11 rfl (lv_at hl 1 rfl) ?_
  refine va_get (D := D) (ci := 9) (v := .int 16) (C := RX9) (T := TX9) (N := 2) hx hb hT ix_9 hown hK hP 0 rfl rfl 1 (by decide) (hT _ sw_158) (fun _ h9 => h9) rfl dX9_add_12 ?_
  refine lv_iload_n hx hb dX9_add_15 rfl (lv_at hl 2 rfl) ?_
  refine lv_iload_n hx hb dX9_add_16 rfl (lv_at hl 0 rfl) ?_
  refine lv_iushr hx hb dX9_add_17 rfl ?_
  refine lv_topi (fun v_1 _ => ?_)
  refine go_M (wc := [((a 15), .inl (cI, 300, .inl g0))]) (wr := [((a 0), .inr (9, [.ref (a 15), .int 16]))]) (w1 := fun u => [((a 15), .inl (cI, 300, .inl (u.2 0)))]) (v := none) (st1 := []) hP hD hS hA [1] [0] rfl rfl (by decide) (by decide) (by decide) (fun hPc hDc => run_SN (As := [.ref (a 15), .int 16, .int v_1]) (rest := []) ⟨hx, hb, hml, hown, hT⟩ (kX11_putByte_0 l D cI h0 a 16 v_1 g0 _) sw_582 lks_X11_putByte (p_M_S hPc hK hDc) rfl hl.1 rfl (Nat.le_of_ble_eq_true rfl) dX9_add_18 ⟨⟨Nat.le_of_ble_eq_true rfl, Nat.le_of_ble_eq_true rfl⟩, Nat.le_of_ble_eq_true rfl, Nat.le_of_ble_eq_true rfl⟩) rfl (fun u_2 H locs hP hD hS => ?_)
  have hP : va_P D vwCl [((a 0), .inr (9, [.ref (a 15), .int 16])), ((a 15), .inl (cI, 300, .inl (u_2.2 0)))] H := hP
  have hD : va_D A [((a 0), .inr (9, [.ref (a 15), .int 16])), ((a 15), .inl (cI, 300, .inl (u_2.2 0)))] := hD
  refine lv_aload_n hx hb dX9_add_21 rfl (lv_at hl 1 rfl) ?_
  refine lv_dup hx hb dX9_add_22 rfl ?_
  refine va_get (D := D) (ci := 9) (v := .int 16) (C := RX9) (T := TX9) (N := 2) hx hb hT ix_9 hown hK hP 0 rfl rfl 1 (by decide) (hT _ sw_158) (fun _ h9 => h9) rfl dX9_add_23 ?_
  refine lv_iconst (v := 1) hx hb dX9_add_26 (by decide) ?_
  refine lv_iadd hx hb dX9_add_27 ?_
  refine ct_i (z := 17) (by decide) ?_
  refine va_put (D := D) (ci := 9) (v := .int 17) (ty := .int) (C := RX9) (T := TX9) (N := 2) hx hb hT ix_9 tyX9 tyX9_ok nmX9 hown hK hP hD hS 0 rfl rfl 1 (by decide) (hT _ sw_158) (fun _ h9 => h9) rfl (by decide +kernel) rfl rfl (Nat.le_of_ble_eq_true rfl) dX9_add_28 (fun H locs hP hD hS => ?_)
  have hP : va_P D vwCl [((a 0), .inr (9, [.ref (a 15), .int 17])), ((a 15), .inl (cI, 300, .inl (u_2.2 0)))] H := hP
  have hD : va_D A [((a 0), .inr (9, [.ref (a 15), .int 17])), ((a 15), .inl (cI, 300, .inl (u_2.2 0)))] := hD
  refine lv_iinc (v := 16) (lv' := [(2, .int 16), (0, .ref (a 0)), (1, .int p0)]) hx hb dX9_add_31 hl (k := 0) rfl (by decide) (by decide) rfl (fun ls hl => ?_)
  refine lv_goto (tgt := 3) hx hb dX9_add_34 (by decide) ?_
  refine lv_iload_n hx hb dX9_add_3 rfl (lv_at hl 0 rfl) ?_
  refine lv_if_lt (tgt := 37) hx hb dX9_add_4 (by decide) (fun h9 => absurd h9 (by decide)) (fun _ => ?_)
  refine lv_aload_n hx hb dX9_add_7 rfl (lv_at hl 1 rfl) ?_
  refine va_get (D := D) (ci := 9) (v := .ref (a 15)) (C := RX9) (T := TX9) (N := 2) hx hb hT ix_9 hown hK hP 0 rfl rfl 0 (by decide) (hT _ sw_152) (fun _ h9 => h9) rfl dX9_add_8 ?_
  refine lv_aload_n hx hb dX9_add_11 rfl (lv_at hl 1 rfl) ?_
  refine va_get (D := D) (ci := 9) (v := .int 17) (C := RX9) (T := TX9) (N := 2) hx hb hT ix_9 hown hK hP 0 rfl rfl 1 (by decide) (hT _ sw_158) (fun _ h9 => h9) rfl dX9_add_12 ?_
  refine lv_iload_n hx hb dX9_add_15 rfl (lv_at hl 2 rfl) ?_
  refine lv_iload_n hx hb dX9_add_16 rfl (lv_at hl 0 rfl) ?_
  refine lv_iushr hx hb dX9_add_17 rfl ?_
  refine lv_topi (fun v_3 _ => ?_)
  refine go_M (wc := [((a 15), .inl (cI, 300, .inl (u_2.2 0)))]) (wr := [((a 0), .inr (9, [.ref (a 15), .int 17]))]) (w1 := fun u => [((a 15), .inl (cI, 300, .inl (u.2 0)))]) (v := none) (st1 := []) hP hD hS hA [1] [0] rfl rfl (by decide) (by decide) (by decide) (fun hPc hDc => run_SN (As := [.ref (a 15), .int 17, .int v_3]) (rest := []) ⟨hx, hb, hml, hown, hT⟩ (kX11_putByte_0 l D cI h0 a 17 v_3 (u_2.2 0) _) sw_582 lks_X11_putByte (p_M_S hPc hK hDc) rfl hl.1 rfl (Nat.le_of_ble_eq_true rfl) dX9_add_18 ⟨⟨Nat.le_of_ble_eq_true rfl, Nat.le_of_ble_eq_true rfl⟩, Nat.le_of_ble_eq_true rfl, Nat.le_of_ble_eq_true rfl⟩) rfl (fun u_4 H locs hP hD hS => ?_)
  have hP : va_P D vwCl [((a 0), .inr (9, [.ref (a 15), .int 17])), ((a 15), .inl (cI, 300, .inl (u_4.2 0)))] H := hP
  have hD : va_D A [((a 0), .inr (9, [.ref (a 15), .int 17])), ((a 15), .inl (cI, 300, .inl (u_4.2 0)))] := hD
  refine lv_aload_n hx hb dX9_add_21 rfl (lv_at hl 1 rfl) ?_
  refine lv_dup hx hb dX9_add_22 rfl ?_
  refine va_get (D := D) (ci := 9) (v := .int 17) (C := RX9) (T := TX9) (N := 2) hx hb hT ix_9 hown hK hP 0 rfl rfl 1 (by decide) (hT _ sw_158) (fun _ h9 => h9) rfl dX9_add_23 ?_
  refine lv_iconst (v := 1) hx hb dX9_add_26 (by decide) ?_
  refine lv_iadd hx hb dX9_add_27 ?_
  refine ct_i (z := 18) (by decide) ?_
  refine va_put (D := D) (ci := 9) (v := .int 18) (ty := .int) (C := RX9) (T := TX9) (N := 2) hx hb hT ix_9 tyX9 tyX9_ok nmX9 hown hK hP hD hS 0 rfl rfl 1 (by decide) (hT _ sw_158) (fun _ h9 => h9) rfl (by decide +kernel) rfl rfl (Nat.le_of_ble_eq_true rfl) dX9_add_28 (fun H locs hP hD hS => ?_)
  have hP : va_P D vwCl [((a 0), .inr (9, [.ref (a 15), .int 18])), ((a 15), .inl (cI, 300, .inl (u_4.2 0)))] H := hP
  have hD : va_D A [((a 0), .inr (9, [.ref (a 15), .int 18])), ((a 15), .inl (cI, 300, .inl (u_4.2 0)))] := hD
  refine lv_iinc (v := 8) (lv' := [(2, .int 8), (0, .ref (a 0)), (1, .int p0)]) hx hb dX9_add_31 hl (k := 0) rfl (by decide) (by decide) rfl (fun ls hl => ?_)
  refine lv_goto (tgt := 3) hx hb dX9_add_34 (by decide) ?_
  refine lv_iload_n hx hb dX9_add_3 rfl (lv_at hl 0 rfl) ?_
  refine lv_if_lt (tgt := 37) hx hb dX9_add_4 (by decide) (fun h9 => absurd h9 (by decide)) (fun _ => ?_)
  refine lv_aload_n hx hb dX9_add_7 rfl (lv_at hl 1 rfl) ?_
  refine va_get (D := D) (ci := 9) (v := .ref (a 15)) (C := RX9) (T := TX9) (N := 2) hx hb hT ix_9 hown hK hP 0 rfl rfl 0 (by decide) (hT _ sw_152) (fun _ h9 => h9) rfl dX9_add_8 ?_
  refine lv_aload_n hx hb dX9_add_11 rfl (lv_at hl 1 rfl) ?_
  refine va_get (D := D) (ci := 9) (v := .int 18) (C := RX9) (T := TX9) (N := 2) hx hb hT ix_9 hown hK hP 0 rfl rfl 1 (by decide) (hT _ sw_158) (fun _ h9 => h9) rfl dX9_add_12 ?_
  refine lv_iload_n hx hb dX9_add_15 rfl (lv_at hl 2 rfl) ?_
  refine lv_iload_n hx hb dX9_add_16 rfl (lv_at hl 0 rfl) ?_
  refine lv_iushr hx hb dX9_add_17 rfl ?_
  refine lv_topi (fun v_5 _ => ?_)
  refine go_M (wc := [((a 15), .inl (cI, 300, .inl (u_4.2 0)))]) (wr := [((a 0), .inr (9, [.ref (a 15), .int 18]))]) (w1 := fun u => [((a 15), .inl (cI, 300, .inl (u.2 0)))]) (v := none) (st1 := []) hP hD hS hA [1] [0] rfl rfl (by decide) (by decide) (by decide) (fun hPc hDc => run_SN (As := [.ref (a 15), .int 18, .int v_5]) (rest := []) ⟨hx, hb, hml, hown, hT⟩ (kX11_putByte_0 l D cI h0 a 18 v_5 (u_4.2 0) _) sw_582 lks_X11_putByte (p_M_S hPc hK hDc) rfl hl.1 rfl (Nat.le_of_ble_eq_true rfl) dX9_add_18 ⟨⟨Nat.le_of_ble_eq_true rfl, Nat.le_of_ble_eq_true rfl⟩, Nat.le_of_ble_eq_true rfl, Nat.le_of_ble_eq_true rfl⟩) rfl (fun u_6 H locs hP hD hS => ?_)
  have hP : va_P D vwCl [((a 0), .inr (9, [.ref (a 15), .int 18])), ((a 15), .inl (cI, 300, .inl (u_6.2 0)))] H := hP
  have hD : va_D A [((a 0), .inr (9, [.ref (a 15), .int 18])), ((a 15), .inl (cI, 300, .inl (u_6.2 0)))] := hD
  refine lv_aload_n hx hb dX9_add_21 rfl (lv_at hl 1 rfl) ?_
  refine lv_dup hx hb dX9_add_22 rfl ?_
  refine va_get (D := D) (ci := 9) (v := .int 18) (C := RX9) (T := TX9) (N := 2) hx hb hT ix_9 hown hK hP 0 rfl rfl 1 (by decide) (hT _ sw_158) (fun _ h9 => h9) rfl dX9_add_23 ?_
  refine lv_iconst (v := 1) hx hb dX9_add_26 (by decide) ?_
  refine lv_iadd hx hb dX9_add_27 ?_
  refine ct_i (z := 19) (by decide) ?_
  refine va_put (D := D) (ci := 9) (v := .int 19) (ty := .int) (C := RX9) (T := TX9) (N := 2) hx hb hT ix_9 tyX9 tyX9_ok nmX9 hown hK hP hD hS 0 rfl rfl 1 (by decide) (hT _ sw_158) (fun _ h9 => h9) rfl (by decide +kernel) rfl rfl (Nat.le_of_ble_eq_true rfl) dX9_add_28 (fun H locs hP hD hS => ?_)
  have hP : va_P D vwCl [((a 0), .inr (9, [.ref (a 15), .int 19])), ((a 15), .inl (cI, 300, .inl (u_6.2 0)))] H := hP
  have hD : va_D A [((a 0), .inr (9, [.ref (a 15), .int 19])), ((a 15), .inl (cI, 300, .inl (u_6.2 0)))] := hD
  refine lv_iinc (v := 0) (lv' := [(2, .int 0), (0, .ref (a 0)), (1, .int p0)]) hx hb dX9_add_31 hl (k := 0) rfl (by decide) (by decide) rfl (fun ls hl => ?_)
  refine lv_goto (tgt := 3) hx hb dX9_add_34 (by decide) ?_
  refine lv_iload_n hx hb dX9_add_3 rfl (lv_at hl 0 rfl) ?_
  refine lv_if_lt (tgt := 37) hx hb dX9_add_4 (by decide) (fun h9 => absurd h9 (by decide)) (fun _ => ?_)
  refine lv_aload_n hx hb dX9_add_7 rfl (lv_at hl 1 rfl) ?_
  refine va_get (D := D) (ci := 9) (v := .ref (a 15)) (C := RX9) (T := TX9) (N := 2) hx hb hT ix_9 hown hK hP 0 rfl rfl 0 (by decide) (hT _ sw_152) (fun _ h9 => h9) rfl dX9_add_8 ?_
  refine lv_aload_n hx hb dX9_add_11 rfl (lv_at hl 1 rfl) ?_
  refine va_get (D := D) (ci := 9) (v := .int 19) (C := RX9) (T := TX9) (N := 2) hx hb hT ix_9 hown hK hP 0 rfl rfl 1 (by decide) (hT _ sw_158) (fun _ h9 => h9) rfl dX9_add_12 ?_
  refine lv_iload_n hx hb dX9_add_15 rfl (lv_at hl 2 rfl) ?_
  refine lv_iload_n hx hb dX9_add_16 rfl (lv_at hl 0 rfl) ?_
  refine lv_iushr hx hb dX9_add_17 rfl ?_
  refine lv_topi (fun v_7 _ => ?_)
  refine go_M (wc := [((a 15), .inl (cI, 300, .inl (u_6.2 0)))]) (wr := [((a 0), .inr (9, [.ref (a 15), .int 19]))]) (w1 := fun u => [((a 15), .inl (cI, 300, .inl (u.2 0)))]) (v := none) (st1 := []) hP hD hS hA [1] [0] rfl rfl (by decide) (by decide) (by decide) (fun hPc hDc => run_SN (As := [.ref (a 15), .int 19, .int v_7]) (rest := []) ⟨hx, hb, hml, hown, hT⟩ (kX11_putByte_0 l D cI h0 a 19 v_7 (u_6.2 0) _) sw_582 lks_X11_putByte (p_M_S hPc hK hDc) rfl hl.1 rfl (Nat.le_of_ble_eq_true rfl) dX9_add_18 ⟨⟨Nat.le_of_ble_eq_true rfl, Nat.le_of_ble_eq_true rfl⟩, Nat.le_of_ble_eq_true rfl, Nat.le_of_ble_eq_true rfl⟩) rfl (fun u_8 H locs hP hD hS => ?_)
  have hP : va_P D vwCl [((a 0), .inr (9, [.ref (a 15), .int 19])), ((a 15), .inl (cI, 300, .inl (u_8.2 0)))] H := hP
  have hD : va_D A [((a 0), .inr (9, [.ref (a 15), .int 19])), ((a 15), .inl (cI, 300, .inl (u_8.2 0)))] := hD
  refine lv_aload_n hx hb dX9_add_21 rfl (lv_at hl 1 rfl) ?_
  refine lv_dup hx hb dX9_add_22 rfl ?_
  refine va_get (D := D) (ci := 9) (v := .int 19) (C := RX9) (T := TX9) (N := 2) hx hb hT ix_9 hown hK hP 0 rfl rfl 1 (by decide) (hT _ sw_158) (fun _ h9 => h9) rfl dX9_add_23 ?_
  refine lv_iconst (v := 1) hx hb dX9_add_26 (by decide) ?_
  refine lv_iadd hx hb dX9_add_27 ?_
  refine ct_i (z := 20) (by decide) ?_
  refine va_put (D := D) (ci := 9) (v := .int 20) (ty := .int) (C := RX9) (T := TX9) (N := 2) hx hb hT ix_9 tyX9 tyX9_ok nmX9 hown hK hP hD hS 0 rfl rfl 1 (by decide) (hT _ sw_158) (fun _ h9 => h9) rfl (by decide +kernel) rfl rfl (Nat.le_of_ble_eq_true rfl) dX9_add_28 (fun H locs hP hD hS => ?_)
  have hP : va_P D vwCl [((a 0), .inr (9, [.ref (a 15), .int 20])), ((a 15), .inl (cI, 300, .inl (u_8.2 0)))] H := hP
  have hD : va_D A [((a 0), .inr (9, [.ref (a 15), .int 20])), ((a 15), .inl (cI, 300, .inl (u_8.2 0)))] := hD
  refine lv_iinc (v := (-8)) (lv' := [(2, .int (-8)), (0, .ref (a 0)), (1, .int p0)]) hx hb dX9_add_31 hl (k := 0) rfl (by decide) (by decide) rfl (fun ls hl => ?_)
  refine lv_goto (tgt := 3) hx hb dX9_add_34 (by decide) ?_
  refine lv_iload_n hx hb dX9_add_3 rfl (lv_at hl 0 rfl) ?_
  refine lv_if_lt (tgt := 37) hx hb dX9_add_4 (by decide) (fun _ => ?_) (fun h9 => absurd (by decide) h9)
  have hP9 := hP.sub (ws' := [((a 0), .inr (9, [.ref (a 15), .int 20])), ((a 15), .inl (cI, 300, .inl (u_8.2 0)))]) [0, 1] rfl
  have hD9 := hD.sub (ws' := [((a 0), .inr (9, [.ref (a 15), .int 20])), ((a 15), .inl (cI, 300, .inl (u_8.2 0)))]) [0, 1] (by decide) rfl
  exact W.vret hx hb hr (fun t ht _ => ⟨rfl, ⟨(fun k => [].getD k 0, fun k => [(u_8.2 0)].getD k zI), by rw [ht]; exact hP9, hD9⟩, hS.F ht⟩) hS.2.2 dX9_add_37
set_option maxHeartbeats 4000000 in
set_option maxRecDepth 100000 in
theorem kX11_feed_0 (l : Launch) (D : va_G) (cI : ClassId) (h0 : Nat) (a : Nat → Nat) (p0 p1 p2 p3 p4 : Int32) (g0 : Nat → Int32) (sz : Nat) : Met l yX11_feed (sw_ws yX11_feed cX11_feed 6 (some .int)) (rm_ 2 46 0 0) (p_M D vwCl [(cI, .int)] [.ref h0, .int p0, .int p1, .int p2, .int p3, .int p4] [(h0, .inr (11, (Value.ref (a 0) :: Value.ref (a 1) :: Value.ref (a 2) :: Value.ref (a 3) :: Value.ref (a 4) :: Value.ref (a 5) :: Value.ref (a 6) :: Value.ref (a 7) :: Value.ref (a 8) :: Value.ref (a 9) :: Value.ref (a 10) :: Value.ref (a 11) :: Value.ref (a 12) :: Value.ref (a 13) :: Value.ref (a 14) :: Value.int 0 :: Value.int 0 :: Value.int 0 :: []))), ((a 0), .inr (9, [.ref (a 15), .int 0])), ((a 15), .inl (cI, 300, .inl g0))] sz) (q_M D vwCl (some (.int 20)) (fun u => []) (va_A [(h0, .inr (11, (Value.ref (a 0) :: Value.ref (a 1) :: Value.ref (a 2) :: Value.ref (a 3) :: Value.ref (a 4) :: Value.ref (a 5) :: Value.ref (a 6) :: Value.ref (a 7) :: Value.ref (a 8) :: Value.ref (a 9) :: Value.ref (a 10) :: Value.ref (a 11) :: Value.ref (a 12) :: Value.ref (a 13) :: Value.ref (a 14) :: Value.int 0 :: Value.int 0 :: Value.int 0 :: []))), ((a 0), .inr (9, [.ref (a 15), .int 0])), ((a 15), .inl (cI, 300, .inl g0))] sz)) 0 0 (va_A [(h0, .inr (11, (Value.ref (a 0) :: Value.ref (a 1) :: Value.ref (a 2) :: Value.ref (a 3) :: Value.ref (a 4) :: Value.ref (a 5) :: Value.ref (a 6) :: Value.ref (a 7) :: Value.ref (a 8) :: Value.ref (a 9) :: Value.ref (a 10) :: Value.ref (a 11) :: Value.ref (a 12) :: Value.ref (a 13) :: Value.ref (a 14) :: Value.int 0 :: Value.int 0 :: Value.int 0 :: []))), ((a 0), .inr (9, [.ref (a 15), .int 0])), ((a 15), .inl (cI, 300, .inl g0))] sz) := by
  refine Met.ofW (cc := cX11_feed) (maxL := 6) (ret := (some .int)) (by decide) rfl ?_
  intro p e s m args below meth c s₁ B hml hv
  obtain ⟨rfl, hsz, hP, hK, hD0⟩ := hv
  have hx := B.exec
  have hb := B.bytes
  have hr := B.returns
  have hT := sw_in (atoms_spec (ws := sw_ws yX11_feed cX11_feed 6 (some .int)) B.pre)
  have hown : s.vm.findClass RX11 = some m.cls := findClass_of_methodNamed B.named
  have hlocks := B.notSynchronized
  subst hsz
  have hD := hD0.self (sz := s.heap.size)
  generalize hAe : va_A [(h0, .inr (11, (Value.ref (a 0) :: Value.ref (a 1) :: Value.ref (a 2) :: Value.ref (a 3) :: Value.ref (a 4) :: Value.ref (a 5) :: Value.ref (a 6) :: Value.ref (a 7) :: Value.ref (a 8) :: Value.ref (a 9) :: Value.ref (a 10) :: Value.ref (a 11) :: Value.ref (a 12) :: Value.ref (a 13) :: Value.ref (a 14) :: Value.int 0 :: Value.int 0 :: Value.int 0 :: []))), ((a 0), .inr (9, [.ref (a 15), .int 0])), ((a 15), .inl (cI, 300, .inl g0))] s.heap.size = A at hD ⊢
  have hA : ∀ q : Nat, s.heap.size ≤ q → A q := fun q h => by rw [← hAe]; exact Or.inr h
  have hS : va_S A s.heap s.heap [] := va_S.rf
  have hl := lv_entry ([.ref h0, .int p0, .int p1, .int p2, .int p3, .int p4]) (n := 6) (Nat.le_of_ble_eq_true rfl)
  rw [lg_entry_eq]
  generalize (lg_sl ([.ref h0, .int p0, .int p1, .int p2, .int p3, .int p4]) ++ List.replicate (6 - (lg_sl ([.ref h0, .int p0, .int p1, .int p2, .int p3, .int p4])).length) Slot.unset).toArray = ls at hl ⊢
  have hl : lv_has ls 6 [(0, .ref h0), (1, .int p0), (2, .int p1), (3, .int p2), (4, .int p3), (5, .int p4)] := hl
  refine lv_aload_n hx hb dX11_feed_0 rfl (lv_at hl 0 rfl) ?_
  refine va_get (D := D) (ci := 11) (v := .ref (a 0)) (C := RX11) (T := TX11) (N := 18) hx hb hT ix_11 hown hK hP 0 rfl rfl 0 (by decide) (hT _ sw_515) (fun _ h9 => h9) rfl dX11_feed_1 ?_
  refine va_getN (D := D) (ci := 9) (v := .int 0) (C := RX9) (T := TX9) (N := 2) hx hb hT ix_9 hown hK hP 1 rfl rfl 1 (by decide) (hT _ sw_157) (fun _ h9 => h9) rfl dX11_feed_4 ?_
  refine lv_bipush (v := 20) hx hb dX11_feed_7 (by decide) ?_
  refine lv_iadd hx hb dX11_feed_9 ?_
  refine ct_i (z := 20) (by decide) ?_
  refine lv_sipush (v := 1200) hx hb dX11_feed_10 (by decide) ?_
  refine lv_icmp_le (tgt := 22) hx hb dX11_feed_13 (by decide) (fun _ => ?_) (fun h9 => absurd (by decide) h9)
  refine lv_aload_n hx hb dX11_feed_22 rfl (lv_at hl 0 rfl) ?_
  refine va_get (D := D) (ci := 11) (v := .ref (a 0)) (C := RX11) (T := TX11) (N := 18) hx hb hT ix_11 hown hK hP 0 rfl rfl 0 (by decide) (hT _ sw_515) (fun _ h9 => h9) rfl dX11_feed_23 ?_
  refine lv_iload_n hx hb dX11_feed_26 rfl (lv_at hl 1 rfl) ?_
  refine go_M (wc := [((a 0), .inr (9, [.ref (a 15), .int 0])), ((a 15), .inl (cI, 300, .inl g0))]) (wr := [(h0, .inr (11, (Value.ref (a 0) :: Value.ref (a 1) :: Value.ref (a 2) :: Value.ref (a 3) :: Value.ref (a 4) :: Value.ref (a 5) :: Value.ref (a 6) :: Value.ref (a 7) :: Value.ref (a 8) :: Value.ref (a 9) :: Value.ref (a 10) :: Value.ref (a 11) :: Value.ref (a 12) :: Value.ref (a 13) :: Value.ref (a 14) :: Value.int 0 :: Value.int 0 :: Value.int 0 :: [])))]) (w1 := fun u => [((a 0), .inr (9, [.ref (a 15), .int 4])), ((a 15), .inl (cI, 300, .inl (u.2 0)))]) (v := none) (st1 := []) hP hD hS hA [1, 2] [0] rfl rfl (by decide) (by decide) (by decide) (fun hPc hDc => run_V (As := [.int p0]) (rest := []) ⟨hx, hb, hml, hown, hT⟩ (kX9_add_0 l D cI h0 a p0 g0 _) sw_578 lkv_X9_add (p_M_V (ci := 9) (q0 := 0) hPc hK hDc rfl rfl) rfl hl.1 rfl (Nat.le_of_ble_eq_true rfl) dX11_feed_27 ⟨⟨Nat.le_of_ble_eq_true rfl, Nat.le_of_ble_eq_true rfl⟩, Nat.le_of_ble_eq_true rfl, Nat.le_of_ble_eq_true rfl⟩) rfl (fun u_1 H locs hP hD hS => ?_)
  have hP : va_P D vwCl [(h0, .inr (11, (Value.ref (a 0) :: Value.ref (a 1) :: Value.ref (a 2) :: Value.ref (a 3) :: Value.ref (a 4) :: Value.ref (a 5) :: Value.ref (a 6) :: Value.ref (a 7) :: Value.ref (a 8) :: Value.ref (a 9) :: Value.ref (a 10) :: Value.ref (a 11) :: Value.ref (a 12) :: Value.ref (a 13) :: Value.ref (a 14) :: Value.int 0 :: Value.int 0 :: Value.int 0 :: []))), ((a 0), .inr (9, [.ref (a 15), .int 4])), ((a 15), .inl (cI, 300, .inl (u_1.2 0)))] H := hP
  have hD : va_D A [(h0, .inr (11, (Value.ref (a 0) :: Value.ref (a 1) :: Value.ref (a 2) :: Value.ref (a 3) :: Value.ref (a 4) :: Value.ref (a 5) :: Value.ref (a 6) :: Value.ref (a 7) :: Value.ref (a 8) :: Value.ref (a 9) :: Value.ref (a 10) :: Value.ref (a 11) :: Value.ref (a 12) :: Value.ref (a 13) :: Value.ref (a 14) :: Value.int 0 :: Value.int 0 :: Value.int 0 :: []))), ((a 0), .inr (9, [.ref (a 15), .int 4])), ((a 15), .inl (cI, 300, .inl (u_1.2 0)))] := hD
  refine lv_aload_n hx hb dX11_feed_30 rfl (lv_at hl 0 rfl) ?_
  refine va_get (D := D) (ci := 11) (v := .ref (a 0)) (C := RX11) (T := TX11) (N := 18) hx hb hT ix_11 hown hK hP 0 rfl rfl 0 (by decide) (hT _ sw_515) (fun _ h9 => h9) rfl dX11_feed_31 ?_
  refine lv_iload_n hx hb dX11_feed_34 rfl (lv_at hl 2 rfl) ?_
  refine go_M (wc := [((a 0), .inr (9, [.ref (a 15), .int 4])), ((a 15), .inl (cI, 300, .inl (u_1.2 0)))]) (wr := [(h0, .inr (11, (Value.ref (a 0) :: Value.ref (a 1) :: Value.ref (a 2) :: Value.ref (a 3) :: Value.ref (a 4) :: Value.ref (a 5) :: Value.ref (a 6) :: Value.ref (a 7) :: Value.ref (a 8) :: Value.ref (a 9) :: Value.ref (a 10) :: Value.ref (a 11) :: Value.ref (a 12) :: Value.ref (a 13) :: Value.ref (a 14) :: Value.int 0 :: Value.int 0 :: Value.int 0 :: [])))]) (w1 := fun u => [((a 0), .inr (9, [.ref (a 15), .int 8])), ((a 15), .inl (cI, 300, .inl (u.2 0)))]) (v := none) (st1 := []) hP hD hS hA [1, 2] [0] rfl rfl (by decide) (by decide) (by decide) (fun hPc hDc => run_V (As := [.int p1]) (rest := []) ⟨hx, hb, hml, hown, hT⟩ (kX9_add_1 l D cI h0 a p1 (u_1.2 0) _) sw_578 lkv_X9_add (p_M_V (ci := 9) (q0 := 0) hPc hK hDc rfl rfl) rfl hl.1 rfl (Nat.le_of_ble_eq_true rfl) dX11_feed_35 ⟨⟨Nat.le_of_ble_eq_true rfl, Nat.le_of_ble_eq_true rfl⟩, Nat.le_of_ble_eq_true rfl, Nat.le_of_ble_eq_true rfl⟩) rfl (fun u_2 H locs hP hD hS => ?_)
  have hP : va_P D vwCl [(h0, .inr (11, (Value.ref (a 0) :: Value.ref (a 1) :: Value.ref (a 2) :: Value.ref (a 3) :: Value.ref (a 4) :: Value.ref (a 5) :: Value.ref (a 6) :: Value.ref (a 7) :: Value.ref (a 8) :: Value.ref (a 9) :: Value.ref (a 10) :: Value.ref (a 11) :: Value.ref (a 12) :: Value.ref (a 13) :: Value.ref (a 14) :: Value.int 0 :: Value.int 0 :: Value.int 0 :: []))), ((a 0), .inr (9, [.ref (a 15), .int 8])), ((a 15), .inl (cI, 300, .inl (u_2.2 0)))] H := hP
  have hD : va_D A [(h0, .inr (11, (Value.ref (a 0) :: Value.ref (a 1) :: Value.ref (a 2) :: Value.ref (a 3) :: Value.ref (a 4) :: Value.ref (a 5) :: Value.ref (a 6) :: Value.ref (a 7) :: Value.ref (a 8) :: Value.ref (a 9) :: Value.ref (a 10) :: Value.ref (a 11) :: Value.ref (a 12) :: Value.ref (a 13) :: Value.ref (a 14) :: Value.int 0 :: Value.int 0 :: Value.int 0 :: []))), ((a 0), .inr (9, [.ref (a 15), .int 8])), ((a 15), .inl (cI, 300, .inl (u_2.2 0)))] := hD
  refine lv_aload_n hx hb dX11_feed_38 rfl (lv_at hl 0 rfl) ?_
  refine va_get (D := D) (ci := 11) (v := .ref (a 0)) (C := RX11) (T := TX11) (N := 18) hx hb hT ix_11 hown hK hP 0 rfl rfl 0 (by decide) (hT _ sw_515) (fun _ h9 => h9) rfl dX11_feed_39 ?_
  refine lv_iload_n hx hb dX11_feed_42 rfl (lv_at hl 3 rfl) ?_
  refine go_M (wc := [((a 0), .inr (9, [.ref (a 15), .int 8])), ((a 15), .inl (cI, 300, .inl (u_2.2 0)))]) (wr := [(h0, .inr (11, (Value.ref (a 0) :: Value.ref (a 1) :: Value.ref (a 2) :: Value.ref (a 3) :: Value.ref (a 4) :: Value.ref (a 5) :: Value.ref (a 6) :: Value.ref (a 7) :: Value.ref (a 8) :: Value.ref (a 9) :: Value.ref (a 10) :: Value.ref (a 11) :: Value.ref (a 12) :: Value.ref (a 13) :: Value.ref (a 14) :: Value.int 0 :: Value.int 0 :: Value.int 0 :: [])))]) (w1 := fun u => [((a 0), .inr (9, [.ref (a 15), .int 12])), ((a 15), .inl (cI, 300, .inl (u.2 0)))]) (v := none) (st1 := []) hP hD hS hA [1, 2] [0] rfl rfl (by decide) (by decide) (by decide) (fun hPc hDc => run_V (As := [.int p2]) (rest := []) ⟨hx, hb, hml, hown, hT⟩ (kX9_add_2 l D cI h0 a p2 (u_2.2 0) _) sw_578 lkv_X9_add (p_M_V (ci := 9) (q0 := 0) hPc hK hDc rfl rfl) rfl hl.1 rfl (Nat.le_of_ble_eq_true rfl) dX11_feed_43 ⟨⟨Nat.le_of_ble_eq_true rfl, Nat.le_of_ble_eq_true rfl⟩, Nat.le_of_ble_eq_true rfl, Nat.le_of_ble_eq_true rfl⟩) rfl (fun u_3 H locs hP hD hS => ?_)
  have hP : va_P D vwCl [(h0, .inr (11, (Value.ref (a 0) :: Value.ref (a 1) :: Value.ref (a 2) :: Value.ref (a 3) :: Value.ref (a 4) :: Value.ref (a 5) :: Value.ref (a 6) :: Value.ref (a 7) :: Value.ref (a 8) :: Value.ref (a 9) :: Value.ref (a 10) :: Value.ref (a 11) :: Value.ref (a 12) :: Value.ref (a 13) :: Value.ref (a 14) :: Value.int 0 :: Value.int 0 :: Value.int 0 :: []))), ((a 0), .inr (9, [.ref (a 15), .int 12])), ((a 15), .inl (cI, 300, .inl (u_3.2 0)))] H := hP
  have hD : va_D A [(h0, .inr (11, (Value.ref (a 0) :: Value.ref (a 1) :: Value.ref (a 2) :: Value.ref (a 3) :: Value.ref (a 4) :: Value.ref (a 5) :: Value.ref (a 6) :: Value.ref (a 7) :: Value.ref (a 8) :: Value.ref (a 9) :: Value.ref (a 10) :: Value.ref (a 11) :: Value.ref (a 12) :: Value.ref (a 13) :: Value.ref (a 14) :: Value.int 0 :: Value.int 0 :: Value.int 0 :: []))), ((a 0), .inr (9, [.ref (a 15), .int 12])), ((a 15), .inl (cI, 300, .inl (u_3.2 0)))] := hD
  refine lv_aload_n hx hb dX11_feed_46 rfl (lv_at hl 0 rfl) ?_
  refine va_get (D := D) (ci := 11) (v := .ref (a 0)) (C := RX11) (T := TX11) (N := 18) hx hb hT ix_11 hown hK hP 0 rfl rfl 0 (by decide) (hT _ sw_515) (fun _ h9 => h9) rfl dX11_feed_47 ?_
  refine lv_iload hx hb dX11_feed_50 (lv_at hl 4 rfl) ?_
  refine go_M (wc := [((a 0), .inr (9, [.ref (a 15), .int 12])), ((a 15), .inl (cI, 300, .inl (u_3.2 0)))]) (wr := [(h0, .inr (11, (Value.ref (a 0) :: Value.ref (a 1) :: Value.ref (a 2) :: Value.ref (a 3) :: Value.ref (a 4) :: Value.ref (a 5) :: Value.ref (a 6) :: Value.ref (a 7) :: Value.ref (a 8) :: Value.ref (a 9) :: Value.ref (a 10) :: Value.ref (a 11) :: Value.ref (a 12) :: Value.ref (a 13) :: Value.ref (a 14) :: Value.int 0 :: Value.int 0 :: Value.int 0 :: [])))]) (w1 := fun u => [((a 0), .inr (9, [.ref (a 15), .int 16])), ((a 15), .inl (cI, 300, .inl (u.2 0)))]) (v := none) (st1 := []) hP hD hS hA [1, 2] [0] rfl rfl (by decide) (by decide) (by decide) (fun hPc hDc => run_V (As := [.int p3]) (rest := []) ⟨hx, hb, hml, hown, hT⟩ (kX9_add_3 l D cI h0 a p3 (u_3.2 0) _) sw_578 lkv_X9_add (p_M_V (ci := 9) (q0 := 0) hPc hK hDc rfl rfl) rfl hl.1 rfl (Nat.le_of_ble_eq_true rfl) dX11_feed_52 ⟨⟨Nat.le_of_ble_eq_true rfl, Nat.le_of_ble_eq_true rfl⟩, Nat.le_of_ble_eq_true rfl, Nat.le_of_ble_eq_true rfl⟩) rfl (fun u_4 H locs hP hD hS => ?_)
  have hP : va_P D vwCl [(h0, .inr (11, (Value.ref (a 0) :: Value.ref (a 1) :: Value.ref (a 2) :: Value.ref (a 3) :: Value.ref (a 4) :: Value.ref (a 5) :: Value.ref (a 6) :: Value.ref (a 7) :: Value.ref (a 8) :: Value.ref (a 9) :: Value.ref (a 10) :: Value.ref (a 11) :: Value.ref (a 12) :: Value.ref (a 13) :: Value.ref (a 14) :: Value.int 0 :: Value.int 0 :: Value.int 0 :: []))), ((a 0), .inr (9, [.ref (a 15), .int 16])), ((a 15), .inl (cI, 300, .inl (u_4.2 0)))] H := hP
  have hD : va_D A [(h0, .inr (11, (Value.ref (a 0) :: Value.ref (a 1) :: Value.ref (a 2) :: Value.ref (a 3) :: Value.ref (a 4) :: Value.ref (a 5) :: Value.ref (a 6) :: Value.ref (a 7) :: Value.ref (a 8) :: Value.ref (a 9) :: Value.ref (a 10) :: Value.ref (a 11) :: Value.ref (a 12) :: Value.ref (a 13) :: Value.ref (a 14) :: Value.int 0 :: Value.int 0 :: Value.int 0 :: []))), ((a 0), .inr (9, [.ref (a 15), .int 16])), ((a 15), .inl (cI, 300, .inl (u_4.2 0)))] := hD
  refine lv_aload_n hx hb dX11_feed_55 rfl (lv_at hl 0 rfl) ?_
  refine va_get (D := D) (ci := 11) (v := .ref (a 0)) (C := RX11) (T := TX11) (N := 18) hx hb hT ix_11 hown hK hP 0 rfl rfl 0 (by decide) (hT _ sw_515) (fun _ h9 => h9) rfl dX11_feed_56 ?_
  refine lv_iload hx hb dX11_feed_59 (lv_at hl 5 rfl) ?_
  refine go_M (wc := [((a 0), .inr (9, [.ref (a 15), .int 16])), ((a 15), .inl (cI, 300, .inl (u_4.2 0)))]) (wr := [(h0, .inr (11, (Value.ref (a 0) :: Value.ref (a 1) :: Value.ref (a 2) :: Value.ref (a 3) :: Value.ref (a 4) :: Value.ref (a 5) :: Value.ref (a 6) :: Value.ref (a 7) :: Value.ref (a 8) :: Value.ref (a 9) :: Value.ref (a 10) :: Value.ref (a 11) :: Value.ref (a 12) :: Value.ref (a 13) :: Value.ref (a 14) :: Value.int 0 :: Value.int 0 :: Value.int 0 :: [])))]) (w1 := fun u => [((a 0), .inr (9, [.ref (a 15), .int 20])), ((a 15), .inl (cI, 300, .inl (u.2 0)))]) (v := none) (st1 := []) hP hD hS hA [1, 2] [0] rfl rfl (by decide) (by decide) (by decide) (fun hPc hDc => run_V (As := [.int p4]) (rest := []) ⟨hx, hb, hml, hown, hT⟩ (kX9_add_4 l D cI h0 a p4 (u_4.2 0) _) sw_578 lkv_X9_add (p_M_V (ci := 9) (q0 := 0) hPc hK hDc rfl rfl) rfl hl.1 rfl (Nat.le_of_ble_eq_true rfl) dX11_feed_61 ⟨⟨Nat.le_of_ble_eq_true rfl, Nat.le_of_ble_eq_true rfl⟩, Nat.le_of_ble_eq_true rfl, Nat.le_of_ble_eq_true rfl⟩) rfl (fun u_5 H locs hP hD hS => ?_)
  have hP : va_P D vwCl [(h0, .inr (11, (Value.ref (a 0) :: Value.ref (a 1) :: Value.ref (a 2) :: Value.ref (a 3) :: Value.ref (a 4) :: Value.ref (a 5) :: Value.ref (a 6) :: Value.ref (a 7) :: Value.ref (a 8) :: Value.ref (a 9) :: Value.ref (a 10) :: Value.ref (a 11) :: Value.ref (a 12) :: Value.ref (a 13) :: Value.ref (a 14) :: Value.int 0 :: Value.int 0 :: Value.int 0 :: []))), ((a 0), .inr (9, [.ref (a 15), .int 20])), ((a 15), .inl (cI, 300, .inl (u_5.2 0)))] H := hP
  have hD : va_D A [(h0, .inr (11, (Value.ref (a 0) :: Value.ref (a 1) :: Value.ref (a 2) :: Value.ref (a 3) :: Value.ref (a 4) :: Value.ref (a 5) :: Value.ref (a 6) :: Value.ref (a 7) :: Value.ref (a 8) :: Value.ref (a 9) :: Value.ref (a 10) :: Value.ref (a 11) :: Value.ref (a 12) :: Value.ref (a 13) :: Value.ref (a 14) :: Value.int 0 :: Value.int 0 :: Value.int 0 :: []))), ((a 0), .inr (9, [.ref (a 15), .int 20])), ((a 15), .inl (cI, 300, .inl (u_5.2 0)))] := hD
  refine lv_aload_n hx hb dX11_feed_64 rfl (lv_at hl 0 rfl) ?_
  refine va_get (D := D) (ci := 11) (v := .ref (a 0)) (C := RX11) (T := TX11) (N := 18) hx hb hT ix_11 hown hK hP 0 rfl rfl 0 (by decide) (hT _ sw_515) (fun _ h9 => h9) rfl dX11_feed_65 ?_
  refine va_getN (D := D) (ci := 9) (v := .int 20) (C := RX9) (T := TX9) (N := 2) hx hb hT ix_9 hown hK hP 1 rfl rfl 1 (by decide) (hT _ sw_157) (fun _ h9 => h9) rfl dX11_feed_68 ?_
  have hP9 := hP.sub (ws' := []) [] rfl
  have hD9 := hD.sub (ws' := []) [] (by decide) rfl
  exact W.iret (v := 20) hx hb hr (fun t ht _ => ⟨rfl, ⟨(fun k => [].getD k 0, fun k => [].getD k zI), by rw [ht]; exact hP9, hD9⟩, hS.F ht⟩) hS.2.2 dX11_feed_71
set_option maxHeartbeats 4000000 in
set_option maxRecDepth 100000 in
theorem kX11_refuse_0 (l : Launch) (D : va_G) (cI : ClassId) (h0 : Nat) (a : Nat → Nat) (g0 : Nat → Int32) (sz : Nat) : Met l yX11_refuse (sw_ws yX11_refuse cX11_refuse 2 (some .int)) (rm_ 0 0 0 0) (p_M D vwCl [(cI, .int)] [.ref h0, .int 0] [(h0, .inr (11, (Value.ref (a 0) :: Value.ref (a 1) :: Value.ref (a 2) :: Value.ref (a 3) :: Value.ref (a 4) :: Value.ref (a 5) :: Value.ref (a 6) :: Value.ref (a 7) :: Value.ref (a 8) :: Value.ref (a 9) :: Value.ref (a 10) :: Value.ref (a 11) :: Value.ref (a 12) :: Value.ref (a 13) :: Value.ref (a 14) :: Value.int 0 :: Value.int 0 :: Value.int 0 :: []))), ((a 13), .inl (cI, 6, .inl g0))] sz) (q_M D vwCl (some (.int (-1))) (fun u => [(h0, .inr (11, (Value.ref (a 0) :: Value.ref (a 1) :: Value.ref (a 2) :: Value.ref (a 3) :: Value.ref (a 4) :: Value.ref (a 5) :: Value.ref (a 6) :: Value.ref (a 7) :: Value.ref (a 8) :: Value.ref (a 9) :: Value.ref (a 10) :: Value.ref (a 11) :: Value.ref (a 12) :: Value.ref (a 13) :: Value.ref (a 14) :: Value.int 0 :: Value.int 0 :: Value.int 0 :: []))), ((a 13), .inl (cI, 6, .inl (u.2 0)))]) (va_A [(h0, .inr (11, (Value.ref (a 0) :: Value.ref (a 1) :: Value.ref (a 2) :: Value.ref (a 3) :: Value.ref (a 4) :: Value.ref (a 5) :: Value.ref (a 6) :: Value.ref (a 7) :: Value.ref (a 8) :: Value.ref (a 9) :: Value.ref (a 10) :: Value.ref (a 11) :: Value.ref (a 12) :: Value.ref (a 13) :: Value.ref (a 14) :: Value.int 0 :: Value.int 0 :: Value.int 0 :: []))), ((a 13), .inl (cI, 6, .inl g0))] sz)) 0 0 (va_A [(h0, .inr (11, (Value.ref (a 0) :: Value.ref (a 1) :: Value.ref (a 2) :: Value.ref (a 3) :: Value.ref (a 4) :: Value.ref (a 5) :: Value.ref (a 6) :: Value.ref (a 7) :: Value.ref (a 8) :: Value.ref (a 9) :: Value.ref (a 10) :: Value.ref (a 11) :: Value.ref (a 12) :: Value.ref (a 13) :: Value.ref (a 14) :: Value.int 0 :: Value.int 0 :: Value.int 0 :: []))), ((a 13), .inl (cI, 6, .inl g0))] sz) := by
  refine Met.ofW (cc := cX11_refuse) (maxL := 2) (ret := (some .int)) (by decide) rfl ?_
  intro p e s m args below meth c s₁ B hml hv
  obtain ⟨rfl, hsz, hP, hK, hD0⟩ := hv
  have hx := B.exec
  have hb := B.bytes
  have hr := B.returns
  have hT := sw_in (atoms_spec (ws := sw_ws yX11_refuse cX11_refuse 2 (some .int)) B.pre)
  have hown : s.vm.findClass RX11 = some m.cls := findClass_of_methodNamed B.named
  have hlocks := B.notSynchronized
  subst hsz
  have hD := hD0.self (sz := s.heap.size)
  generalize hAe : va_A [(h0, .inr (11, (Value.ref (a 0) :: Value.ref (a 1) :: Value.ref (a 2) :: Value.ref (a 3) :: Value.ref (a 4) :: Value.ref (a 5) :: Value.ref (a 6) :: Value.ref (a 7) :: Value.ref (a 8) :: Value.ref (a 9) :: Value.ref (a 10) :: Value.ref (a 11) :: Value.ref (a 12) :: Value.ref (a 13) :: Value.ref (a 14) :: Value.int 0 :: Value.int 0 :: Value.int 0 :: []))), ((a 13), .inl (cI, 6, .inl g0))] s.heap.size = A at hD ⊢
  have hA : ∀ q : Nat, s.heap.size ≤ q → A q := fun q h => by rw [← hAe]; exact Or.inr h
  have hS : va_S A s.heap s.heap [] := va_S.rf
  have hl := lv_entry ([.ref h0, .int 0]) (n := 2) (Nat.le_of_ble_eq_true rfl)
  rw [lg_entry_eq]
  generalize (lg_sl ([.ref h0, .int 0]) ++ List.replicate (2 - (lg_sl ([.ref h0, .int 0])).length) Slot.unset).toArray = ls at hl ⊢
  have hl : lv_has ls 2 [(0, .ref h0), (1, .int 0)] := hl
  refine lv_iload_n hx hb dX11_refuse_0 rfl (lv_at hl 1 rfl) ?_
  refine lv_if_lt (tgt := 23) hx hb dX11_refuse_1 (by decide) (fun h9 => absurd h9 (by decide)) (fun _ => ?_)
  refine lv_iload_n hx hb dX11_refuse_4 rfl (lv_at hl 1 rfl) ?_
  refine lv_aload_n hx hb dX11_refuse_5 rfl (lv_at hl 0 rfl) ?_
  refine va_get (D := D) (ci := 11) (v := .ref (a 13)) (C := RX11) (T := TX11) (N := 18) hx hb hT ix_11 hown hK hP 0 rfl rfl 13 (by decide) (hT _ sw_528) (fun _ h9 => h9) rfl dX11_refuse_6 ?_
  refine va_alen (v := 6) hx hb hK hP 1 0 rfl rfl (show Int32.ofNat 6 = 6 by decide) dX11_refuse_9 ?_
  refine lv_icmp_ge (tgt := 23) hx hb dX11_refuse_10 (by decide) (fun h9 => absurd h9 (by decide)) (fun _ => ?_)
  refine lv_aload_n hx hb dX11_refuse_13 rfl (lv_at hl 0 rfl) ?_
  refine va_get (D := D) (ci := 11) (v := .ref (a 13)) (C := RX11) (T := TX11) (N := 18) hx hb hT ix_11 hown hK hP 0 rfl rfl 13 (by decide) (hT _ sw_528) (fun _ h9 => h9) rfl dX11_refuse_14 ?_
  refine lv_iload_n hx hb dX11_refuse_17 rfl (lv_at hl 1 rfl) ?_
  refine lv_dup2_11 hx hb dX11_refuse_18 rfl rfl ?_
  refine va_iald hx hb hK hP 1 0 rfl rfl (vi_c (by decide +kernel)) dX11_refuse_19 ?_
  refine lv_topi (fun v_1 _ => ?_)
  refine lv_iconst (v := 1) hx hb dX11_refuse_20 (by decide) ?_
  refine lv_iadd hx hb dX11_refuse_21 ?_
  refine lv_topi (fun v_2 _ => ?_)
  refine va_iast hx hb hK hP hD hS 1 0 rfl rfl (vi_c (by decide +kernel)) dX11_refuse_22 (fun H locs hP hD hS => ?_)
  obtain ⟨f_3, hP, hD⟩ : ∃ f_3 : Nat → Int32, va_P D vwCl [(h0, .inr (11, (Value.ref (a 0) :: Value.ref (a 1) :: Value.ref (a 2) :: Value.ref (a 3) :: Value.ref (a 4) :: Value.ref (a 5) :: Value.ref (a 6) :: Value.ref (a 7) :: Value.ref (a 8) :: Value.ref (a 9) :: Value.ref (a 10) :: Value.ref (a 11) :: Value.ref (a 12) :: Value.ref (a 13) :: Value.ref (a 14) :: Value.int 0 :: Value.int 0 :: Value.int 0 :: []))), ((a 13), .inl (cI, 6, .inl f_3))] H ∧ va_D A [(h0, .inr (11, (Value.ref (a 0) :: Value.ref (a 1) :: Value.ref (a 2) :: Value.ref (a 3) :: Value.ref (a 4) :: Value.ref (a 5) :: Value.ref (a 6) :: Value.ref (a 7) :: Value.ref (a 8) :: Value.ref (a 9) :: Value.ref (a 10) :: Value.ref (a 11) :: Value.ref (a 12) :: Value.ref (a 13) :: Value.ref (a 14) :: Value.int 0 :: Value.int 0 :: Value.int 0 :: []))), ((a 13), .inl (cI, 6, .inl f_3))] := ⟨upd g0 (0 : Int32).toNatClampNeg v_2, hP, hD⟩
  refine lv_iconst (v := (-1)) hx hb dX11_refuse_23 (by decide) ?_
  have hP9 := hP.sub (ws' := [(h0, .inr (11, (Value.ref (a 0) :: Value.ref (a 1) :: Value.ref (a 2) :: Value.ref (a 3) :: Value.ref (a 4) :: Value.ref (a 5) :: Value.ref (a 6) :: Value.ref (a 7) :: Value.ref (a 8) :: Value.ref (a 9) :: Value.ref (a 10) :: Value.ref (a 11) :: Value.ref (a 12) :: Value.ref (a 13) :: Value.ref (a 14) :: Value.int 0 :: Value.int 0 :: Value.int 0 :: []))), ((a 13), .inl (cI, 6, .inl f_3))]) [0, 1] rfl
  have hD9 := hD.sub (ws' := [(h0, .inr (11, (Value.ref (a 0) :: Value.ref (a 1) :: Value.ref (a 2) :: Value.ref (a 3) :: Value.ref (a 4) :: Value.ref (a 5) :: Value.ref (a 6) :: Value.ref (a 7) :: Value.ref (a 8) :: Value.ref (a 9) :: Value.ref (a 10) :: Value.ref (a 11) :: Value.ref (a 12) :: Value.ref (a 13) :: Value.ref (a 14) :: Value.int 0 :: Value.int 0 :: Value.int 0 :: []))), ((a 13), .inl (cI, 6, .inl f_3))]) [0, 1] (by decide) rfl
  exact W.iret (v := (-1)) hx hb hr (fun t ht _ => ⟨rfl, ⟨(fun k => [].getD k 0, fun k => [f_3].getD k zI), by rw [ht]; exact hP9, hD9⟩, hS.F ht⟩) hS.2.2 dX11_refuse_24
set_option maxHeartbeats 4000000 in
set_option maxRecDepth 100000 in
theorem kX11_deny_0 (l : Launch) (D : va_G) (cI : ClassId) (h0 : Nat) (a : Nat → Nat) (g0 : Nat → Int32) (sz : Nat) : Met l yX11_deny (sw_ws yX11_deny cX11_deny 2 (some .boolean)) (rm_ 1 21 0 0) (p_M D vwCl [(cI, .int)] [.ref h0, .int 0] [(h0, .inr (11, (Value.ref (a 0) :: Value.ref (a 1) :: Value.ref (a 2) :: Value.ref (a 3) :: Value.ref (a 4) :: Value.ref (a 5) :: Value.ref (a 6) :: Value.ref (a 7) :: Value.ref (a 8) :: Value.ref (a 9) :: Value.ref (a 10) :: Value.ref (a 11) :: Value.ref (a 12) :: Value.ref (a 13) :: Value.ref (a 14) :: Value.int 0 :: Value.int 0 :: Value.int 0 :: []))), ((a 13), .inl (cI, 6, .inl g0))] sz) (q_M D vwCl (some (.int 0)) (fun u => [(h0, .inr (11, (Value.ref (a 0) :: Value.ref (a 1) :: Value.ref (a 2) :: Value.ref (a 3) :: Value.ref (a 4) :: Value.ref (a 5) :: Value.ref (a 6) :: Value.ref (a 7) :: Value.ref (a 8) :: Value.ref (a 9) :: Value.ref (a 10) :: Value.ref (a 11) :: Value.ref (a 12) :: Value.ref (a 13) :: Value.ref (a 14) :: Value.int 0 :: Value.int 0 :: Value.int 0 :: []))), ((a 13), .inl (cI, 6, .inl (u.2 0)))]) (va_A [(h0, .inr (11, (Value.ref (a 0) :: Value.ref (a 1) :: Value.ref (a 2) :: Value.ref (a 3) :: Value.ref (a 4) :: Value.ref (a 5) :: Value.ref (a 6) :: Value.ref (a 7) :: Value.ref (a 8) :: Value.ref (a 9) :: Value.ref (a 10) :: Value.ref (a 11) :: Value.ref (a 12) :: Value.ref (a 13) :: Value.ref (a 14) :: Value.int 0 :: Value.int 0 :: Value.int 0 :: []))), ((a 13), .inl (cI, 6, .inl g0))] sz)) 0 0 (va_A [(h0, .inr (11, (Value.ref (a 0) :: Value.ref (a 1) :: Value.ref (a 2) :: Value.ref (a 3) :: Value.ref (a 4) :: Value.ref (a 5) :: Value.ref (a 6) :: Value.ref (a 7) :: Value.ref (a 8) :: Value.ref (a 9) :: Value.ref (a 10) :: Value.ref (a 11) :: Value.ref (a 12) :: Value.ref (a 13) :: Value.ref (a 14) :: Value.int 0 :: Value.int 0 :: Value.int 0 :: []))), ((a 13), .inl (cI, 6, .inl g0))] sz) := by
  refine Met.ofW (cc := cX11_deny) (maxL := 2) (ret := (some .boolean)) (by decide) rfl ?_
  intro p e s m args below meth c s₁ B hml hv
  obtain ⟨rfl, hsz, hP, hK, hD0⟩ := hv
  have hx := B.exec
  have hb := B.bytes
  have hr := B.returns
  have hT := sw_in (atoms_spec (ws := sw_ws yX11_deny cX11_deny 2 (some .boolean)) B.pre)
  have hown : s.vm.findClass RX11 = some m.cls := findClass_of_methodNamed B.named
  have hlocks := B.notSynchronized
  subst hsz
  have hD := hD0.self (sz := s.heap.size)
  generalize hAe : va_A [(h0, .inr (11, (Value.ref (a 0) :: Value.ref (a 1) :: Value.ref (a 2) :: Value.ref (a 3) :: Value.ref (a 4) :: Value.ref (a 5) :: Value.ref (a 6) :: Value.ref (a 7) :: Value.ref (a 8) :: Value.ref (a 9) :: Value.ref (a 10) :: Value.ref (a 11) :: Value.ref (a 12) :: Value.ref (a 13) :: Value.ref (a 14) :: Value.int 0 :: Value.int 0 :: Value.int 0 :: []))), ((a 13), .inl (cI, 6, .inl g0))] s.heap.size = A at hD ⊢
  have hA : ∀ q : Nat, s.heap.size ≤ q → A q := fun q h => by rw [← hAe]; exact Or.inr h
  have hS : va_S A s.heap s.heap [] := va_S.rf
  have hl := lv_entry ([.ref h0, .int 0]) (n := 2) (Nat.le_of_ble_eq_true rfl)
  rw [lg_entry_eq]
  generalize (lg_sl ([.ref h0, .int 0]) ++ List.replicate (2 - (lg_sl ([.ref h0, .int 0])).length) Slot.unset).toArray = ls at hl ⊢
  have hl : lv_has ls 2 [(0, .ref h0), (1, .int 0)] := hl
  refine lv_aload_n hx hb dX11_deny_0 rfl (lv_at hl 0 rfl) ?_
  refine lv_iload_n hx hb dX11_deny_1 rfl (lv_at hl 1 rfl) ?_
  refine go_M (wc := [(h0, .inr (11, (Value.ref (a 0) :: Value.ref (a 1) :: Value.ref (a 2) :: Value.ref (a 3) :: Value.ref (a 4) :: Value.ref (a 5) :: Value.ref (a 6) :: Value.ref (a 7) :: Value.ref (a 8) :: Value.ref (a 9) :: Value.ref (a 10) :: Value.ref (a 11) :: Value.ref (a 12) :: Value.ref (a 13) :: Value.ref (a 14) :: Value.int 0 :: Value.int 0 :: Value.int 0 :: []))), ((a 13), .inl (cI, 6, .inl g0))]) (wr := []) (w1 := fun u => [(h0, .inr (11, (Value.ref (a 0) :: Value.ref (a 1) :: Value.ref (a 2) :: Value.ref (a 3) :: Value.ref (a 4) :: Value.ref (a 5) :: Value.ref (a 6) :: Value.ref (a 7) :: Value.ref (a 8) :: Value.ref (a 9) :: Value.ref (a 10) :: Value.ref (a 11) :: Value.ref (a 12) :: Value.ref (a 13) :: Value.ref (a 14) :: Value.int 0 :: Value.int 0 :: Value.int 0 :: []))), ((a 13), .inl (cI, 6, .inl (u.2 0)))]) (v := some (.int (-1))) (st1 := [.int (-1)]) hP hD hS hA [0, 1] [] rfl rfl (by decide) (by decide) (by decide) (fun hPc hDc => run_V (As := [.int 0]) (rest := []) ⟨hx, hb, hml, hown, hT⟩ (kX11_refuse_0 l D cI h0 a g0 _) sw_574 lkv_X11_refuse (p_M_V (ci := 11) (q0 := 0) hPc hK hDc rfl rfl) rfl hl.1 rfl (Nat.le_of_ble_eq_true rfl) dX11_deny_2 ⟨⟨Nat.le_of_ble_eq_true rfl, Nat.le_of_ble_eq_true rfl⟩, Nat.le_of_ble_eq_true rfl, Nat.le_of_ble_eq_true rfl⟩) rfl (fun u_1 H locs hP hD hS => ?_)
  have hP : va_P D vwCl [(h0, .inr (11, (Value.ref (a 0) :: Value.ref (a 1) :: Value.ref (a 2) :: Value.ref (a 3) :: Value.ref (a 4) :: Value.ref (a 5) :: Value.ref (a 6) :: Value.ref (a 7) :: Value.ref (a 8) :: Value.ref (a 9) :: Value.ref (a 10) :: Value.ref (a 11) :: Value.ref (a 12) :: Value.ref (a 13) :: Value.ref (a 14) :: Value.int 0 :: Value.int 0 :: Value.int 0 :: []))), ((a 13), .inl (cI, 6, .inl (u_1.2 0)))] H := hP
  have hD : va_D A [(h0, .inr (11, (Value.ref (a 0) :: Value.ref (a 1) :: Value.ref (a 2) :: Value.ref (a 3) :: Value.ref (a 4) :: Value.ref (a 5) :: Value.ref (a 6) :: Value.ref (a 7) :: Value.ref (a 8) :: Value.ref (a 9) :: Value.ref (a 10) :: Value.ref (a 11) :: Value.ref (a 12) :: Value.ref (a 13) :: Value.ref (a 14) :: Value.int 0 :: Value.int 0 :: Value.int 0 :: []))), ((a 13), .inl (cI, 6, .inl (u_1.2 0)))] := hD
  refine lv_pop hx hb dX11_deny_5 rfl ?_
  refine lv_iconst (v := 0) hx hb dX11_deny_6 (by decide) ?_
  have hP9 := hP.sub (ws' := [(h0, .inr (11, (Value.ref (a 0) :: Value.ref (a 1) :: Value.ref (a 2) :: Value.ref (a 3) :: Value.ref (a 4) :: Value.ref (a 5) :: Value.ref (a 6) :: Value.ref (a 7) :: Value.ref (a 8) :: Value.ref (a 9) :: Value.ref (a 10) :: Value.ref (a 11) :: Value.ref (a 12) :: Value.ref (a 13) :: Value.ref (a 14) :: Value.int 0 :: Value.int 0 :: Value.int 0 :: []))), ((a 13), .inl (cI, 6, .inl (u_1.2 0)))]) [0, 1] rfl
  have hD9 := hD.sub (ws' := [(h0, .inr (11, (Value.ref (a 0) :: Value.ref (a 1) :: Value.ref (a 2) :: Value.ref (a 3) :: Value.ref (a 4) :: Value.ref (a 5) :: Value.ref (a 6) :: Value.ref (a 7) :: Value.ref (a 8) :: Value.ref (a 9) :: Value.ref (a 10) :: Value.ref (a 11) :: Value.ref (a 12) :: Value.ref (a 13) :: Value.ref (a 14) :: Value.int 0 :: Value.int 0 :: Value.int 0 :: []))), ((a 13), .inl (cI, 6, .inl (u_1.2 0)))]) [0, 1] (by decide) rfl
  exact W.zret (v := 0) hx hb hr (by decide) (fun t ht _ => ⟨rfl, ⟨(fun k => [].getD k 0, fun k => [(u_1.2 0)].getD k zI), by rw [ht]; exact hP9, hD9⟩, hS.F ht⟩) hS.2.2 dX11_deny_7
set_option maxHeartbeats 4000000 in
set_option maxRecDepth 100000 in
theorem kX11_end_0 (l : Launch) (D : va_G) (cI : ClassId) (h0 : Nat) (a : Nat → Nat) (p0 : Int32) (g0 : Nat → Int32) (sz : Nat) : Met l yX11_end (sw_ws yX11_end cX11_end 2 (some .boolean)) (rm_ 2 42 0 0) (p_M D vwCl [(cI, .int)] [.ref h0, .int p0] [(h0, .inr (11, (Value.ref (a 0) :: Value.ref (a 1) :: Value.ref (a 2) :: Value.ref (a 3) :: Value.ref (a 4) :: Value.ref (a 5) :: Value.ref (a 6) :: Value.ref (a 7) :: Value.ref (a 8) :: Value.ref (a 9) :: Value.ref (a 10) :: Value.ref (a 11) :: Value.ref (a 12) :: Value.ref (a 13) :: Value.ref (a 14) :: Value.int 0 :: Value.int 0 :: Value.int 0 :: []))), ((a 0), .inr (9, [.ref (a 15), .int 0])), ((a 13), .inl (cI, 6, .inl g0))] sz) (q_M D vwCl (some (.int (sp_end p0))) (fun u => []) (va_A [(h0, .inr (11, (Value.ref (a 0) :: Value.ref (a 1) :: Value.ref (a 2) :: Value.ref (a 3) :: Value.ref (a 4) :: Value.ref (a 5) :: Value.ref (a 6) :: Value.ref (a 7) :: Value.ref (a 8) :: Value.ref (a 9) :: Value.ref (a 10) :: Value.ref (a 11) :: Value.ref (a 12) :: Value.ref (a 13) :: Value.ref (a 14) :: Value.int 0 :: Value.int 0 :: Value.int 0 :: []))), ((a 0), .inr (9, [.ref (a 15), .int 0])), ((a 13), .inl (cI, 6, .inl g0))] sz)) 0 0 (va_A [(h0, .inr (11, (Value.ref (a 0) :: Value.ref (a 1) :: Value.ref (a 2) :: Value.ref (a 3) :: Value.ref (a 4) :: Value.ref (a 5) :: Value.ref (a 6) :: Value.ref (a 7) :: Value.ref (a 8) :: Value.ref (a 9) :: Value.ref (a 10) :: Value.ref (a 11) :: Value.ref (a 12) :: Value.ref (a 13) :: Value.ref (a 14) :: Value.int 0 :: Value.int 0 :: Value.int 0 :: []))), ((a 0), .inr (9, [.ref (a 15), .int 0])), ((a 13), .inl (cI, 6, .inl g0))] sz) := by
  refine Met.ofW (cc := cX11_end) (maxL := 2) (ret := (some .boolean)) (by decide) rfl ?_
  intro p e s m args below meth c s₁ B hml hv
  obtain ⟨rfl, hsz, hP, hK, hD0⟩ := hv
  have hx := B.exec
  have hb := B.bytes
  have hr := B.returns
  have hT := sw_in (atoms_spec (ws := sw_ws yX11_end cX11_end 2 (some .boolean)) B.pre)
  have hown : s.vm.findClass RX11 = some m.cls := findClass_of_methodNamed B.named
  have hlocks := B.notSynchronized
  subst hsz
  have hD := hD0.self (sz := s.heap.size)
  generalize hAe : va_A [(h0, .inr (11, (Value.ref (a 0) :: Value.ref (a 1) :: Value.ref (a 2) :: Value.ref (a 3) :: Value.ref (a 4) :: Value.ref (a 5) :: Value.ref (a 6) :: Value.ref (a 7) :: Value.ref (a 8) :: Value.ref (a 9) :: Value.ref (a 10) :: Value.ref (a 11) :: Value.ref (a 12) :: Value.ref (a 13) :: Value.ref (a 14) :: Value.int 0 :: Value.int 0 :: Value.int 0 :: []))), ((a 0), .inr (9, [.ref (a 15), .int 0])), ((a 13), .inl (cI, 6, .inl g0))] s.heap.size = A at hD ⊢
  have hA : ∀ q : Nat, s.heap.size ≤ q → A q := fun q h => by rw [← hAe]; exact Or.inr h
  have hS : va_S A s.heap s.heap [] := va_S.rf
  have hl := lv_entry ([.ref h0, .int p0]) (n := 2) (Nat.le_of_ble_eq_true rfl)
  rw [lg_entry_eq]
  generalize (lg_sl ([.ref h0, .int p0]) ++ List.replicate (2 - (lg_sl ([.ref h0, .int p0])).length) Slot.unset).toArray = ls at hl ⊢
  have hl : lv_has ls 2 [(0, .ref h0), (1, .int p0)] := hl
  refine lv_iload_n hx hb dX11_end_0 rfl (lv_at hl 1 rfl) ?_
  refine lv_if_lt (tgt := 15) hx hb dX11_end_1 (by decide) (fun c_1 => ?_) (fun c_1 => ?_)
  · refine lv_aload_n hx hb dX11_end_15 rfl (lv_at hl 0 rfl) ?_
    refine lv_iconst (v := 0) hx hb dX11_end_16 (by decide) ?_
    refine go_M (wc := [(h0, .inr (11, (Value.ref (a 0) :: Value.ref (a 1) :: Value.ref (a 2) :: Value.ref (a 3) :: Value.ref (a 4) :: Value.ref (a 5) :: Value.ref (a 6) :: Value.ref (a 7) :: Value.ref (a 8) :: Value.ref (a 9) :: Value.ref (a 10) :: Value.ref (a 11) :: Value.ref (a 12) :: Value.ref (a 13) :: Value.ref (a 14) :: Value.int 0 :: Value.int 0 :: Value.int 0 :: []))), ((a 13), .inl (cI, 6, .inl g0))]) (wr := [((a 0), .inr (9, [.ref (a 15), .int 0]))]) (w1 := fun u => [(h0, .inr (11, (Value.ref (a 0) :: Value.ref (a 1) :: Value.ref (a 2) :: Value.ref (a 3) :: Value.ref (a 4) :: Value.ref (a 5) :: Value.ref (a 6) :: Value.ref (a 7) :: Value.ref (a 8) :: Value.ref (a 9) :: Value.ref (a 10) :: Value.ref (a 11) :: Value.ref (a 12) :: Value.ref (a 13) :: Value.ref (a 14) :: Value.int 0 :: Value.int 0 :: Value.int 0 :: []))), ((a 13), .inl (cI, 6, .inl (u.2 0)))]) (v := some (.int 0)) (st1 := [.int 0]) hP hD hS hA [0, 2] [1] rfl rfl (by decide) (by decide) (by decide) (fun hPc hDc => run_V (As := [.int 0]) (rest := []) ⟨hx, hb, hml, hown, hT⟩ (kX11_deny_0 l D cI h0 a g0 _) sw_589 lkv_X11_deny (p_M_V (ci := 11) (q0 := 0) hPc hK hDc rfl rfl) rfl hl.1 rfl (Nat.le_of_ble_eq_true rfl) dX11_end_17 ⟨⟨Nat.le_of_ble_eq_true rfl, Nat.le_of_ble_eq_true rfl⟩, Nat.le_of_ble_eq_true rfl, Nat.le_of_ble_eq_true rfl⟩) rfl (fun u_2 H locs hP hD hS => ?_)
    have hP : va_P D vwCl [((a 0), .inr (9, [.ref (a 15), .int 0])), (h0, .inr (11, (Value.ref (a 0) :: Value.ref (a 1) :: Value.ref (a 2) :: Value.ref (a 3) :: Value.ref (a 4) :: Value.ref (a 5) :: Value.ref (a 6) :: Value.ref (a 7) :: Value.ref (a 8) :: Value.ref (a 9) :: Value.ref (a 10) :: Value.ref (a 11) :: Value.ref (a 12) :: Value.ref (a 13) :: Value.ref (a 14) :: Value.int 0 :: Value.int 0 :: Value.int 0 :: []))), ((a 13), .inl (cI, 6, .inl (u_2.2 0)))] H := hP
    have hD : va_D A [((a 0), .inr (9, [.ref (a 15), .int 0])), (h0, .inr (11, (Value.ref (a 0) :: Value.ref (a 1) :: Value.ref (a 2) :: Value.ref (a 3) :: Value.ref (a 4) :: Value.ref (a 5) :: Value.ref (a 6) :: Value.ref (a 7) :: Value.ref (a 8) :: Value.ref (a 9) :: Value.ref (a 10) :: Value.ref (a 11) :: Value.ref (a 12) :: Value.ref (a 13) :: Value.ref (a 14) :: Value.int 0 :: Value.int 0 :: Value.int 0 :: []))), ((a 13), .inl (cI, 6, .inl (u_2.2 0)))] := hD
    refine ct_i (z := sp_end p0) (pl_1 p0 c_1) ?_
    have hP9 := hP.sub (ws' := []) [] rfl
    have hD9 := hD.sub (ws' := []) [] (by decide) rfl
    exact W.zret (v := sp_end p0) hx hb hr (nz_sp_end _) (fun t ht _ => ⟨rfl, ⟨(fun k => [].getD k 0, fun k => [].getD k zI), by rw [ht]; exact hP9, hD9⟩, hS.F ht⟩) hS.2.2 dX11_end_20
  · refine lv_iload_n hx hb dX11_end_4 rfl (lv_at hl 1 rfl) ?_
    refine lv_aload_n hx hb dX11_end_5 rfl (lv_at hl 0 rfl) ?_
    refine va_get (D := D) (ci := 11) (v := .ref (a 0)) (C := RX11) (T := TX11) (N := 18) hx hb hT ix_11 hown hK hP 0 rfl rfl 0 (by decide) (hT _ sw_515) (fun _ h9 => h9) rfl dX11_end_6 ?_
    refine va_getN (D := D) (ci := 9) (v := .int 0) (C := RX9) (T := TX9) (N := 2) hx hb hT ix_9 hown hK hP 1 rfl rfl 1 (by decide) (hT _ sw_157) (fun _ h9 => h9) rfl dX11_end_9 ?_
    refine lv_icmp_le (tgt := 21) hx hb dX11_end_12 (by decide) (fun c_3 => ?_) (fun c_3 => ?_)
    · refine lv_aload_n hx hb dX11_end_21 rfl (lv_at hl 0 rfl) ?_
      refine va_get (D := D) (ci := 11) (v := .ref (a 0)) (C := RX11) (T := TX11) (N := 18) hx hb hT ix_11 hown hK hP 0 rfl rfl 0 (by decide) (hT _ sw_515) (fun _ h9 => h9) rfl dX11_end_22 ?_
      refine lv_iload_n hx hb dX11_end_25 rfl (lv_at hl 1 rfl) ?_
      refine va_putN (D := D) (ci := 9) (v := .int p0) (ty := .int) (C := RX9) (T := TX9) (N := 2) hx hb hT ix_9 tyX9 tyX9_ok nmX9 hown hK hP hD hS 1 rfl rfl 1 (by decide) (hT _ sw_157) (fun _ h9 => h9) rfl (by decide +kernel) rfl rfl (Nat.le_of_ble_eq_true rfl) dX11_end_26 (fun H locs hP hD hS => ?_)
      have hP : va_P D vwCl [(h0, .inr (11, (Value.ref (a 0) :: Value.ref (a 1) :: Value.ref (a 2) :: Value.ref (a 3) :: Value.ref (a 4) :: Value.ref (a 5) :: Value.ref (a 6) :: Value.ref (a 7) :: Value.ref (a 8) :: Value.ref (a 9) :: Value.ref (a 10) :: Value.ref (a 11) :: Value.ref (a 12) :: Value.ref (a 13) :: Value.ref (a 14) :: Value.int 0 :: Value.int 0 :: Value.int 0 :: []))), ((a 0), .inr (9, [.ref (a 15), .int p0])), ((a 13), .inl (cI, 6, .inl g0))] H := hP
      have hD : va_D A [(h0, .inr (11, (Value.ref (a 0) :: Value.ref (a 1) :: Value.ref (a 2) :: Value.ref (a 3) :: Value.ref (a 4) :: Value.ref (a 5) :: Value.ref (a 6) :: Value.ref (a 7) :: Value.ref (a 8) :: Value.ref (a 9) :: Value.ref (a 10) :: Value.ref (a 11) :: Value.ref (a 12) :: Value.ref (a 13) :: Value.ref (a 14) :: Value.int 0 :: Value.int 0 :: Value.int 0 :: []))), ((a 0), .inr (9, [.ref (a 15), .int p0])), ((a 13), .inl (cI, 6, .inl g0))] := hD
      refine lv_iconst (v := 1) hx hb dX11_end_29 (by decide) ?_
      refine ct_i (z := sp_end p0) (pl_2 p0 c_1 c_3) ?_
      have hP9 := hP.sub (ws' := []) [] rfl
      have hD9 := hD.sub (ws' := []) [] (by decide) rfl
      exact W.zret (v := sp_end p0) hx hb hr (nz_sp_end _) (fun t ht _ => ⟨rfl, ⟨(fun k => [].getD k 0, fun k => [].getD k zI), by rw [ht]; exact hP9, hD9⟩, hS.F ht⟩) hS.2.2 dX11_end_30
    · refine lv_aload_n hx hb dX11_end_15 rfl (lv_at hl 0 rfl) ?_
      refine lv_iconst (v := 0) hx hb dX11_end_16 (by decide) ?_
      refine go_M (wc := [(h0, .inr (11, (Value.ref (a 0) :: Value.ref (a 1) :: Value.ref (a 2) :: Value.ref (a 3) :: Value.ref (a 4) :: Value.ref (a 5) :: Value.ref (a 6) :: Value.ref (a 7) :: Value.ref (a 8) :: Value.ref (a 9) :: Value.ref (a 10) :: Value.ref (a 11) :: Value.ref (a 12) :: Value.ref (a 13) :: Value.ref (a 14) :: Value.int 0 :: Value.int 0 :: Value.int 0 :: []))), ((a 13), .inl (cI, 6, .inl g0))]) (wr := [((a 0), .inr (9, [.ref (a 15), .int 0]))]) (w1 := fun u => [(h0, .inr (11, (Value.ref (a 0) :: Value.ref (a 1) :: Value.ref (a 2) :: Value.ref (a 3) :: Value.ref (a 4) :: Value.ref (a 5) :: Value.ref (a 6) :: Value.ref (a 7) :: Value.ref (a 8) :: Value.ref (a 9) :: Value.ref (a 10) :: Value.ref (a 11) :: Value.ref (a 12) :: Value.ref (a 13) :: Value.ref (a 14) :: Value.int 0 :: Value.int 0 :: Value.int 0 :: []))), ((a 13), .inl (cI, 6, .inl (u.2 0)))]) (v := some (.int 0)) (st1 := [.int 0]) hP hD hS hA [0, 2] [1] rfl rfl (by decide) (by decide) (by decide) (fun hPc hDc => run_V (As := [.int 0]) (rest := []) ⟨hx, hb, hml, hown, hT⟩ (kX11_deny_0 l D cI h0 a g0 _) sw_589 lkv_X11_deny (p_M_V (ci := 11) (q0 := 0) hPc hK hDc rfl rfl) rfl hl.1 rfl (Nat.le_of_ble_eq_true rfl) dX11_end_17 ⟨⟨Nat.le_of_ble_eq_true rfl, Nat.le_of_ble_eq_true rfl⟩, Nat.le_of_ble_eq_true rfl, Nat.le_of_ble_eq_true rfl⟩) rfl (fun u_4 H locs hP hD hS => ?_)
      have hP : va_P D vwCl [((a 0), .inr (9, [.ref (a 15), .int 0])), (h0, .inr (11, (Value.ref (a 0) :: Value.ref (a 1) :: Value.ref (a 2) :: Value.ref (a 3) :: Value.ref (a 4) :: Value.ref (a 5) :: Value.ref (a 6) :: Value.ref (a 7) :: Value.ref (a 8) :: Value.ref (a 9) :: Value.ref (a 10) :: Value.ref (a 11) :: Value.ref (a 12) :: Value.ref (a 13) :: Value.ref (a 14) :: Value.int 0 :: Value.int 0 :: Value.int 0 :: []))), ((a 13), .inl (cI, 6, .inl (u_4.2 0)))] H := hP
      have hD : va_D A [((a 0), .inr (9, [.ref (a 15), .int 0])), (h0, .inr (11, (Value.ref (a 0) :: Value.ref (a 1) :: Value.ref (a 2) :: Value.ref (a 3) :: Value.ref (a 4) :: Value.ref (a 5) :: Value.ref (a 6) :: Value.ref (a 7) :: Value.ref (a 8) :: Value.ref (a 9) :: Value.ref (a 10) :: Value.ref (a 11) :: Value.ref (a 12) :: Value.ref (a 13) :: Value.ref (a 14) :: Value.int 0 :: Value.int 0 :: Value.int 0 :: []))), ((a 13), .inl (cI, 6, .inl (u_4.2 0)))] := hD
      refine ct_i (z := sp_end p0) (pl_3 p0 c_1 c_3) ?_
      have hP9 := hP.sub (ws' := []) [] rfl
      have hD9 := hD.sub (ws' := []) [] (by decide) rfl
      exact W.zret (v := sp_end p0) hx hb hr (nz_sp_end _) (fun t ht _ => ⟨rfl, ⟨(fun k => [].getD k 0, fun k => [].getD k zI), by rw [ht]; exact hP9, hD9⟩, hS.F ht⟩) hS.2.2 dX11_end_20
