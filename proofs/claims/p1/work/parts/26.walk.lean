set_option maxHeartbeats 4000000 in
set_option maxRecDepth 100000 in
theorem kX12_lays_0 (l : Launch) (D : va_G) (cI : ClassId) (h0 : Nat) (a : Nat → Nat) (p0 : Int32) (g0 : Nat → Int32) (sz : Nat) : Met l yX12_lays (sw_ws yX12_lays cX12_lays 3 none) (rm_ 0 0 0 0) (p_M D vwCl [(cI, .int)] [.ref h0, .int p0] [(h0, .inr (12, (Value.int 0 :: Value.int 0 :: Value.ref (a 0) :: Value.int 0 :: Value.int 0 :: Value.ref (a 1) :: Value.ref (a 2) :: Value.int 0 :: Value.ref (a 3) :: Value.ref (a 4) :: Value.int 0 :: Value.ref (a 5) :: Value.ref (a 6) :: Value.ref (a 7) :: Value.int 0 :: Value.ref (a 8) :: Value.int 0 :: Value.int (-1) :: Value.int 0 :: Value.int 0 :: Value.int 0 :: Value.int 0 :: Value.int (-1) :: Value.ref (a 9) :: Value.ref (a 10) :: Value.ref (a 11) :: Value.int 0 :: Value.ref (a 12) :: Value.ref (a 13) :: Value.ref (a 14) :: Value.ref (a 15) :: Value.int 0 :: Value.int 0 :: Value.int 0 :: Value.int 0 :: Value.int 0 :: Value.int 0 :: Value.int 0 :: Value.int 0 :: Value.ref (a 16) :: Value.ref (a 17) :: Value.ref (a 18) :: Value.ref (a 19) :: Value.int 0 :: Value.int 0 :: Value.int 1 :: Value.ref (a 20) :: Value.int 0 :: []))), ((a 7), .inl (cI, 1200, .inl g0))] sz) (q_M D vwCl none (fun u => [(h0, .inr (12, (Value.int 0 :: Value.int 0 :: Value.ref (a 0) :: Value.int 0 :: Value.int 0 :: Value.ref (a 1) :: Value.ref (a 2) :: Value.int 0 :: Value.ref (a 3) :: Value.ref (a 4) :: Value.int 0 :: Value.ref (a 5) :: Value.ref (a 6) :: Value.ref (a 7) :: Value.int 4 :: Value.ref (a 8) :: Value.int 0 :: Value.int (-1) :: Value.int 0 :: Value.int 0 :: Value.int 0 :: Value.int 0 :: Value.int (-1) :: Value.ref (a 9) :: Value.ref (a 10) :: Value.ref (a 11) :: Value.int 0 :: Value.ref (a 12) :: Value.ref (a 13) :: Value.ref (a 14) :: Value.ref (a 15) :: Value.int 0 :: Value.int 0 :: Value.int 0 :: Value.int 0 :: Value.int 0 :: Value.int 0 :: Value.int 0 :: Value.int 0 :: Value.ref (a 16) :: Value.ref (a 17) :: Value.ref (a 18) :: Value.ref (a 19) :: Value.int 0 :: Value.int 0 :: Value.int 1 :: Value.ref (a 20) :: Value.int 0 :: []))), ((a 7), .inl (cI, 1200, .inl (u.2 0)))]) (va_A [(h0, .inr (12, (Value.int 0 :: Value.int 0 :: Value.ref (a 0) :: Value.int 0 :: Value.int 0 :: Value.ref (a 1) :: Value.ref (a 2) :: Value.int 0 :: Value.ref (a 3) :: Value.ref (a 4) :: Value.int 0 :: Value.ref (a 5) :: Value.ref (a 6) :: Value.ref (a 7) :: Value.int 0 :: Value.ref (a 8) :: Value.int 0 :: Value.int (-1) :: Value.int 0 :: Value.int 0 :: Value.int 0 :: Value.int 0 :: Value.int (-1) :: Value.ref (a 9) :: Value.ref (a 10) :: Value.ref (a 11) :: Value.int 0 :: Value.ref (a 12) :: Value.ref (a 13) :: Value.ref (a 14) :: Value.ref (a 15) :: Value.int 0 :: Value.int 0 :: Value.int 0 :: Value.int 0 :: Value.int 0 :: Value.int 0 :: Value.int 0 :: Value.int 0 :: Value.ref (a 16) :: Value.ref (a 17) :: Value.ref (a 18) :: Value.ref (a 19) :: Value.int 0 :: Value.int 0 :: Value.int 1 :: Value.ref (a 20) :: Value.int 0 :: []))), ((a 7), .inl (cI, 1200, .inl g0))] sz)) 0 0 (va_A [(h0, .inr (12, (Value.int 0 :: Value.int 0 :: Value.ref (a 0) :: Value.int 0 :: Value.int 0 :: Value.ref (a 1) :: Value.ref (a 2) :: Value.int 0 :: Value.ref (a 3) :: Value.ref (a 4) :: Value.int 0 :: Value.ref (a 5) :: Value.ref (a 6) :: Value.ref (a 7) :: Value.int 0 :: Value.ref (a 8) :: Value.int 0 :: Value.int (-1) :: Value.int 0 :: Value.int 0 :: Value.int 0 :: Value.int 0 :: Value.int (-1) :: Value.ref (a 9) :: Value.ref (a 10) :: Value.ref (a 11) :: Value.int 0 :: Value.ref (a 12) :: Value.ref (a 13) :: Value.ref (a 14) :: Value.ref (a 15) :: Value.int 0 :: Value.int 0 :: Value.int 0 :: Value.int 0 :: Value.int 0 :: Value.int 0 :: Value.int 0 :: Value.int 0 :: Value.ref (a 16) :: Value.ref (a 17) :: Value.ref (a 18) :: Value.ref (a 19) :: Value.int 0 :: Value.int 0 :: Value.int 1 :: Value.ref (a 20) :: Value.int 0 :: []))), ((a 7), .inl (cI, 1200, .inl g0))] sz) := by
  refine Met.ofW (cc := cX12_lays) (maxL := 3) (ret := none) (by decide) rfl ?_
  intro p e s m args below meth c s₁ B hml hv
  obtain ⟨rfl, hsz, hP, hK, hD0⟩ := hv
  have hx := B.exec
  have hb := B.bytes
  have hr := B.returns
  have hT := sw_in (atoms_spec (ws := sw_ws yX12_lays cX12_lays 3 none) B.pre)
  have hown : s.vm.findClass RX12 = some m.cls := findClass_of_methodNamed B.named
  have hlocks := B.notSynchronized
  subst hsz
  have hD := hD0.self (sz := s.heap.size)
  generalize hAe : va_A [(h0, .inr (12, (Value.int 0 :: Value.int 0 :: Value.ref (a 0) :: Value.int 0 :: Value.int 0 :: Value.ref (a 1) :: Value.ref (a 2) :: Value.int 0 :: Value.ref (a 3) :: Value.ref (a 4) :: Value.int 0 :: Value.ref (a 5) :: Value.ref (a 6) :: Value.ref (a 7) :: Value.int 0 :: Value.ref (a 8) :: Value.int 0 :: Value.int (-1) :: Value.int 0 :: Value.int 0 :: Value.int 0 :: Value.int 0 :: Value.int (-1) :: Value.ref (a 9) :: Value.ref (a 10) :: Value.ref (a 11) :: Value.int 0 :: Value.ref (a 12) :: Value.ref (a 13) :: Value.ref (a 14) :: Value.ref (a 15) :: Value.int 0 :: Value.int 0 :: Value.int 0 :: Value.int 0 :: Value.int 0 :: Value.int 0 :: Value.int 0 :: Value.int 0 :: Value.ref (a 16) :: Value.ref (a 17) :: Value.ref (a 18) :: Value.ref (a 19) :: Value.int 0 :: Value.int 0 :: Value.int 1 :: Value.ref (a 20) :: Value.int 0 :: []))), ((a 7), .inl (cI, 1200, .inl g0))] s.heap.size = A at hD ⊢
  have hA : ∀ q : Nat, s.heap.size ≤ q → A q := fun q h => by rw [← hAe]; exact Or.inr h
  have hS : va_S A s.heap s.heap [] := va_S.rf
  have hl := lv_entry ([.ref h0, .int p0]) (n := 3) (Nat.le_of_ble_eq_true rfl)
  rw [lg_entry_eq]
  generalize (lg_sl ([.ref h0, .int p0]) ++ List.replicate (3 - (lg_sl ([.ref h0, .int p0])).length) Slot.unset).toArray = ls at hl ⊢
  have hl : lv_has ls 3 [(0, .ref h0), (1, .int p0)] := hl
  refine lv_iconst (v := 0) hx hb dX12_lays_0 (by decide) ?_
  refine lv_istore_n (lv' := [(2, .int 0), (0, .ref h0), (1, .int p0)]) hx hb dX12_lays_1 rfl hl (by decide) rfl (fun ls hl => ?_)
  refine lv_iload_n hx hb dX12_lays_2 rfl (lv_at hl 0 rfl) ?_
  refine lv_iconst (v := 4) hx hb dX12_lays_3 (by decide) ?_
  refine lv_icmp_ge (tgt := 37) hx hb dX12_lays_4 (by decide) (fun h9 => absurd h9 (by decide)) (fun _ => ?_)
  refine lv_aload_n hx hb dX12_lays_7 rfl (lv_at hl 1 rfl) ?_
  refine va_get (D := D) (ci := 12) (v := .ref (a 7)) (C := RX12) (T := TX12) (N := 48) hx hb hT ix_12 hown hK hP 0 rfl rfl 13 (by decide) (hT _ sw_1301) (fun _ h9 => h9) rfl dX12_lays_8 ?_
  refine lv_aload_n hx hb dX12_lays_11 rfl (lv_at hl 1 rfl) ?_
  refine va_get (D := D) (ci := 12) (v := .int 0) (C := RX12) (T := TX12) (N := 48) hx hb hT ix_12 hown hK hP 0 rfl rfl 14 (by decide) (hT _ sw_1302) (fun _ h9 => h9) rfl dX12_lays_12 ?_
  refine lv_iload_n hx hb dX12_lays_15 rfl (lv_at hl 0 rfl) ?_
  refine lv_iadd hx hb dX12_lays_16 ?_
  refine ct_i (z := 0) (by decide) ?_
  refine lv_iload_n hx hb dX12_lays_17 rfl (lv_at hl 2 rfl) ?_
  refine lv_bipush (v := 24) hx hb dX12_lays_18 (by decide) ?_
  refine lv_bipush (v := 8) hx hb dX12_lays_20 (by decide) ?_
  refine lv_iload_n hx hb dX12_lays_22 rfl (lv_at hl 0 rfl) ?_
  refine lv_imul hx hb dX12_lays_23 ?_
  refine ct_i (z := 0) (by decide) ?_
  refine lv_isub hx hb dX12_lays_24 ?_
  refine ct_i (z := 24) (by decide) ?_
  refine lv_ishr hx hb dX12_lays_25 ?_
  refine lv_topi (fun v_1 _ => ?_)
  refine lv_sipush (v := 255) hx hb dX12_lays_26 (by decide) ?_
  refine lv_iand hx hb dX12_lays_29 ?_
  refine lv_topi (fun v_2 _ => ?_)
  refine va_iast hx hb hK hP hD hS 1 0 rfl rfl (vi_c (by decide +kernel)) dX12_lays_30 (fun H locs hP hD hS => ?_)
  obtain ⟨f_3, hP, hD⟩ : ∃ f_3 : Nat → Int32, va_P D vwCl [(h0, .inr (12, (Value.int 0 :: Value.int 0 :: Value.ref (a 0) :: Value.int 0 :: Value.int 0 :: Value.ref (a 1) :: Value.ref (a 2) :: Value.int 0 :: Value.ref (a 3) :: Value.ref (a 4) :: Value.int 0 :: Value.ref (a 5) :: Value.ref (a 6) :: Value.ref (a 7) :: Value.int 0 :: Value.ref (a 8) :: Value.int 0 :: Value.int (-1) :: Value.int 0 :: Value.int 0 :: Value.int 0 :: Value.int 0 :: Value.int (-1) :: Value.ref (a 9) :: Value.ref (a 10) :: Value.ref (a 11) :: Value.int 0 :: Value.ref (a 12) :: Value.ref (a 13) :: Value.ref (a 14) :: Value.ref (a 15) :: Value.int 0 :: Value.int 0 :: Value.int 0 :: Value.int 0 :: Value.int 0 :: Value.int 0 :: Value.int 0 :: Value.int 0 :: Value.ref (a 16) :: Value.ref (a 17) :: Value.ref (a 18) :: Value.ref (a 19) :: Value.int 0 :: Value.int 0 :: Value.int 1 :: Value.ref (a 20) :: Value.int 0 :: []))), ((a 7), .inl (cI, 1200, .inl f_3))] H ∧ va_D A [(h0, .inr (12, (Value.int 0 :: Value.int 0 :: Value.ref (a 0) :: Value.int 0 :: Value.int 0 :: Value.ref (a 1) :: Value.ref (a 2) :: Value.int 0 :: Value.ref (a 3) :: Value.ref (a 4) :: Value.int 0 :: Value.ref (a 5) :: Value.ref (a 6) :: Value.ref (a 7) :: Value.int 0 :: Value.ref (a 8) :: Value.int 0 :: Value.int (-1) :: Value.int 0 :: Value.int 0 :: Value.int 0 :: Value.int 0 :: Value.int (-1) :: Value.ref (a 9) :: Value.ref (a 10) :: Value.ref (a 11) :: Value.int 0 :: Value.ref (a 12) :: Value.ref (a 13) :: Value.ref (a 14) :: Value.ref (a 15) :: Value.int 0 :: Value.int 0 :: Value.int 0 :: Value.int 0 :: Value.int 0 :: Value.int 0 :: Value.int 0 :: Value.int 0 :: Value.ref (a 16) :: Value.ref (a 17) :: Value.ref (a 18) :: Value.ref (a 19) :: Value.int 0 :: Value.int 0 :: Value.int 1 :: Value.ref (a 20) :: Value.int 0 :: []))), ((a 7), .inl (cI, 1200, .inl f_3))] := ⟨upd g0 (0 : Int32).toNatClampNeg v_2, hP, hD⟩
  refine lv_iinc (v := 1) (lv' := [(2, .int 1), (0, .ref h0), (1, .int p0)]) hx hb dX12_lays_31 hl (k := 0) rfl (by decide) (by decide) rfl (fun ls hl => ?_)
  refine lv_goto (tgt := 2) hx hb dX12_lays_34 (by decide) ?_
  refine lv_iload_n hx hb dX12_lays_2 rfl (lv_at hl 0 rfl) ?_
  refine lv_iconst (v := 4) hx hb dX12_lays_3 (by decide) ?_
  refine lv_icmp_ge (tgt := 37) hx hb dX12_lays_4 (by decide) (fun h9 => absurd h9 (by decide)) (fun _ => ?_)
  refine lv_aload_n hx hb dX12_lays_7 rfl (lv_at hl 1 rfl) ?_
  refine va_get (D := D) (ci := 12) (v := .ref (a 7)) (C := RX12) (T := TX12) (N := 48) hx hb hT ix_12 hown hK hP 0 rfl rfl 13 (by decide) (hT _ sw_1301) (fun _ h9 => h9) rfl dX12_lays_8 ?_
  refine lv_aload_n hx hb dX12_lays_11 rfl (lv_at hl 1 rfl) ?_
  refine va_get (D := D) (ci := 12) (v := .int 0) (C := RX12) (T := TX12) (N := 48) hx hb hT ix_12 hown hK hP 0 rfl rfl 14 (by decide) (hT _ sw_1302) (fun _ h9 => h9) rfl dX12_lays_12 ?_
  refine lv_iload_n hx hb dX12_lays_15 rfl (lv_at hl 0 rfl) ?_
  refine lv_iadd hx hb dX12_lays_16 ?_
  refine ct_i (z := 1) (by decide) ?_
  refine lv_iload_n hx hb dX12_lays_17 rfl (lv_at hl 2 rfl) ?_
  refine lv_bipush (v := 24) hx hb dX12_lays_18 (by decide) ?_
  refine lv_bipush (v := 8) hx hb dX12_lays_20 (by decide) ?_
  refine lv_iload_n hx hb dX12_lays_22 rfl (lv_at hl 0 rfl) ?_
  refine lv_imul hx hb dX12_lays_23 ?_
  refine ct_i (z := 8) (by decide) ?_
  refine lv_isub hx hb dX12_lays_24 ?_
  refine ct_i (z := 16) (by decide) ?_
  refine lv_ishr hx hb dX12_lays_25 ?_
  refine lv_topi (fun v_4 _ => ?_)
  refine lv_sipush (v := 255) hx hb dX12_lays_26 (by decide) ?_
  refine lv_iand hx hb dX12_lays_29 ?_
  refine lv_topi (fun v_5 _ => ?_)
  refine va_iast hx hb hK hP hD hS 1 0 rfl rfl (vi_c (by decide +kernel)) dX12_lays_30 (fun H locs hP hD hS => ?_)
  obtain ⟨f_6, hP, hD⟩ : ∃ f_6 : Nat → Int32, va_P D vwCl [(h0, .inr (12, (Value.int 0 :: Value.int 0 :: Value.ref (a 0) :: Value.int 0 :: Value.int 0 :: Value.ref (a 1) :: Value.ref (a 2) :: Value.int 0 :: Value.ref (a 3) :: Value.ref (a 4) :: Value.int 0 :: Value.ref (a 5) :: Value.ref (a 6) :: Value.ref (a 7) :: Value.int 0 :: Value.ref (a 8) :: Value.int 0 :: Value.int (-1) :: Value.int 0 :: Value.int 0 :: Value.int 0 :: Value.int 0 :: Value.int (-1) :: Value.ref (a 9) :: Value.ref (a 10) :: Value.ref (a 11) :: Value.int 0 :: Value.ref (a 12) :: Value.ref (a 13) :: Value.ref (a 14) :: Value.ref (a 15) :: Value.int 0 :: Value.int 0 :: Value.int 0 :: Value.int 0 :: Value.int 0 :: Value.int 0 :: Value.int 0 :: Value.int 0 :: Value.ref (a 16) :: Value.ref (a 17) :: Value.ref (a 18) :: Value.ref (a 19) :: Value.int 0 :: Value.int 0 :: Value.int 1 :: Value.ref (a 20) :: Value.int 0 :: []))), ((a 7), .inl (cI, 1200, .inl f_6))] H ∧ va_D A [(h0, .inr (12, (Value.int 0 :: Value.int 0 :: Value.ref (a 0) :: Value.int 0 :: Value.int 0 :: Value.ref (a 1) :: Value.ref (a 2) :: Value.int 0 :: Value.ref (a 3) :: Value.ref (a 4) :: Value.int 0 :: Value.ref (a 5) :: Value.ref (a 6) :: Value.ref (a 7) :: Value.int 0 :: Value.ref (a 8) :: Value.int 0 :: Value.int (-1) :: Value.int 0 :: Value.int 0 :: Value.int 0 :: Value.int 0 :: Value.int (-1) :: Value.ref (a 9) :: Value.ref (a 10) :: Value.ref (a 11) :: Value.int 0 :: Value.ref (a 12) :: Value.ref (a 13) :: Value.ref (a 14) :: Value.ref (a 15) :: Value.int 0 :: Value.int 0 :: Value.int 0 :: Value.int 0 :: Value.int 0 :: Value.int 0 :: Value.int 0 :: Value.int 0 :: Value.ref (a 16) :: Value.ref (a 17) :: Value.ref (a 18) :: Value.ref (a 19) :: Value.int 0 :: Value.int 0 :: Value.int 1 :: Value.ref (a 20) :: Value.int 0 :: []))), ((a 7), .inl (cI, 1200, .inl f_6))] := ⟨upd f_3 (1 : Int32).toNatClampNeg v_5, hP, hD⟩
  refine lv_iinc (v := 2) (lv' := [(2, .int 2), (0, .ref h0), (1, .int p0)]) hx hb dX12_lays_31 hl (k := 0) rfl (by decide) (by decide) rfl (fun ls hl => ?_)
  refine lv_goto (tgt := 2) hx hb dX12_lays_34 (by decide) ?_
  refine lv_iload_n hx hb dX12_lays_2 rfl (lv_at hl 0 rfl) ?_
  refine lv_iconst (v := 4) hx hb dX12_lays_3 (by decide) ?_
  refine lv_icmp_ge (tgt := 37) hx hb dX12_lays_4 (by decide) (fun h9 => absurd h9 (by decide)) (fun _ => ?_)
  refine lv_aload_n hx hb dX12_lays_7 rfl (lv_at hl 1 rfl) ?_
  refine va_get (D := D) (ci := 12) (v := .ref (a 7)) (C := RX12) (T := TX12) (N := 48) hx hb hT ix_12 hown hK hP 0 rfl rfl 13 (by decide) (hT _ sw_1301) (fun _ h9 => h9) rfl dX12_lays_8 ?_
  refine lv_aload_n hx hb dX12_lays_11 rfl (lv_at hl 1 rfl) ?_
  refine va_get (D := D) (ci := 12) (v := .int 0) (C := RX12) (T := TX12) (N := 48) hx hb hT ix_12 hown hK hP 0 rfl rfl 14 (by decide) (hT _ sw_1302) (fun _ h9 => h9) rfl dX12_lays_12 ?_
  refine lv_iload_n hx hb dX12_lays_15 rfl (lv_at hl 0 rfl) ?_
  refine lv_iadd hx hb dX12_lays_16 ?_
  refine ct_i (z := 2) (by decide) ?_
  refine lv_iload_n hx hb dX12_lays_17 rfl (lv_at hl 2 rfl) ?_
  refine lv_bipush (v := 24) hx hb dX12_lays_18 (by decide) ?_
  refine lv_bipush (v := 8) hx hb dX12_lays_20 (by decide) ?_
  refine lv_iload_n hx hb dX12_lays_22 rfl (lv_at hl 0 rfl) ?_
  refine lv_imul hx hb dX12_lays_23 ?_
  refine ct_i (z := 16) (by decide) ?_
  refine lv_isub hx hb dX12_lays_24 ?_
  refine ct_i (z := 8) (by decide) ?_
  refine lv_ishr hx hb dX12_lays_25 ?_
  refine lv_topi (fun v_7 _ => ?_)
  refine lv_sipush (v := 255) hx hb dX12_lays_26 (by decide) ?_
  refine lv_iand hx hb dX12_lays_29 ?_
  refine lv_topi (fun v_8 _ => ?_)
  refine va_iast hx hb hK hP hD hS 1 0 rfl rfl (vi_c (by decide +kernel)) dX12_lays_30 (fun H locs hP hD hS => ?_)
  obtain ⟨f_9, hP, hD⟩ : ∃ f_9 : Nat → Int32, va_P D vwCl [(h0, .inr (12, (Value.int 0 :: Value.int 0 :: Value.ref (a 0) :: Value.int 0 :: Value.int 0 :: Value.ref (a 1) :: Value.ref (a 2) :: Value.int 0 :: Value.ref (a 3) :: Value.ref (a 4) :: Value.int 0 :: Value.ref (a 5) :: Value.ref (a 6) :: Value.ref (a 7) :: Value.int 0 :: Value.ref (a 8) :: Value.int 0 :: Value.int (-1) :: Value.int 0 :: Value.int 0 :: Value.int 0 :: Value.int 0 :: Value.int (-1) :: Value.ref (a 9) :: Value.ref (a 10) :: Value.ref (a 11) :: Value.int 0 :: Value.ref (a 12) :: Value.ref (a 13) :: Value.ref (a 14) :: Value.ref (a 15) :: Value.int 0 :: Value.int 0 :: Value.int 0 :: Value.int 0 :: Value.int 0 :: Value.int 0 :: Value.int 0 :: Value.int 0 :: Value.ref (a 16) :: Value.ref (a 17) :: Value.ref (a 18) :: Value.ref (a 19) :: Value.int 0 :: Value.int 0 :: Value.int 1 :: Value.ref (a 20) :: Value.int 0 :: []))), ((a 7), .inl (cI, 1200, .inl f_9))] H ∧ va_D A [(h0, .inr (12, (Value.int 0 :: Value.int 0 :: Value.ref (a 0) :: Value.int 0 :: Value.int 0 :: Value.ref (a 1) :: Value.ref (a 2) :: Value.int 0 :: Value.ref (a 3) :: Value.ref (a 4) :: Value.int 0 :: Value.ref (a 5) :: Value.ref (a 6) :: Value.ref (a 7) :: Value.int 0 :: Value.ref (a 8) :: Value.int 0 :: Value.int (-1) :: Value.int 0 :: Value.int 0 :: Value.int 0 :: Value.int 0 :: Value.int (-1) :: Value.ref (a 9) :: Value.ref (a 10) :: Value.ref (a 11) :: Value.int 0 :: Value.ref (a 12) :: Value.ref (a 13) :: Value.ref (a 14) :: Value.ref (a 15) :: Value.int 0 :: Value.int 0 :: Value.int 0 :: Value.int 0 :: Value.int 0 :: Value.int 0 :: Value.int 0 :: Value.int 0 :: Value.ref (a 16) :: Value.ref (a 17) :: Value.ref (a 18) :: Value.ref (a 19) :: Value.int 0 :: Value.int 0 :: Value.int 1 :: Value.ref (a 20) :: Value.int 0 :: []))), ((a 7), .inl (cI, 1200, .inl f_9))] := ⟨upd f_6 (2 : Int32).toNatClampNeg v_8, hP, hD⟩
  refine lv_iinc (v := 3) (lv' := [(2, .int 3), (0, .ref h0), (1, .int p0)]) hx hb dX12_lays_31 hl (k := 0) rfl (by decide) (by decide) rfl (fun ls hl => ?_)
  refine lv_goto (tgt := 2) hx hb dX12_lays_34 (by decide) ?_
  refine lv_iload_n hx hb dX12_lays_2 rfl (lv_at hl 0 rfl) ?_
  refine lv_iconst (v := 4) hx hb dX12_lays_3 (by decide) ?_
  refine lv_icmp_ge (tgt := 37) hx hb dX12_lays_4 (by decide) (fun h9 => absurd h9 (by decide)) (fun _ => ?_)
  refine lv_aload_n hx hb dX12_lays_7 rfl (lv_at hl 1 rfl) ?_
  refine va_get (D := D) (ci := 12) (v := .ref (a 7)) (C := RX12) (T := TX12) (N := 48) hx hb hT ix_12 hown hK hP 0 rfl rfl 13 (by decide) (hT _ sw_1301) (fun _ h9 => h9) rfl dX12_lays_8 ?_
  refine lv_aload_n hx hb dX12_lays_11 rfl (lv_at hl 1 rfl) ?_
  refine va_get (D := D) (ci := 12) (v := .int 0) (C := RX12) (T := TX12) (N := 48) hx hb hT ix_12 hown hK hP 0 rfl rfl 14 (by decide) (hT _ sw_1302) (fun _ h9 => h9) rfl dX12_lays_12 ?_
  refine lv_iload_n hx hb dX12_lays_15 rfl (lv_at hl 0 rfl) ?_
  refine lv_iadd hx hb dX12_lays_16 ?_
  refine ct_i (z := 3) (by decide) ?_
  refine lv_iload_n hx hb dX12_lays_17 rfl (lv_at hl 2 rfl) ?_
  refine lv_bipush (v := 24) hx hb dX12_lays_18 (by decide) ?_
  refine lv_bipush (v := 8) hx hb dX12_lays_20 (by decide) ?_
  refine lv_iload_n hx hb dX12_lays_22 rfl (lv_at hl 0 rfl) ?_
  refine lv_imul hx hb dX12_lays_23 ?_
  refine ct_i (z := 24) (by decide) ?_
  refine lv_isub hx hb dX12_lays_24 ?_
  refine ct_i (z := 0) (by decide) ?_
  refine lv_ishr hx hb dX12_lays_25 ?_
  refine lv_topi (fun v_10 _ => ?_)
  refine lv_sipush (v := 255) hx hb dX12_lays_26 (by decide) ?_
  refine lv_iand hx hb dX12_lays_29 ?_
  refine lv_topi (fun v_11 _ => ?_)
  refine va_iast hx hb hK hP hD hS 1 0 rfl rfl (vi_c (by decide +kernel)) dX12_lays_30 (fun H locs hP hD hS => ?_)
  obtain ⟨f_12, hP, hD⟩ : ∃ f_12 : Nat → Int32, va_P D vwCl [(h0, .inr (12, (Value.int 0 :: Value.int 0 :: Value.ref (a 0) :: Value.int 0 :: Value.int 0 :: Value.ref (a 1) :: Value.ref (a 2) :: Value.int 0 :: Value.ref (a 3) :: Value.ref (a 4) :: Value.int 0 :: Value.ref (a 5) :: Value.ref (a 6) :: Value.ref (a 7) :: Value.int 0 :: Value.ref (a 8) :: Value.int 0 :: Value.int (-1) :: Value.int 0 :: Value.int 0 :: Value.int 0 :: Value.int 0 :: Value.int (-1) :: Value.ref (a 9) :: Value.ref (a 10) :: Value.ref (a 11) :: Value.int 0 :: Value.ref (a 12) :: Value.ref (a 13) :: Value.ref (a 14) :: Value.ref (a 15) :: Value.int 0 :: Value.int 0 :: Value.int 0 :: Value.int 0 :: Value.int 0 :: Value.int 0 :: Value.int 0 :: Value.int 0 :: Value.ref (a 16) :: Value.ref (a 17) :: Value.ref (a 18) :: Value.ref (a 19) :: Value.int 0 :: Value.int 0 :: Value.int 1 :: Value.ref (a 20) :: Value.int 0 :: []))), ((a 7), .inl (cI, 1200, .inl f_12))] H ∧ va_D A [(h0, .inr (12, (Value.int 0 :: Value.int 0 :: Value.ref (a 0) :: Value.int 0 :: Value.int 0 :: Value.ref (a 1) :: Value.ref (a 2) :: Value.int 0 :: Value.ref (a 3) :: Value.ref (a 4) :: Value.int 0 :: Value.ref (a 5) :: Value.ref (a 6) :: Value.ref (a 7) :: Value.int 0 :: Value.ref (a 8) :: Value.int 0 :: Value.int (-1) :: Value.int 0 :: Value.int 0 :: Value.int 0 :: Value.int 0 :: Value.int (-1) :: Value.ref (a 9) :: Value.ref (a 10) :: Value.ref (a 11) :: Value.int 0 :: Value.ref (a 12) :: Value.ref (a 13) :: Value.ref (a 14) :: Value.ref (a 15) :: Value.int 0 :: Value.int 0 :: Value.int 0 :: Value.int 0 :: Value.int 0 :: Value.int 0 :: Value.int 0 :: Value.int 0 :: Value.ref (a 16) :: Value.ref (a 17) :: Value.ref (a 18) :: Value.ref (a 19) :: Value.int 0 :: Value.int 0 :: Value.int 1 :: Value.ref (a 20) :: Value.int 0 :: []))), ((a 7), .inl (cI, 1200, .inl f_12))] := ⟨upd f_9 (3 : Int32).toNatClampNeg v_11, hP, hD⟩
  refine lv_iinc (v := 4) (lv' := [(2, .int 4), (0, .ref h0), (1, .int p0)]) hx hb dX12_lays_31 hl (k := 0) rfl (by decide) (by decide) rfl (fun ls hl => ?_)
  refine lv_goto (tgt := 2) hx hb dX12_lays_34 (by decide) ?_
  refine lv_iload_n hx hb dX12_lays_2 rfl (lv_at hl 0 rfl) ?_
  refine lv_iconst (v := 4) hx hb dX12_lays_3 (by decide) ?_
  refine lv_icmp_ge (tgt := 37) hx hb dX12_lays_4 (by decide) (fun _ => ?_) (fun h9 => absurd (by decide) h9)
  refine lv_aload_n hx hb dX12_lays_37 rfl (lv_at hl 1 rfl) ?_
  refine lv_dup hx hb dX12_lays_38 rfl ?_
  refine va_get (D := D) (ci := 12) (v := .int 0) (C := RX12) (T := TX12) (N := 48) hx hb hT ix_12 hown hK hP 0 rfl rfl 14 (by decide) (hT _ sw_1302) (fun _ h9 => h9) rfl dX12_lays_39 ?_
  refine lv_iconst (v := 4) hx hb dX12_lays_42 (by decide) ?_
  refine lv_iadd hx hb dX12_lays_43 ?_
  refine ct_i (z := 4) (by decide) ?_
  refine va_put (D := D) (ci := 12) (v := .int 4) (ty := .int) (C := RX12) (T := TX12) (N := 48) hx hb hT ix_12 tyX12 tyX12_ok nmX12 hown hK hP hD hS 0 rfl rfl 14 (by decide) (hT _ sw_1302) (fun _ h9 => h9) rfl (by decide +kernel) rfl rfl (Nat.le_of_ble_eq_true rfl) dX12_lays_44 (fun H locs hP hD hS => ?_)
  have hP : va_P D vwCl [(h0, .inr (12, (Value.int 0 :: Value.int 0 :: Value.ref (a 0) :: Value.int 0 :: Value.int 0 :: Value.ref (a 1) :: Value.ref (a 2) :: Value.int 0 :: Value.ref (a 3) :: Value.ref (a 4) :: Value.int 0 :: Value.ref (a 5) :: Value.ref (a 6) :: Value.ref (a 7) :: Value.int 4 :: Value.ref (a 8) :: Value.int 0 :: Value.int (-1) :: Value.int 0 :: Value.int 0 :: Value.int 0 :: Value.int 0 :: Value.int (-1) :: Value.ref (a 9) :: Value.ref (a 10) :: Value.ref (a 11) :: Value.int 0 :: Value.ref (a 12) :: Value.ref (a 13) :: Value.ref (a 14) :: Value.ref (a 15) :: Value.int 0 :: Value.int 0 :: Value.int 0 :: Value.int 0 :: Value.int 0 :: Value.int 0 :: Value.int 0 :: Value.int 0 :: Value.ref (a 16) :: Value.ref (a 17) :: Value.ref (a 18) :: Value.ref (a 19) :: Value.int 0 :: Value.int 0 :: Value.int 1 :: Value.ref (a 20) :: Value.int 0 :: []))), ((a 7), .inl (cI, 1200, .inl f_12))] H := hP
  have hD : va_D A [(h0, .inr (12, (Value.int 0 :: Value.int 0 :: Value.ref (a 0) :: Value.int 0 :: Value.int 0 :: Value.ref (a 1) :: Value.ref (a 2) :: Value.int 0 :: Value.ref (a 3) :: Value.ref (a 4) :: Value.int 0 :: Value.ref (a 5) :: Value.ref (a 6) :: Value.ref (a 7) :: Value.int 4 :: Value.ref (a 8) :: Value.int 0 :: Value.int (-1) :: Value.int 0 :: Value.int 0 :: Value.int 0 :: Value.int 0 :: Value.int (-1) :: Value.ref (a 9) :: Value.ref (a 10) :: Value.ref (a 11) :: Value.int 0 :: Value.ref (a 12) :: Value.ref (a 13) :: Value.ref (a 14) :: Value.ref (a 15) :: Value.int 0 :: Value.int 0 :: Value.int 0 :: Value.int 0 :: Value.int 0 :: Value.int 0 :: Value.int 0 :: Value.int 0 :: Value.ref (a 16) :: Value.ref (a 17) :: Value.ref (a 18) :: Value.ref (a 19) :: Value.int 0 :: Value.int 0 :: Value.int 1 :: Value.ref (a 20) :: Value.int 0 :: []))), ((a 7), .inl (cI, 1200, .inl f_12))] := hD
  have hP9 := hP.sub (ws' := [(h0, .inr (12, (Value.int 0 :: Value.int 0 :: Value.ref (a 0) :: Value.int 0 :: Value.int 0 :: Value.ref (a 1) :: Value.ref (a 2) :: Value.int 0 :: Value.ref (a 3) :: Value.ref (a 4) :: Value.int 0 :: Value.ref (a 5) :: Value.ref (a 6) :: Value.ref (a 7) :: Value.int 4 :: Value.ref (a 8) :: Value.int 0 :: Value.int (-1) :: Value.int 0 :: Value.int 0 :: Value.int 0 :: Value.int 0 :: Value.int (-1) :: Value.ref (a 9) :: Value.ref (a 10) :: Value.ref (a 11) :: Value.int 0 :: Value.ref (a 12) :: Value.ref (a 13) :: Value.ref (a 14) :: Value.ref (a 15) :: Value.int 0 :: Value.int 0 :: Value.int 0 :: Value.int 0 :: Value.int 0 :: Value.int 0 :: Value.int 0 :: Value.int 0 :: Value.ref (a 16) :: Value.ref (a 17) :: Value.ref (a 18) :: Value.ref (a 19) :: Value.int 0 :: Value.int 0 :: Value.int 1 :: Value.ref (a 20) :: Value.int 0 :: []))), ((a 7), .inl (cI, 1200, .inl f_12))]) [0, 1] rfl
  have hD9 := hD.sub (ws' := [(h0, .inr (12, (Value.int 0 :: Value.int 0 :: Value.ref (a 0) :: Value.int 0 :: Value.int 0 :: Value.ref (a 1) :: Value.ref (a 2) :: Value.int 0 :: Value.ref (a 3) :: Value.ref (a 4) :: Value.int 0 :: Value.ref (a 5) :: Value.ref (a 6) :: Value.ref (a 7) :: Value.int 4 :: Value.ref (a 8) :: Value.int 0 :: Value.int (-1) :: Value.int 0 :: Value.int 0 :: Value.int 0 :: Value.int 0 :: Value.int (-1) :: Value.ref (a 9) :: Value.ref (a 10) :: Value.ref (a 11) :: Value.int 0 :: Value.ref (a 12) :: Value.ref (a 13) :: Value.ref (a 14) :: Value.ref (a 15) :: Value.int 0 :: Value.int 0 :: Value.int 0 :: Value.int 0 :: Value.int 0 :: Value.int 0 :: Value.int 0 :: Value.int 0 :: Value.ref (a 16) :: Value.ref (a 17) :: Value.ref (a 18) :: Value.ref (a 19) :: Value.int 0 :: Value.int 0 :: Value.int 1 :: Value.ref (a 20) :: Value.int 0 :: []))), ((a 7), .inl (cI, 1200, .inl f_12))]) [0, 1] (by decide) rfl
  exact W.vret hx hb hr (fun t ht _ => ⟨rfl, ⟨(fun k => [].getD k 0, fun k => [f_12].getD k zI), by rw [ht]; exact hP9, hD9⟩, hS.F ht⟩) hS.2.2 dX12_lays_47
set_option maxHeartbeats 4000000 in
set_option maxRecDepth 100000 in
theorem kX12_lays_1 (l : Launch) (D : va_G) (cI : ClassId) (h0 : Nat) (a : Nat → Nat) (p0 : Int32) (g0 : Nat → Int32) (sz : Nat) : Met l yX12_lays (sw_ws yX12_lays cX12_lays 3 none) (rm_ 0 0 0 0) (p_M D vwCl [(cI, .int)] [.ref h0, .int p0] [(h0, .inr (12, (Value.int 0 :: Value.int 0 :: Value.ref (a 0) :: Value.int 0 :: Value.int 0 :: Value.ref (a 1) :: Value.ref (a 2) :: Value.int 0 :: Value.ref (a 3) :: Value.ref (a 4) :: Value.int 0 :: Value.ref (a 5) :: Value.ref (a 6) :: Value.ref (a 7) :: Value.int 4 :: Value.ref (a 8) :: Value.int 0 :: Value.int (-1) :: Value.int 0 :: Value.int 0 :: Value.int 0 :: Value.int 0 :: Value.int (-1) :: Value.ref (a 9) :: Value.ref (a 10) :: Value.ref (a 11) :: Value.int 0 :: Value.ref (a 12) :: Value.ref (a 13) :: Value.ref (a 14) :: Value.ref (a 15) :: Value.int 0 :: Value.int 0 :: Value.int 0 :: Value.int 0 :: Value.int 0 :: Value.int 0 :: Value.int 0 :: Value.int 0 :: Value.ref (a 16) :: Value.ref (a 17) :: Value.ref (a 18) :: Value.ref (a 19) :: Value.int 0 :: Value.int 0 :: Value.int 1 :: Value.ref (a 20) :: Value.int 0 :: []))), ((a 7), .inl (cI, 1200, .inl g0))] sz) (q_M D vwCl none (fun u => [(h0, .inr (12, (Value.int 0 :: Value.int 0 :: Value.ref (a 0) :: Value.int 0 :: Value.int 0 :: Value.ref (a 1) :: Value.ref (a 2) :: Value.int 0 :: Value.ref (a 3) :: Value.ref (a 4) :: Value.int 0 :: Value.ref (a 5) :: Value.ref (a 6) :: Value.ref (a 7) :: Value.int 8 :: Value.ref (a 8) :: Value.int 0 :: Value.int (-1) :: Value.int 0 :: Value.int 0 :: Value.int 0 :: Value.int 0 :: Value.int (-1) :: Value.ref (a 9) :: Value.ref (a 10) :: Value.ref (a 11) :: Value.int 0 :: Value.ref (a 12) :: Value.ref (a 13) :: Value.ref (a 14) :: Value.ref (a 15) :: Value.int 0 :: Value.int 0 :: Value.int 0 :: Value.int 0 :: Value.int 0 :: Value.int 0 :: Value.int 0 :: Value.int 0 :: Value.ref (a 16) :: Value.ref (a 17) :: Value.ref (a 18) :: Value.ref (a 19) :: Value.int 0 :: Value.int 0 :: Value.int 1 :: Value.ref (a 20) :: Value.int 0 :: []))), ((a 7), .inl (cI, 1200, .inl (u.2 0)))]) (va_A [(h0, .inr (12, (Value.int 0 :: Value.int 0 :: Value.ref (a 0) :: Value.int 0 :: Value.int 0 :: Value.ref (a 1) :: Value.ref (a 2) :: Value.int 0 :: Value.ref (a 3) :: Value.ref (a 4) :: Value.int 0 :: Value.ref (a 5) :: Value.ref (a 6) :: Value.ref (a 7) :: Value.int 4 :: Value.ref (a 8) :: Value.int 0 :: Value.int (-1) :: Value.int 0 :: Value.int 0 :: Value.int 0 :: Value.int 0 :: Value.int (-1) :: Value.ref (a 9) :: Value.ref (a 10) :: Value.ref (a 11) :: Value.int 0 :: Value.ref (a 12) :: Value.ref (a 13) :: Value.ref (a 14) :: Value.ref (a 15) :: Value.int 0 :: Value.int 0 :: Value.int 0 :: Value.int 0 :: Value.int 0 :: Value.int 0 :: Value.int 0 :: Value.int 0 :: Value.ref (a 16) :: Value.ref (a 17) :: Value.ref (a 18) :: Value.ref (a 19) :: Value.int 0 :: Value.int 0 :: Value.int 1 :: Value.ref (a 20) :: Value.int 0 :: []))), ((a 7), .inl (cI, 1200, .inl g0))] sz)) 0 0 (va_A [(h0, .inr (12, (Value.int 0 :: Value.int 0 :: Value.ref (a 0) :: Value.int 0 :: Value.int 0 :: Value.ref (a 1) :: Value.ref (a 2) :: Value.int 0 :: Value.ref (a 3) :: Value.ref (a 4) :: Value.int 0 :: Value.ref (a 5) :: Value.ref (a 6) :: Value.ref (a 7) :: Value.int 4 :: Value.ref (a 8) :: Value.int 0 :: Value.int (-1) :: Value.int 0 :: Value.int 0 :: Value.int 0 :: Value.int 0 :: Value.int (-1) :: Value.ref (a 9) :: Value.ref (a 10) :: Value.ref (a 11) :: Value.int 0 :: Value.ref (a 12) :: Value.ref (a 13) :: Value.ref (a 14) :: Value.ref (a 15) :: Value.int 0 :: Value.int 0 :: Value.int 0 :: Value.int 0 :: Value.int 0 :: Value.int 0 :: Value.int 0 :: Value.int 0 :: Value.ref (a 16) :: Value.ref (a 17) :: Value.ref (a 18) :: Value.ref (a 19) :: Value.int 0 :: Value.int 0 :: Value.int 1 :: Value.ref (a 20) :: Value.int 0 :: []))), ((a 7), .inl (cI, 1200, .inl g0))] sz) := by
  refine Met.ofW (cc := cX12_lays) (maxL := 3) (ret := none) (by decide) rfl ?_
  intro p e s m args below meth c s₁ B hml hv
  obtain ⟨rfl, hsz, hP, hK, hD0⟩ := hv
  have hx := B.exec
  have hb := B.bytes
  have hr := B.returns
  have hT := sw_in (atoms_spec (ws := sw_ws yX12_lays cX12_lays 3 none) B.pre)
  have hown : s.vm.findClass RX12 = some m.cls := findClass_of_methodNamed B.named
  have hlocks := B.notSynchronized
  subst hsz
  have hD := hD0.self (sz := s.heap.size)
  generalize hAe : va_A [(h0, .inr (12, (Value.int 0 :: Value.int 0 :: Value.ref (a 0) :: Value.int 0 :: Value.int 0 :: Value.ref (a 1) :: Value.ref (a 2) :: Value.int 0 :: Value.ref (a 3) :: Value.ref (a 4) :: Value.int 0 :: Value.ref (a 5) :: Value.ref (a 6) :: Value.ref (a 7) :: Value.int 4 :: Value.ref (a 8) :: Value.int 0 :: Value.int (-1) :: Value.int 0 :: Value.int 0 :: Value.int 0 :: Value.int 0 :: Value.int (-1) :: Value.ref (a 9) :: Value.ref (a 10) :: Value.ref (a 11) :: Value.int 0 :: Value.ref (a 12) :: Value.ref (a 13) :: Value.ref (a 14) :: Value.ref (a 15) :: Value.int 0 :: Value.int 0 :: Value.int 0 :: Value.int 0 :: Value.int 0 :: Value.int 0 :: Value.int 0 :: Value.int 0 :: Value.ref (a 16) :: Value.ref (a 17) :: Value.ref (a 18) :: Value.ref (a 19) :: Value.int 0 :: Value.int 0 :: Value.int 1 :: Value.ref (a 20) :: Value.int 0 :: []))), ((a 7), .inl (cI, 1200, .inl g0))] s.heap.size = A at hD ⊢
  have hA : ∀ q : Nat, s.heap.size ≤ q → A q := fun q h => by rw [← hAe]; exact Or.inr h
  have hS : va_S A s.heap s.heap [] := va_S.rf
  have hl := lv_entry ([.ref h0, .int p0]) (n := 3) (Nat.le_of_ble_eq_true rfl)
  rw [lg_entry_eq]
  generalize (lg_sl ([.ref h0, .int p0]) ++ List.replicate (3 - (lg_sl ([.ref h0, .int p0])).length) Slot.unset).toArray = ls at hl ⊢
  have hl : lv_has ls 3 [(0, .ref h0), (1, .int p0)] := hl
  refine lv_iconst (v := 0) hx hb dX12_lays_0 (by decide) ?_
  refine lv_istore_n (lv' := [(2, .int 0), (0, .ref h0), (1, .int p0)]) hx hb dX12_lays_1 rfl hl (by decide) rfl (fun ls hl => ?_)
  refine lv_iload_n hx hb dX12_lays_2 rfl (lv_at hl 0 rfl) ?_
  refine lv_iconst (v := 4) hx hb dX12_lays_3 (by decide) ?_
  refine lv_icmp_ge (tgt := 37) hx hb dX12_lays_4 (by decide) (fun h9 => absurd h9 (by decide)) (fun _ => ?_)
  refine lv_aload_n hx hb dX12_lays_7 rfl (lv_at hl 1 rfl) ?_
  refine va_get (D := D) (ci := 12) (v := .ref (a 7)) (C := RX12) (T := TX12) (N := 48) hx hb hT ix_12 hown hK hP 0 rfl rfl 13 (by decide) (hT _ sw_1301) (fun _ h9 => h9) rfl dX12_lays_8 ?_
  refine lv_aload_n hx hb dX12_lays_11 rfl (lv_at hl 1 rfl) ?_
  refine va_get (D := D) (ci := 12) (v := .int 4) (C := RX12) (T := TX12) (N := 48) hx hb hT ix_12 hown hK hP 0 rfl rfl 14 (by decide) (hT _ sw_1302) (fun _ h9 => h9) rfl dX12_lays_12 ?_
  refine lv_iload_n hx hb dX12_lays_15 rfl (lv_at hl 0 rfl) ?_
  refine lv_iadd hx hb dX12_lays_16 ?_
  refine ct_i (z := 4) (by decide) ?_
  refine lv_iload_n hx hb dX12_lays_17 rfl (lv_at hl 2 rfl) ?_
  refine lv_bipush (v := 24) hx hb dX12_lays_18 (by decide) ?_
  refine lv_bipush (v := 8) hx hb dX12_lays_20 (by decide) ?_
  refine lv_iload_n hx hb dX12_lays_22 rfl (lv_at hl 0 rfl) ?_
  refine lv_imul hx hb dX12_lays_23 ?_
  refine ct_i (z := 0) (by decide) ?_
  refine lv_isub hx hb dX12_lays_24 ?_
  refine ct_i (z := 24) (by decide) ?_
  refine lv_ishr hx hb dX12_lays_25 ?_
  refine lv_topi (fun v_1 _ => ?_)
  refine lv_sipush (v := 255) hx hb dX12_lays_26 (by decide) ?_
  refine lv_iand hx hb dX12_lays_29 ?_
  refine lv_topi (fun v_2 _ => ?_)
  refine va_iast hx hb hK hP hD hS 1 0 rfl rfl (vi_c (by decide +kernel)) dX12_lays_30 (fun H locs hP hD hS => ?_)
  obtain ⟨f_3, hP, hD⟩ : ∃ f_3 : Nat → Int32, va_P D vwCl [(h0, .inr (12, (Value.int 0 :: Value.int 0 :: Value.ref (a 0) :: Value.int 0 :: Value.int 0 :: Value.ref (a 1) :: Value.ref (a 2) :: Value.int 0 :: Value.ref (a 3) :: Value.ref (a 4) :: Value.int 0 :: Value.ref (a 5) :: Value.ref (a 6) :: Value.ref (a 7) :: Value.int 4 :: Value.ref (a 8) :: Value.int 0 :: Value.int (-1) :: Value.int 0 :: Value.int 0 :: Value.int 0 :: Value.int 0 :: Value.int (-1) :: Value.ref (a 9) :: Value.ref (a 10) :: Value.ref (a 11) :: Value.int 0 :: Value.ref (a 12) :: Value.ref (a 13) :: Value.ref (a 14) :: Value.ref (a 15) :: Value.int 0 :: Value.int 0 :: Value.int 0 :: Value.int 0 :: Value.int 0 :: Value.int 0 :: Value.int 0 :: Value.int 0 :: Value.ref (a 16) :: Value.ref (a 17) :: Value.ref (a 18) :: Value.ref (a 19) :: Value.int 0 :: Value.int 0 :: Value.int 1 :: Value.ref (a 20) :: Value.int 0 :: []))), ((a 7), .inl (cI, 1200, .inl f_3))] H ∧ va_D A [(h0, .inr (12, (Value.int 0 :: Value.int 0 :: Value.ref (a 0) :: Value.int 0 :: Value.int 0 :: Value.ref (a 1) :: Value.ref (a 2) :: Value.int 0 :: Value.ref (a 3) :: Value.ref (a 4) :: Value.int 0 :: Value.ref (a 5) :: Value.ref (a 6) :: Value.ref (a 7) :: Value.int 4 :: Value.ref (a 8) :: Value.int 0 :: Value.int (-1) :: Value.int 0 :: Value.int 0 :: Value.int 0 :: Value.int 0 :: Value.int (-1) :: Value.ref (a 9) :: Value.ref (a 10) :: Value.ref (a 11) :: Value.int 0 :: Value.ref (a 12) :: Value.ref (a 13) :: Value.ref (a 14) :: Value.ref (a 15) :: Value.int 0 :: Value.int 0 :: Value.int 0 :: Value.int 0 :: Value.int 0 :: Value.int 0 :: Value.int 0 :: Value.int 0 :: Value.ref (a 16) :: Value.ref (a 17) :: Value.ref (a 18) :: Value.ref (a 19) :: Value.int 0 :: Value.int 0 :: Value.int 1 :: Value.ref (a 20) :: Value.int 0 :: []))), ((a 7), .inl (cI, 1200, .inl f_3))] := ⟨upd g0 (4 : Int32).toNatClampNeg v_2, hP, hD⟩
  refine lv_iinc (v := 1) (lv' := [(2, .int 1), (0, .ref h0), (1, .int p0)]) hx hb dX12_lays_31 hl (k := 0) rfl (by decide) (by decide) rfl (fun ls hl => ?_)
  refine lv_goto (tgt := 2) hx hb dX12_lays_34 (by decide) ?_
  refine lv_iload_n hx hb dX12_lays_2 rfl (lv_at hl 0 rfl) ?_
  refine lv_iconst (v := 4) hx hb dX12_lays_3 (by decide) ?_
  refine lv_icmp_ge (tgt := 37) hx hb dX12_lays_4 (by decide) (fun h9 => absurd h9 (by decide)) (fun _ => ?_)
  refine lv_aload_n hx hb dX12_lays_7 rfl (lv_at hl 1 rfl) ?_
  refine va_get (D := D) (ci := 12) (v := .ref (a 7)) (C := RX12) (T := TX12) (N := 48) hx hb hT ix_12 hown hK hP 0 rfl rfl 13 (by decide) (hT _ sw_1301) (fun _ h9 => h9) rfl dX12_lays_8 ?_
  refine lv_aload_n hx hb dX12_lays_11 rfl (lv_at hl 1 rfl) ?_
  refine va_get (D := D) (ci := 12) (v := .int 4) (C := RX12) (T := TX12) (N := 48) hx hb hT ix_12 hown hK hP 0 rfl rfl 14 (by decide) (hT _ sw_1302) (fun _ h9 => h9) rfl dX12_lays_12 ?_
  refine lv_iload_n hx hb dX12_lays_15 rfl (lv_at hl 0 rfl) ?_
  refine lv_iadd hx hb dX12_lays_16 ?_
  refine ct_i (z := 5) (by decide) ?_
  refine lv_iload_n hx hb dX12_lays_17 rfl (lv_at hl 2 rfl) ?_
  refine lv_bipush (v := 24) hx hb dX12_lays_18 (by decide) ?_
  refine lv_bipush (v := 8) hx hb dX12_lays_20 (by decide) ?_
  refine lv_iload_n hx hb dX12_lays_22 rfl (lv_at hl 0 rfl) ?_
  refine lv_imul hx hb dX12_lays_23 ?_
  refine ct_i (z := 8) (by decide) ?_
  refine lv_isub hx hb dX12_lays_24 ?_
  refine ct_i (z := 16) (by decide) ?_
  refine lv_ishr hx hb dX12_lays_25 ?_
  refine lv_topi (fun v_4 _ => ?_)
  refine lv_sipush (v := 255) hx hb dX12_lays_26 (by decide) ?_
  refine lv_iand hx hb dX12_lays_29 ?_
  refine lv_topi (fun v_5 _ => ?_)
  refine va_iast hx hb hK hP hD hS 1 0 rfl rfl (vi_c (by decide +kernel)) dX12_lays_30 (fun H locs hP hD hS => ?_)
  obtain ⟨f_6, hP, hD⟩ : ∃ f_6 : Nat → Int32, va_P D vwCl [(h0, .inr (12, (Value.int 0 :: Value.int 0 :: Value.ref (a 0) :: Value.int 0 :: Value.int 0 :: Value.ref (a 1) :: Value.ref (a 2) :: Value.int 0 :: Value.ref (a 3) :: Value.ref (a 4) :: Value.int 0 :: Value.ref (a 5) :: Value.ref (a 6) :: Value.ref (a 7) :: Value.int 4 :: Value.ref (a 8) :: Value.int 0 :: Value.int (-1) :: Value.int 0 :: Value.int 0 :: Value.int 0 :: Value.int 0 :: Value.int (-1) :: Value.ref (a 9) :: Value.ref (a 10) :: Value.ref (a 11) :: Value.int 0 :: Value.ref (a 12) :: Value.ref (a 13) :: Value.ref (a 14) :: Value.ref (a 15) :: Value.int 0 :: Value.int 0 :: Value.int 0 :: Value.int 0 :: Value.int 0 :: Value.int 0 :: Value.int 0 :: Value.int 0 :: Value.ref (a 16) :: Value.ref (a 17) :: Value.ref (a 18) :: Value.ref (a 19) :: Value.int 0 :: Value.int 0 :: Value.int 1 :: Value.ref (a 20) :: Value.int 0 :: []))), ((a 7), .inl (cI, 1200, .inl f_6))] H ∧ va_D A [(h0, .inr (12, (Value.int 0 :: Value.int 0 :: Value.ref (a 0) :: Value.int 0 :: Value.int 0 :: Value.ref (a 1) :: Value.ref (a 2) :: Value.int 0 :: Value.ref (a 3) :: Value.ref (a 4) :: Value.int 0 :: Value.ref (a 5) :: Value.ref (a 6) :: Value.ref (a 7) :: Value.int 4 :: Value.ref (a 8) :: Value.int 0 :: Value.int (-1) :: Value.int 0 :: Value.int 0 :: Value.int 0 :: Value.int 0 :: Value.int (-1) :: Value.ref (a 9) :: Value.ref (a 10) :: Value.ref (a 11) :: Value.int 0 :: Value.ref (a 12) :: Value.ref (a 13) :: Value.ref (a 14) :: Value.ref (a 15) :: Value.int 0 :: Value.int 0 :: Value.int 0 :: Value.int 0 :: Value.int 0 :: Value.int 0 :: Value.int 0 :: Value.int 0 :: Value.ref (a 16) :: Value.ref (a 17) :: Value.ref (a 18) :: Value.ref (a 19) :: Value.int 0 :: Value.int 0 :: Value.int 1 :: Value.ref (a 20) :: Value.int 0 :: []))), ((a 7), .inl (cI, 1200, .inl f_6))] := ⟨upd f_3 (5 : Int32).toNatClampNeg v_5, hP, hD⟩
  refine lv_iinc (v := 2) (lv' := [(2, .int 2), (0, .ref h0), (1, .int p0)]) hx hb dX12_lays_31 hl (k := 0) rfl (by decide) (by decide) rfl (fun ls hl => ?_)
  refine lv_goto (tgt := 2) hx hb dX12_lays_34 (by decide) ?_
  refine lv_iload_n hx hb dX12_lays_2 rfl (lv_at hl 0 rfl) ?_
  refine lv_iconst (v := 4) hx hb dX12_lays_3 (by decide) ?_
  refine lv_icmp_ge (tgt := 37) hx hb dX12_lays_4 (by decide) (fun h9 => absurd h9 (by decide)) (fun _ => ?_)
  refine lv_aload_n hx hb dX12_lays_7 rfl (lv_at hl 1 rfl) ?_
  refine va_get (D := D) (ci := 12) (v := .ref (a 7)) (C := RX12) (T := TX12) (N := 48) hx hb hT ix_12 hown hK hP 0 rfl rfl 13 (by decide) (hT _ sw_1301) (fun _ h9 => h9) rfl dX12_lays_8 ?_
  refine lv_aload_n hx hb dX12_lays_11 rfl (lv_at hl 1 rfl) ?_
  refine va_get (D := D) (ci := 12) (v := .int 4) (C := RX12) (T := TX12) (N := 48) hx hb hT ix_12 hown hK hP 0 rfl rfl 14 (by decide) (hT _ sw_1302) (fun _ h9 => h9) rfl dX12_lays_12 ?_
  refine lv_iload_n hx hb dX12_lays_15 rfl (lv_at hl 0 rfl) ?_
  refine lv_iadd hx hb dX12_lays_16 ?_
  refine ct_i (z := 6) (by decide) ?_
  refine lv_iload_n hx hb dX12_lays_17 rfl (lv_at hl 2 rfl) ?_
  refine lv_bipush (v := 24) hx hb dX12_lays_18 (by decide) ?_
  refine lv_bipush (v := 8) hx hb dX12_lays_20 (by decide) ?_
  refine lv_iload_n hx hb dX12_lays_22 rfl (lv_at hl 0 rfl) ?_
  refine lv_imul hx hb dX12_lays_23 ?_
  refine ct_i (z := 16) (by decide) ?_
  refine lv_isub hx hb dX12_lays_24 ?_
  refine ct_i (z := 8) (by decide) ?_
  refine lv_ishr hx hb dX12_lays_25 ?_
  refine lv_topi (fun v_7 _ => ?_)
  refine lv_sipush (v := 255) hx hb dX12_lays_26 (by decide) ?_
  refine lv_iand hx hb dX12_lays_29 ?_
  refine lv_topi (fun v_8 _ => ?_)
  refine va_iast hx hb hK hP hD hS 1 0 rfl rfl (vi_c (by decide +kernel)) dX12_lays_30 (fun H locs hP hD hS => ?_)
  obtain ⟨f_9, hP, hD⟩ : ∃ f_9 : Nat → Int32, va_P D vwCl [(h0, .inr (12, (Value.int 0 :: Value.int 0 :: Value.ref (a 0) :: Value.int 0 :: Value.int 0 :: Value.ref (a 1) :: Value.ref (a 2) :: Value.int 0 :: Value.ref (a 3) :: Value.ref (a 4) :: Value.int 0 :: Value.ref (a 5) :: Value.ref (a 6) :: Value.ref (a 7) :: Value.int 4 :: Value.ref (a 8) :: Value.int 0 :: Value.int (-1) :: Value.int 0 :: Value.int 0 :: Value.int 0 :: Value.int 0 :: Value.int (-1) :: Value.ref (a 9) :: Value.ref (a 10) :: Value.ref (a 11) :: Value.int 0 :: Value.ref (a 12) :: Value.ref (a 13) :: Value.ref (a 14) :: Value.ref (a 15) :: Value.int 0 :: Value.int 0 :: Value.int 0 :: Value.int 0 :: Value.int 0 :: Value.int 0 :: Value.int 0 :: Value.int 0 :: Value.ref (a 16) :: Value.ref (a 17) :: Value.ref (a 18) :: Value.ref (a 19) :: Value.int 0 :: Value.int 0 :: Value.int 1 :: Value.ref (a 20) :: Value.int 0 :: []))), ((a 7), .inl (cI, 1200, .inl f_9))] H ∧ va_D A [(h0, .inr (12, (Value.int 0 :: Value.int 0 :: Value.ref (a 0) :: Value.int 0 :: Value.int 0 :: Value.ref (a 1) :: Value.ref (a 2) :: Value.int 0 :: Value.ref (a 3) :: Value.ref (a 4) :: Value.int 0 :: Value.ref (a 5) :: Value.ref (a 6) :: Value.ref (a 7) :: Value.int 4 :: Value.ref (a 8) :: Value.int 0 :: Value.int (-1) :: Value.int 0 :: Value.int 0 :: Value.int 0 :: Value.int 0 :: Value.int (-1) :: Value.ref (a 9) :: Value.ref (a 10) :: Value.ref (a 11) :: Value.int 0 :: Value.ref (a 12) :: Value.ref (a 13) :: Value.ref (a 14) :: Value.ref (a 15) :: Value.int 0 :: Value.int 0 :: Value.int 0 :: Value.int 0 :: Value.int 0 :: Value.int 0 :: Value.int 0 :: Value.int 0 :: Value.ref (a 16) :: Value.ref (a 17) :: Value.ref (a 18) :: Value.ref (a 19) :: Value.int 0 :: Value.int 0 :: Value.int 1 :: Value.ref (a 20) :: Value.int 0 :: []))), ((a 7), .inl (cI, 1200, .inl f_9))] := ⟨upd f_6 (6 : Int32).toNatClampNeg v_8, hP, hD⟩
  refine lv_iinc (v := 3) (lv' := [(2, .int 3), (0, .ref h0), (1, .int p0)]) hx hb dX12_lays_31 hl (k := 0) rfl (by decide) (by decide) rfl (fun ls hl => ?_)
  refine lv_goto (tgt := 2) hx hb dX12_lays_34 (by decide) ?_
  refine lv_iload_n hx hb dX12_lays_2 rfl (lv_at hl 0 rfl) ?_
  refine lv_iconst (v := 4) hx hb dX12_lays_3 (by decide) ?_
  refine lv_icmp_ge (tgt := 37) hx hb dX12_lays_4 (by decide) (fun h9 => absurd h9 (by decide)) (fun _ => ?_)
  refine lv_aload_n hx hb dX12_lays_7 rfl (lv_at hl 1 rfl) ?_
  refine va_get (D := D) (ci := 12) (v := .ref (a 7)) (C := RX12) (T := TX12) (N := 48) hx hb hT ix_12 hown hK hP 0 rfl rfl 13 (by decide) (hT _ sw_1301) (fun _ h9 => h9) rfl dX12_lays_8 ?_
  refine lv_aload_n hx hb dX12_lays_11 rfl (lv_at hl 1 rfl) ?_
  refine va_get (D := D) (ci := 12) (v := .int 4) (C := RX12) (T := TX12) (N := 48) hx hb hT ix_12 hown hK hP 0 rfl rfl 14 (by decide) (hT _ sw_1302) (fun _ h9 => h9) rfl dX12_lays_12 ?_
  refine lv_iload_n hx hb dX12_lays_15 rfl (lv_at hl 0 rfl) ?_
  refine lv_iadd hx hb dX12_lays_16 ?_
  refine ct_i (z := 7) (by decide) ?_
  refine lv_iload_n hx hb dX12_lays_17 rfl (lv_at hl 2 rfl) ?_
  refine lv_bipush (v := 24) hx hb dX12_lays_18 (by decide) ?_
  refine lv_bipush (v := 8) hx hb dX12_lays_20 (by decide) ?_
  refine lv_iload_n hx hb dX12_lays_22 rfl (lv_at hl 0 rfl) ?_
  refine lv_imul hx hb dX12_lays_23 ?_
  refine ct_i (z := 24) (by decide) ?_
  refine lv_isub hx hb dX12_lays_24 ?_
  refine ct_i (z := 0) (by decide) ?_
  refine lv_ishr hx hb dX12_lays_25 ?_
  refine lv_topi (fun v_10 _ => ?_)
  refine lv_sipush (v := 255) hx hb dX12_lays_26 (by decide) ?_
  refine lv_iand hx hb dX12_lays_29 ?_
  refine lv_topi (fun v_11 _ => ?_)
  refine va_iast hx hb hK hP hD hS 1 0 rfl rfl (vi_c (by decide +kernel)) dX12_lays_30 (fun H locs hP hD hS => ?_)
  obtain ⟨f_12, hP, hD⟩ : ∃ f_12 : Nat → Int32, va_P D vwCl [(h0, .inr (12, (Value.int 0 :: Value.int 0 :: Value.ref (a 0) :: Value.int 0 :: Value.int 0 :: Value.ref (a 1) :: Value.ref (a 2) :: Value.int 0 :: Value.ref (a 3) :: Value.ref (a 4) :: Value.int 0 :: Value.ref (a 5) :: Value.ref (a 6) :: Value.ref (a 7) :: Value.int 4 :: Value.ref (a 8) :: Value.int 0 :: Value.int (-1) :: Value.int 0 :: Value.int 0 :: Value.int 0 :: Value.int 0 :: Value.int (-1) :: Value.ref (a 9) :: Value.ref (a 10) :: Value.ref (a 11) :: Value.int 0 :: Value.ref (a 12) :: Value.ref (a 13) :: Value.ref (a 14) :: Value.ref (a 15) :: Value.int 0 :: Value.int 0 :: Value.int 0 :: Value.int 0 :: Value.int 0 :: Value.int 0 :: Value.int 0 :: Value.int 0 :: Value.ref (a 16) :: Value.ref (a 17) :: Value.ref (a 18) :: Value.ref (a 19) :: Value.int 0 :: Value.int 0 :: Value.int 1 :: Value.ref (a 20) :: Value.int 0 :: []))), ((a 7), .inl (cI, 1200, .inl f_12))] H ∧ va_D A [(h0, .inr (12, (Value.int 0 :: Value.int 0 :: Value.ref (a 0) :: Value.int 0 :: Value.int 0 :: Value.ref (a 1) :: Value.ref (a 2) :: Value.int 0 :: Value.ref (a 3) :: Value.ref (a 4) :: Value.int 0 :: Value.ref (a 5) :: Value.ref (a 6) :: Value.ref (a 7) :: Value.int 4 :: Value.ref (a 8) :: Value.int 0 :: Value.int (-1) :: Value.int 0 :: Value.int 0 :: Value.int 0 :: Value.int 0 :: Value.int (-1) :: Value.ref (a 9) :: Value.ref (a 10) :: Value.ref (a 11) :: Value.int 0 :: Value.ref (a 12) :: Value.ref (a 13) :: Value.ref (a 14) :: Value.ref (a 15) :: Value.int 0 :: Value.int 0 :: Value.int 0 :: Value.int 0 :: Value.int 0 :: Value.int 0 :: Value.int 0 :: Value.int 0 :: Value.ref (a 16) :: Value.ref (a 17) :: Value.ref (a 18) :: Value.ref (a 19) :: Value.int 0 :: Value.int 0 :: Value.int 1 :: Value.ref (a 20) :: Value.int 0 :: []))), ((a 7), .inl (cI, 1200, .inl f_12))] := ⟨upd f_9 (7 : Int32).toNatClampNeg v_11, hP, hD⟩
  refine lv_iinc (v := 4) (lv' := [(2, .int 4), (0, .ref h0), (1, .int p0)]) hx hb dX12_lays_31 hl (k := 0) rfl (by decide) (by decide) rfl (fun ls hl => ?_)
  refine lv_goto (tgt := 2) hx hb dX12_lays_34 (by decide) ?_
  refine lv_iload_n hx hb dX12_lays_2 rfl (lv_at hl 0 rfl) ?_
  refine lv_iconst (v := 4) hx hb dX12_lays_3 (by decide) ?_
  refine lv_icmp_ge (tgt := 37) hx hb dX12_lays_4 (by decide) (fun _ => ?_) (fun h9 => absurd (by decide) h9)
  refine lv_aload_n hx hb dX12_lays_37 rfl (lv_at hl 1 rfl) ?_
  refine lv_dup hx hb dX12_lays_38 rfl ?_
  refine va_get (D := D) (ci := 12) (v := .int 4) (C := RX12) (T := TX12) (N := 48) hx hb hT ix_12 hown hK hP 0 rfl rfl 14 (by decide) (hT _ sw_1302) (fun _ h9 => h9) rfl dX12_lays_39 ?_
  refine lv_iconst (v := 4) hx hb dX12_lays_42 (by decide) ?_
  refine lv_iadd hx hb dX12_lays_43 ?_
  refine ct_i (z := 8) (by decide) ?_
  refine va_put (D := D) (ci := 12) (v := .int 8) (ty := .int) (C := RX12) (T := TX12) (N := 48) hx hb hT ix_12 tyX12 tyX12_ok nmX12 hown hK hP hD hS 0 rfl rfl 14 (by decide) (hT _ sw_1302) (fun _ h9 => h9) rfl (by decide +kernel) rfl rfl (Nat.le_of_ble_eq_true rfl) dX12_lays_44 (fun H locs hP hD hS => ?_)
  have hP : va_P D vwCl [(h0, .inr (12, (Value.int 0 :: Value.int 0 :: Value.ref (a 0) :: Value.int 0 :: Value.int 0 :: Value.ref (a 1) :: Value.ref (a 2) :: Value.int 0 :: Value.ref (a 3) :: Value.ref (a 4) :: Value.int 0 :: Value.ref (a 5) :: Value.ref (a 6) :: Value.ref (a 7) :: Value.int 8 :: Value.ref (a 8) :: Value.int 0 :: Value.int (-1) :: Value.int 0 :: Value.int 0 :: Value.int 0 :: Value.int 0 :: Value.int (-1) :: Value.ref (a 9) :: Value.ref (a 10) :: Value.ref (a 11) :: Value.int 0 :: Value.ref (a 12) :: Value.ref (a 13) :: Value.ref (a 14) :: Value.ref (a 15) :: Value.int 0 :: Value.int 0 :: Value.int 0 :: Value.int 0 :: Value.int 0 :: Value.int 0 :: Value.int 0 :: Value.int 0 :: Value.ref (a 16) :: Value.ref (a 17) :: Value.ref (a 18) :: Value.ref (a 19) :: Value.int 0 :: Value.int 0 :: Value.int 1 :: Value.ref (a 20) :: Value.int 0 :: []))), ((a 7), .inl (cI, 1200, .inl f_12))] H := hP
  have hD : va_D A [(h0, .inr (12, (Value.int 0 :: Value.int 0 :: Value.ref (a 0) :: Value.int 0 :: Value.int 0 :: Value.ref (a 1) :: Value.ref (a 2) :: Value.int 0 :: Value.ref (a 3) :: Value.ref (a 4) :: Value.int 0 :: Value.ref (a 5) :: Value.ref (a 6) :: Value.ref (a 7) :: Value.int 8 :: Value.ref (a 8) :: Value.int 0 :: Value.int (-1) :: Value.int 0 :: Value.int 0 :: Value.int 0 :: Value.int 0 :: Value.int (-1) :: Value.ref (a 9) :: Value.ref (a 10) :: Value.ref (a 11) :: Value.int 0 :: Value.ref (a 12) :: Value.ref (a 13) :: Value.ref (a 14) :: Value.ref (a 15) :: Value.int 0 :: Value.int 0 :: Value.int 0 :: Value.int 0 :: Value.int 0 :: Value.int 0 :: Value.int 0 :: Value.int 0 :: Value.ref (a 16) :: Value.ref (a 17) :: Value.ref (a 18) :: Value.ref (a 19) :: Value.int 0 :: Value.int 0 :: Value.int 1 :: Value.ref (a 20) :: Value.int 0 :: []))), ((a 7), .inl (cI, 1200, .inl f_12))] := hD
  have hP9 := hP.sub (ws' := [(h0, .inr (12, (Value.int 0 :: Value.int 0 :: Value.ref (a 0) :: Value.int 0 :: Value.int 0 :: Value.ref (a 1) :: Value.ref (a 2) :: Value.int 0 :: Value.ref (a 3) :: Value.ref (a 4) :: Value.int 0 :: Value.ref (a 5) :: Value.ref (a 6) :: Value.ref (a 7) :: Value.int 8 :: Value.ref (a 8) :: Value.int 0 :: Value.int (-1) :: Value.int 0 :: Value.int 0 :: Value.int 0 :: Value.int 0 :: Value.int (-1) :: Value.ref (a 9) :: Value.ref (a 10) :: Value.ref (a 11) :: Value.int 0 :: Value.ref (a 12) :: Value.ref (a 13) :: Value.ref (a 14) :: Value.ref (a 15) :: Value.int 0 :: Value.int 0 :: Value.int 0 :: Value.int 0 :: Value.int 0 :: Value.int 0 :: Value.int 0 :: Value.int 0 :: Value.ref (a 16) :: Value.ref (a 17) :: Value.ref (a 18) :: Value.ref (a 19) :: Value.int 0 :: Value.int 0 :: Value.int 1 :: Value.ref (a 20) :: Value.int 0 :: []))), ((a 7), .inl (cI, 1200, .inl f_12))]) [0, 1] rfl
  have hD9 := hD.sub (ws' := [(h0, .inr (12, (Value.int 0 :: Value.int 0 :: Value.ref (a 0) :: Value.int 0 :: Value.int 0 :: Value.ref (a 1) :: Value.ref (a 2) :: Value.int 0 :: Value.ref (a 3) :: Value.ref (a 4) :: Value.int 0 :: Value.ref (a 5) :: Value.ref (a 6) :: Value.ref (a 7) :: Value.int 8 :: Value.ref (a 8) :: Value.int 0 :: Value.int (-1) :: Value.int 0 :: Value.int 0 :: Value.int 0 :: Value.int 0 :: Value.int (-1) :: Value.ref (a 9) :: Value.ref (a 10) :: Value.ref (a 11) :: Value.int 0 :: Value.ref (a 12) :: Value.ref (a 13) :: Value.ref (a 14) :: Value.ref (a 15) :: Value.int 0 :: Value.int 0 :: Value.int 0 :: Value.int 0 :: Value.int 0 :: Value.int 0 :: Value.int 0 :: Value.int 0 :: Value.ref (a 16) :: Value.ref (a 17) :: Value.ref (a 18) :: Value.ref (a 19) :: Value.int 0 :: Value.int 0 :: Value.int 1 :: Value.ref (a 20) :: Value.int 0 :: []))), ((a 7), .inl (cI, 1200, .inl f_12))]) [0, 1] (by decide) rfl
  exact W.vret hx hb hr (fun t ht _ => ⟨rfl, ⟨(fun k => [].getD k 0, fun k => [f_12].getD k zI), by rw [ht]; exact hP9, hD9⟩, hS.F ht⟩) hS.2.2 dX12_lays_47
set_option maxHeartbeats 4000000 in
set_option maxRecDepth 100000 in
theorem kX12_lays_2 (l : Launch) (D : va_G) (cI : ClassId) (h0 : Nat) (a : Nat → Nat) (p0 : Int32) (g0 : Nat → Int32) (sz : Nat) : Met l yX12_lays (sw_ws yX12_lays cX12_lays 3 none) (rm_ 0 0 0 0) (p_M D vwCl [(cI, .int)] [.ref h0, .int p0] [(h0, .inr (12, (Value.int 0 :: Value.int 0 :: Value.ref (a 0) :: Value.int 0 :: Value.int 0 :: Value.ref (a 1) :: Value.ref (a 2) :: Value.int 0 :: Value.ref (a 3) :: Value.ref (a 4) :: Value.int 0 :: Value.ref (a 5) :: Value.ref (a 6) :: Value.ref (a 7) :: Value.int 8 :: Value.ref (a 8) :: Value.int 0 :: Value.int (-1) :: Value.int 0 :: Value.int 0 :: Value.int 0 :: Value.int 0 :: Value.int (-1) :: Value.ref (a 9) :: Value.ref (a 10) :: Value.ref (a 11) :: Value.int 0 :: Value.ref (a 12) :: Value.ref (a 13) :: Value.ref (a 14) :: Value.ref (a 15) :: Value.int 0 :: Value.int 0 :: Value.int 0 :: Value.int 0 :: Value.int 0 :: Value.int 0 :: Value.int 0 :: Value.int 0 :: Value.ref (a 16) :: Value.ref (a 17) :: Value.ref (a 18) :: Value.ref (a 19) :: Value.int 0 :: Value.int 0 :: Value.int 1 :: Value.ref (a 20) :: Value.int 0 :: []))), ((a 7), .inl (cI, 1200, .inl g0))] sz) (q_M D vwCl none (fun u => [(h0, .inr (12, (Value.int 0 :: Value.int 0 :: Value.ref (a 0) :: Value.int 0 :: Value.int 0 :: Value.ref (a 1) :: Value.ref (a 2) :: Value.int 0 :: Value.ref (a 3) :: Value.ref (a 4) :: Value.int 0 :: Value.ref (a 5) :: Value.ref (a 6) :: Value.ref (a 7) :: Value.int 12 :: Value.ref (a 8) :: Value.int 0 :: Value.int (-1) :: Value.int 0 :: Value.int 0 :: Value.int 0 :: Value.int 0 :: Value.int (-1) :: Value.ref (a 9) :: Value.ref (a 10) :: Value.ref (a 11) :: Value.int 0 :: Value.ref (a 12) :: Value.ref (a 13) :: Value.ref (a 14) :: Value.ref (a 15) :: Value.int 0 :: Value.int 0 :: Value.int 0 :: Value.int 0 :: Value.int 0 :: Value.int 0 :: Value.int 0 :: Value.int 0 :: Value.ref (a 16) :: Value.ref (a 17) :: Value.ref (a 18) :: Value.ref (a 19) :: Value.int 0 :: Value.int 0 :: Value.int 1 :: Value.ref (a 20) :: Value.int 0 :: []))), ((a 7), .inl (cI, 1200, .inl (u.2 0)))]) (va_A [(h0, .inr (12, (Value.int 0 :: Value.int 0 :: Value.ref (a 0) :: Value.int 0 :: Value.int 0 :: Value.ref (a 1) :: Value.ref (a 2) :: Value.int 0 :: Value.ref (a 3) :: Value.ref (a 4) :: Value.int 0 :: Value.ref (a 5) :: Value.ref (a 6) :: Value.ref (a 7) :: Value.int 8 :: Value.ref (a 8) :: Value.int 0 :: Value.int (-1) :: Value.int 0 :: Value.int 0 :: Value.int 0 :: Value.int 0 :: Value.int (-1) :: Value.ref (a 9) :: Value.ref (a 10) :: Value.ref (a 11) :: Value.int 0 :: Value.ref (a 12) :: Value.ref (a 13) :: Value.ref (a 14) :: Value.ref (a 15) :: Value.int 0 :: Value.int 0 :: Value.int 0 :: Value.int 0 :: Value.int 0 :: Value.int 0 :: Value.int 0 :: Value.int 0 :: Value.ref (a 16) :: Value.ref (a 17) :: Value.ref (a 18) :: Value.ref (a 19) :: Value.int 0 :: Value.int 0 :: Value.int 1 :: Value.ref (a 20) :: Value.int 0 :: []))), ((a 7), .inl (cI, 1200, .inl g0))] sz)) 0 0 (va_A [(h0, .inr (12, (Value.int 0 :: Value.int 0 :: Value.ref (a 0) :: Value.int 0 :: Value.int 0 :: Value.ref (a 1) :: Value.ref (a 2) :: Value.int 0 :: Value.ref (a 3) :: Value.ref (a 4) :: Value.int 0 :: Value.ref (a 5) :: Value.ref (a 6) :: Value.ref (a 7) :: Value.int 8 :: Value.ref (a 8) :: Value.int 0 :: Value.int (-1) :: Value.int 0 :: Value.int 0 :: Value.int 0 :: Value.int 0 :: Value.int (-1) :: Value.ref (a 9) :: Value.ref (a 10) :: Value.ref (a 11) :: Value.int 0 :: Value.ref (a 12) :: Value.ref (a 13) :: Value.ref (a 14) :: Value.ref (a 15) :: Value.int 0 :: Value.int 0 :: Value.int 0 :: Value.int 0 :: Value.int 0 :: Value.int 0 :: Value.int 0 :: Value.int 0 :: Value.ref (a 16) :: Value.ref (a 17) :: Value.ref (a 18) :: Value.ref (a 19) :: Value.int 0 :: Value.int 0 :: Value.int 1 :: Value.ref (a 20) :: Value.int 0 :: []))), ((a 7), .inl (cI, 1200, .inl g0))] sz) := by
  refine Met.ofW (cc := cX12_lays) (maxL := 3) (ret := none) (by decide) rfl ?_
  intro p e s m args below meth c s₁ B hml hv
  obtain ⟨rfl, hsz, hP, hK, hD0⟩ := hv
  have hx := B.exec
  have hb := B.bytes
  have hr := B.returns
  have hT := sw_in (atoms_spec (ws := sw_ws yX12_lays cX12_lays 3 none) B.pre)
  have hown : s.vm.findClass RX12 = some m.cls := findClass_of_methodNamed B.named
  have hlocks := B.notSynchronized
  subst hsz
  have hD := hD0.self (sz := s.heap.size)
  generalize hAe : va_A [(h0, .inr (12, (Value.int 0 :: Value.int 0 :: Value.ref (a 0) :: Value.int 0 :: Value.int 0 :: Value.ref (a 1) :: Value.ref (a 2) :: Value.int 0 :: Value.ref (a 3) :: Value.ref (a 4) :: Value.int 0 :: Value.ref (a 5) :: Value.ref (a 6) :: Value.ref (a 7) :: Value.int 8 :: Value.ref (a 8) :: Value.int 0 :: Value.int (-1) :: Value.int 0 :: Value.int 0 :: Value.int 0 :: Value.int 0 :: Value.int (-1) :: Value.ref (a 9) :: Value.ref (a 10) :: Value.ref (a 11) :: Value.int 0 :: Value.ref (a 12) :: Value.ref (a 13) :: Value.ref (a 14) :: Value.ref (a 15) :: Value.int 0 :: Value.int 0 :: Value.int 0 :: Value.int 0 :: Value.int 0 :: Value.int 0 :: Value.int 0 :: Value.int 0 :: Value.ref (a 16) :: Value.ref (a 17) :: Value.ref (a 18) :: Value.ref (a 19) :: Value.int 0 :: Value.int 0 :: Value.int 1 :: Value.ref (a 20) :: Value.int 0 :: []))), ((a 7), .inl (cI, 1200, .inl g0))] s.heap.size = A at hD ⊢
  have hA : ∀ q : Nat, s.heap.size ≤ q → A q := fun q h => by rw [← hAe]; exact Or.inr h
  have hS : va_S A s.heap s.heap [] := va_S.rf
  have hl := lv_entry ([.ref h0, .int p0]) (n := 3) (Nat.le_of_ble_eq_true rfl)
  rw [lg_entry_eq]
  generalize (lg_sl ([.ref h0, .int p0]) ++ List.replicate (3 - (lg_sl ([.ref h0, .int p0])).length) Slot.unset).toArray = ls at hl ⊢
  have hl : lv_has ls 3 [(0, .ref h0), (1, .int p0)] := hl
  refine lv_iconst (v := 0) hx hb dX12_lays_0 (by decide) ?_
  refine lv_istore_n (lv' := [(2, .int 0), (0, .ref h0), (1, .int p0)]) hx hb dX12_lays_1 rfl hl (by decide) rfl (fun ls hl => ?_)
  refine lv_iload_n hx hb dX12_lays_2 rfl (lv_at hl 0 rfl) ?_
  refine lv_iconst (v := 4) hx hb dX12_lays_3 (by decide) ?_
  refine lv_icmp_ge (tgt := 37) hx hb dX12_lays_4 (by decide) (fun h9 => absurd h9 (by decide)) (fun _ => ?_)
  refine lv_aload_n hx hb dX12_lays_7 rfl (lv_at hl 1 rfl) ?_
  refine va_get (D := D) (ci := 12) (v := .ref (a 7)) (C := RX12) (T := TX12) (N := 48) hx hb hT ix_12 hown hK hP 0 rfl rfl 13 (by decide) (hT _ sw_1301) (fun _ h9 => h9) rfl dX12_lays_8 ?_
  refine lv_aload_n hx hb dX12_lays_11 rfl (lv_at hl 1 rfl) ?_
  refine va_get (D := D) (ci := 12) (v := .int 8) (C := RX12) (T := TX12) (N := 48) hx hb hT ix_12 hown hK hP 0 rfl rfl 14 (by decide) (hT _ sw_1302) (fun _ h9 => h9) rfl dX12_lays_12 ?_
  refine lv_iload_n hx hb dX12_lays_15 rfl (lv_at hl 0 rfl) ?_
  refine lv_iadd hx hb dX12_lays_16 ?_
  refine ct_i (z := 8) (by decide) ?_
  refine lv_iload_n hx hb dX12_lays_17 rfl (lv_at hl 2 rfl) ?_
  refine lv_bipush (v := 24) hx hb dX12_lays_18 (by decide) ?_
  refine lv_bipush (v := 8) hx hb dX12_lays_20 (by decide) ?_
  refine lv_iload_n hx hb dX12_lays_22 rfl (lv_at hl 0 rfl) ?_
  refine lv_imul hx hb dX12_lays_23 ?_
  refine ct_i (z := 0) (by decide) ?_
  refine lv_isub hx hb dX12_lays_24 ?_
  refine ct_i (z := 24) (by decide) ?_
  refine lv_ishr hx hb dX12_lays_25 ?_
  refine lv_topi (fun v_1 _ => ?_)
  refine lv_sipush (v := 255) hx hb dX12_lays_26 (by decide) ?_
  refine lv_iand hx hb dX12_lays_29 ?_
  refine lv_topi (fun v_2 _ => ?_)
  refine va_iast hx hb hK hP hD hS 1 0 rfl rfl (vi_c (by decide +kernel)) dX12_lays_30 (fun H locs hP hD hS => ?_)
  obtain ⟨f_3, hP, hD⟩ : ∃ f_3 : Nat → Int32, va_P D vwCl [(h0, .inr (12, (Value.int 0 :: Value.int 0 :: Value.ref (a 0) :: Value.int 0 :: Value.int 0 :: Value.ref (a 1) :: Value.ref (a 2) :: Value.int 0 :: Value.ref (a 3) :: Value.ref (a 4) :: Value.int 0 :: Value.ref (a 5) :: Value.ref (a 6) :: Value.ref (a 7) :: Value.int 8 :: Value.ref (a 8) :: Value.int 0 :: Value.int (-1) :: Value.int 0 :: Value.int 0 :: Value.int 0 :: Value.int 0 :: Value.int (-1) :: Value.ref (a 9) :: Value.ref (a 10) :: Value.ref (a 11) :: Value.int 0 :: Value.ref (a 12) :: Value.ref (a 13) :: Value.ref (a 14) :: Value.ref (a 15) :: Value.int 0 :: Value.int 0 :: Value.int 0 :: Value.int 0 :: Value.int 0 :: Value.int 0 :: Value.int 0 :: Value.int 0 :: Value.ref (a 16) :: Value.ref (a 17) :: Value.ref (a 18) :: Value.ref (a 19) :: Value.int 0 :: Value.int 0 :: Value.int 1 :: Value.ref (a 20) :: Value.int 0 :: []))), ((a 7), .inl (cI, 1200, .inl f_3))] H ∧ va_D A [(h0, .inr (12, (Value.int 0 :: Value.int 0 :: Value.ref (a 0) :: Value.int 0 :: Value.int 0 :: Value.ref (a 1) :: Value.ref (a 2) :: Value.int 0 :: Value.ref (a 3) :: Value.ref (a 4) :: Value.int 0 :: Value.ref (a 5) :: Value.ref (a 6) :: Value.ref (a 7) :: Value.int 8 :: Value.ref (a 8) :: Value.int 0 :: Value.int (-1) :: Value.int 0 :: Value.int 0 :: Value.int 0 :: Value.int 0 :: Value.int (-1) :: Value.ref (a 9) :: Value.ref (a 10) :: Value.ref (a 11) :: Value.int 0 :: Value.ref (a 12) :: Value.ref (a 13) :: Value.ref (a 14) :: Value.ref (a 15) :: Value.int 0 :: Value.int 0 :: Value.int 0 :: Value.int 0 :: Value.int 0 :: Value.int 0 :: Value.int 0 :: Value.int 0 :: Value.ref (a 16) :: Value.ref (a 17) :: Value.ref (a 18) :: Value.ref (a 19) :: Value.int 0 :: Value.int 0 :: Value.int 1 :: Value.ref (a 20) :: Value.int 0 :: []))), ((a 7), .inl (cI, 1200, .inl f_3))] := ⟨upd g0 (8 : Int32).toNatClampNeg v_2, hP, hD⟩
  refine lv_iinc (v := 1) (lv' := [(2, .int 1), (0, .ref h0), (1, .int p0)]) hx hb dX12_lays_31 hl (k := 0) rfl (by decide) (by decide) rfl (fun ls hl => ?_)
  refine lv_goto (tgt := 2) hx hb dX12_lays_34 (by decide) ?_
  refine lv_iload_n hx hb dX12_lays_2 rfl (lv_at hl 0 rfl) ?_
  refine lv_iconst (v := 4) hx hb dX12_lays_3 (by decide) ?_
  refine lv_icmp_ge (tgt := 37) hx hb dX12_lays_4 (by decide) (fun h9 => absurd h9 (by decide)) (fun _ => ?_)
  refine lv_aload_n hx hb dX12_lays_7 rfl (lv_at hl 1 rfl) ?_
  refine va_get (D := D) (ci := 12) (v := .ref (a 7)) (C := RX12) (T := TX12) (N := 48) hx hb hT ix_12 hown hK hP 0 rfl rfl 13 (by decide) (hT _ sw_1301) (fun _ h9 => h9) rfl dX12_lays_8 ?_
  refine lv_aload_n hx hb dX12_lays_11 rfl (lv_at hl 1 rfl) ?_
  refine va_get (D := D) (ci := 12) (v := .int 8) (C := RX12) (T := TX12) (N := 48) hx hb hT ix_12 hown hK hP 0 rfl rfl 14 (by decide) (hT _ sw_1302) (fun _ h9 => h9) rfl dX12_lays_12 ?_
  refine lv_iload_n hx hb dX12_lays_15 rfl (lv_at hl 0 rfl) ?_
  refine lv_iadd hx hb dX12_lays_16 ?_
  refine ct_i (z := 9) (by decide) ?_
  refine lv_iload_n hx hb dX12_lays_17 rfl (lv_at hl 2 rfl) ?_
  refine lv_bipush (v := 24) hx hb dX12_lays_18 (by decide) ?_
  refine lv_bipush (v := 8) hx hb dX12_lays_20 (by decide) ?_
  refine lv_iload_n hx hb dX12_lays_22 rfl (lv_at hl 0 rfl) ?_
  refine lv_imul hx hb dX12_lays_23 ?_
  refine ct_i (z := 8) (by decide) ?_
  refine lv_isub hx hb dX12_lays_24 ?_
  refine ct_i (z := 16) (by decide) ?_
  refine lv_ishr hx hb dX12_lays_25 ?_
  refine lv_topi (fun v_4 _ => ?_)
  refine lv_sipush (v := 255) hx hb dX12_lays_26 (by decide) ?_
  refine lv_iand hx hb dX12_lays_29 ?_
  refine lv_topi (fun v_5 _ => ?_)
  refine va_iast hx hb hK hP hD hS 1 0 rfl rfl (vi_c (by decide +kernel)) dX12_lays_30 (fun H locs hP hD hS => ?_)
  obtain ⟨f_6, hP, hD⟩ : ∃ f_6 : Nat → Int32, va_P D vwCl [(h0, .inr (12, (Value.int 0 :: Value.int 0 :: Value.ref (a 0) :: Value.int 0 :: Value.int 0 :: Value.ref (a 1) :: Value.ref (a 2) :: Value.int 0 :: Value.ref (a 3) :: Value.ref (a 4) :: Value.int 0 :: Value.ref (a 5) :: Value.ref (a 6) :: Value.ref (a 7) :: Value.int 8 :: Value.ref (a 8) :: Value.int 0 :: Value.int (-1) :: Value.int 0 :: Value.int 0 :: Value.int 0 :: Value.int 0 :: Value.int (-1) :: Value.ref (a 9) :: Value.ref (a 10) :: Value.ref (a 11) :: Value.int 0 :: Value.ref (a 12) :: Value.ref (a 13) :: Value.ref (a 14) :: Value.ref (a 15) :: Value.int 0 :: Value.int 0 :: Value.int 0 :: Value.int 0 :: Value.int 0 :: Value.int 0 :: Value.int 0 :: Value.int 0 :: Value.ref (a 16) :: Value.ref (a 17) :: Value.ref (a 18) :: Value.ref (a 19) :: Value.int 0 :: Value.int 0 :: Value.int 1 :: Value.ref (a 20) :: Value.int 0 :: []))), ((a 7), .inl (cI, 1200, .inl f_6))] H ∧ va_D A [(h0, .inr (12, (Value.int 0 :: Value.int 0 :: Value.ref (a 0) :: Value.int 0 :: Value.int 0 :: Value.ref (a 1) :: Value.ref (a 2) :: Value.int 0 :: Value.ref (a 3) :: Value.ref (a 4) :: Value.int 0 :: Value.ref (a 5) :: Value.ref (a 6) :: Value.ref (a 7) :: Value.int 8 :: Value.ref (a 8) :: Value.int 0 :: Value.int (-1) :: Value.int 0 :: Value.int 0 :: Value.int 0 :: Value.int 0 :: Value.int (-1) :: Value.ref (a 9) :: Value.ref (a 10) :: Value.ref (a 11) :: Value.int 0 :: Value.ref (a 12) :: Value.ref (a 13) :: Value.ref (a 14) :: Value.ref (a 15) :: Value.int 0 :: Value.int 0 :: Value.int 0 :: Value.int 0 :: Value.int 0 :: Value.int 0 :: Value.int 0 :: Value.int 0 :: Value.ref (a 16) :: Value.ref (a 17) :: Value.ref (a 18) :: Value.ref (a 19) :: Value.int 0 :: Value.int 0 :: Value.int 1 :: Value.ref (a 20) :: Value.int 0 :: []))), ((a 7), .inl (cI, 1200, .inl f_6))] := ⟨upd f_3 (9 : Int32).toNatClampNeg v_5, hP, hD⟩
  refine lv_iinc (v := 2) (lv' := [(2, .int 2), (0, .ref h0), (1, .int p0)]) hx hb dX12_lays_31 hl (k := 0) rfl (by decide) (by decide) rfl (fun ls hl => ?_)
  refine lv_goto (tgt := 2) hx hb dX12_lays_34 (by decide) ?_
  refine lv_iload_n hx hb dX12_lays_2 rfl (lv_at hl 0 rfl) ?_
  refine lv_iconst (v := 4) hx hb dX12_lays_3 (by decide) ?_
  refine lv_icmp_ge (tgt := 37) hx hb dX12_lays_4 (by decide) (fun h9 => absurd h9 (by decide)) (fun _ => ?_)
  refine lv_aload_n hx hb dX12_lays_7 rfl (lv_at hl 1 rfl) ?_
  refine va_get (D := D) (ci := 12) (v := .ref (a 7)) (C := RX12) (T := TX12) (N := 48) hx hb hT ix_12 hown hK hP 0 rfl rfl 13 (by decide) (hT _ sw_1301) (fun _ h9 => h9) rfl dX12_lays_8 ?_
  refine lv_aload_n hx hb dX12_lays_11 rfl (lv_at hl 1 rfl) ?_
  refine va_get (D := D) (ci := 12) (v := .int 8) (C := RX12) (T := TX12) (N := 48) hx hb hT ix_12 hown hK hP 0 rfl rfl 14 (by decide) (hT _ sw_1302) (fun _ h9 => h9) rfl dX12_lays_12 ?_
  refine lv_iload_n hx hb dX12_lays_15 rfl (lv_at hl 0 rfl) ?_
  refine lv_iadd hx hb dX12_lays_16 ?_
  refine ct_i (z := 10) (by decide) ?_
  refine lv_iload_n hx hb dX12_lays_17 rfl (lv_at hl 2 rfl) ?_
  refine lv_bipush (v := 24) hx hb dX12_lays_18 (by decide) ?_
  refine lv_bipush (v := 8) hx hb dX12_lays_20 (by decide) ?_
  refine lv_iload_n hx hb dX12_lays_22 rfl (lv_at hl 0 rfl) ?_
  refine lv_imul hx hb dX12_lays_23 ?_
  refine ct_i (z := 16) (by decide) ?_
  refine lv_isub hx hb dX12_lays_24 ?_
  refine ct_i (z := 8) (by decide) ?_
  refine lv_ishr hx hb dX12_lays_25 ?_
  refine lv_topi (fun v_7 _ => ?_)
  refine lv_sipush (v := 255) hx hb dX12_lays_26 (by decide) ?_
  refine lv_iand hx hb dX12_lays_29 ?_
  refine lv_topi (fun v_8 _ => ?_)
  refine va_iast hx hb hK hP hD hS 1 0 rfl rfl (vi_c (by decide +kernel)) dX12_lays_30 (fun H locs hP hD hS => ?_)
  obtain ⟨f_9, hP, hD⟩ : ∃ f_9 : Nat → Int32, va_P D vwCl [(h0, .inr (12, (Value.int 0 :: Value.int 0 :: Value.ref (a 0) :: Value.int 0 :: Value.int 0 :: Value.ref (a 1) :: Value.ref (a 2) :: Value.int 0 :: Value.ref (a 3) :: Value.ref (a 4) :: Value.int 0 :: Value.ref (a 5) :: Value.ref (a 6) :: Value.ref (a 7) :: Value.int 8 :: Value.ref (a 8) :: Value.int 0 :: Value.int (-1) :: Value.int 0 :: Value.int 0 :: Value.int 0 :: Value.int 0 :: Value.int (-1) :: Value.ref (a 9) :: Value.ref (a 10) :: Value.ref (a 11) :: Value.int 0 :: Value.ref (a 12) :: Value.ref (a 13) :: Value.ref (a 14) :: Value.ref (a 15) :: Value.int 0 :: Value.int 0 :: Value.int 0 :: Value.int 0 :: Value.int 0 :: Value.int 0 :: Value.int 0 :: Value.int 0 :: Value.ref (a 16) :: Value.ref (a 17) :: Value.ref (a 18) :: Value.ref (a 19) :: Value.int 0 :: Value.int 0 :: Value.int 1 :: Value.ref (a 20) :: Value.int 0 :: []))), ((a 7), .inl (cI, 1200, .inl f_9))] H ∧ va_D A [(h0, .inr (12, (Value.int 0 :: Value.int 0 :: Value.ref (a 0) :: Value.int 0 :: Value.int 0 :: Value.ref (a 1) :: Value.ref (a 2) :: Value.int 0 :: Value.ref (a 3) :: Value.ref (a 4) :: Value.int 0 :: Value.ref (a 5) :: Value.ref (a 6) :: Value.ref (a 7) :: Value.int 8 :: Value.ref (a 8) :: Value.int 0 :: Value.int (-1) :: Value.int 0 :: Value.int 0 :: Value.int 0 :: Value.int 0 :: Value.int (-1) :: Value.ref (a 9) :: Value.ref (a 10) :: Value.ref (a 11) :: Value.int 0 :: Value.ref (a 12) :: Value.ref (a 13) :: Value.ref (a 14) :: Value.ref (a 15) :: Value.int 0 :: Value.int 0 :: Value.int 0 :: Value.int 0 :: Value.int 0 :: Value.int 0 :: Value.int 0 :: Value.int 0 :: Value.ref (a 16) :: Value.ref (a 17) :: Value.ref (a 18) :: Value.ref (a 19) :: Value.int 0 :: Value.int 0 :: Value.int 1 :: Value.ref (a 20) :: Value.int 0 :: []))), ((a 7), .inl (cI, 1200, .inl f_9))] := ⟨upd f_6 (10 : Int32).toNatClampNeg v_8, hP, hD⟩
  refine lv_iinc (v := 3) (lv' := [(2, .int 3), (0, .ref h0), (1, .int p0)]) hx hb dX12_lays_31 hl (k := 0) rfl (by decide) (by decide) rfl (fun ls hl => ?_)
  refine lv_goto (tgt := 2) hx hb dX12_lays_34 (by decide) ?_
  refine lv_iload_n hx hb dX12_lays_2 rfl (lv_at hl 0 rfl) ?_
  refine lv_iconst (v := 4) hx hb dX12_lays_3 (by decide) ?_
  refine lv_icmp_ge (tgt := 37) hx hb dX12_lays_4 (by decide) (fun h9 => absurd h9 (by decide)) (fun _ => ?_)
  refine lv_aload_n hx hb dX12_lays_7 rfl (lv_at hl 1 rfl) ?_
  refine va_get (D := D) (ci := 12) (v := .ref (a 7)) (C := RX12) (T := TX12) (N := 48) hx hb hT ix_12 hown hK hP 0 rfl rfl 13 (by decide) (hT _ sw_1301) (fun _ h9 => h9) rfl dX12_lays_8 ?_
  refine lv_aload_n hx hb dX12_lays_11 rfl (lv_at hl 1 rfl) ?_
  refine va_get (D := D) (ci := 12) (v := .int 8) (C := RX12) (T := TX12) (N := 48) hx hb hT ix_12 hown hK hP 0 rfl rfl 14 (by decide) (hT _ sw_1302) (fun _ h9 => h9) rfl dX12_lays_12 ?_
  refine lv_iload_n hx hb dX12_lays_15 rfl (lv_at hl 0 rfl) ?_
  refine lv_iadd hx hb dX12_lays_16 ?_
  refine ct_i (z := 11) (by decide) ?_
  refine lv_iload_n hx hb dX12_lays_17 rfl (lv_at hl 2 rfl) ?_
  refine lv_bipush (v := 24) hx hb dX12_lays_18 (by decide) ?_
  refine lv_bipush (v := 8) hx hb dX12_lays_20 (by decide) ?_
  refine lv_iload_n hx hb dX12_lays_22 rfl (lv_at hl 0 rfl) ?_
  refine lv_imul hx hb dX12_lays_23 ?_
  refine ct_i (z := 24) (by decide) ?_
  refine lv_isub hx hb dX12_lays_24 ?_
  refine ct_i (z := 0) (by decide) ?_
  refine lv_ishr hx hb dX12_lays_25 ?_
  refine lv_topi (fun v_10 _ => ?_)
  refine lv_sipush (v := 255) hx hb dX12_lays_26 (by decide) ?_
  refine lv_iand hx hb dX12_lays_29 ?_
  refine lv_topi (fun v_11 _ => ?_)
  refine va_iast hx hb hK hP hD hS 1 0 rfl rfl (vi_c (by decide +kernel)) dX12_lays_30 (fun H locs hP hD hS => ?_)
  obtain ⟨f_12, hP, hD⟩ : ∃ f_12 : Nat → Int32, va_P D vwCl [(h0, .inr (12, (Value.int 0 :: Value.int 0 :: Value.ref (a 0) :: Value.int 0 :: Value.int 0 :: Value.ref (a 1) :: Value.ref (a 2) :: Value.int 0 :: Value.ref (a 3) :: Value.ref (a 4) :: Value.int 0 :: Value.ref (a 5) :: Value.ref (a 6) :: Value.ref (a 7) :: Value.int 8 :: Value.ref (a 8) :: Value.int 0 :: Value.int (-1) :: Value.int 0 :: Value.int 0 :: Value.int 0 :: Value.int 0 :: Value.int (-1) :: Value.ref (a 9) :: Value.ref (a 10) :: Value.ref (a 11) :: Value.int 0 :: Value.ref (a 12) :: Value.ref (a 13) :: Value.ref (a 14) :: Value.ref (a 15) :: Value.int 0 :: Value.int 0 :: Value.int 0 :: Value.int 0 :: Value.int 0 :: Value.int 0 :: Value.int 0 :: Value.int 0 :: Value.ref (a 16) :: Value.ref (a 17) :: Value.ref (a 18) :: Value.ref (a 19) :: Value.int 0 :: Value.int 0 :: Value.int 1 :: Value.ref (a 20) :: Value.int 0 :: []))), ((a 7), .inl (cI, 1200, .inl f_12))] H ∧ va_D A [(h0, .inr (12, (Value.int 0 :: Value.int 0 :: Value.ref (a 0) :: Value.int 0 :: Value.int 0 :: Value.ref (a 1) :: Value.ref (a 2) :: Value.int 0 :: Value.ref (a 3) :: Value.ref (a 4) :: Value.int 0 :: Value.ref (a 5) :: Value.ref (a 6) :: Value.ref (a 7) :: Value.int 8 :: Value.ref (a 8) :: Value.int 0 :: Value.int (-1) :: Value.int 0 :: Value.int 0 :: Value.int 0 :: Value.int 0 :: Value.int (-1) :: Value.ref (a 9) :: Value.ref (a 10) :: Value.ref (a 11) :: Value.int 0 :: Value.ref (a 12) :: Value.ref (a 13) :: Value.ref (a 14) :: Value.ref (a 15) :: Value.int 0 :: Value.int 0 :: Value.int 0 :: Value.int 0 :: Value.int 0 :: Value.int 0 :: Value.int 0 :: Value.int 0 :: Value.ref (a 16) :: Value.ref (a 17) :: Value.ref (a 18) :: Value.ref (a 19) :: Value.int 0 :: Value.int 0 :: Value.int 1 :: Value.ref (a 20) :: Value.int 0 :: []))), ((a 7), .inl (cI, 1200, .inl f_12))] := ⟨upd f_9 (11 : Int32).toNatClampNeg v_11, hP, hD⟩
  refine lv_iinc (v := 4) (lv' := [(2, .int 4), (0, .ref h0), (1, .int p0)]) hx hb dX12_lays_31 hl (k := 0) rfl (by decide) (by decide) rfl (fun ls hl => ?_)
  refine lv_goto (tgt := 2) hx hb dX12_lays_34 (by decide) ?_
  refine lv_iload_n hx hb dX12_lays_2 rfl (lv_at hl 0 rfl) ?_
  refine lv_iconst (v := 4) hx hb dX12_lays_3 (by decide) ?_
  refine lv_icmp_ge (tgt := 37) hx hb dX12_lays_4 (by decide) (fun _ => ?_) (fun h9 => absurd (by decide) h9)
  refine lv_aload_n hx hb dX12_lays_37 rfl (lv_at hl 1 rfl) ?_
  refine lv_dup hx hb dX12_lays_38 rfl ?_
  refine va_get (D := D) (ci := 12) (v := .int 8) (C := RX12) (T := TX12) (N := 48) hx hb hT ix_12 hown hK hP 0 rfl rfl 14 (by decide) (hT _ sw_1302) (fun _ h9 => h9) rfl dX12_lays_39 ?_
  refine lv_iconst (v := 4) hx hb dX12_lays_42 (by decide) ?_
  refine lv_iadd hx hb dX12_lays_43 ?_
  refine ct_i (z := 12) (by decide) ?_
  refine va_put (D := D) (ci := 12) (v := .int 12) (ty := .int) (C := RX12) (T := TX12) (N := 48) hx hb hT ix_12 tyX12 tyX12_ok nmX12 hown hK hP hD hS 0 rfl rfl 14 (by decide) (hT _ sw_1302) (fun _ h9 => h9) rfl (by decide +kernel) rfl rfl (Nat.le_of_ble_eq_true rfl) dX12_lays_44 (fun H locs hP hD hS => ?_)
  have hP : va_P D vwCl [(h0, .inr (12, (Value.int 0 :: Value.int 0 :: Value.ref (a 0) :: Value.int 0 :: Value.int 0 :: Value.ref (a 1) :: Value.ref (a 2) :: Value.int 0 :: Value.ref (a 3) :: Value.ref (a 4) :: Value.int 0 :: Value.ref (a 5) :: Value.ref (a 6) :: Value.ref (a 7) :: Value.int 12 :: Value.ref (a 8) :: Value.int 0 :: Value.int (-1) :: Value.int 0 :: Value.int 0 :: Value.int 0 :: Value.int 0 :: Value.int (-1) :: Value.ref (a 9) :: Value.ref (a 10) :: Value.ref (a 11) :: Value.int 0 :: Value.ref (a 12) :: Value.ref (a 13) :: Value.ref (a 14) :: Value.ref (a 15) :: Value.int 0 :: Value.int 0 :: Value.int 0 :: Value.int 0 :: Value.int 0 :: Value.int 0 :: Value.int 0 :: Value.int 0 :: Value.ref (a 16) :: Value.ref (a 17) :: Value.ref (a 18) :: Value.ref (a 19) :: Value.int 0 :: Value.int 0 :: Value.int 1 :: Value.ref (a 20) :: Value.int 0 :: []))), ((a 7), .inl (cI, 1200, .inl f_12))] H := hP
  have hD : va_D A [(h0, .inr (12, (Value.int 0 :: Value.int 0 :: Value.ref (a 0) :: Value.int 0 :: Value.int 0 :: Value.ref (a 1) :: Value.ref (a 2) :: Value.int 0 :: Value.ref (a 3) :: Value.ref (a 4) :: Value.int 0 :: Value.ref (a 5) :: Value.ref (a 6) :: Value.ref (a 7) :: Value.int 12 :: Value.ref (a 8) :: Value.int 0 :: Value.int (-1) :: Value.int 0 :: Value.int 0 :: Value.int 0 :: Value.int 0 :: Value.int (-1) :: Value.ref (a 9) :: Value.ref (a 10) :: Value.ref (a 11) :: Value.int 0 :: Value.ref (a 12) :: Value.ref (a 13) :: Value.ref (a 14) :: Value.ref (a 15) :: Value.int 0 :: Value.int 0 :: Value.int 0 :: Value.int 0 :: Value.int 0 :: Value.int 0 :: Value.int 0 :: Value.int 0 :: Value.ref (a 16) :: Value.ref (a 17) :: Value.ref (a 18) :: Value.ref (a 19) :: Value.int 0 :: Value.int 0 :: Value.int 1 :: Value.ref (a 20) :: Value.int 0 :: []))), ((a 7), .inl (cI, 1200, .inl f_12))] := hD
  have hP9 := hP.sub (ws' := [(h0, .inr (12, (Value.int 0 :: Value.int 0 :: Value.ref (a 0) :: Value.int 0 :: Value.int 0 :: Value.ref (a 1) :: Value.ref (a 2) :: Value.int 0 :: Value.ref (a 3) :: Value.ref (a 4) :: Value.int 0 :: Value.ref (a 5) :: Value.ref (a 6) :: Value.ref (a 7) :: Value.int 12 :: Value.ref (a 8) :: Value.int 0 :: Value.int (-1) :: Value.int 0 :: Value.int 0 :: Value.int 0 :: Value.int 0 :: Value.int (-1) :: Value.ref (a 9) :: Value.ref (a 10) :: Value.ref (a 11) :: Value.int 0 :: Value.ref (a 12) :: Value.ref (a 13) :: Value.ref (a 14) :: Value.ref (a 15) :: Value.int 0 :: Value.int 0 :: Value.int 0 :: Value.int 0 :: Value.int 0 :: Value.int 0 :: Value.int 0 :: Value.int 0 :: Value.ref (a 16) :: Value.ref (a 17) :: Value.ref (a 18) :: Value.ref (a 19) :: Value.int 0 :: Value.int 0 :: Value.int 1 :: Value.ref (a 20) :: Value.int 0 :: []))), ((a 7), .inl (cI, 1200, .inl f_12))]) [0, 1] rfl
  have hD9 := hD.sub (ws' := [(h0, .inr (12, (Value.int 0 :: Value.int 0 :: Value.ref (a 0) :: Value.int 0 :: Value.int 0 :: Value.ref (a 1) :: Value.ref (a 2) :: Value.int 0 :: Value.ref (a 3) :: Value.ref (a 4) :: Value.int 0 :: Value.ref (a 5) :: Value.ref (a 6) :: Value.ref (a 7) :: Value.int 12 :: Value.ref (a 8) :: Value.int 0 :: Value.int (-1) :: Value.int 0 :: Value.int 0 :: Value.int 0 :: Value.int 0 :: Value.int (-1) :: Value.ref (a 9) :: Value.ref (a 10) :: Value.ref (a 11) :: Value.int 0 :: Value.ref (a 12) :: Value.ref (a 13) :: Value.ref (a 14) :: Value.ref (a 15) :: Value.int 0 :: Value.int 0 :: Value.int 0 :: Value.int 0 :: Value.int 0 :: Value.int 0 :: Value.int 0 :: Value.int 0 :: Value.ref (a 16) :: Value.ref (a 17) :: Value.ref (a 18) :: Value.ref (a 19) :: Value.int 0 :: Value.int 0 :: Value.int 1 :: Value.ref (a 20) :: Value.int 0 :: []))), ((a 7), .inl (cI, 1200, .inl f_12))]) [0, 1] (by decide) rfl
  exact W.vret hx hb hr (fun t ht _ => ⟨rfl, ⟨(fun k => [].getD k 0, fun k => [f_12].getD k zI), by rw [ht]; exact hP9, hD9⟩, hS.F ht⟩) hS.2.2 dX12_lays_47
set_option maxHeartbeats 4000000 in
set_option maxRecDepth 100000 in
theorem kX12_lays_3 (l : Launch) (D : va_G) (cI : ClassId) (h0 : Nat) (a : Nat → Nat) (p0 : Int32) (g0 : Nat → Int32) (sz : Nat) : Met l yX12_lays (sw_ws yX12_lays cX12_lays 3 none) (rm_ 0 0 0 0) (p_M D vwCl [(cI, .int)] [.ref h0, .int p0] [(h0, .inr (12, (Value.int 0 :: Value.int 0 :: Value.ref (a 0) :: Value.int 0 :: Value.int 0 :: Value.ref (a 1) :: Value.ref (a 2) :: Value.int 0 :: Value.ref (a 3) :: Value.ref (a 4) :: Value.int 0 :: Value.ref (a 5) :: Value.ref (a 6) :: Value.ref (a 7) :: Value.int 12 :: Value.ref (a 8) :: Value.int 0 :: Value.int (-1) :: Value.int 0 :: Value.int 0 :: Value.int 0 :: Value.int 0 :: Value.int (-1) :: Value.ref (a 9) :: Value.ref (a 10) :: Value.ref (a 11) :: Value.int 0 :: Value.ref (a 12) :: Value.ref (a 13) :: Value.ref (a 14) :: Value.ref (a 15) :: Value.int 0 :: Value.int 0 :: Value.int 0 :: Value.int 0 :: Value.int 0 :: Value.int 0 :: Value.int 0 :: Value.int 0 :: Value.ref (a 16) :: Value.ref (a 17) :: Value.ref (a 18) :: Value.ref (a 19) :: Value.int 0 :: Value.int 0 :: Value.int 1 :: Value.ref (a 20) :: Value.int 0 :: []))), ((a 7), .inl (cI, 1200, .inl g0))] sz) (q_M D vwCl none (fun u => [(h0, .inr (12, (Value.int 0 :: Value.int 0 :: Value.ref (a 0) :: Value.int 0 :: Value.int 0 :: Value.ref (a 1) :: Value.ref (a 2) :: Value.int 0 :: Value.ref (a 3) :: Value.ref (a 4) :: Value.int 0 :: Value.ref (a 5) :: Value.ref (a 6) :: Value.ref (a 7) :: Value.int 16 :: Value.ref (a 8) :: Value.int 0 :: Value.int (-1) :: Value.int 0 :: Value.int 0 :: Value.int 0 :: Value.int 0 :: Value.int (-1) :: Value.ref (a 9) :: Value.ref (a 10) :: Value.ref (a 11) :: Value.int 0 :: Value.ref (a 12) :: Value.ref (a 13) :: Value.ref (a 14) :: Value.ref (a 15) :: Value.int 0 :: Value.int 0 :: Value.int 0 :: Value.int 0 :: Value.int 0 :: Value.int 0 :: Value.int 0 :: Value.int 0 :: Value.ref (a 16) :: Value.ref (a 17) :: Value.ref (a 18) :: Value.ref (a 19) :: Value.int 0 :: Value.int 0 :: Value.int 1 :: Value.ref (a 20) :: Value.int 0 :: []))), ((a 7), .inl (cI, 1200, .inl (u.2 0)))]) (va_A [(h0, .inr (12, (Value.int 0 :: Value.int 0 :: Value.ref (a 0) :: Value.int 0 :: Value.int 0 :: Value.ref (a 1) :: Value.ref (a 2) :: Value.int 0 :: Value.ref (a 3) :: Value.ref (a 4) :: Value.int 0 :: Value.ref (a 5) :: Value.ref (a 6) :: Value.ref (a 7) :: Value.int 12 :: Value.ref (a 8) :: Value.int 0 :: Value.int (-1) :: Value.int 0 :: Value.int 0 :: Value.int 0 :: Value.int 0 :: Value.int (-1) :: Value.ref (a 9) :: Value.ref (a 10) :: Value.ref (a 11) :: Value.int 0 :: Value.ref (a 12) :: Value.ref (a 13) :: Value.ref (a 14) :: Value.ref (a 15) :: Value.int 0 :: Value.int 0 :: Value.int 0 :: Value.int 0 :: Value.int 0 :: Value.int 0 :: Value.int 0 :: Value.int 0 :: Value.ref (a 16) :: Value.ref (a 17) :: Value.ref (a 18) :: Value.ref (a 19) :: Value.int 0 :: Value.int 0 :: Value.int 1 :: Value.ref (a 20) :: Value.int 0 :: []))), ((a 7), .inl (cI, 1200, .inl g0))] sz)) 0 0 (va_A [(h0, .inr (12, (Value.int 0 :: Value.int 0 :: Value.ref (a 0) :: Value.int 0 :: Value.int 0 :: Value.ref (a 1) :: Value.ref (a 2) :: Value.int 0 :: Value.ref (a 3) :: Value.ref (a 4) :: Value.int 0 :: Value.ref (a 5) :: Value.ref (a 6) :: Value.ref (a 7) :: Value.int 12 :: Value.ref (a 8) :: Value.int 0 :: Value.int (-1) :: Value.int 0 :: Value.int 0 :: Value.int 0 :: Value.int 0 :: Value.int (-1) :: Value.ref (a 9) :: Value.ref (a 10) :: Value.ref (a 11) :: Value.int 0 :: Value.ref (a 12) :: Value.ref (a 13) :: Value.ref (a 14) :: Value.ref (a 15) :: Value.int 0 :: Value.int 0 :: Value.int 0 :: Value.int 0 :: Value.int 0 :: Value.int 0 :: Value.int 0 :: Value.int 0 :: Value.ref (a 16) :: Value.ref (a 17) :: Value.ref (a 18) :: Value.ref (a 19) :: Value.int 0 :: Value.int 0 :: Value.int 1 :: Value.ref (a 20) :: Value.int 0 :: []))), ((a 7), .inl (cI, 1200, .inl g0))] sz) := by
  refine Met.ofW (cc := cX12_lays) (maxL := 3) (ret := none) (by decide) rfl ?_
  intro p e s m args below meth c s₁ B hml hv
  obtain ⟨rfl, hsz, hP, hK, hD0⟩ := hv
  have hx := B.exec
  have hb := B.bytes
  have hr := B.returns
  have hT := sw_in (atoms_spec (ws := sw_ws yX12_lays cX12_lays 3 none) B.pre)
  have hown : s.vm.findClass RX12 = some m.cls := findClass_of_methodNamed B.named
  have hlocks := B.notSynchronized
  subst hsz
  have hD := hD0.self (sz := s.heap.size)
  generalize hAe : va_A [(h0, .inr (12, (Value.int 0 :: Value.int 0 :: Value.ref (a 0) :: Value.int 0 :: Value.int 0 :: Value.ref (a 1) :: Value.ref (a 2) :: Value.int 0 :: Value.ref (a 3) :: Value.ref (a 4) :: Value.int 0 :: Value.ref (a 5) :: Value.ref (a 6) :: Value.ref (a 7) :: Value.int 12 :: Value.ref (a 8) :: Value.int 0 :: Value.int (-1) :: Value.int 0 :: Value.int 0 :: Value.int 0 :: Value.int 0 :: Value.int (-1) :: Value.ref (a 9) :: Value.ref (a 10) :: Value.ref (a 11) :: Value.int 0 :: Value.ref (a 12) :: Value.ref (a 13) :: Value.ref (a 14) :: Value.ref (a 15) :: Value.int 0 :: Value.int 0 :: Value.int 0 :: Value.int 0 :: Value.int 0 :: Value.int 0 :: Value.int 0 :: Value.int 0 :: Value.ref (a 16) :: Value.ref (a 17) :: Value.ref (a 18) :: Value.ref (a 19) :: Value.int 0 :: Value.int 0 :: Value.int 1 :: Value.ref (a 20) :: Value.int 0 :: []))), ((a 7), .inl (cI, 1200, .inl g0))] s.heap.size = A at hD ⊢
  have hA : ∀ q : Nat, s.heap.size ≤ q → A q := fun q h => by rw [← hAe]; exact Or.inr h
  have hS : va_S A s.heap s.heap [] := va_S.rf
  have hl := lv_entry ([.ref h0, .int p0]) (n := 3) (Nat.le_of_ble_eq_true rfl)
  rw [lg_entry_eq]
  generalize (lg_sl ([.ref h0, .int p0]) ++ List.replicate (3 - (lg_sl ([.ref h0, .int p0])).length) Slot.unset).toArray = ls at hl ⊢
  have hl : lv_has ls 3 [(0, .ref h0), (1, .int p0)] := hl
  refine lv_iconst (v := 0) hx hb dX12_lays_0 (by decide) ?_
  refine lv_istore_n (lv' := [(2, .int 0), (0, .ref h0), (1, .int p0)]) hx hb dX12_lays_1 rfl hl (by decide) rfl (fun ls hl => ?_)
  refine lv_iload_n hx hb dX12_lays_2 rfl (lv_at hl 0 rfl) ?_
  refine lv_iconst (v := 4) hx hb dX12_lays_3 (by decide) ?_
  refine lv_icmp_ge (tgt := 37) hx hb dX12_lays_4 (by decide) (fun h9 => absurd h9 (by decide)) (fun _ => ?_)
  refine lv_aload_n hx hb dX12_lays_7 rfl (lv_at hl 1 rfl) ?_
  refine va_get (D := D) (ci := 12) (v := .ref (a 7)) (C := RX12) (T := TX12) (N := 48) hx hb hT ix_12 hown hK hP 0 rfl rfl 13 (by decide) (hT _ sw_1301) (fun _ h9 => h9) rfl dX12_lays_8 ?_
  refine lv_aload_n hx hb dX12_lays_11 rfl (lv_at hl 1 rfl) ?_
  refine va_get (D := D) (ci := 12) (v := .int 12) (C := RX12) (T := TX12) (N := 48) hx hb hT ix_12 hown hK hP 0 rfl rfl 14 (by decide) (hT _ sw_1302) (fun _ h9 => h9) rfl dX12_lays_12 ?_
  refine lv_iload_n hx hb dX12_lays_15 rfl (lv_at hl 0 rfl) ?_
  refine lv_iadd hx hb dX12_lays_16 ?_
  refine ct_i (z := 12) (by decide) ?_
  refine lv_iload_n hx hb dX12_lays_17 rfl (lv_at hl 2 rfl) ?_
  refine lv_bipush (v := 24) hx hb dX12_lays_18 (by decide) ?_
  refine lv_bipush (v := 8) hx hb dX12_lays_20 (by decide) ?_
  refine lv_iload_n hx hb dX12_lays_22 rfl (lv_at hl 0 rfl) ?_
  refine lv_imul hx hb dX12_lays_23 ?_
  refine ct_i (z := 0) (by decide) ?_
  refine lv_isub hx hb dX12_lays_24 ?_
  refine ct_i (z := 24) (by decide) ?_
  refine lv_ishr hx hb dX12_lays_25 ?_
  refine lv_topi (fun v_1 _ => ?_)
  refine lv_sipush (v := 255) hx hb dX12_lays_26 (by decide) ?_
  refine lv_iand hx hb dX12_lays_29 ?_
  refine lv_topi (fun v_2 _ => ?_)
  refine va_iast hx hb hK hP hD hS 1 0 rfl rfl (vi_c (by decide +kernel)) dX12_lays_30 (fun H locs hP hD hS => ?_)
  obtain ⟨f_3, hP, hD⟩ : ∃ f_3 : Nat → Int32, va_P D vwCl [(h0, .inr (12, (Value.int 0 :: Value.int 0 :: Value.ref (a 0) :: Value.int 0 :: Value.int 0 :: Value.ref (a 1) :: Value.ref (a 2) :: Value.int 0 :: Value.ref (a 3) :: Value.ref (a 4) :: Value.int 0 :: Value.ref (a 5) :: Value.ref (a 6) :: Value.ref (a 7) :: Value.int 12 :: Value.ref (a 8) :: Value.int 0 :: Value.int (-1) :: Value.int 0 :: Value.int 0 :: Value.int 0 :: Value.int 0 :: Value.int (-1) :: Value.ref (a 9) :: Value.ref (a 10) :: Value.ref (a 11) :: Value.int 0 :: Value.ref (a 12) :: Value.ref (a 13) :: Value.ref (a 14) :: Value.ref (a 15) :: Value.int 0 :: Value.int 0 :: Value.int 0 :: Value.int 0 :: Value.int 0 :: Value.int 0 :: Value.int 0 :: Value.int 0 :: Value.ref (a 16) :: Value.ref (a 17) :: Value.ref (a 18) :: Value.ref (a 19) :: Value.int 0 :: Value.int 0 :: Value.int 1 :: Value.ref (a 20) :: Value.int 0 :: []))), ((a 7), .inl (cI, 1200, .inl f_3))] H ∧ va_D A [(h0, .inr (12, (Value.int 0 :: Value.int 0 :: Value.ref (a 0) :: Value.int 0 :: Value.int 0 :: Value.ref (a 1) :: Value.ref (a 2) :: Value.int 0 :: Value.ref (a 3) :: Value.ref (a 4) :: Value.int 0 :: Value.ref (a 5) :: Value.ref (a 6) :: Value.ref (a 7) :: Value.int 12 :: Value.ref (a 8) :: Value.int 0 :: Value.int (-1) :: Value.int 0 :: Value.int 0 :: Value.int 0 :: Value.int 0 :: Value.int (-1) :: Value.ref (a 9) :: Value.ref (a 10) :: Value.ref (a 11) :: Value.int 0 :: Value.ref (a 12) :: Value.ref (a 13) :: Value.ref (a 14) :: Value.ref (a 15) :: Value.int 0 :: Value.int 0 :: Value.int 0 :: Value.int 0 :: Value.int 0 :: Value.int 0 :: Value.int 0 :: Value.int 0 :: Value.ref (a 16) :: Value.ref (a 17) :: Value.ref (a 18) :: Value.ref (a 19) :: Value.int 0 :: Value.int 0 :: Value.int 1 :: Value.ref (a 20) :: Value.int 0 :: []))), ((a 7), .inl (cI, 1200, .inl f_3))] := ⟨upd g0 (12 : Int32).toNatClampNeg v_2, hP, hD⟩
  refine lv_iinc (v := 1) (lv' := [(2, .int 1), (0, .ref h0), (1, .int p0)]) hx hb dX12_lays_31 hl (k := 0) rfl (by decide) (by decide) rfl (fun ls hl => ?_)
  refine lv_goto (tgt := 2) hx hb dX12_lays_34 (by decide) ?_
  refine lv_iload_n hx hb dX12_lays_2 rfl (lv_at hl 0 rfl) ?_
  refine lv_iconst (v := 4) hx hb dX12_lays_3 (by decide) ?_
  refine lv_icmp_ge (tgt := 37) hx hb dX12_lays_4 (by decide) (fun h9 => absurd h9 (by decide)) (fun _ => ?_)
  refine lv_aload_n hx hb dX12_lays_7 rfl (lv_at hl 1 rfl) ?_
  refine va_get (D := D) (ci := 12) (v := .ref (a 7)) (C := RX12) (T := TX12) (N := 48) hx hb hT ix_12 hown hK hP 0 rfl rfl 13 (by decide) (hT _ sw_1301) (fun _ h9 => h9) rfl dX12_lays_8 ?_
  refine lv_aload_n hx hb dX12_lays_11 rfl (lv_at hl 1 rfl) ?_
  refine va_get (D := D) (ci := 12) (v := .int 12) (C := RX12) (T := TX12) (N := 48) hx hb hT ix_12 hown hK hP 0 rfl rfl 14 (by decide) (hT _ sw_1302) (fun _ h9 => h9) rfl dX12_lays_12 ?_
  refine lv_iload_n hx hb dX12_lays_15 rfl (lv_at hl 0 rfl) ?_
  refine lv_iadd hx hb dX12_lays_16 ?_
  refine ct_i (z := 13) (by decide) ?_
  refine lv_iload_n hx hb dX12_lays_17 rfl (lv_at hl 2 rfl) ?_
  refine lv_bipush (v := 24) hx hb dX12_lays_18 (by decide) ?_
  refine lv_bipush (v := 8) hx hb dX12_lays_20 (by decide) ?_
  refine lv_iload_n hx hb dX12_lays_22 rfl (lv_at hl 0 rfl) ?_
  refine lv_imul hx hb dX12_lays_23 ?_
  refine ct_i (z := 8) (by decide) ?_
  refine lv_isub hx hb dX12_lays_24 ?_
  refine ct_i (z := 16) (by decide) ?_
  refine lv_ishr hx hb dX12_lays_25 ?_
  refine lv_topi (fun v_4 _ => ?_)
  refine lv_sipush (v := 255) hx hb dX12_lays_26 (by decide) ?_
  refine lv_iand hx hb dX12_lays_29 ?_
  refine lv_topi (fun v_5 _ => ?_)
  refine va_iast hx hb hK hP hD hS 1 0 rfl rfl (vi_c (by decide +kernel)) dX12_lays_30 (fun H locs hP hD hS => ?_)
  obtain ⟨f_6, hP, hD⟩ : ∃ f_6 : Nat → Int32, va_P D vwCl [(h0, .inr (12, (Value.int 0 :: Value.int 0 :: Value.ref (a 0) :: Value.int 0 :: Value.int 0 :: Value.ref (a 1) :: Value.ref (a 2) :: Value.int 0 :: Value.ref (a 3) :: Value.ref (a 4) :: Value.int 0 :: Value.ref (a 5) :: Value.ref (a 6) :: Value.ref (a 7) :: Value.int 12 :: Value.ref (a 8) :: Value.int 0 :: Value.int (-1) :: Value.int 0 :: Value.int 0 :: Value.int 0 :: Value.int 0 :: Value.int (-1) :: Value.ref (a 9) :: Value.ref (a 10) :: Value.ref (a 11) :: Value.int 0 :: Value.ref (a 12) :: Value.ref (a 13) :: Value.ref (a 14) :: Value.ref (a 15) :: Value.int 0 :: Value.int 0 :: Value.int 0 :: Value.int 0 :: Value.int 0 :: Value.int 0 :: Value.int 0 :: Value.int 0 :: Value.ref (a 16) :: Value.ref (a 17) :: Value.ref (a 18) :: Value.ref (a 19) :: Value.int 0 :: Value.int 0 :: Value.int 1 :: Value.ref (a 20) :: Value.int 0 :: []))), ((a 7), .inl (cI, 1200, .inl f_6))] H ∧ va_D A [(h0, .inr (12, (Value.int 0 :: Value.int 0 :: Value.ref (a 0) :: Value.int 0 :: Value.int 0 :: Value.ref (a 1) :: Value.ref (a 2) :: Value.int 0 :: Value.ref (a 3) :: Value.ref (a 4) :: Value.int 0 :: Value.ref (a 5) :: Value.ref (a 6) :: Value.ref (a 7) :: Value.int 12 :: Value.ref (a 8) :: Value.int 0 :: Value.int (-1) :: Value.int 0 :: Value.int 0 :: Value.int 0 :: Value.int 0 :: Value.int (-1) :: Value.ref (a 9) :: Value.ref (a 10) :: Value.ref (a 11) :: Value.int 0 :: Value.ref (a 12) :: Value.ref (a 13) :: Value.ref (a 14) :: Value.ref (a 15) :: Value.int 0 :: Value.int 0 :: Value.int 0 :: Value.int 0 :: Value.int 0 :: Value.int 0 :: Value.int 0 :: Value.int 0 :: Value.ref (a 16) :: Value.ref (a 17) :: Value.ref (a 18) :: Value.ref (a 19) :: Value.int 0 :: Value.int 0 :: Value.int 1 :: Value.ref (a 20) :: Value.int 0 :: []))), ((a 7), .inl (cI, 1200, .inl f_6))] := ⟨upd f_3 (13 : Int32).toNatClampNeg v_5, hP, hD⟩
  refine lv_iinc (v := 2) (lv' := [(2, .int 2), (0, .ref h0), (1, .int p0)]) hx hb dX12_lays_31 hl (k := 0) rfl (by decide) (by decide) rfl (fun ls hl => ?_)
  refine lv_goto (tgt := 2) hx hb dX12_lays_34 (by decide) ?_
  refine lv_iload_n hx hb dX12_lays_2 rfl (lv_at hl 0 rfl) ?_
  refine lv_iconst (v := 4) hx hb dX12_lays_3 (by decide) ?_
  refine lv_icmp_ge (tgt := 37) hx hb dX12_lays_4 (by decide) (fun h9 => absurd h9 (by decide)) (fun _ => ?_)
  refine lv_aload_n hx hb dX12_lays_7 rfl (lv_at hl 1 rfl) ?_
  refine va_get (D := D) (ci := 12) (v := .ref (a 7)) (C := RX12) (T := TX12) (N := 48) hx hb hT ix_12 hown hK hP 0 rfl rfl 13 (by decide) (hT _ sw_1301) (fun _ h9 => h9) rfl dX12_lays_8 ?_
  refine lv_aload_n hx hb dX12_lays_11 rfl (lv_at hl 1 rfl) ?_
  refine va_get (D := D) (ci := 12) (v := .int 12) (C := RX12) (T := TX12) (N := 48) hx hb hT ix_12 hown hK hP 0 rfl rfl 14 (by decide) (hT _ sw_1302) (fun _ h9 => h9) rfl dX12_lays_12 ?_
  refine lv_iload_n hx hb dX12_lays_15 rfl (lv_at hl 0 rfl) ?_
  refine lv_iadd hx hb dX12_lays_16 ?_
  refine ct_i (z := 14) (by decide) ?_
  refine lv_iload_n hx hb dX12_lays_17 rfl (lv_at hl 2 rfl) ?_
  refine lv_bipush (v := 24) hx hb dX12_lays_18 (by decide) ?_
  refine lv_bipush (v := 8) hx hb dX12_lays_20 (by decide) ?_
  refine lv_iload_n hx hb dX12_lays_22 rfl (lv_at hl 0 rfl) ?_
  refine lv_imul hx hb dX12_lays_23 ?_
  refine ct_i (z := 16) (by decide) ?_
  refine lv_isub hx hb dX12_lays_24 ?_
  refine ct_i (z := 8) (by decide) ?_
  refine lv_ishr hx hb dX12_lays_25 ?_
  refine lv_topi (fun v_7 _ => ?_)
  refine lv_sipush (v := 255) hx hb dX12_lays_26 (by decide) ?_
  refine lv_iand hx hb dX12_lays_29 ?_
  refine lv_topi (fun v_8 _ => ?_)
  refine va_iast hx hb hK hP hD hS 1 0 rfl rfl (vi_c (by decide +kernel)) dX12_lays_30 (fun H locs hP hD hS => ?_)
  obtain ⟨f_9, hP, hD⟩ : ∃ f_9 : Nat → Int32, va_P D vwCl [(h0, .inr (12, (Value.int 0 :: Value.int 0 :: Value.ref (a 0) :: Value.int 0 :: Value.int 0 :: Value.ref (a 1) :: Value.ref (a 2) :: Value.int 0 :: Value.ref (a 3) :: Value.ref (a 4) :: Value.int 0 :: Value.ref (a 5) :: Value.ref (a 6) :: Value.ref (a 7) :: Value.int 12 :: Value.ref (a 8) :: Value.int 0 :: Value.int (-1) :: Value.int 0 :: Value.int 0 :: Value.int 0 :: Value.int 0 :: Value.int (-1) :: Value.ref (a 9) :: Value.ref (a 10) :: Value.ref (a 11) :: Value.int 0 :: Value.ref (a 12) :: Value.ref (a 13) :: Value.ref (a 14) :: Value.ref (a 15) :: Value.int 0 :: Value.int 0 :: Value.int 0 :: Value.int 0 :: Value.int 0 :: Value.int 0 :: Value.int 0 :: Value.int 0 :: Value.ref (a 16) :: Value.ref (a 17) :: Value.ref (a 18) :: Value.ref (a 19) :: Value.int 0 :: Value.int 0 :: Value.int 1 :: Value.ref (a 20) :: Value.int 0 :: []))), ((a 7), .inl (cI, 1200, .inl f_9))] H ∧ va_D A [(h0, .inr (12, (Value.int 0 :: Value.int 0 :: Value.ref (a 0) :: Value.int 0 :: Value.int 0 :: Value.ref (a 1) :: Value.ref (a 2) :: Value.int 0 :: Value.ref (a 3) :: Value.ref (a 4) :: Value.int 0 :: Value.ref (a 5) :: Value.ref (a 6) :: Value.ref (a 7) :: Value.int 12 :: Value.ref (a 8) :: Value.int 0 :: Value.int (-1) :: Value.int 0 :: Value.int 0 :: Value.int 0 :: Value.int 0 :: Value.int (-1) :: Value.ref (a 9) :: Value.ref (a 10) :: Value.ref (a 11) :: Value.int 0 :: Value.ref (a 12) :: Value.ref (a 13) :: Value.ref (a 14) :: Value.ref (a 15) :: Value.int 0 :: Value.int 0 :: Value.int 0 :: Value.int 0 :: Value.int 0 :: Value.int 0 :: Value.int 0 :: Value.int 0 :: Value.ref (a 16) :: Value.ref (a 17) :: Value.ref (a 18) :: Value.ref (a 19) :: Value.int 0 :: Value.int 0 :: Value.int 1 :: Value.ref (a 20) :: Value.int 0 :: []))), ((a 7), .inl (cI, 1200, .inl f_9))] := ⟨upd f_6 (14 : Int32).toNatClampNeg v_8, hP, hD⟩
  refine lv_iinc (v := 3) (lv' := [(2, .int 3), (0, .ref h0), (1, .int p0)]) hx hb dX12_lays_31 hl (k := 0) rfl (by decide) (by decide) rfl (fun ls hl => ?_)
  refine lv_goto (tgt := 2) hx hb dX12_lays_34 (by decide) ?_
  refine lv_iload_n hx hb dX12_lays_2 rfl (lv_at hl 0 rfl) ?_
  refine lv_iconst (v := 4) hx hb dX12_lays_3 (by decide) ?_
  refine lv_icmp_ge (tgt := 37) hx hb dX12_lays_4 (by decide) (fun h9 => absurd h9 (by decide)) (fun _ => ?_)
  refine lv_aload_n hx hb dX12_lays_7 rfl (lv_at hl 1 rfl) ?_
  refine va_get (D := D) (ci := 12) (v := .ref (a 7)) (C := RX12) (T := TX12) (N := 48) hx hb hT ix_12 hown hK hP 0 rfl rfl 13 (by decide) (hT _ sw_1301) (fun _ h9 => h9) rfl dX12_lays_8 ?_
  refine lv_aload_n hx hb dX12_lays_11 rfl (lv_at hl 1 rfl) ?_
  refine va_get (D := D) (ci := 12) (v := .int 12) (C := RX12) (T := TX12) (N := 48) hx hb hT ix_12 hown hK hP 0 rfl rfl 14 (by decide) (hT _ sw_1302) (fun _ h9 => h9) rfl dX12_lays_12 ?_
  refine lv_iload_n hx hb dX12_lays_15 rfl (lv_at hl 0 rfl) ?_
  refine lv_iadd hx hb dX12_lays_16 ?_
  refine ct_i (z := 15) (by decide) ?_
  refine lv_iload_n hx hb dX12_lays_17 rfl (lv_at hl 2 rfl) ?_
  refine lv_bipush (v := 24) hx hb dX12_lays_18 (by decide) ?_
  refine lv_bipush (v := 8) hx hb dX12_lays_20 (by decide) ?_
  refine lv_iload_n hx hb dX12_lays_22 rfl (lv_at hl 0 rfl) ?_
  refine lv_imul hx hb dX12_lays_23 ?_
  refine ct_i (z := 24) (by decide) ?_
  refine lv_isub hx hb dX12_lays_24 ?_
  refine ct_i (z := 0) (by decide) ?_
  refine lv_ishr hx hb dX12_lays_25 ?_
  refine lv_topi (fun v_10 _ => ?_)
  refine lv_sipush (v := 255) hx hb dX12_lays_26 (by decide) ?_
  refine lv_iand hx hb dX12_lays_29 ?_
  refine lv_topi (fun v_11 _ => ?_)
  refine va_iast hx hb hK hP hD hS 1 0 rfl rfl (vi_c (by decide +kernel)) dX12_lays_30 (fun H locs hP hD hS => ?_)
  obtain ⟨f_12, hP, hD⟩ : ∃ f_12 : Nat → Int32, va_P D vwCl [(h0, .inr (12, (Value.int 0 :: Value.int 0 :: Value.ref (a 0) :: Value.int 0 :: Value.int 0 :: Value.ref (a 1) :: Value.ref (a 2) :: Value.int 0 :: Value.ref (a 3) :: Value.ref (a 4) :: Value.int 0 :: Value.ref (a 5) :: Value.ref (a 6) :: Value.ref (a 7) :: Value.int 12 :: Value.ref (a 8) :: Value.int 0 :: Value.int (-1) :: Value.int 0 :: Value.int 0 :: Value.int 0 :: Value.int 0 :: Value.int (-1) :: Value.ref (a 9) :: Value.ref (a 10) :: Value.ref (a 11) :: Value.int 0 :: Value.ref (a 12) :: Value.ref (a 13) :: Value.ref (a 14) :: Value.ref (a 15) :: Value.int 0 :: Value.int 0 :: Value.int 0 :: Value.int 0 :: Value.int 0 :: Value.int 0 :: Value.int 0 :: Value.int 0 :: Value.ref (a 16) :: Value.ref (a 17) :: Value.ref (a 18) :: Value.ref (a 19) :: Value.int 0 :: Value.int 0 :: Value.int 1 :: Value.ref (a 20) :: Value.int 0 :: []))), ((a 7), .inl (cI, 1200, .inl f_12))] H ∧ va_D A [(h0, .inr (12, (Value.int 0 :: Value.int 0 :: Value.ref (a 0) :: Value.int 0 :: Value.int 0 :: Value.ref (a 1) :: Value.ref (a 2) :: Value.int 0 :: Value.ref (a 3) :: Value.ref (a 4) :: Value.int 0 :: Value.ref (a 5) :: Value.ref (a 6) :: Value.ref (a 7) :: Value.int 12 :: Value.ref (a 8) :: Value.int 0 :: Value.int (-1) :: Value.int 0 :: Value.int 0 :: Value.int 0 :: Value.int 0 :: Value.int (-1) :: Value.ref (a 9) :: Value.ref (a 10) :: Value.ref (a 11) :: Value.int 0 :: Value.ref (a 12) :: Value.ref (a 13) :: Value.ref (a 14) :: Value.ref (a 15) :: Value.int 0 :: Value.int 0 :: Value.int 0 :: Value.int 0 :: Value.int 0 :: Value.int 0 :: Value.int 0 :: Value.int 0 :: Value.ref (a 16) :: Value.ref (a 17) :: Value.ref (a 18) :: Value.ref (a 19) :: Value.int 0 :: Value.int 0 :: Value.int 1 :: Value.ref (a 20) :: Value.int 0 :: []))), ((a 7), .inl (cI, 1200, .inl f_12))] := ⟨upd f_9 (15 : Int32).toNatClampNeg v_11, hP, hD⟩
  refine lv_iinc (v := 4) (lv' := [(2, .int 4), (0, .ref h0), (1, .int p0)]) hx hb dX12_lays_31 hl (k := 0) rfl (by decide) (by decide) rfl (fun ls hl => ?_)
  refine lv_goto (tgt := 2) hx hb dX12_lays_34 (by decide) ?_
  refine lv_iload_n hx hb dX12_lays_2 rfl (lv_at hl 0 rfl) ?_
  refine lv_iconst (v := 4) hx hb dX12_lays_3 (by decide) ?_
  refine lv_icmp_ge (tgt := 37) hx hb dX12_lays_4 (by decide) (fun _ => ?_) (fun h9 => absurd (by decide) h9)
  refine lv_aload_n hx hb dX12_lays_37 rfl (lv_at hl 1 rfl) ?_
  refine lv_dup hx hb dX12_lays_38 rfl ?_
  refine va_get (D := D) (ci := 12) (v := .int 12) (C := RX12) (T := TX12) (N := 48) hx hb hT ix_12 hown hK hP 0 rfl rfl 14 (by decide) (hT _ sw_1302) (fun _ h9 => h9) rfl dX12_lays_39 ?_
  refine lv_iconst (v := 4) hx hb dX12_lays_42 (by decide) ?_
  refine lv_iadd hx hb dX12_lays_43 ?_
  refine ct_i (z := 16) (by decide) ?_
  refine va_put (D := D) (ci := 12) (v := .int 16) (ty := .int) (C := RX12) (T := TX12) (N := 48) hx hb hT ix_12 tyX12 tyX12_ok nmX12 hown hK hP hD hS 0 rfl rfl 14 (by decide) (hT _ sw_1302) (fun _ h9 => h9) rfl (by decide +kernel) rfl rfl (Nat.le_of_ble_eq_true rfl) dX12_lays_44 (fun H locs hP hD hS => ?_)
  have hP : va_P D vwCl [(h0, .inr (12, (Value.int 0 :: Value.int 0 :: Value.ref (a 0) :: Value.int 0 :: Value.int 0 :: Value.ref (a 1) :: Value.ref (a 2) :: Value.int 0 :: Value.ref (a 3) :: Value.ref (a 4) :: Value.int 0 :: Value.ref (a 5) :: Value.ref (a 6) :: Value.ref (a 7) :: Value.int 16 :: Value.ref (a 8) :: Value.int 0 :: Value.int (-1) :: Value.int 0 :: Value.int 0 :: Value.int 0 :: Value.int 0 :: Value.int (-1) :: Value.ref (a 9) :: Value.ref (a 10) :: Value.ref (a 11) :: Value.int 0 :: Value.ref (a 12) :: Value.ref (a 13) :: Value.ref (a 14) :: Value.ref (a 15) :: Value.int 0 :: Value.int 0 :: Value.int 0 :: Value.int 0 :: Value.int 0 :: Value.int 0 :: Value.int 0 :: Value.int 0 :: Value.ref (a 16) :: Value.ref (a 17) :: Value.ref (a 18) :: Value.ref (a 19) :: Value.int 0 :: Value.int 0 :: Value.int 1 :: Value.ref (a 20) :: Value.int 0 :: []))), ((a 7), .inl (cI, 1200, .inl f_12))] H := hP
  have hD : va_D A [(h0, .inr (12, (Value.int 0 :: Value.int 0 :: Value.ref (a 0) :: Value.int 0 :: Value.int 0 :: Value.ref (a 1) :: Value.ref (a 2) :: Value.int 0 :: Value.ref (a 3) :: Value.ref (a 4) :: Value.int 0 :: Value.ref (a 5) :: Value.ref (a 6) :: Value.ref (a 7) :: Value.int 16 :: Value.ref (a 8) :: Value.int 0 :: Value.int (-1) :: Value.int 0 :: Value.int 0 :: Value.int 0 :: Value.int 0 :: Value.int (-1) :: Value.ref (a 9) :: Value.ref (a 10) :: Value.ref (a 11) :: Value.int 0 :: Value.ref (a 12) :: Value.ref (a 13) :: Value.ref (a 14) :: Value.ref (a 15) :: Value.int 0 :: Value.int 0 :: Value.int 0 :: Value.int 0 :: Value.int 0 :: Value.int 0 :: Value.int 0 :: Value.int 0 :: Value.ref (a 16) :: Value.ref (a 17) :: Value.ref (a 18) :: Value.ref (a 19) :: Value.int 0 :: Value.int 0 :: Value.int 1 :: Value.ref (a 20) :: Value.int 0 :: []))), ((a 7), .inl (cI, 1200, .inl f_12))] := hD
  have hP9 := hP.sub (ws' := [(h0, .inr (12, (Value.int 0 :: Value.int 0 :: Value.ref (a 0) :: Value.int 0 :: Value.int 0 :: Value.ref (a 1) :: Value.ref (a 2) :: Value.int 0 :: Value.ref (a 3) :: Value.ref (a 4) :: Value.int 0 :: Value.ref (a 5) :: Value.ref (a 6) :: Value.ref (a 7) :: Value.int 16 :: Value.ref (a 8) :: Value.int 0 :: Value.int (-1) :: Value.int 0 :: Value.int 0 :: Value.int 0 :: Value.int 0 :: Value.int (-1) :: Value.ref (a 9) :: Value.ref (a 10) :: Value.ref (a 11) :: Value.int 0 :: Value.ref (a 12) :: Value.ref (a 13) :: Value.ref (a 14) :: Value.ref (a 15) :: Value.int 0 :: Value.int 0 :: Value.int 0 :: Value.int 0 :: Value.int 0 :: Value.int 0 :: Value.int 0 :: Value.int 0 :: Value.ref (a 16) :: Value.ref (a 17) :: Value.ref (a 18) :: Value.ref (a 19) :: Value.int 0 :: Value.int 0 :: Value.int 1 :: Value.ref (a 20) :: Value.int 0 :: []))), ((a 7), .inl (cI, 1200, .inl f_12))]) [0, 1] rfl
  have hD9 := hD.sub (ws' := [(h0, .inr (12, (Value.int 0 :: Value.int 0 :: Value.ref (a 0) :: Value.int 0 :: Value.int 0 :: Value.ref (a 1) :: Value.ref (a 2) :: Value.int 0 :: Value.ref (a 3) :: Value.ref (a 4) :: Value.int 0 :: Value.ref (a 5) :: Value.ref (a 6) :: Value.ref (a 7) :: Value.int 16 :: Value.ref (a 8) :: Value.int 0 :: Value.int (-1) :: Value.int 0 :: Value.int 0 :: Value.int 0 :: Value.int 0 :: Value.int (-1) :: Value.ref (a 9) :: Value.ref (a 10) :: Value.ref (a 11) :: Value.int 0 :: Value.ref (a 12) :: Value.ref (a 13) :: Value.ref (a 14) :: Value.ref (a 15) :: Value.int 0 :: Value.int 0 :: Value.int 0 :: Value.int 0 :: Value.int 0 :: Value.int 0 :: Value.int 0 :: Value.int 0 :: Value.ref (a 16) :: Value.ref (a 17) :: Value.ref (a 18) :: Value.ref (a 19) :: Value.int 0 :: Value.int 0 :: Value.int 1 :: Value.ref (a 20) :: Value.int 0 :: []))), ((a 7), .inl (cI, 1200, .inl f_12))]) [0, 1] (by decide) rfl
  exact W.vret hx hb hr (fun t ht _ => ⟨rfl, ⟨(fun k => [].getD k 0, fun k => [f_12].getD k zI), by rw [ht]; exact hP9, hD9⟩, hS.F ht⟩) hS.2.2 dX12_lays_47
set_option maxHeartbeats 4000000 in
set_option maxRecDepth 100000 in
theorem kX12_lays_4 (l : Launch) (D : va_G) (cI : ClassId) (h0 : Nat) (a : Nat → Nat) (p0 : Int32) (g0 : Nat → Int32) (sz : Nat) : Met l yX12_lays (sw_ws yX12_lays cX12_lays 3 none) (rm_ 0 0 0 0) (p_M D vwCl [(cI, .int)] [.ref h0, .int p0] [(h0, .inr (12, (Value.int 0 :: Value.int 0 :: Value.ref (a 0) :: Value.int 0 :: Value.int 0 :: Value.ref (a 1) :: Value.ref (a 2) :: Value.int 0 :: Value.ref (a 3) :: Value.ref (a 4) :: Value.int 0 :: Value.ref (a 5) :: Value.ref (a 6) :: Value.ref (a 7) :: Value.int 16 :: Value.ref (a 8) :: Value.int 0 :: Value.int (-1) :: Value.int 0 :: Value.int 0 :: Value.int 0 :: Value.int 0 :: Value.int (-1) :: Value.ref (a 9) :: Value.ref (a 10) :: Value.ref (a 11) :: Value.int 0 :: Value.ref (a 12) :: Value.ref (a 13) :: Value.ref (a 14) :: Value.ref (a 15) :: Value.int 0 :: Value.int 0 :: Value.int 0 :: Value.int 0 :: Value.int 0 :: Value.int 0 :: Value.int 0 :: Value.int 0 :: Value.ref (a 16) :: Value.ref (a 17) :: Value.ref (a 18) :: Value.ref (a 19) :: Value.int 0 :: Value.int 0 :: Value.int 1 :: Value.ref (a 20) :: Value.int 0 :: []))), ((a 7), .inl (cI, 1200, .inl g0))] sz) (q_M D vwCl none (fun u => [(h0, .inr (12, (Value.int 0 :: Value.int 0 :: Value.ref (a 0) :: Value.int 0 :: Value.int 0 :: Value.ref (a 1) :: Value.ref (a 2) :: Value.int 0 :: Value.ref (a 3) :: Value.ref (a 4) :: Value.int 0 :: Value.ref (a 5) :: Value.ref (a 6) :: Value.ref (a 7) :: Value.int 20 :: Value.ref (a 8) :: Value.int 0 :: Value.int (-1) :: Value.int 0 :: Value.int 0 :: Value.int 0 :: Value.int 0 :: Value.int (-1) :: Value.ref (a 9) :: Value.ref (a 10) :: Value.ref (a 11) :: Value.int 0 :: Value.ref (a 12) :: Value.ref (a 13) :: Value.ref (a 14) :: Value.ref (a 15) :: Value.int 0 :: Value.int 0 :: Value.int 0 :: Value.int 0 :: Value.int 0 :: Value.int 0 :: Value.int 0 :: Value.int 0 :: Value.ref (a 16) :: Value.ref (a 17) :: Value.ref (a 18) :: Value.ref (a 19) :: Value.int 0 :: Value.int 0 :: Value.int 1 :: Value.ref (a 20) :: Value.int 0 :: []))), ((a 7), .inl (cI, 1200, .inl (u.2 0)))]) (va_A [(h0, .inr (12, (Value.int 0 :: Value.int 0 :: Value.ref (a 0) :: Value.int 0 :: Value.int 0 :: Value.ref (a 1) :: Value.ref (a 2) :: Value.int 0 :: Value.ref (a 3) :: Value.ref (a 4) :: Value.int 0 :: Value.ref (a 5) :: Value.ref (a 6) :: Value.ref (a 7) :: Value.int 16 :: Value.ref (a 8) :: Value.int 0 :: Value.int (-1) :: Value.int 0 :: Value.int 0 :: Value.int 0 :: Value.int 0 :: Value.int (-1) :: Value.ref (a 9) :: Value.ref (a 10) :: Value.ref (a 11) :: Value.int 0 :: Value.ref (a 12) :: Value.ref (a 13) :: Value.ref (a 14) :: Value.ref (a 15) :: Value.int 0 :: Value.int 0 :: Value.int 0 :: Value.int 0 :: Value.int 0 :: Value.int 0 :: Value.int 0 :: Value.int 0 :: Value.ref (a 16) :: Value.ref (a 17) :: Value.ref (a 18) :: Value.ref (a 19) :: Value.int 0 :: Value.int 0 :: Value.int 1 :: Value.ref (a 20) :: Value.int 0 :: []))), ((a 7), .inl (cI, 1200, .inl g0))] sz)) 0 0 (va_A [(h0, .inr (12, (Value.int 0 :: Value.int 0 :: Value.ref (a 0) :: Value.int 0 :: Value.int 0 :: Value.ref (a 1) :: Value.ref (a 2) :: Value.int 0 :: Value.ref (a 3) :: Value.ref (a 4) :: Value.int 0 :: Value.ref (a 5) :: Value.ref (a 6) :: Value.ref (a 7) :: Value.int 16 :: Value.ref (a 8) :: Value.int 0 :: Value.int (-1) :: Value.int 0 :: Value.int 0 :: Value.int 0 :: Value.int 0 :: Value.int (-1) :: Value.ref (a 9) :: Value.ref (a 10) :: Value.ref (a 11) :: Value.int 0 :: Value.ref (a 12) :: Value.ref (a 13) :: Value.ref (a 14) :: Value.ref (a 15) :: Value.int 0 :: Value.int 0 :: Value.int 0 :: Value.int 0 :: Value.int 0 :: Value.int 0 :: Value.int 0 :: Value.int 0 :: Value.ref (a 16) :: Value.ref (a 17) :: Value.ref (a 18) :: Value.ref (a 19) :: Value.int 0 :: Value.int 0 :: Value.int 1 :: Value.ref (a 20) :: Value.int 0 :: []))), ((a 7), .inl (cI, 1200, .inl g0))] sz) := by
  refine Met.ofW (cc := cX12_lays) (maxL := 3) (ret := none) (by decide) rfl ?_
  intro p e s m args below meth c s₁ B hml hv
  obtain ⟨rfl, hsz, hP, hK, hD0⟩ := hv
  have hx := B.exec
  have hb := B.bytes
  have hr := B.returns
  have hT := sw_in (atoms_spec (ws := sw_ws yX12_lays cX12_lays 3 none) B.pre)
  have hown : s.vm.findClass RX12 = some m.cls := findClass_of_methodNamed B.named
  have hlocks := B.notSynchronized
  subst hsz
  have hD := hD0.self (sz := s.heap.size)
  generalize hAe : va_A [(h0, .inr (12, (Value.int 0 :: Value.int 0 :: Value.ref (a 0) :: Value.int 0 :: Value.int 0 :: Value.ref (a 1) :: Value.ref (a 2) :: Value.int 0 :: Value.ref (a 3) :: Value.ref (a 4) :: Value.int 0 :: Value.ref (a 5) :: Value.ref (a 6) :: Value.ref (a 7) :: Value.int 16 :: Value.ref (a 8) :: Value.int 0 :: Value.int (-1) :: Value.int 0 :: Value.int 0 :: Value.int 0 :: Value.int 0 :: Value.int (-1) :: Value.ref (a 9) :: Value.ref (a 10) :: Value.ref (a 11) :: Value.int 0 :: Value.ref (a 12) :: Value.ref (a 13) :: Value.ref (a 14) :: Value.ref (a 15) :: Value.int 0 :: Value.int 0 :: Value.int 0 :: Value.int 0 :: Value.int 0 :: Value.int 0 :: Value.int 0 :: Value.int 0 :: Value.ref (a 16) :: Value.ref (a 17) :: Value.ref (a 18) :: Value.ref (a 19) :: Value.int 0 :: Value.int 0 :: Value.int 1 :: Value.ref (a 20) :: Value.int 0 :: []))), ((a 7), .inl (cI, 1200, .inl g0))] s.heap.size = A at hD ⊢
  have hA : ∀ q : Nat, s.heap.size ≤ q → A q := fun q h => by rw [← hAe]; exact Or.inr h
  have hS : va_S A s.heap s.heap [] := va_S.rf
  have hl := lv_entry ([.ref h0, .int p0]) (n := 3) (Nat.le_of_ble_eq_true rfl)
  rw [lg_entry_eq]
  generalize (lg_sl ([.ref h0, .int p0]) ++ List.replicate (3 - (lg_sl ([.ref h0, .int p0])).length) Slot.unset).toArray = ls at hl ⊢
  have hl : lv_has ls 3 [(0, .ref h0), (1, .int p0)] := hl
  refine lv_iconst (v := 0) hx hb dX12_lays_0 (by decide) ?_
  refine lv_istore_n (lv' := [(2, .int 0), (0, .ref h0), (1, .int p0)]) hx hb dX12_lays_1 rfl hl (by decide) rfl (fun ls hl => ?_)
  refine lv_iload_n hx hb dX12_lays_2 rfl (lv_at hl 0 rfl) ?_
  refine lv_iconst (v := 4) hx hb dX12_lays_3 (by decide) ?_
  refine lv_icmp_ge (tgt := 37) hx hb dX12_lays_4 (by decide) (fun h9 => absurd h9 (by decide)) (fun _ => ?_)
  refine lv_aload_n hx hb dX12_lays_7 rfl (lv_at hl 1 rfl) ?_
  refine va_get (D := D) (ci := 12) (v := .ref (a 7)) (C := RX12) (T := TX12) (N := 48) hx hb hT ix_12 hown hK hP 0 rfl rfl 13 (by decide) (hT _ sw_1301) (fun _ h9 => h9) rfl dX12_lays_8 ?_
  refine lv_aload_n hx hb dX12_lays_11 rfl (lv_at hl 1 rfl) ?_
  refine va_get (D := D) (ci := 12) (v := .int 16) (C := RX12) (T := TX12) (N := 48) hx hb hT ix_12 hown hK hP 0 rfl rfl 14 (by decide) (hT _ sw_1302) (fun _ h9 => h9) rfl dX12_lays_12 ?_
  refine lv_iload_n hx hb dX12_lays_15 rfl (lv_at hl 0 rfl) ?_
  refine lv_iadd hx hb dX12_lays_16 ?_
  refine ct_i (z := 16) (by decide) ?_
  refine lv_iload_n hx hb dX12_lays_17 rfl (lv_at hl 2 rfl) ?_
  refine lv_bipush (v := 24) hx hb dX12_lays_18 (by decide) ?_
  refine lv_bipush (v := 8) hx hb dX12_lays_20 (by decide) ?_
  refine lv_iload_n hx hb dX12_lays_22 rfl (lv_at hl 0 rfl) ?_
  refine lv_imul hx hb dX12_lays_23 ?_
  refine ct_i (z := 0) (by decide) ?_
  refine lv_isub hx hb dX12_lays_24 ?_
  refine ct_i (z := 24) (by decide) ?_
  refine lv_ishr hx hb dX12_lays_25 ?_
  refine lv_topi (fun v_1 _ => ?_)
  refine lv_sipush (v := 255) hx hb dX12_lays_26 (by decide) ?_
  refine lv_iand hx hb dX12_lays_29 ?_
  refine lv_topi (fun v_2 _ => ?_)
  refine va_iast hx hb hK hP hD hS 1 0 rfl rfl (vi_c (by decide +kernel)) dX12_lays_30 (fun H locs hP hD hS => ?_)
  obtain ⟨f_3, hP, hD⟩ : ∃ f_3 : Nat → Int32, va_P D vwCl [(h0, .inr (12, (Value.int 0 :: Value.int 0 :: Value.ref (a 0) :: Value.int 0 :: Value.int 0 :: Value.ref (a 1) :: Value.ref (a 2) :: Value.int 0 :: Value.ref (a 3) :: Value.ref (a 4) :: Value.int 0 :: Value.ref (a 5) :: Value.ref (a 6) :: Value.ref (a 7) :: Value.int 16 :: Value.ref (a 8) :: Value.int 0 :: Value.int (-1) :: Value.int 0 :: Value.int 0 :: Value.int 0 :: Value.int 0 :: Value.int (-1) :: Value.ref (a 9) :: Value.ref (a 10) :: Value.ref (a 11) :: Value.int 0 :: Value.ref (a 12) :: Value.ref (a 13) :: Value.ref (a 14) :: Value.ref (a 15) :: Value.int 0 :: Value.int 0 :: Value.int 0 :: Value.int 0 :: Value.int 0 :: Value.int 0 :: Value.int 0 :: Value.int 0 :: Value.ref (a 16) :: Value.ref (a 17) :: Value.ref (a 18) :: Value.ref (a 19) :: Value.int 0 :: Value.int 0 :: Value.int 1 :: Value.ref (a 20) :: Value.int 0 :: []))), ((a 7), .inl (cI, 1200, .inl f_3))] H ∧ va_D A [(h0, .inr (12, (Value.int 0 :: Value.int 0 :: Value.ref (a 0) :: Value.int 0 :: Value.int 0 :: Value.ref (a 1) :: Value.ref (a 2) :: Value.int 0 :: Value.ref (a 3) :: Value.ref (a 4) :: Value.int 0 :: Value.ref (a 5) :: Value.ref (a 6) :: Value.ref (a 7) :: Value.int 16 :: Value.ref (a 8) :: Value.int 0 :: Value.int (-1) :: Value.int 0 :: Value.int 0 :: Value.int 0 :: Value.int 0 :: Value.int (-1) :: Value.ref (a 9) :: Value.ref (a 10) :: Value.ref (a 11) :: Value.int 0 :: Value.ref (a 12) :: Value.ref (a 13) :: Value.ref (a 14) :: Value.ref (a 15) :: Value.int 0 :: Value.int 0 :: Value.int 0 :: Value.int 0 :: Value.int 0 :: Value.int 0 :: Value.int 0 :: Value.int 0 :: Value.ref (a 16) :: Value.ref (a 17) :: Value.ref (a 18) :: Value.ref (a 19) :: Value.int 0 :: Value.int 0 :: Value.int 1 :: Value.ref (a 20) :: Value.int 0 :: []))), ((a 7), .inl (cI, 1200, .inl f_3))] := ⟨upd g0 (16 : Int32).toNatClampNeg v_2, hP, hD⟩
  refine lv_iinc (v := 1) (lv' := [(2, .int 1), (0, .ref h0), (1, .int p0)]) hx hb dX12_lays_31 hl (k := 0) rfl (by decide) (by decide) rfl (fun ls hl => ?_)
  refine lv_goto (tgt := 2) hx hb dX12_lays_34 (by decide) ?_
  refine lv_iload_n hx hb dX12_lays_2 rfl (lv_at hl 0 rfl) ?_
  refine lv_iconst (v := 4) hx hb dX12_lays_3 (by decide) ?_
  refine lv_icmp_ge (tgt := 37) hx hb dX12_lays_4 (by decide) (fun h9 => absurd h9 (by decide)) (fun _ => ?_)
  refine lv_aload_n hx hb dX12_lays_7 rfl (lv_at hl 1 rfl) ?_
  refine va_get (D := D) (ci := 12) (v := .ref (a 7)) (C := RX12) (T := TX12) (N := 48) hx hb hT ix_12 hown hK hP 0 rfl rfl 13 (by decide) (hT _ sw_1301) (fun _ h9 => h9) rfl dX12_lays_8 ?_
  refine lv_aload_n hx hb dX12_lays_11 rfl (lv_at hl 1 rfl) ?_
  refine va_get (D := D) (ci := 12) (v := .int 16) (C := RX12) (T := TX12) (N := 48) hx hb hT ix_12 hown hK hP 0 rfl rfl 14 (by decide) (hT _ sw_1302) (fun _ h9 => h9) rfl dX12_lays_12 ?_
  refine lv_iload_n hx hb dX12_lays_15 rfl (lv_at hl 0 rfl) ?_
  refine lv_iadd hx hb dX12_lays_16 ?_
  refine ct_i (z := 17) (by decide) ?_
  refine lv_iload_n hx hb dX12_lays_17 rfl (lv_at hl 2 rfl) ?_
  refine lv_bipush (v := 24) hx hb dX12_lays_18 (by decide) ?_
  refine lv_bipush (v := 8) hx hb dX12_lays_20 (by decide) ?_
  refine lv_iload_n hx hb dX12_lays_22 rfl (lv_at hl 0 rfl) ?_
  refine lv_imul hx hb dX12_lays_23 ?_
  refine ct_i (z := 8) (by decide) ?_
  refine lv_isub hx hb dX12_lays_24 ?_
  refine ct_i (z := 16) (by decide) ?_
  refine lv_ishr hx hb dX12_lays_25 ?_
  refine lv_topi (fun v_4 _ => ?_)
  refine lv_sipush (v := 255) hx hb dX12_lays_26 (by decide) ?_
  refine lv_iand hx hb dX12_lays_29 ?_
  refine lv_topi (fun v_5 _ => ?_)
  refine va_iast hx hb hK hP hD hS 1 0 rfl rfl (vi_c (by decide +kernel)) dX12_lays_30 (fun H locs hP hD hS => ?_)
  obtain ⟨f_6, hP, hD⟩ : ∃ f_6 : Nat → Int32, va_P D vwCl [(h0, .inr (12, (Value.int 0 :: Value.int 0 :: Value.ref (a 0) :: Value.int 0 :: Value.int 0 :: Value.ref (a 1) :: Value.ref (a 2) :: Value.int 0 :: Value.ref (a 3) :: Value.ref (a 4) :: Value.int 0 :: Value.ref (a 5) :: Value.ref (a 6) :: Value.ref (a 7) :: Value.int 16 :: Value.ref (a 8) :: Value.int 0 :: Value.int (-1) :: Value.int 0 :: Value.int 0 :: Value.int 0 :: Value.int 0 :: Value.int (-1) :: Value.ref (a 9) :: Value.ref (a 10) :: Value.ref (a 11) :: Value.int 0 :: Value.ref (a 12) :: Value.ref (a 13) :: Value.ref (a 14) :: Value.ref (a 15) :: Value.int 0 :: Value.int 0 :: Value.int 0 :: Value.int 0 :: Value.int 0 :: Value.int 0 :: Value.int 0 :: Value.int 0 :: Value.ref (a 16) :: Value.ref (a 17) :: Value.ref (a 18) :: Value.ref (a 19) :: Value.int 0 :: Value.int 0 :: Value.int 1 :: Value.ref (a 20) :: Value.int 0 :: []))), ((a 7), .inl (cI, 1200, .inl f_6))] H ∧ va_D A [(h0, .inr (12, (Value.int 0 :: Value.int 0 :: Value.ref (a 0) :: Value.int 0 :: Value.int 0 :: Value.ref (a 1) :: Value.ref (a 2) :: Value.int 0 :: Value.ref (a 3) :: Value.ref (a 4) :: Value.int 0 :: Value.ref (a 5) :: Value.ref (a 6) :: Value.ref (a 7) :: Value.int 16 :: Value.ref (a 8) :: Value.int 0 :: Value.int (-1) :: Value.int 0 :: Value.int 0 :: Value.int 0 :: Value.int 0 :: Value.int (-1) :: Value.ref (a 9) :: Value.ref (a 10) :: Value.ref (a 11) :: Value.int 0 :: Value.ref (a 12) :: Value.ref (a 13) :: Value.ref (a 14) :: Value.ref (a 15) :: Value.int 0 :: Value.int 0 :: Value.int 0 :: Value.int 0 :: Value.int 0 :: Value.int 0 :: Value.int 0 :: Value.int 0 :: Value.ref (a 16) :: Value.ref (a 17) :: Value.ref (a 18) :: Value.ref (a 19) :: Value.int 0 :: Value.int 0 :: Value.int 1 :: Value.ref (a 20) :: Value.int 0 :: []))), ((a 7), .inl (cI, 1200, .inl f_6))] := ⟨upd f_3 (17 : Int32).toNatClampNeg v_5, hP, hD⟩
  refine lv_iinc (v := 2) (lv' := [(2, .int 2), (0, .ref h0), (1, .int p0)]) hx hb dX12_lays_31 hl (k := 0) rfl (by decide) (by decide) rfl (fun ls hl => ?_)
  refine lv_goto (tgt := 2) hx hb dX12_lays_34 (by decide) ?_
  refine lv_iload_n hx hb dX12_lays_2 rfl (lv_at hl 0 rfl) ?_
  refine lv_iconst (v := 4) hx hb dX12_lays_3 (by decide) ?_
  refine lv_icmp_ge (tgt := 37) hx hb dX12_lays_4 (by decide) (fun h9 => absurd h9 (by decide)) (fun _ => ?_)
  refine lv_aload_n hx hb dX12_lays_7 rfl (lv_at hl 1 rfl) ?_
  refine va_get (D := D) (ci := 12) (v := .ref (a 7)) (C := RX12) (T := TX12) (N := 48) hx hb hT ix_12 hown hK hP 0 rfl rfl 13 (by decide) (hT _ sw_1301) (fun _ h9 => h9) rfl dX12_lays_8 ?_
  refine lv_aload_n hx hb dX12_lays_11 rfl (lv_at hl 1 rfl) ?_
  refine va_get (D := D) (ci := 12) (v := .int 16) (C := RX12) (T := TX12) (N := 48) hx hb hT ix_12 hown hK hP 0 rfl rfl 14 (by decide) (hT _ sw_1302) (fun _ h9 => h9) rfl dX12_lays_12 ?_
  refine lv_iload_n hx hb dX12_lays_15 rfl (lv_at hl 0 rfl) ?_
  refine lv_iadd hx hb dX12_lays_16 ?_
  refine ct_i (z := 18) (by decide) ?_
  refine lv_iload_n hx hb dX12_lays_17 rfl (lv_at hl 2 rfl) ?_
  refine lv_bipush (v := 24) hx hb dX12_lays_18 (by decide) ?_
  refine lv_bipush (v := 8) hx hb dX12_lays_20 (by decide) ?_
  refine lv_iload_n hx hb dX12_lays_22 rfl (lv_at hl 0 rfl) ?_
  refine lv_imul hx hb dX12_lays_23 ?_
  refine ct_i (z := 16) (by decide) ?_
  refine lv_isub hx hb dX12_lays_24 ?_
  refine ct_i (z := 8) (by decide) ?_
  refine lv_ishr hx hb dX12_lays_25 ?_
  refine lv_topi (fun v_7 _ => ?_)
  refine lv_sipush (v := 255) hx hb dX12_lays_26 (by decide) ?_
  refine lv_iand hx hb dX12_lays_29 ?_
  refine lv_topi (fun v_8 _ => ?_)
  refine va_iast hx hb hK hP hD hS 1 0 rfl rfl (vi_c (by decide +kernel)) dX12_lays_30 (fun H locs hP hD hS => ?_)
  obtain ⟨f_9, hP, hD⟩ : ∃ f_9 : Nat → Int32, va_P D vwCl [(h0, .inr (12, (Value.int 0 :: Value.int 0 :: Value.ref (a 0) :: Value.int 0 :: Value.int 0 :: Value.ref (a 1) :: Value.ref (a 2) :: Value.int 0 :: Value.ref (a 3) :: Value.ref (a 4) :: Value.int 0 :: Value.ref (a 5) :: Value.ref (a 6) :: Value.ref (a 7) :: Value.int 16 :: Value.ref (a 8) :: Value.int 0 :: Value.int (-1) :: Value.int 0 :: Value.int 0 :: Value.int 0 :: Value.int 0 :: Value.int (-1) :: Value.ref (a 9) :: Value.ref (a 10) :: Value.ref (a 11) :: Value.int 0 :: Value.ref (a 12) :: Value.ref (a 13) :: Value.ref (a 14) :: Value.ref (a 15) :: Value.int 0 :: Value.int 0 :: Value.int 0 :: Value.int 0 :: Value.int 0 :: Value.int 0 :: Value.int 0 :: Value.int 0 :: Value.ref (a 16) :: Value.ref (a 17) :: Value.ref (a 18) :: Value.ref (a 19) :: Value.int 0 :: Value.int 0 :: Value.int 1 :: Value.ref (a 20) :: Value.int 0 :: []))), ((a 7), .inl (cI, 1200, .inl f_9))] H ∧ va_D A [(h0, .inr (12, (Value.int 0 :: Value.int 0 :: Value.ref (a 0) :: Value.int 0 :: Value.int 0 :: Value.ref (a 1) :: Value.ref (a 2) :: Value.int 0 :: Value.ref (a 3) :: Value.ref (a 4) :: Value.int 0 :: Value.ref (a 5) :: Value.ref (a 6) :: Value.ref (a 7) :: Value.int 16 :: Value.ref (a 8) :: Value.int 0 :: Value.int (-1) :: Value.int 0 :: Value.int 0 :: Value.int 0 :: Value.int 0 :: Value.int (-1) :: Value.ref (a 9) :: Value.ref (a 10) :: Value.ref (a 11) :: Value.int 0 :: Value.ref (a 12) :: Value.ref (a 13) :: Value.ref (a 14) :: Value.ref (a 15) :: Value.int 0 :: Value.int 0 :: Value.int 0 :: Value.int 0 :: Value.int 0 :: Value.int 0 :: Value.int 0 :: Value.int 0 :: Value.ref (a 16) :: Value.ref (a 17) :: Value.ref (a 18) :: Value.ref (a 19) :: Value.int 0 :: Value.int 0 :: Value.int 1 :: Value.ref (a 20) :: Value.int 0 :: []))), ((a 7), .inl (cI, 1200, .inl f_9))] := ⟨upd f_6 (18 : Int32).toNatClampNeg v_8, hP, hD⟩
  refine lv_iinc (v := 3) (lv' := [(2, .int 3), (0, .ref h0), (1, .int p0)]) hx hb dX12_lays_31 hl (k := 0) rfl (by decide) (by decide) rfl (fun ls hl => ?_)
  refine lv_goto (tgt := 2) hx hb dX12_lays_34 (by decide) ?_
  refine lv_iload_n hx hb dX12_lays_2 rfl (lv_at hl 0 rfl) ?_
  refine lv_iconst (v := 4) hx hb dX12_lays_3 (by decide) ?_
  refine lv_icmp_ge (tgt := 37) hx hb dX12_lays_4 (by decide) (fun h9 => absurd h9 (by decide)) (fun _ => ?_)
  refine lv_aload_n hx hb dX12_lays_7 rfl (lv_at hl 1 rfl) ?_
  refine va_get (D := D) (ci := 12) (v := .ref (a 7)) (C := RX12) (T := TX12) (N := 48) hx hb hT ix_12 hown hK hP 0 rfl rfl 13 (by decide) (hT _ sw_1301) (fun _ h9 => h9) rfl dX12_lays_8 ?_
  refine lv_aload_n hx hb dX12_lays_11 rfl (lv_at hl 1 rfl) ?_
  refine va_get (D := D) (ci := 12) (v := .int 16) (C := RX12) (T := TX12) (N := 48) hx hb hT ix_12 hown hK hP 0 rfl rfl 14 (by decide) (hT _ sw_1302) (fun _ h9 => h9) rfl dX12_lays_12 ?_
  refine lv_iload_n hx hb dX12_lays_15 rfl (lv_at hl 0 rfl) ?_
  refine lv_iadd hx hb dX12_lays_16 ?_
  refine ct_i (z := 19) (by decide) ?_
  refine lv_iload_n hx hb dX12_lays_17 rfl (lv_at hl 2 rfl) ?_
  refine lv_bipush (v := 24) hx hb dX12_lays_18 (by decide) ?_
  refine lv_bipush (v := 8) hx hb dX12_lays_20 (by decide) ?_
  refine lv_iload_n hx hb dX12_lays_22 rfl (lv_at hl 0 rfl) ?_
  refine lv_imul hx hb dX12_lays_23 ?_
  refine ct_i (z := 24) (by decide) ?_
  refine lv_isub hx hb dX12_lays_24 ?_
  refine ct_i (z := 0) (by decide) ?_
  refine lv_ishr hx hb dX12_lays_25 ?_
  refine lv_topi (fun v_10 _ => ?_)
  refine lv_sipush (v := 255) hx hb dX12_lays_26 (by decide) ?_
  refine lv_iand hx hb dX12_lays_29 ?_
  refine lv_topi (fun v_11 _ => ?_)
  refine va_iast hx hb hK hP hD hS 1 0 rfl rfl (vi_c (by decide +kernel)) dX12_lays_30 (fun H locs hP hD hS => ?_)
  obtain ⟨f_12, hP, hD⟩ : ∃ f_12 : Nat → Int32, va_P D vwCl [(h0, .inr (12, (Value.int 0 :: Value.int 0 :: Value.ref (a 0) :: Value.int 0 :: Value.int 0 :: Value.ref (a 1) :: Value.ref (a 2) :: Value.int 0 :: Value.ref (a 3) :: Value.ref (a 4) :: Value.int 0 :: Value.ref (a 5) :: Value.ref (a 6) :: Value.ref (a 7) :: Value.int 16 :: Value.ref (a 8) :: Value.int 0 :: Value.int (-1) :: Value.int 0 :: Value.int 0 :: Value.int 0 :: Value.int 0 :: Value.int (-1) :: Value.ref (a 9) :: Value.ref (a 10) :: Value.ref (a 11) :: Value.int 0 :: Value.ref (a 12) :: Value.ref (a 13) :: Value.ref (a 14) :: Value.ref (a 15) :: Value.int 0 :: Value.int 0 :: Value.int 0 :: Value.int 0 :: Value.int 0 :: Value.int 0 :: Value.int 0 :: Value.int 0 :: Value.ref (a 16) :: Value.ref (a 17) :: Value.ref (a 18) :: Value.ref (a 19) :: Value.int 0 :: Value.int 0 :: Value.int 1 :: Value.ref (a 20) :: Value.int 0 :: []))), ((a 7), .inl (cI, 1200, .inl f_12))] H ∧ va_D A [(h0, .inr (12, (Value.int 0 :: Value.int 0 :: Value.ref (a 0) :: Value.int 0 :: Value.int 0 :: Value.ref (a 1) :: Value.ref (a 2) :: Value.int 0 :: Value.ref (a 3) :: Value.ref (a 4) :: Value.int 0 :: Value.ref (a 5) :: Value.ref (a 6) :: Value.ref (a 7) :: Value.int 16 :: Value.ref (a 8) :: Value.int 0 :: Value.int (-1) :: Value.int 0 :: Value.int 0 :: Value.int 0 :: Value.int 0 :: Value.int (-1) :: Value.ref (a 9) :: Value.ref (a 10) :: Value.ref (a 11) :: Value.int 0 :: Value.ref (a 12) :: Value.ref (a 13) :: Value.ref (a 14) :: Value.ref (a 15) :: Value.int 0 :: Value.int 0 :: Value.int 0 :: Value.int 0 :: Value.int 0 :: Value.int 0 :: Value.int 0 :: Value.int 0 :: Value.ref (a 16) :: Value.ref (a 17) :: Value.ref (a 18) :: Value.ref (a 19) :: Value.int 0 :: Value.int 0 :: Value.int 1 :: Value.ref (a 20) :: Value.int 0 :: []))), ((a 7), .inl (cI, 1200, .inl f_12))] := ⟨upd f_9 (19 : Int32).toNatClampNeg v_11, hP, hD⟩
  refine lv_iinc (v := 4) (lv' := [(2, .int 4), (0, .ref h0), (1, .int p0)]) hx hb dX12_lays_31 hl (k := 0) rfl (by decide) (by decide) rfl (fun ls hl => ?_)
  refine lv_goto (tgt := 2) hx hb dX12_lays_34 (by decide) ?_
  refine lv_iload_n hx hb dX12_lays_2 rfl (lv_at hl 0 rfl) ?_
  refine lv_iconst (v := 4) hx hb dX12_lays_3 (by decide) ?_
  refine lv_icmp_ge (tgt := 37) hx hb dX12_lays_4 (by decide) (fun _ => ?_) (fun h9 => absurd (by decide) h9)
  refine lv_aload_n hx hb dX12_lays_37 rfl (lv_at hl 1 rfl) ?_
  refine lv_dup hx hb dX12_lays_38 rfl ?_
  refine va_get (D := D) (ci := 12) (v := .int 16) (C := RX12) (T := TX12) (N := 48) hx hb hT ix_12 hown hK hP 0 rfl rfl 14 (by decide) (hT _ sw_1302) (fun _ h9 => h9) rfl dX12_lays_39 ?_
  refine lv_iconst (v := 4) hx hb dX12_lays_42 (by decide) ?_
  refine lv_iadd hx hb dX12_lays_43 ?_
  refine ct_i (z := 20) (by decide) ?_
  refine va_put (D := D) (ci := 12) (v := .int 20) (ty := .int) (C := RX12) (T := TX12) (N := 48) hx hb hT ix_12 tyX12 tyX12_ok nmX12 hown hK hP hD hS 0 rfl rfl 14 (by decide) (hT _ sw_1302) (fun _ h9 => h9) rfl (by decide +kernel) rfl rfl (Nat.le_of_ble_eq_true rfl) dX12_lays_44 (fun H locs hP hD hS => ?_)
  have hP : va_P D vwCl [(h0, .inr (12, (Value.int 0 :: Value.int 0 :: Value.ref (a 0) :: Value.int 0 :: Value.int 0 :: Value.ref (a 1) :: Value.ref (a 2) :: Value.int 0 :: Value.ref (a 3) :: Value.ref (a 4) :: Value.int 0 :: Value.ref (a 5) :: Value.ref (a 6) :: Value.ref (a 7) :: Value.int 20 :: Value.ref (a 8) :: Value.int 0 :: Value.int (-1) :: Value.int 0 :: Value.int 0 :: Value.int 0 :: Value.int 0 :: Value.int (-1) :: Value.ref (a 9) :: Value.ref (a 10) :: Value.ref (a 11) :: Value.int 0 :: Value.ref (a 12) :: Value.ref (a 13) :: Value.ref (a 14) :: Value.ref (a 15) :: Value.int 0 :: Value.int 0 :: Value.int 0 :: Value.int 0 :: Value.int 0 :: Value.int 0 :: Value.int 0 :: Value.int 0 :: Value.ref (a 16) :: Value.ref (a 17) :: Value.ref (a 18) :: Value.ref (a 19) :: Value.int 0 :: Value.int 0 :: Value.int 1 :: Value.ref (a 20) :: Value.int 0 :: []))), ((a 7), .inl (cI, 1200, .inl f_12))] H := hP
  have hD : va_D A [(h0, .inr (12, (Value.int 0 :: Value.int 0 :: Value.ref (a 0) :: Value.int 0 :: Value.int 0 :: Value.ref (a 1) :: Value.ref (a 2) :: Value.int 0 :: Value.ref (a 3) :: Value.ref (a 4) :: Value.int 0 :: Value.ref (a 5) :: Value.ref (a 6) :: Value.ref (a 7) :: Value.int 20 :: Value.ref (a 8) :: Value.int 0 :: Value.int (-1) :: Value.int 0 :: Value.int 0 :: Value.int 0 :: Value.int 0 :: Value.int (-1) :: Value.ref (a 9) :: Value.ref (a 10) :: Value.ref (a 11) :: Value.int 0 :: Value.ref (a 12) :: Value.ref (a 13) :: Value.ref (a 14) :: Value.ref (a 15) :: Value.int 0 :: Value.int 0 :: Value.int 0 :: Value.int 0 :: Value.int 0 :: Value.int 0 :: Value.int 0 :: Value.int 0 :: Value.ref (a 16) :: Value.ref (a 17) :: Value.ref (a 18) :: Value.ref (a 19) :: Value.int 0 :: Value.int 0 :: Value.int 1 :: Value.ref (a 20) :: Value.int 0 :: []))), ((a 7), .inl (cI, 1200, .inl f_12))] := hD
  have hP9 := hP.sub (ws' := [(h0, .inr (12, (Value.int 0 :: Value.int 0 :: Value.ref (a 0) :: Value.int 0 :: Value.int 0 :: Value.ref (a 1) :: Value.ref (a 2) :: Value.int 0 :: Value.ref (a 3) :: Value.ref (a 4) :: Value.int 0 :: Value.ref (a 5) :: Value.ref (a 6) :: Value.ref (a 7) :: Value.int 20 :: Value.ref (a 8) :: Value.int 0 :: Value.int (-1) :: Value.int 0 :: Value.int 0 :: Value.int 0 :: Value.int 0 :: Value.int (-1) :: Value.ref (a 9) :: Value.ref (a 10) :: Value.ref (a 11) :: Value.int 0 :: Value.ref (a 12) :: Value.ref (a 13) :: Value.ref (a 14) :: Value.ref (a 15) :: Value.int 0 :: Value.int 0 :: Value.int 0 :: Value.int 0 :: Value.int 0 :: Value.int 0 :: Value.int 0 :: Value.int 0 :: Value.ref (a 16) :: Value.ref (a 17) :: Value.ref (a 18) :: Value.ref (a 19) :: Value.int 0 :: Value.int 0 :: Value.int 1 :: Value.ref (a 20) :: Value.int 0 :: []))), ((a 7), .inl (cI, 1200, .inl f_12))]) [0, 1] rfl
  have hD9 := hD.sub (ws' := [(h0, .inr (12, (Value.int 0 :: Value.int 0 :: Value.ref (a 0) :: Value.int 0 :: Value.int 0 :: Value.ref (a 1) :: Value.ref (a 2) :: Value.int 0 :: Value.ref (a 3) :: Value.ref (a 4) :: Value.int 0 :: Value.ref (a 5) :: Value.ref (a 6) :: Value.ref (a 7) :: Value.int 20 :: Value.ref (a 8) :: Value.int 0 :: Value.int (-1) :: Value.int 0 :: Value.int 0 :: Value.int 0 :: Value.int 0 :: Value.int (-1) :: Value.ref (a 9) :: Value.ref (a 10) :: Value.ref (a 11) :: Value.int 0 :: Value.ref (a 12) :: Value.ref (a 13) :: Value.ref (a 14) :: Value.ref (a 15) :: Value.int 0 :: Value.int 0 :: Value.int 0 :: Value.int 0 :: Value.int 0 :: Value.int 0 :: Value.int 0 :: Value.int 0 :: Value.ref (a 16) :: Value.ref (a 17) :: Value.ref (a 18) :: Value.ref (a 19) :: Value.int 0 :: Value.int 0 :: Value.int 1 :: Value.ref (a 20) :: Value.int 0 :: []))), ((a 7), .inl (cI, 1200, .inl f_12))]) [0, 1] (by decide) rfl
  exact W.vret hx hb hr (fun t ht _ => ⟨rfl, ⟨(fun k => [].getD k 0, fun k => [f_12].getD k zI), by rw [ht]; exact hP9, hD9⟩, hS.F ht⟩) hS.2.2 dX12_lays_47
