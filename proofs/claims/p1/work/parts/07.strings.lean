/-! the text "wheel": the constant's own cells, which no walk writes -/
def z_S (aS aV : Nat) (A : Nat → Prop) (U : State) (H : Heap) : Prop :=
  vk_R RX4 74 "wheel" aS U ∧ va_O "java/lang/String" aS A U H ∧ va_OF "java/lang/String" "coder" "B" (.int 0) aS A U H ∧ va_OF "java/lang/String" "value" "[B" (.ref aV) aS A U H ∧ va_T .byte aV 5 (fun j => .int (([[119, 104, 101, 101, 108]] : List (List Int32)).getD 0 [] |>.getD j 0)) A U H ∧ va_Z "java/lang/String" "COMPACT_STRINGS" "Z" (.int 1) A U H
theorem z_S.on {aS aV : Nat} {A B : Nat → Prop} {s U : State} {H : Heap} (h : z_S aS aV A s s.heap) (hk : ∀ q : Nat, q < s.heap.size → ¬ A q → H[q]? = s.heap[q]?) (hAB : ∀ q, B q → A q) (hW : s.WarmedH U.vm) : z_S aS aV B U H :=
  ⟨h.1.warm hW, ((h.2.1.kept hk).narrow hAB).moved hW.alike, ((h.2.2.1.kept hk).narrow hAB).moved hW.alike, ((h.2.2.2.1.kept hk).narrow hAB).moved hW.alike, ((h.2.2.2.2.1.kept hk).narrow hAB).moved hW.alike, ((h.2.2.2.2.2.kept hk).narrow hAB).moved hW.alike⟩
theorem z_S.call {aS aV : Nat} {A : Nat → Prop} {U : State} {g : JFrame} {mk : MethodId} {a : Array Value} (h : z_S aS aV A U U.heap) : z_S aS aV A (U.calling g mk a) (U.calling g mk a).heap :=
  ⟨vk_R.same (u := U) (U := U.calling g mk a) rfl h.1, va_O.moved (u := U) (U := U.calling g mk a) (Vm.Alike.refl U.vm) h.2.1, va_OF.moved (u := U) (U := U.calling g mk a) (Vm.Alike.refl U.vm) h.2.2.1, va_OF.moved (u := U) (U := U.calling g mk a) (Vm.Alike.refl U.vm) h.2.2.2.1, va_T.moved (u := U) (U := U.calling g mk a) (Vm.Alike.refl U.vm) h.2.2.2.2.1, va_Z.moved (u := U) (U := U.calling g mk a) (Vm.Alike.refl U.vm) h.2.2.2.2.2⟩
def p_Z (av : List Value) (aS aV : Nat) : Array Value → State → Prop := fun v U => v = av.toArray ∧ z_S aS aV (fun _ => False) U U.heap
def p_RZ (D : va_G) (cl : List vw_C) (ty : List (ClassId × FieldType)) (av : List Value) (ws : va_W) (aS aV : Nat) : Array Value → State → Prop := fun v U => p_R D cl ty av ws v U ∧ z_S aS aV (fun _ => False) U U.heap
def p_MZ (D : va_G) (cl : List vw_C) (ty : List (ClassId × FieldType)) (av : List Value) (ws : va_W) (sz : Nat) (aS aV : Nat) : Array Value → State → Prop := fun v U => p_M D cl ty av ws sz v U ∧ z_S aS aV (va_A ws sz) U U.heap
section PREZ
variable {s : State} {H : Heap} {D : va_G} {cl : List vw_C} {ty : List (ClassId × FieldType)} {av As : List Value} {ws : va_W} {aS aV : Nat}
theorem p_Z_V (hZ : ∀ U : State, s.WarmedH U.vm → z_S aS aV (fun _ => False) U H) (hO : ∃ cell : Cell, H[aS]? = some cell ∧ cell.vm.isStatics = false ∧ s.vm.findClass "java/lang/String" = some cell.cls) : PreV s H "java/lang/String" aS (p_Z [.ref aS] aS aV) [] :=
  ⟨fun a U g mk q => ⟨q.1, q.2.call⟩, hO, fun U hU hW => ⟨rfl, by rw [hU]; exact hZ U hW⟩⟩
theorem p_RZ_V {a ci q0 : Nat} {q : vw_C} {fs : List Value} (hP : va_P D cl ws H) (hK : va_K D cl ty s) (hc : cl[ci]? = some q) (he : ws[q0]? = some (a, .inr (ci, fs))) (hZ : ∀ U : State, s.WarmedH U.vm → z_S aS aV (fun _ => False) U H) : PreV s H q.1 a (p_RZ D cl ty (.ref a :: As) ws aS aV) As :=
  ⟨fun a' U g mk q' => ⟨(p_R_S (As := .ref a :: As) hP hK).1 a' U g mk q'.1, q'.2.call⟩, va_recv hK hP hc he, fun U hU hW => ⟨(p_R_S (As := .ref a :: As) hP hK).2 U hU hW, by rw [hU]; exact hZ U hW⟩⟩
theorem p_MZ_V {a ci q0 : Nat} {q : vw_C} {fs : List Value} (hP : va_P D cl ws H) (hK : va_K D cl ty s) (hD : va_D (fun _ => True) ws) (hc : cl[ci]? = some q) (he : ws[q0]? = some (a, .inr (ci, fs))) (hZ : ∀ U : State, s.WarmedH U.vm → z_S aS aV (va_A ws H.size) U H) : PreV s H q.1 a (p_MZ D cl ty (.ref a :: As) ws H.size aS aV) As :=
  ⟨fun a' U g mk q' => ⟨(p_M_S (As := .ref a :: As) hP hK hD).1 a' U g mk q'.1, q'.2.call⟩, va_recv hK hP hc he, fun U hU hW => ⟨(p_M_S (As := .ref a :: As) hP hK hD).2 U hU hW, by rw [hU]; exact hZ U hW⟩⟩
theorem z_S.recv {A : Nat → Prop} (h : z_S aS aV A s s.heap) (hk : ∀ q : Nat, q < s.heap.size → ¬ A q → H[q]? = s.heap[q]?) : ∃ cell : Cell, H[aS]? = some cell ∧ cell.vm.isStatics = false ∧ s.vm.findClass "java/lang/String" = some cell.cls := by
  obtain ⟨cell, h1, h2, h3, -⟩ := h.2.1.kept hk
  exact ⟨cell, h1, h2, h3⟩
end PREZ
set_option maxHeartbeats 4000000 in
set_option maxRecDepth 100000 in
theorem kJ0_coder (l : Launch) (aS aV : Nat) : Met l yJ0_coder_7d493 (sw_ws yJ0_coder_7d493 cJ0_coder_7d493 1 (some .byte)) (rm_ 0 0 0 0) (p_Z [.ref aS] aS aV) (q_R (some (.int 0))) 0 0 (fun _ => False) := by
  refine Met.ofW (cc := cJ0_coder_7d493) (maxL := 1) (ret := (some .byte)) (by decide) rfl ?_
  intro p e s m args below meth c s₁ B hml hv
  obtain ⟨rfl, hZ⟩ := hv
  have hx := B.exec
  have hb := B.bytes
  have hr := B.returns
  have hT := sw_in (atoms_spec (ws := sw_ws yJ0_coder_7d493 cJ0_coder_7d493 1 (some .byte)) B.pre)
  have hown : s.vm.findClass RJ0 = some m.cls := findClass_of_methodNamed B.named
  have hlocks := B.notSynchronized
  have hS : va_S (fun _ => False) s.heap s.heap [] := va_S.rf
  have hl := lv_entry ([.ref aS]) (n := 1) (Nat.le_of_ble_eq_true rfl)
  rw [lg_entry_eq]
  generalize (lg_sl ([.ref aS]) ++ List.replicate (1 - (lg_sl ([.ref aS])).length) Slot.unset).toArray = ls at hl ⊢
  have hl : lv_has ls 1 [(0, .ref aS)] := hl
  refine va_gets hx hb hZ.2.2.2.2.2 hS hown (hT _ sw_640) (fun _ h9 => h9) dJ0_coder_7d493_0 ?_
  refine lv_if_eq (tgt := 13) hx hb dJ0_coder_7d493_3 (by decide) (fun h9 => absurd h9 (by decide)) (fun _ => ?_)
  refine lv_aload_n hx hb dJ0_coder_7d493_6 rfl (lv_at hl 0 rfl) ?_
  refine vk_getf hx hb hZ.2.2.1 hS hown (hT _ sw_1964) (fun _ h9 => h9) dJ0_coder_7d493_7 ?_
  refine lv_goto (tgt := 14) hx hb dJ0_coder_7d493_10 (by decide) ?_
  exact W.zret (v := 0) hx hb hr (by decide) (fun t ht _ => ⟨rfl, ht⟩) (fun _ h9 => nomatch h9) dJ0_coder_7d493_14
set_option maxHeartbeats 4000000 in
set_option maxRecDepth 100000 in
theorem kJ0_length (l : Launch) (aS aV : Nat) : Met l yJ0_length_8abf5 (sw_ws yJ0_length_8abf5 cJ0_length_8abf5 1 (some .int)) (rm_ 1 20 0 0) (p_Z [.ref aS] aS aV) (q_R (some (.int 5))) 0 0 (fun _ => False) := by
  refine Met.ofW (cc := cJ0_length_8abf5) (maxL := 1) (ret := (some .int)) (by decide) rfl ?_
  intro p e s m args below meth c s₁ B hml hv
  obtain ⟨rfl, hZ⟩ := hv
  have hx := B.exec
  have hb := B.bytes
  have hr := B.returns
  have hT := sw_in (atoms_spec (ws := sw_ws yJ0_length_8abf5 cJ0_length_8abf5 1 (some .int)) B.pre)
  have hown : s.vm.findClass RJ0 = some m.cls := findClass_of_methodNamed B.named
  have hlocks := B.notSynchronized
  have hS : va_S (fun _ => False) s.heap s.heap [] := va_S.rf
  have hl := lv_entry ([.ref aS]) (n := 1) (Nat.le_of_ble_eq_true rfl)
  rw [lg_entry_eq]
  generalize (lg_sl ([.ref aS]) ++ List.replicate (1 - (lg_sl ([.ref aS])).length) Slot.unset).toArray = ls at hl ⊢
  have hl : lv_has ls 1 [(0, .ref aS)] := hl
  refine lv_aload_n hx hb dJ0_length_8abf5_0 rfl (lv_at hl 0 rfl) ?_
  refine vk_getf hx hb hZ.2.2.2.1 hS hown (hT _ sw_1963) (fun _ h9 => h9) dJ0_length_8abf5_1 ?_
  refine va_tlen (v := 5) hx hb hZ.2.2.2.2.1 hS (by decide) dJ0_length_8abf5_4 ?_
  refine lv_aload_n hx hb dJ0_length_8abf5_5 rfl (lv_at hl 0 rfl) ?_
  refine go_R (v := some (.int 0)) (st1 := [.int 0, .int 5]) (run_V (As := []) (rest := [.int 5]) ⟨hx, hb, hml, hown, hT⟩ (kJ0_coder l aS aV) sw_636 lkv_J0_coder_7d493 (p_Z_V (fun U hW => hZ.on (fun _ _ _ => rfl) (fun _ h => h) hW) (hZ.recv (fun _ _ _ => rfl))) rfl hl.1 rfl (Nat.le_of_ble_eq_true rfl) dJ0_length_8abf5_6 ⟨⟨Nat.le_of_ble_eq_true rfl, Nat.le_of_ble_eq_true rfl⟩, Nat.le_of_ble_eq_true rfl, Nat.le_of_ble_eq_true rfl⟩) rfl ?_
  refine lv_ishr hx hb dJ0_length_8abf5_9 ?_
  refine ct_i (z := 5) (by decide) ?_
  exact W.iret (v := 5) hx hb hr (fun t ht _ => ⟨rfl, ht⟩) (fun _ h9 => nomatch h9) dJ0_length_8abf5_10
