set_option maxHeartbeats 4000000 in
set_option maxRecDepth 100000 in
/-- feed: class and reference answer alike -/
theorem law_0 {p : Program} {l : Launch} {e : Env} {s : State} {m : MethodId} {below : List Frame} {meth : Method} {c : Code} {b : Nat} {xs : Nat → Int32} {D : va_G} {cI : ClassId} {qx qm : Nat} {ax am : Nat → Nat} {H : Heap} {locs : List Loc} {ls : Array Slot} (C : lw_C p s m meth c b xs D cI) (hP : va_P D vwCl (w_L cI qx ax qm am) H) (hD : va_D (fun q : Nat => s.heap.size ≤ q) (w_L cI qx ax qm am)) (hS : va_S (fun q : Nat => s.heap.size ≤ q) s.heap H locs) (hl : lv_has ls 4 [(3, .int 0), (2, .ref qm), (1, .ref qx), (0, .ref b)]) : W p l e room_1 s m #[Value.ref b] below meth c H locs 78 71288 (lw_Z below #[Value.ref b] s) (F0 m 240 ls []) := by
  have C0 := C
  obtain ⟨hx, hb, hr, hml, hown, hT, hX, hbl, hlocks, hK⟩ := C
  have hA : ∀ q : Nat, s.heap.size ≤ q → (fun q : Nat => s.heap.size ≤ q) q := fun _ h => h
  have hbA : ¬ (fun q : Nat => s.heap.size ≤ q) b := Nat.not_le.mpr hbl
  refine lv_aload_n hx hb dL_law_240 rfl (lv_at hl 2 rfl) ?_
  refine lv_aload_n hx hb dL_law_241 rfl (lv_at hl 3 rfl) ?_
  refine lv_iload_n hx hb dL_law_242 rfl (lv_at hl 0 rfl) ?_
  refine lv_iconst (v := 1) hx hb dL_law_243 (by decide) ?_
  refine lv_iadd hx hb dL_law_244 ?_
  refine ct_i (z := 1) (by decide) ?_
  refine va_sld hx hb hX hbl hbA hS (vi_c (by decide +kernel)) dL_law_245 ?_
  refine lv_aload_n hx hb dL_law_246 rfl (lv_at hl 3 rfl) ?_
  refine lv_iload_n hx hb dL_law_247 rfl (lv_at hl 0 rfl) ?_
  refine lv_iconst (v := 2) hx hb dL_law_248 (by decide) ?_
  refine lv_iadd hx hb dL_law_249 ?_
  refine ct_i (z := 2) (by decide) ?_
  refine va_sld hx hb hX hbl hbA hS (vi_c (by decide +kernel)) dL_law_250 ?_
  refine lv_aload_n hx hb dL_law_251 rfl (lv_at hl 3 rfl) ?_
  refine lv_iload_n hx hb dL_law_252 rfl (lv_at hl 0 rfl) ?_
  refine lv_iconst (v := 3) hx hb dL_law_253 (by decide) ?_
  refine lv_iadd hx hb dL_law_254 ?_
  refine ct_i (z := 3) (by decide) ?_
  refine va_sld hx hb hX hbl hbA hS (vi_c (by decide +kernel)) dL_law_255 ?_
  refine lv_aload_n hx hb dL_law_256 rfl (lv_at hl 3 rfl) ?_
  refine lv_iload_n hx hb dL_law_257 rfl (lv_at hl 0 rfl) ?_
  refine lv_iconst (v := 4) hx hb dL_law_258 (by decide) ?_
  refine lv_iadd hx hb dL_law_259 ?_
  refine ct_i (z := 4) (by decide) ?_
  refine va_sld hx hb hX hbl hbA hS (vi_c (by decide +kernel)) dL_law_260 ?_
  refine lv_aload_n hx hb dL_law_261 rfl (lv_at hl 3 rfl) ?_
  refine lv_iload_n hx hb dL_law_262 rfl (lv_at hl 0 rfl) ?_
  refine lv_iconst (v := 5) hx hb dL_law_263 (by decide) ?_
  refine lv_iadd hx hb dL_law_264 ?_
  refine ct_i (z := 5) (by decide) ?_
  refine va_sld hx hb hX hbl hbA hS (vi_c (by decide +kernel)) dL_law_265 ?_
  refine go_M (wc := [(qx, .inr (11, (Value.ref (ax 0) :: Value.ref (ax 1) :: Value.ref (ax 2) :: Value.ref (ax 3) :: Value.ref (ax 4) :: Value.ref (ax 5) :: Value.ref (ax 6) :: Value.ref (ax 7) :: Value.ref (ax 8) :: Value.ref (ax 9) :: Value.ref (ax 10) :: Value.ref (ax 11) :: Value.ref (ax 12) :: Value.ref (ax 13) :: Value.ref (ax 14) :: Value.int 0 :: Value.int 0 :: Value.int 0 :: []))), ((ax 0), .inr (9, [.ref (ax 15), .int 0])), ((ax 15), .inl (cI, 300, .inl zI))]) (wr := [(qm, .inr (12, (Value.int 0 :: Value.int 0 :: Value.ref (am 0) :: Value.int 0 :: Value.int 0 :: Value.ref (am 1) :: Value.ref (am 2) :: Value.int 0 :: Value.ref (am 3) :: Value.ref (am 4) :: Value.int 0 :: Value.ref (am 5) :: Value.ref (am 6) :: Value.ref (am 7) :: Value.int 0 :: Value.ref (am 8) :: Value.int 0 :: Value.int (-1) :: Value.int 0 :: Value.int 0 :: Value.int 0 :: Value.int 0 :: Value.int (-1) :: Value.ref (am 9) :: Value.ref (am 10) :: Value.ref (am 11) :: Value.int 0 :: Value.ref (am 12) :: Value.ref (am 13) :: Value.ref (am 14) :: Value.ref (am 15) :: Value.int 0 :: Value.int 0 :: Value.int 0 :: Value.int 0 :: Value.int 0 :: Value.int 0 :: Value.int 0 :: Value.int 0 :: Value.ref (am 16) :: Value.ref (am 17) :: Value.ref (am 18) :: Value.ref (am 19) :: Value.int 0 :: Value.int 0 :: Value.int 1 :: Value.ref (am 20) :: Value.int 0 :: []))), ((am 7), .inl (cI, 1200, .inl zI)), ((am 8), .inl (cI, 6, .inl zI)), ((am 10), .inl (cI, 3252, .inl zI)), ((am 20), .inl (cI, 130, .inl zI))]) (w1 := fun u => []) (v := some (.int 20)) (st1 := [.int 20]) hP hD hS hA [0, 1, 2] [13, 14, 15, 16, 17] rfl rfl (by decide) (by decide) (by decide) (fun hPc hDc => run_V (As := [.int (xs (1 : Int32).toNatClampNeg), .int (xs (2 : Int32).toNatClampNeg), .int (xs (3 : Int32).toNatClampNeg), .int (xs (4 : Int32).toNatClampNeg), .int (xs (5 : Int32).toNatClampNeg)]) (rest := []) ⟨hx, hb, hml, hown, hT⟩ (kX11_feed_0 l D cI qx ax (xs (1 : Int32).toNatClampNeg) (xs (2 : Int32).toNatClampNeg) (xs (3 : Int32).toNatClampNeg) (xs (4 : Int32).toNatClampNeg) (xs (5 : Int32).toNatClampNeg) zI _) sw_570 lkv_X11_feed (p_M_V (ci := 11) (q0 := 0) hPc hK hDc rfl rfl) rfl hl.1 rfl (Nat.le_of_ble_eq_true rfl) dL_law_266 ⟨⟨Nat.le_of_ble_eq_true rfl, Nat.le_of_ble_eq_true rfl⟩, Nat.le_of_ble_eq_true rfl, Nat.le_of_ble_eq_true rfl⟩) rfl (fun u H locs hP hD hS => ?_)
  have hP : va_P D vwCl [(qm, .inr (12, (Value.int 0 :: Value.int 0 :: Value.ref (am 0) :: Value.int 0 :: Value.int 0 :: Value.ref (am 1) :: Value.ref (am 2) :: Value.int 0 :: Value.ref (am 3) :: Value.ref (am 4) :: Value.int 0 :: Value.ref (am 5) :: Value.ref (am 6) :: Value.ref (am 7) :: Value.int 0 :: Value.ref (am 8) :: Value.int 0 :: Value.int (-1) :: Value.int 0 :: Value.int 0 :: Value.int 0 :: Value.int 0 :: Value.int (-1) :: Value.ref (am 9) :: Value.ref (am 10) :: Value.ref (am 11) :: Value.int 0 :: Value.ref (am 12) :: Value.ref (am 13) :: Value.ref (am 14) :: Value.ref (am 15) :: Value.int 0 :: Value.int 0 :: Value.int 0 :: Value.int 0 :: Value.int 0 :: Value.int 0 :: Value.int 0 :: Value.int 0 :: Value.ref (am 16) :: Value.ref (am 17) :: Value.ref (am 18) :: Value.ref (am 19) :: Value.int 0 :: Value.int 0 :: Value.int 1 :: Value.ref (am 20) :: Value.int 0 :: []))), ((am 7), .inl (cI, 1200, .inl zI)), ((am 8), .inl (cI, 6, .inl zI)), ((am 10), .inl (cI, 3252, .inl zI)), ((am 20), .inl (cI, 130, .inl zI))] H := hP
  have hD : va_D (fun q : Nat => s.heap.size ≤ q) [(qm, .inr (12, (Value.int 0 :: Value.int 0 :: Value.ref (am 0) :: Value.int 0 :: Value.int 0 :: Value.ref (am 1) :: Value.ref (am 2) :: Value.int 0 :: Value.ref (am 3) :: Value.ref (am 4) :: Value.int 0 :: Value.ref (am 5) :: Value.ref (am 6) :: Value.ref (am 7) :: Value.int 0 :: Value.ref (am 8) :: Value.int 0 :: Value.int (-1) :: Value.int 0 :: Value.int 0 :: Value.int 0 :: Value.int 0 :: Value.int (-1) :: Value.ref (am 9) :: Value.ref (am 10) :: Value.ref (am 11) :: Value.int 0 :: Value.ref (am 12) :: Value.ref (am 13) :: Value.ref (am 14) :: Value.ref (am 15) :: Value.int 0 :: Value.int 0 :: Value.int 0 :: Value.int 0 :: Value.int 0 :: Value.int 0 :: Value.int 0 :: Value.int 0 :: Value.ref (am 16) :: Value.ref (am 17) :: Value.ref (am 18) :: Value.ref (am 19) :: Value.int 0 :: Value.int 0 :: Value.int 1 :: Value.ref (am 20) :: Value.int 0 :: []))), ((am 7), .inl (cI, 1200, .inl zI)), ((am 8), .inl (cI, 6, .inl zI)), ((am 10), .inl (cI, 3252, .inl zI)), ((am 20), .inl (cI, 130, .inl zI))] := hD
  refine lv_aload_n hx hb dL_law_269 rfl (lv_at hl 1 rfl) ?_
  refine lv_aload_n hx hb dL_law_270 rfl (lv_at hl 3 rfl) ?_
  refine lv_iload_n hx hb dL_law_271 rfl (lv_at hl 0 rfl) ?_
  refine lv_iconst (v := 1) hx hb dL_law_272 (by decide) ?_
  refine lv_iadd hx hb dL_law_273 ?_
  refine ct_i (z := 1) (by decide) ?_
  refine va_sld hx hb hX hbl hbA hS (vi_c (by decide +kernel)) dL_law_274 ?_
  refine lv_aload_n hx hb dL_law_275 rfl (lv_at hl 3 rfl) ?_
  refine lv_iload_n hx hb dL_law_276 rfl (lv_at hl 0 rfl) ?_
  refine lv_iconst (v := 2) hx hb dL_law_277 (by decide) ?_
  refine lv_iadd hx hb dL_law_278 ?_
  refine ct_i (z := 2) (by decide) ?_
  refine va_sld hx hb hX hbl hbA hS (vi_c (by decide +kernel)) dL_law_279 ?_
  refine lv_aload_n hx hb dL_law_280 rfl (lv_at hl 3 rfl) ?_
  refine lv_iload_n hx hb dL_law_281 rfl (lv_at hl 0 rfl) ?_
  refine lv_iconst (v := 3) hx hb dL_law_282 (by decide) ?_
  refine lv_iadd hx hb dL_law_283 ?_
  refine ct_i (z := 3) (by decide) ?_
  refine va_sld hx hb hX hbl hbA hS (vi_c (by decide +kernel)) dL_law_284 ?_
  refine lv_aload_n hx hb dL_law_285 rfl (lv_at hl 3 rfl) ?_
  refine lv_iload_n hx hb dL_law_286 rfl (lv_at hl 0 rfl) ?_
  refine lv_iconst (v := 4) hx hb dL_law_287 (by decide) ?_
  refine lv_iadd hx hb dL_law_288 ?_
  refine ct_i (z := 4) (by decide) ?_
  refine va_sld hx hb hX hbl hbA hS (vi_c (by decide +kernel)) dL_law_289 ?_
  refine lv_aload_n hx hb dL_law_290 rfl (lv_at hl 3 rfl) ?_
  refine lv_iload_n hx hb dL_law_291 rfl (lv_at hl 0 rfl) ?_
  refine lv_iconst (v := 5) hx hb dL_law_292 (by decide) ?_
  refine lv_iadd hx hb dL_law_293 ?_
  refine ct_i (z := 5) (by decide) ?_
  refine va_sld hx hb hX hbl hbA hS (vi_c (by decide +kernel)) dL_law_294 ?_
  refine go_M (wc := [(qm, .inr (12, (Value.int 0 :: Value.int 0 :: Value.ref (am 0) :: Value.int 0 :: Value.int 0 :: Value.ref (am 1) :: Value.ref (am 2) :: Value.int 0 :: Value.ref (am 3) :: Value.ref (am 4) :: Value.int 0 :: Value.ref (am 5) :: Value.ref (am 6) :: Value.ref (am 7) :: Value.int 0 :: Value.ref (am 8) :: Value.int 0 :: Value.int (-1) :: Value.int 0 :: Value.int 0 :: Value.int 0 :: Value.int 0 :: Value.int (-1) :: Value.ref (am 9) :: Value.ref (am 10) :: Value.ref (am 11) :: Value.int 0 :: Value.ref (am 12) :: Value.ref (am 13) :: Value.ref (am 14) :: Value.ref (am 15) :: Value.int 0 :: Value.int 0 :: Value.int 0 :: Value.int 0 :: Value.int 0 :: Value.int 0 :: Value.int 0 :: Value.int 0 :: Value.ref (am 16) :: Value.ref (am 17) :: Value.ref (am 18) :: Value.ref (am 19) :: Value.int 0 :: Value.int 0 :: Value.int 1 :: Value.ref (am 20) :: Value.int 0 :: []))), ((am 7), .inl (cI, 1200, .inl zI))]) (wr := []) (w1 := fun u => []) (v := some (.int 20)) (st1 := [.int 20, .int 20]) hP hD hS hA [0, 1] [] rfl rfl (by decide) (by decide) (by decide) (fun hPc hDc => run_V (As := [.int (xs (1 : Int32).toNatClampNeg), .int (xs (2 : Int32).toNatClampNeg), .int (xs (3 : Int32).toNatClampNeg), .int (xs (4 : Int32).toNatClampNeg), .int (xs (5 : Int32).toNatClampNeg)]) (rest := [.int 20]) ⟨hx, hb, hml, hown, hT⟩ (kX12_feed_0 l D cI qm am (xs (1 : Int32).toNatClampNeg) (xs (2 : Int32).toNatClampNeg) (xs (3 : Int32).toNatClampNeg) (xs (4 : Int32).toNatClampNeg) (xs (5 : Int32).toNatClampNeg) zI _) sw_1434 lkv_X12_feed (p_M_V (ci := 12) (q0 := 0) hPc hK hDc rfl rfl) rfl hl.1 rfl (Nat.le_of_ble_eq_true rfl) dL_law_295 ⟨⟨Nat.le_of_ble_eq_true rfl, Nat.le_of_ble_eq_true rfl⟩, Nat.le_of_ble_eq_true rfl, Nat.le_of_ble_eq_true rfl⟩) rfl (fun u H locs hP hD hS => ?_)
  have hP : va_P D vwCl [] H := hP
  have hD : va_D (fun q : Nat => s.heap.size ≤ q) [] := hD
  refine lv_icmp_eq (tgt := 1665) hx hb dL_law_298 (by decide) (fun _ => ?_) (fun h9 => absurd rfl h9)
  exact law_back C0 hS hl
set_option maxHeartbeats 4000000 in
set_option maxRecDepth 100000 in
/-- end: class and reference answer alike -/
theorem law_1 {p : Program} {l : Launch} {e : Env} {s : State} {m : MethodId} {below : List Frame} {meth : Method} {c : Code} {b : Nat} {xs : Nat → Int32} {D : va_G} {cI : ClassId} {qx qm : Nat} {ax am : Nat → Nat} {H : Heap} {locs : List Loc} {ls : Array Slot} (C : lw_C p s m meth c b xs D cI) (hP : va_P D vwCl (w_L cI qx ax qm am) H) (hD : va_D (fun q : Nat => s.heap.size ≤ q) (w_L cI qx ax qm am)) (hS : va_S (fun q : Nat => s.heap.size ≤ q) s.heap H locs) (hl : lv_has ls 4 [(3, .int 0), (2, .ref qm), (1, .ref qx), (0, .ref b)]) : W p l e room_1 s m #[Value.ref b] below meth c H locs 78 71288 (lw_Z below #[Value.ref b] s) (F0 m 303 ls []) := by
  have C0 := C
  obtain ⟨hx, hb, hr, hml, hown, hT, hX, hbl, hlocks, hK⟩ := C
  have hA : ∀ q : Nat, s.heap.size ≤ q → (fun q : Nat => s.heap.size ≤ q) q := fun _ h => h
  have hbA : ¬ (fun q : Nat => s.heap.size ≤ q) b := Nat.not_le.mpr hbl
  refine lv_aload_n hx hb dL_law_303 rfl (lv_at hl 2 rfl) ?_
  refine lv_aload_n hx hb dL_law_304 rfl (lv_at hl 3 rfl) ?_
  refine lv_iload_n hx hb dL_law_305 rfl (lv_at hl 0 rfl) ?_
  refine lv_iconst (v := 1) hx hb dL_law_306 (by decide) ?_
  refine lv_iadd hx hb dL_law_307 ?_
  refine ct_i (z := 1) (by decide) ?_
  refine va_sld hx hb hX hbl hbA hS (vi_c (by decide +kernel)) dL_law_308 ?_
  refine go_M (wc := [(qx, .inr (11, (Value.ref (ax 0) :: Value.ref (ax 1) :: Value.ref (ax 2) :: Value.ref (ax 3) :: Value.ref (ax 4) :: Value.ref (ax 5) :: Value.ref (ax 6) :: Value.ref (ax 7) :: Value.ref (ax 8) :: Value.ref (ax 9) :: Value.ref (ax 10) :: Value.ref (ax 11) :: Value.ref (ax 12) :: Value.ref (ax 13) :: Value.ref (ax 14) :: Value.int 0 :: Value.int 0 :: Value.int 0 :: []))), ((ax 0), .inr (9, [.ref (ax 15), .int 0])), ((ax 13), .inl (cI, 6, .inl zI))]) (wr := [(qm, .inr (12, (Value.int 0 :: Value.int 0 :: Value.ref (am 0) :: Value.int 0 :: Value.int 0 :: Value.ref (am 1) :: Value.ref (am 2) :: Value.int 0 :: Value.ref (am 3) :: Value.ref (am 4) :: Value.int 0 :: Value.ref (am 5) :: Value.ref (am 6) :: Value.ref (am 7) :: Value.int 0 :: Value.ref (am 8) :: Value.int 0 :: Value.int (-1) :: Value.int 0 :: Value.int 0 :: Value.int 0 :: Value.int 0 :: Value.int (-1) :: Value.ref (am 9) :: Value.ref (am 10) :: Value.ref (am 11) :: Value.int 0 :: Value.ref (am 12) :: Value.ref (am 13) :: Value.ref (am 14) :: Value.ref (am 15) :: Value.int 0 :: Value.int 0 :: Value.int 0 :: Value.int 0 :: Value.int 0 :: Value.int 0 :: Value.int 0 :: Value.int 0 :: Value.ref (am 16) :: Value.ref (am 17) :: Value.ref (am 18) :: Value.ref (am 19) :: Value.int 0 :: Value.int 0 :: Value.int 1 :: Value.ref (am 20) :: Value.int 0 :: []))), ((am 7), .inl (cI, 1200, .inl zI)), ((am 8), .inl (cI, 6, .inl zI)), ((am 10), .inl (cI, 3252, .inl zI)), ((am 20), .inl (cI, 130, .inl zI))]) (w1 := fun u => []) (v := some (.int (sp_end (xs (1 : Int32).toNatClampNeg)))) (st1 := [.int (sp_end (xs (1 : Int32).toNatClampNeg))]) hP hD hS hA [0, 1, 11] [13, 14, 15, 16, 17] rfl rfl (by decide) (by decide) (by decide) (fun hPc hDc => run_V (As := [.int (xs (1 : Int32).toNatClampNeg)]) (rest := []) ⟨hx, hb, hml, hown, hT⟩ (kX11_end_0 l D cI qx ax (xs (1 : Int32).toNatClampNeg) zI _) sw_585 lkv_X11_end (p_M_V (ci := 11) (q0 := 0) hPc hK hDc rfl rfl) rfl hl.1 rfl (Nat.le_of_ble_eq_true rfl) dL_law_309 ⟨⟨Nat.le_of_ble_eq_true rfl, Nat.le_of_ble_eq_true rfl⟩, Nat.le_of_ble_eq_true rfl, Nat.le_of_ble_eq_true rfl⟩) rfl (fun u H locs hP hD hS => ?_)
  have hP : va_P D vwCl [(qm, .inr (12, (Value.int 0 :: Value.int 0 :: Value.ref (am 0) :: Value.int 0 :: Value.int 0 :: Value.ref (am 1) :: Value.ref (am 2) :: Value.int 0 :: Value.ref (am 3) :: Value.ref (am 4) :: Value.int 0 :: Value.ref (am 5) :: Value.ref (am 6) :: Value.ref (am 7) :: Value.int 0 :: Value.ref (am 8) :: Value.int 0 :: Value.int (-1) :: Value.int 0 :: Value.int 0 :: Value.int 0 :: Value.int 0 :: Value.int (-1) :: Value.ref (am 9) :: Value.ref (am 10) :: Value.ref (am 11) :: Value.int 0 :: Value.ref (am 12) :: Value.ref (am 13) :: Value.ref (am 14) :: Value.ref (am 15) :: Value.int 0 :: Value.int 0 :: Value.int 0 :: Value.int 0 :: Value.int 0 :: Value.int 0 :: Value.int 0 :: Value.int 0 :: Value.ref (am 16) :: Value.ref (am 17) :: Value.ref (am 18) :: Value.ref (am 19) :: Value.int 0 :: Value.int 0 :: Value.int 1 :: Value.ref (am 20) :: Value.int 0 :: []))), ((am 7), .inl (cI, 1200, .inl zI)), ((am 8), .inl (cI, 6, .inl zI)), ((am 10), .inl (cI, 3252, .inl zI)), ((am 20), .inl (cI, 130, .inl zI))] H := hP
  have hD : va_D (fun q : Nat => s.heap.size ≤ q) [(qm, .inr (12, (Value.int 0 :: Value.int 0 :: Value.ref (am 0) :: Value.int 0 :: Value.int 0 :: Value.ref (am 1) :: Value.ref (am 2) :: Value.int 0 :: Value.ref (am 3) :: Value.ref (am 4) :: Value.int 0 :: Value.ref (am 5) :: Value.ref (am 6) :: Value.ref (am 7) :: Value.int 0 :: Value.ref (am 8) :: Value.int 0 :: Value.int (-1) :: Value.int 0 :: Value.int 0 :: Value.int 0 :: Value.int 0 :: Value.int (-1) :: Value.ref (am 9) :: Value.ref (am 10) :: Value.ref (am 11) :: Value.int 0 :: Value.ref (am 12) :: Value.ref (am 13) :: Value.ref (am 14) :: Value.ref (am 15) :: Value.int 0 :: Value.int 0 :: Value.int 0 :: Value.int 0 :: Value.int 0 :: Value.int 0 :: Value.int 0 :: Value.int 0 :: Value.ref (am 16) :: Value.ref (am 17) :: Value.ref (am 18) :: Value.ref (am 19) :: Value.int 0 :: Value.int 0 :: Value.int 1 :: Value.ref (am 20) :: Value.int 0 :: []))), ((am 7), .inl (cI, 1200, .inl zI)), ((am 8), .inl (cI, 6, .inl zI)), ((am 10), .inl (cI, 3252, .inl zI)), ((am 20), .inl (cI, 130, .inl zI))] := hD
  refine lv_aload_n hx hb dL_law_312 rfl (lv_at hl 1 rfl) ?_
  refine lv_aload_n hx hb dL_law_313 rfl (lv_at hl 3 rfl) ?_
  refine lv_iload_n hx hb dL_law_314 rfl (lv_at hl 0 rfl) ?_
  refine lv_iconst (v := 1) hx hb dL_law_315 (by decide) ?_
  refine lv_iadd hx hb dL_law_316 ?_
  refine ct_i (z := 1) (by decide) ?_
  refine va_sld hx hb hX hbl hbA hS (vi_c (by decide +kernel)) dL_law_317 ?_
  refine go_M (wc := [(qm, .inr (12, (Value.int 0 :: Value.int 0 :: Value.ref (am 0) :: Value.int 0 :: Value.int 0 :: Value.ref (am 1) :: Value.ref (am 2) :: Value.int 0 :: Value.ref (am 3) :: Value.ref (am 4) :: Value.int 0 :: Value.ref (am 5) :: Value.ref (am 6) :: Value.ref (am 7) :: Value.int 0 :: Value.ref (am 8) :: Value.int 0 :: Value.int (-1) :: Value.int 0 :: Value.int 0 :: Value.int 0 :: Value.int 0 :: Value.int (-1) :: Value.ref (am 9) :: Value.ref (am 10) :: Value.ref (am 11) :: Value.int 0 :: Value.ref (am 12) :: Value.ref (am 13) :: Value.ref (am 14) :: Value.ref (am 15) :: Value.int 0 :: Value.int 0 :: Value.int 0 :: Value.int 0 :: Value.int 0 :: Value.int 0 :: Value.int 0 :: Value.int 0 :: Value.ref (am 16) :: Value.ref (am 17) :: Value.ref (am 18) :: Value.ref (am 19) :: Value.int 0 :: Value.int 0 :: Value.int 1 :: Value.ref (am 20) :: Value.int 0 :: []))), ((am 8), .inl (cI, 6, .inl zI))]) (wr := []) (w1 := fun u => []) (v := some (.int (sp_end (xs (1 : Int32).toNatClampNeg)))) (st1 := [.int (sp_end (xs (1 : Int32).toNatClampNeg)), .int (sp_end (xs (1 : Int32).toNatClampNeg))]) hP hD hS hA [0, 2] [] rfl rfl (by decide) (by decide) (by decide) (fun hPc hDc => run_V (As := [.int (xs (1 : Int32).toNatClampNeg)]) (rest := [.int (sp_end (xs (1 : Int32).toNatClampNeg))]) ⟨hx, hb, hml, hown, hT⟩ (kX12_end_0 l D cI qm am (xs (1 : Int32).toNatClampNeg) zI _) sw_1446 lkv_X12_end (p_M_V (ci := 12) (q0 := 0) hPc hK hDc rfl rfl) rfl hl.1 rfl (Nat.le_of_ble_eq_true rfl) dL_law_318 ⟨⟨Nat.le_of_ble_eq_true rfl, Nat.le_of_ble_eq_true rfl⟩, Nat.le_of_ble_eq_true rfl, Nat.le_of_ble_eq_true rfl⟩) rfl (fun u H locs hP hD hS => ?_)
  have hP : va_P D vwCl [] H := hP
  have hD : va_D (fun q : Nat => s.heap.size ≤ q) [] := hD
  refine lv_icmp_eq (tgt := 1665) hx hb dL_law_321 (by decide) (fun _ => ?_) (fun h9 => absurd rfl h9)
  exact law_back C0 hS hl
set_option maxHeartbeats 4000000 in
set_option maxRecDepth 100000 in
/-- wheel: class and reference answer alike -/
theorem law_2 {p : Program} {l : Launch} {e : Env} {s : State} {m : MethodId} {below : List Frame} {meth : Method} {c : Code} {b : Nat} {xs : Nat → Int32} {D : va_G} {cI : ClassId} {qx qm : Nat} {ax am : Nat → Nat} {H : Heap} {locs : List Loc} {ls : Array Slot} (C : lw_C p s m meth c b xs D cI) {aS aV : Nat} (hZ : z_S aS aV (fun q : Nat => s.heap.size ≤ q) s s.heap) (hP : va_P D vwCl (w_L cI qx ax qm am) H) (hD : va_D (fun q : Nat => s.heap.size ≤ q) (w_L cI qx ax qm am)) (hS : va_S (fun q : Nat => s.heap.size ≤ q) s.heap H locs) (hl : lv_has ls 4 [(3, .int 0), (2, .ref qm), (1, .ref qx), (0, .ref b)]) : W p l e room_1 s m #[Value.ref b] below meth c H locs 78 71288 (lw_Z below #[Value.ref b] s) (F0 m 326 ls []) := by
  have C0 := C
  obtain ⟨hx, hb, hr, hml, hown, hT, hX, hbl, hlocks, hK⟩ := C
  have hA : ∀ q : Nat, s.heap.size ≤ q → (fun q : Nat => s.heap.size ≤ q) q := fun _ h => h
  have hbA : ¬ (fun q : Nat => s.heap.size ≤ q) b := Nat.not_le.mpr hbl
  refine lv_aload_n hx hb dL_law_326 rfl (lv_at hl 2 rfl) ?_
  refine go_M (wc := [(qx, .inr (11, (Value.ref (ax 0) :: Value.ref (ax 1) :: Value.ref (ax 2) :: Value.ref (ax 3) :: Value.ref (ax 4) :: Value.ref (ax 5) :: Value.ref (ax 6) :: Value.ref (ax 7) :: Value.ref (ax 8) :: Value.ref (ax 9) :: Value.ref (ax 10) :: Value.ref (ax 11) :: Value.ref (ax 12) :: Value.ref (ax 13) :: Value.ref (ax 14) :: Value.int 0 :: Value.int 0 :: Value.int 0 :: []))), ((ax 0), .inr (9, [.ref (ax 15), .int 0])), ((ax 2), .inr (4, [.ref (ax 0), .ref (ax 20), .int 0, .int 0, .int 0, .int 0, .int 0, .int 0, .int (-1)])), ((ax 20), .inr (3, [.ref (ax 21), .ref (ax 22), .ref (ax 23), .ref (ax 24), .int 0, .int 0, .int 0, .int 0])), ((ax 13), .inl (cI, 6, .inl zI))]) (wr := [(qm, .inr (12, (Value.int 0 :: Value.int 0 :: Value.ref (am 0) :: Value.int 0 :: Value.int 0 :: Value.ref (am 1) :: Value.ref (am 2) :: Value.int 0 :: Value.ref (am 3) :: Value.ref (am 4) :: Value.int 0 :: Value.ref (am 5) :: Value.ref (am 6) :: Value.ref (am 7) :: Value.int 0 :: Value.ref (am 8) :: Value.int 0 :: Value.int (-1) :: Value.int 0 :: Value.int 0 :: Value.int 0 :: Value.int 0 :: Value.int (-1) :: Value.ref (am 9) :: Value.ref (am 10) :: Value.ref (am 11) :: Value.int 0 :: Value.ref (am 12) :: Value.ref (am 13) :: Value.ref (am 14) :: Value.ref (am 15) :: Value.int 0 :: Value.int 0 :: Value.int 0 :: Value.int 0 :: Value.int 0 :: Value.int 0 :: Value.int 0 :: Value.int 0 :: Value.ref (am 16) :: Value.ref (am 17) :: Value.ref (am 18) :: Value.ref (am 19) :: Value.int 0 :: Value.int 0 :: Value.int 1 :: Value.ref (am 20) :: Value.int 0 :: []))), ((am 7), .inl (cI, 1200, .inl zI)), ((am 8), .inl (cI, 6, .inl zI)), ((am 10), .inl (cI, 3252, .inl zI)), ((am 20), .inl (cI, 130, .inl zI))]) (w1 := fun u => []) (v := some (.int (-1))) (st1 := [.int (-1)]) hP hD hS hA [0, 1, 4, 5, 11] [13, 14, 15, 16, 17] rfl rfl (by decide) (by decide) (by decide) (fun hPc hDc => run_V (As := []) (rest := []) ⟨hx, hb, hml, hown, hT⟩ (kX11_wheel_0 l D cI qx ax aS aV zI _) sw_593 lkv_X11_wheel (p_MZ_V (ci := 11) (q0 := 0) hPc hK hDc rfl rfl (fun U hW => hZ.on hS.2.1 (va_free (wc := [(qx, .inr (11, (Value.ref (ax 0) :: Value.ref (ax 1) :: Value.ref (ax 2) :: Value.ref (ax 3) :: Value.ref (ax 4) :: Value.ref (ax 5) :: Value.ref (ax 6) :: Value.ref (ax 7) :: Value.ref (ax 8) :: Value.ref (ax 9) :: Value.ref (ax 10) :: Value.ref (ax 11) :: Value.ref (ax 12) :: Value.ref (ax 13) :: Value.ref (ax 14) :: Value.int 0 :: Value.int 0 :: Value.int 0 :: []))), ((ax 0), .inr (9, [.ref (ax 15), .int 0])), ((ax 2), .inr (4, [.ref (ax 0), .ref (ax 20), .int 0, .int 0, .int 0, .int 0, .int 0, .int 0, .int (-1)])), ((ax 20), .inr (3, [.ref (ax 21), .ref (ax 22), .ref (ax 23), .ref (ax 24), .int 0, .int 0, .int 0, .int 0])), ((ax 13), .inl (cI, 6, .inl zI))]) hD hS hA [0, 1, 4, 5, 11] rfl) hW)) rfl hl.1 rfl (Nat.le_of_ble_eq_true rfl) dL_law_327 ⟨⟨Nat.le_of_ble_eq_true rfl, Nat.le_of_ble_eq_true rfl⟩, Nat.le_of_ble_eq_true rfl, Nat.le_of_ble_eq_true rfl⟩) rfl (fun u H locs hP hD hS => ?_)
  have hP : va_P D vwCl [(qm, .inr (12, (Value.int 0 :: Value.int 0 :: Value.ref (am 0) :: Value.int 0 :: Value.int 0 :: Value.ref (am 1) :: Value.ref (am 2) :: Value.int 0 :: Value.ref (am 3) :: Value.ref (am 4) :: Value.int 0 :: Value.ref (am 5) :: Value.ref (am 6) :: Value.ref (am 7) :: Value.int 0 :: Value.ref (am 8) :: Value.int 0 :: Value.int (-1) :: Value.int 0 :: Value.int 0 :: Value.int 0 :: Value.int 0 :: Value.int (-1) :: Value.ref (am 9) :: Value.ref (am 10) :: Value.ref (am 11) :: Value.int 0 :: Value.ref (am 12) :: Value.ref (am 13) :: Value.ref (am 14) :: Value.ref (am 15) :: Value.int 0 :: Value.int 0 :: Value.int 0 :: Value.int 0 :: Value.int 0 :: Value.int 0 :: Value.int 0 :: Value.int 0 :: Value.ref (am 16) :: Value.ref (am 17) :: Value.ref (am 18) :: Value.ref (am 19) :: Value.int 0 :: Value.int 0 :: Value.int 1 :: Value.ref (am 20) :: Value.int 0 :: []))), ((am 7), .inl (cI, 1200, .inl zI)), ((am 8), .inl (cI, 6, .inl zI)), ((am 10), .inl (cI, 3252, .inl zI)), ((am 20), .inl (cI, 130, .inl zI))] H := hP
  have hD : va_D (fun q : Nat => s.heap.size ≤ q) [(qm, .inr (12, (Value.int 0 :: Value.int 0 :: Value.ref (am 0) :: Value.int 0 :: Value.int 0 :: Value.ref (am 1) :: Value.ref (am 2) :: Value.int 0 :: Value.ref (am 3) :: Value.ref (am 4) :: Value.int 0 :: Value.ref (am 5) :: Value.ref (am 6) :: Value.ref (am 7) :: Value.int 0 :: Value.ref (am 8) :: Value.int 0 :: Value.int (-1) :: Value.int 0 :: Value.int 0 :: Value.int 0 :: Value.int 0 :: Value.int (-1) :: Value.ref (am 9) :: Value.ref (am 10) :: Value.ref (am 11) :: Value.int 0 :: Value.ref (am 12) :: Value.ref (am 13) :: Value.ref (am 14) :: Value.ref (am 15) :: Value.int 0 :: Value.int 0 :: Value.int 0 :: Value.int 0 :: Value.int 0 :: Value.int 0 :: Value.int 0 :: Value.int 0 :: Value.ref (am 16) :: Value.ref (am 17) :: Value.ref (am 18) :: Value.ref (am 19) :: Value.int 0 :: Value.int 0 :: Value.int 1 :: Value.ref (am 20) :: Value.int 0 :: []))), ((am 7), .inl (cI, 1200, .inl zI)), ((am 8), .inl (cI, 6, .inl zI)), ((am 10), .inl (cI, 3252, .inl zI)), ((am 20), .inl (cI, 130, .inl zI))] := hD
  refine lv_aload_n hx hb dL_law_330 rfl (lv_at hl 1 rfl) ?_
  refine go_M (wc := [(qm, .inr (12, (Value.int 0 :: Value.int 0 :: Value.ref (am 0) :: Value.int 0 :: Value.int 0 :: Value.ref (am 1) :: Value.ref (am 2) :: Value.int 0 :: Value.ref (am 3) :: Value.ref (am 4) :: Value.int 0 :: Value.ref (am 5) :: Value.ref (am 6) :: Value.ref (am 7) :: Value.int 0 :: Value.ref (am 8) :: Value.int 0 :: Value.int (-1) :: Value.int 0 :: Value.int 0 :: Value.int 0 :: Value.int 0 :: Value.int (-1) :: Value.ref (am 9) :: Value.ref (am 10) :: Value.ref (am 11) :: Value.int 0 :: Value.ref (am 12) :: Value.ref (am 13) :: Value.ref (am 14) :: Value.ref (am 15) :: Value.int 0 :: Value.int 0 :: Value.int 0 :: Value.int 0 :: Value.int 0 :: Value.int 0 :: Value.int 0 :: Value.int 0 :: Value.ref (am 16) :: Value.ref (am 17) :: Value.ref (am 18) :: Value.ref (am 19) :: Value.int 0 :: Value.int 0 :: Value.int 1 :: Value.ref (am 20) :: Value.int 0 :: []))), ((am 8), .inl (cI, 6, .inl zI))]) (wr := []) (w1 := fun u => []) (v := some (.int (-1))) (st1 := [.int (-1), .int (-1)]) hP hD hS hA [0, 2] [] rfl rfl (by decide) (by decide) (by decide) (fun hPc hDc => run_V (As := []) (rest := [.int (-1)]) ⟨hx, hb, hml, hown, hT⟩ (kX12_wheel_0 l D cI qm am zI _) sw_1454 lkv_X12_wheel (p_M_V (ci := 12) (q0 := 0) hPc hK hDc rfl rfl) rfl hl.1 rfl (Nat.le_of_ble_eq_true rfl) dL_law_331 ⟨⟨Nat.le_of_ble_eq_true rfl, Nat.le_of_ble_eq_true rfl⟩, Nat.le_of_ble_eq_true rfl, Nat.le_of_ble_eq_true rfl⟩) rfl (fun u H locs hP hD hS => ?_)
  have hP : va_P D vwCl [] H := hP
  have hD : va_D (fun q : Nat => s.heap.size ≤ q) [] := hD
  refine lv_icmp_eq (tgt := 1665) hx hb dL_law_334 (by decide) (fun _ => ?_) (fun h9 => absurd rfl h9)
  exact law_back C0 hS hl
set_option maxHeartbeats 4000000 in
set_option maxRecDepth 100000 in
/-- fault: class and reference answer alike -/
theorem law_3 {p : Program} {l : Launch} {e : Env} {s : State} {m : MethodId} {below : List Frame} {meth : Method} {c : Code} {b : Nat} {xs : Nat → Int32} {D : va_G} {cI : ClassId} {qx qm : Nat} {ax am : Nat → Nat} {H : Heap} {locs : List Loc} {ls : Array Slot} (C : lw_C p s m meth c b xs D cI) (hP : va_P D vwCl (w_L cI qx ax qm am) H) (hD : va_D (fun q : Nat => s.heap.size ≤ q) (w_L cI qx ax qm am)) (hS : va_S (fun q : Nat => s.heap.size ≤ q) s.heap H locs) (hl : lv_has ls 4 [(3, .int 0), (2, .ref qm), (1, .ref qx), (0, .ref b)]) : W p l e room_1 s m #[Value.ref b] below meth c H locs 78 71288 (lw_Z below #[Value.ref b] s) (F0 m 339 ls []) := by
  have C0 := C
  obtain ⟨hx, hb, hr, hml, hown, hT, hX, hbl, hlocks, hK⟩ := C
  have hA : ∀ q : Nat, s.heap.size ≤ q → (fun q : Nat => s.heap.size ≤ q) q := fun _ h => h
  have hbA : ¬ (fun q : Nat => s.heap.size ≤ q) b := Nat.not_le.mpr hbl
  refine lv_aload_n hx hb dL_law_339 rfl (lv_at hl 2 rfl) ?_
  refine lv_aload_n hx hb dL_law_340 rfl (lv_at hl 3 rfl) ?_
  refine lv_iload_n hx hb dL_law_341 rfl (lv_at hl 0 rfl) ?_
  refine lv_iconst (v := 1) hx hb dL_law_342 (by decide) ?_
  refine lv_iadd hx hb dL_law_343 ?_
  refine ct_i (z := 1) (by decide) ?_
  refine va_sld hx hb hX hbl hbA hS (vi_c (by decide +kernel)) dL_law_344 ?_
  refine go_R (v := some (.int (sp_fault (xs (1 : Int32).toNatClampNeg)))) (st1 := [.int (sp_fault (xs (1 : Int32).toNatClampNeg))]) (run_V (As := [.int (xs (1 : Int32).toNatClampNeg)]) (rest := []) ⟨hx, hb, hml, hown, hT⟩ (kX11_fault_0 l D cI qx ax (xs (1 : Int32).toNatClampNeg)) sw_805 lkv_X11_fault (p_R_V (ci := 11) (q0 := 0) (hP.sub (ws' := [(qx, .inr (11, (Value.ref (ax 0) :: Value.ref (ax 1) :: Value.ref (ax 2) :: Value.ref (ax 3) :: Value.ref (ax 4) :: Value.ref (ax 5) :: Value.ref (ax 6) :: Value.ref (ax 7) :: Value.ref (ax 8) :: Value.ref (ax 9) :: Value.ref (ax 10) :: Value.ref (ax 11) :: Value.ref (ax 12) :: Value.ref (ax 13) :: Value.ref (ax 14) :: Value.int 0 :: Value.int 0 :: Value.int 0 :: []))), ((ax 2), .inr (4, [.ref (ax 0), .ref (ax 20), .int 0, .int 0, .int 0, .int 0, .int 0, .int 0, .int (-1)]))]) [0, 4] rfl) hK rfl rfl) rfl hl.1 rfl (Nat.le_of_ble_eq_true rfl) dL_law_345 ⟨⟨Nat.le_of_ble_eq_true rfl, Nat.le_of_ble_eq_true rfl⟩, Nat.le_of_ble_eq_true rfl, Nat.le_of_ble_eq_true rfl⟩) rfl ?_
  refine lv_aload_n hx hb dL_law_348 rfl (lv_at hl 1 rfl) ?_
  refine lv_aload_n hx hb dL_law_349 rfl (lv_at hl 3 rfl) ?_
  refine lv_iload_n hx hb dL_law_350 rfl (lv_at hl 0 rfl) ?_
  refine lv_iconst (v := 1) hx hb dL_law_351 (by decide) ?_
  refine lv_iadd hx hb dL_law_352 ?_
  refine ct_i (z := 1) (by decide) ?_
  refine va_sld hx hb hX hbl hbA hS (vi_c (by decide +kernel)) dL_law_353 ?_
  refine go_R (v := some (.int (sp_fault (xs (1 : Int32).toNatClampNeg)))) (st1 := [.int (sp_fault (xs (1 : Int32).toNatClampNeg)), .int (sp_fault (xs (1 : Int32).toNatClampNeg))]) (run_V (As := [.int (xs (1 : Int32).toNatClampNeg)]) (rest := [.int (sp_fault (xs (1 : Int32).toNatClampNeg))]) ⟨hx, hb, hml, hown, hT⟩ (kX12_fault_0 l D cI qm am (xs (1 : Int32).toNatClampNeg)) sw_1552 lkv_X12_fault (p_R_V (ci := 12) (q0 := 0) (hP.sub (ws' := [(qm, .inr (12, (Value.int 0 :: Value.int 0 :: Value.ref (am 0) :: Value.int 0 :: Value.int 0 :: Value.ref (am 1) :: Value.ref (am 2) :: Value.int 0 :: Value.ref (am 3) :: Value.ref (am 4) :: Value.int 0 :: Value.ref (am 5) :: Value.ref (am 6) :: Value.ref (am 7) :: Value.int 0 :: Value.ref (am 8) :: Value.int 0 :: Value.int (-1) :: Value.int 0 :: Value.int 0 :: Value.int 0 :: Value.int 0 :: Value.int (-1) :: Value.ref (am 9) :: Value.ref (am 10) :: Value.ref (am 11) :: Value.int 0 :: Value.ref (am 12) :: Value.ref (am 13) :: Value.ref (am 14) :: Value.ref (am 15) :: Value.int 0 :: Value.int 0 :: Value.int 0 :: Value.int 0 :: Value.int 0 :: Value.int 0 :: Value.int 0 :: Value.int 0 :: Value.ref (am 16) :: Value.ref (am 17) :: Value.ref (am 18) :: Value.ref (am 19) :: Value.int 0 :: Value.int 0 :: Value.int 1 :: Value.ref (am 20) :: Value.int 0 :: [])))]) [13] rfl) hK rfl rfl) rfl hl.1 rfl (Nat.le_of_ble_eq_true rfl) dL_law_354 ⟨⟨Nat.le_of_ble_eq_true rfl, Nat.le_of_ble_eq_true rfl⟩, Nat.le_of_ble_eq_true rfl, Nat.le_of_ble_eq_true rfl⟩) rfl ?_
  refine lv_icmp_eq (tgt := 1665) hx hb dL_law_357 (by decide) (fun _ => ?_) (fun h9 => absurd rfl h9)
  exact law_back C0 hS hl
set_option maxHeartbeats 4000000 in
set_option maxRecDepth 100000 in
/-- has: class and reference answer alike -/
theorem law_4 {p : Program} {l : Launch} {e : Env} {s : State} {m : MethodId} {below : List Frame} {meth : Method} {c : Code} {b : Nat} {xs : Nat → Int32} {D : va_G} {cI : ClassId} {qx qm : Nat} {ax am : Nat → Nat} {H : Heap} {locs : List Loc} {ls : Array Slot} (C : lw_C p s m meth c b xs D cI) (hP : va_P D vwCl (w_L cI qx ax qm am) H) (hD : va_D (fun q : Nat => s.heap.size ≤ q) (w_L cI qx ax qm am)) (hS : va_S (fun q : Nat => s.heap.size ≤ q) s.heap H locs) (hl : lv_has ls 4 [(3, .int 0), (2, .ref qm), (1, .ref qx), (0, .ref b)]) : W p l e room_1 s m #[Value.ref b] below meth c H locs 78 71288 (lw_Z below #[Value.ref b] s) (F0 m 362 ls []) := by
  have C0 := C
  obtain ⟨hx, hb, hr, hml, hown, hT, hX, hbl, hlocks, hK⟩ := C
  have hA : ∀ q : Nat, s.heap.size ≤ q → (fun q : Nat => s.heap.size ≤ q) q := fun _ h => h
  have hbA : ¬ (fun q : Nat => s.heap.size ≤ q) b := Nat.not_le.mpr hbl
  refine lv_aload_n hx hb dL_law_362 rfl (lv_at hl 2 rfl) ?_
  refine lv_aload_n hx hb dL_law_363 rfl (lv_at hl 3 rfl) ?_
  refine lv_iload_n hx hb dL_law_364 rfl (lv_at hl 0 rfl) ?_
  refine lv_iconst (v := 1) hx hb dL_law_365 (by decide) ?_
  refine lv_iadd hx hb dL_law_366 ?_
  refine ct_i (z := 1) (by decide) ?_
  refine va_sld hx hb hX hbl hbA hS (vi_c (by decide +kernel)) dL_law_367 ?_
  refine go_R (v := some (.int (sp_has (xs (1 : Int32).toNatClampNeg)))) (st1 := [.int (sp_has (xs (1 : Int32).toNatClampNeg))]) (run_V (As := [.int (xs (1 : Int32).toNatClampNeg)]) (rest := []) ⟨hx, hb, hml, hown, hT⟩ (kX11_has_0 l D cI qx ax (xs (1 : Int32).toNatClampNeg)) sw_809 lkv_X11_has (p_R_V (ci := 11) (q0 := 0) (hP.sub (ws' := [(qx, .inr (11, (Value.ref (ax 0) :: Value.ref (ax 1) :: Value.ref (ax 2) :: Value.ref (ax 3) :: Value.ref (ax 4) :: Value.ref (ax 5) :: Value.ref (ax 6) :: Value.ref (ax 7) :: Value.ref (ax 8) :: Value.ref (ax 9) :: Value.ref (ax 10) :: Value.ref (ax 11) :: Value.ref (ax 12) :: Value.ref (ax 13) :: Value.ref (ax 14) :: Value.int 0 :: Value.int 0 :: Value.int 0 :: []))), ((ax 1), .inr (3, [.ref (ax 16), .ref (ax 17), .ref (ax 18), .ref (ax 19), .int 0, .int 0, .int 0, .int 0])), ((ax 11), .inr (6, [.ref (ax 44), .int 0, .int 0, .int 0, .int 1]))]) [0, 3, 10] rfl) hK rfl rfl) rfl hl.1 rfl (Nat.le_of_ble_eq_true rfl) dL_law_368 ⟨⟨Nat.le_of_ble_eq_true rfl, Nat.le_of_ble_eq_true rfl⟩, Nat.le_of_ble_eq_true rfl, Nat.le_of_ble_eq_true rfl⟩) rfl ?_
  refine lv_aload_n hx hb dL_law_371 rfl (lv_at hl 1 rfl) ?_
  refine lv_aload_n hx hb dL_law_372 rfl (lv_at hl 3 rfl) ?_
  refine lv_iload_n hx hb dL_law_373 rfl (lv_at hl 0 rfl) ?_
  refine lv_iconst (v := 1) hx hb dL_law_374 (by decide) ?_
  refine lv_iadd hx hb dL_law_375 ?_
  refine ct_i (z := 1) (by decide) ?_
  refine va_sld hx hb hX hbl hbA hS (vi_c (by decide +kernel)) dL_law_376 ?_
  refine go_R (v := some (.int (sp_has (xs (1 : Int32).toNatClampNeg)))) (st1 := [.int (sp_has (xs (1 : Int32).toNatClampNeg)), .int (sp_has (xs (1 : Int32).toNatClampNeg))]) (run_V (As := [.int (xs (1 : Int32).toNatClampNeg)]) (rest := [.int (sp_has (xs (1 : Int32).toNatClampNeg))]) ⟨hx, hb, hml, hown, hT⟩ (kX12_has_0 l D cI qm am (xs (1 : Int32).toNatClampNeg)) sw_1556 lkv_X12_has (p_R_V (ci := 12) (q0 := 0) (hP.sub (ws' := [(qm, .inr (12, (Value.int 0 :: Value.int 0 :: Value.ref (am 0) :: Value.int 0 :: Value.int 0 :: Value.ref (am 1) :: Value.ref (am 2) :: Value.int 0 :: Value.ref (am 3) :: Value.ref (am 4) :: Value.int 0 :: Value.ref (am 5) :: Value.ref (am 6) :: Value.ref (am 7) :: Value.int 0 :: Value.ref (am 8) :: Value.int 0 :: Value.int (-1) :: Value.int 0 :: Value.int 0 :: Value.int 0 :: Value.int 0 :: Value.int (-1) :: Value.ref (am 9) :: Value.ref (am 10) :: Value.ref (am 11) :: Value.int 0 :: Value.ref (am 12) :: Value.ref (am 13) :: Value.ref (am 14) :: Value.ref (am 15) :: Value.int 0 :: Value.int 0 :: Value.int 0 :: Value.int 0 :: Value.int 0 :: Value.int 0 :: Value.int 0 :: Value.int 0 :: Value.ref (am 16) :: Value.ref (am 17) :: Value.ref (am 18) :: Value.ref (am 19) :: Value.int 0 :: Value.int 0 :: Value.int 1 :: Value.ref (am 20) :: Value.int 0 :: [])))]) [13] rfl) hK rfl rfl) rfl hl.1 rfl (Nat.le_of_ble_eq_true rfl) dL_law_377 ⟨⟨Nat.le_of_ble_eq_true rfl, Nat.le_of_ble_eq_true rfl⟩, Nat.le_of_ble_eq_true rfl, Nat.le_of_ble_eq_true rfl⟩) rfl ?_
  refine lv_icmp_eq (tgt := 1665) hx hb dL_law_380 (by decide) (fun _ => ?_) (fun h9 => absurd rfl h9)
  exact law_back C0 hS hl
set_option maxHeartbeats 4000000 in
set_option maxRecDepth 100000 in
/-- letter: class and reference answer alike -/
theorem law_5 {p : Program} {l : Launch} {e : Env} {s : State} {m : MethodId} {below : List Frame} {meth : Method} {c : Code} {b : Nat} {xs : Nat → Int32} {D : va_G} {cI : ClassId} {qx qm : Nat} {ax am : Nat → Nat} {H : Heap} {locs : List Loc} {ls : Array Slot} (C : lw_C p s m meth c b xs D cI) (hP : va_P D vwCl (w_L cI qx ax qm am) H) (hD : va_D (fun q : Nat => s.heap.size ≤ q) (w_L cI qx ax qm am)) (hS : va_S (fun q : Nat => s.heap.size ≤ q) s.heap H locs) (hl : lv_has ls 4 [(3, .int 0), (2, .ref qm), (1, .ref qx), (0, .ref b)]) : W p l e room_1 s m #[Value.ref b] below meth c H locs 78 71288 (lw_Z below #[Value.ref b] s) (F0 m 385 ls []) := by
  have C0 := C
  obtain ⟨hx, hb, hr, hml, hown, hT, hX, hbl, hlocks, hK⟩ := C
  have hA : ∀ q : Nat, s.heap.size ≤ q → (fun q : Nat => s.heap.size ≤ q) q := fun _ h => h
  have hbA : ¬ (fun q : Nat => s.heap.size ≤ q) b := Nat.not_le.mpr hbl
  refine lv_aload_n hx hb dL_law_385 rfl (lv_at hl 2 rfl) ?_
  refine lv_aload_n hx hb dL_law_386 rfl (lv_at hl 3 rfl) ?_
  refine lv_iload_n hx hb dL_law_387 rfl (lv_at hl 0 rfl) ?_
  refine lv_iconst (v := 1) hx hb dL_law_388 (by decide) ?_
  refine lv_iadd hx hb dL_law_389 ?_
  refine ct_i (z := 1) (by decide) ?_
  refine va_sld hx hb hX hbl hbA hS (vi_c (by decide +kernel)) dL_law_390 ?_
  refine lv_aload_n hx hb dL_law_391 rfl (lv_at hl 3 rfl) ?_
  refine lv_iload_n hx hb dL_law_392 rfl (lv_at hl 0 rfl) ?_
  refine lv_iconst (v := 2) hx hb dL_law_393 (by decide) ?_
  refine lv_iadd hx hb dL_law_394 ?_
  refine ct_i (z := 2) (by decide) ?_
  refine va_sld hx hb hX hbl hbA hS (vi_c (by decide +kernel)) dL_law_395 ?_
  refine go_R (v := some (.int (-1))) (st1 := [.int (-1)]) (run_V (As := [.int (xs (1 : Int32).toNatClampNeg), .int (xs (2 : Int32).toNatClampNeg)]) (rest := []) ⟨hx, hb, hml, hown, hT⟩ (kX11_letter_0 l D cI qx ax (xs (1 : Int32).toNatClampNeg) (xs (2 : Int32).toNatClampNeg)) sw_826 lkv_X11_letter (p_R_V (ci := 11) (q0 := 0) (hP.sub (ws' := [(qx, .inr (11, (Value.ref (ax 0) :: Value.ref (ax 1) :: Value.ref (ax 2) :: Value.ref (ax 3) :: Value.ref (ax 4) :: Value.ref (ax 5) :: Value.ref (ax 6) :: Value.ref (ax 7) :: Value.ref (ax 8) :: Value.ref (ax 9) :: Value.ref (ax 10) :: Value.ref (ax 11) :: Value.ref (ax 12) :: Value.ref (ax 13) :: Value.ref (ax 14) :: Value.int 0 :: Value.int 0 :: Value.int 0 :: []))), ((ax 5), .inr (5, (Value.ref (ax 30) :: Value.ref (ax 31) :: Value.ref (ax 32) :: Value.ref (ax 33) :: Value.ref (ax 34) :: Value.ref (ax 35) :: Value.ref (ax 36) :: Value.ref (ax 37) :: Value.int 0 :: Value.int 0 :: Value.int 0 :: Value.int 0 :: Value.int 0 :: Value.int 0 :: Value.int 0 :: [])))]) [0, 8] rfl) hK rfl rfl) rfl hl.1 rfl (Nat.le_of_ble_eq_true rfl) dL_law_396 ⟨⟨Nat.le_of_ble_eq_true rfl, Nat.le_of_ble_eq_true rfl⟩, Nat.le_of_ble_eq_true rfl, Nat.le_of_ble_eq_true rfl⟩) rfl ?_
  refine lv_aload_n hx hb dL_law_399 rfl (lv_at hl 1 rfl) ?_
  refine lv_aload_n hx hb dL_law_400 rfl (lv_at hl 3 rfl) ?_
  refine lv_iload_n hx hb dL_law_401 rfl (lv_at hl 0 rfl) ?_
  refine lv_iconst (v := 1) hx hb dL_law_402 (by decide) ?_
  refine lv_iadd hx hb dL_law_403 ?_
  refine ct_i (z := 1) (by decide) ?_
  refine va_sld hx hb hX hbl hbA hS (vi_c (by decide +kernel)) dL_law_404 ?_
  refine lv_aload_n hx hb dL_law_405 rfl (lv_at hl 3 rfl) ?_
  refine lv_iload_n hx hb dL_law_406 rfl (lv_at hl 0 rfl) ?_
  refine lv_iconst (v := 2) hx hb dL_law_407 (by decide) ?_
  refine lv_iadd hx hb dL_law_408 ?_
  refine ct_i (z := 2) (by decide) ?_
  refine va_sld hx hb hX hbl hbA hS (vi_c (by decide +kernel)) dL_law_409 ?_
  refine go_R (v := some (.int (-1))) (st1 := [.int (-1), .int (-1)]) (run_V (As := [.int (xs (1 : Int32).toNatClampNeg), .int (xs (2 : Int32).toNatClampNeg)]) (rest := [.int (-1)]) ⟨hx, hb, hml, hown, hT⟩ (kX12_letter_0 l D cI qm am (xs (1 : Int32).toNatClampNeg) (xs (2 : Int32).toNatClampNeg)) sw_1594 lkv_X12_letter (p_R_V (ci := 12) (q0 := 0) (hP.sub (ws' := [(qm, .inr (12, (Value.int 0 :: Value.int 0 :: Value.ref (am 0) :: Value.int 0 :: Value.int 0 :: Value.ref (am 1) :: Value.ref (am 2) :: Value.int 0 :: Value.ref (am 3) :: Value.ref (am 4) :: Value.int 0 :: Value.ref (am 5) :: Value.ref (am 6) :: Value.ref (am 7) :: Value.int 0 :: Value.ref (am 8) :: Value.int 0 :: Value.int (-1) :: Value.int 0 :: Value.int 0 :: Value.int 0 :: Value.int 0 :: Value.int (-1) :: Value.ref (am 9) :: Value.ref (am 10) :: Value.ref (am 11) :: Value.int 0 :: Value.ref (am 12) :: Value.ref (am 13) :: Value.ref (am 14) :: Value.ref (am 15) :: Value.int 0 :: Value.int 0 :: Value.int 0 :: Value.int 0 :: Value.int 0 :: Value.int 0 :: Value.int 0 :: Value.int 0 :: Value.ref (am 16) :: Value.ref (am 17) :: Value.ref (am 18) :: Value.ref (am 19) :: Value.int 0 :: Value.int 0 :: Value.int 1 :: Value.ref (am 20) :: Value.int 0 :: [])))]) [13] rfl) hK rfl rfl) rfl hl.1 rfl (Nat.le_of_ble_eq_true rfl) dL_law_410 ⟨⟨Nat.le_of_ble_eq_true rfl, Nat.le_of_ble_eq_true rfl⟩, Nat.le_of_ble_eq_true rfl, Nat.le_of_ble_eq_true rfl⟩) rfl ?_
  refine lv_icmp_eq (tgt := 1665) hx hb dL_law_413 (by decide) (fun _ => ?_) (fun h9 => absurd rfl h9)
  exact law_back C0 hS hl
set_option maxHeartbeats 4000000 in
set_option maxRecDepth 100000 in
/-- thing: class and reference answer alike -/
theorem law_6 {p : Program} {l : Launch} {e : Env} {s : State} {m : MethodId} {below : List Frame} {meth : Method} {c : Code} {b : Nat} {xs : Nat → Int32} {D : va_G} {cI : ClassId} {qx qm : Nat} {ax am : Nat → Nat} {H : Heap} {locs : List Loc} {ls : Array Slot} (C : lw_C p s m meth c b xs D cI) (hP : va_P D vwCl (w_L cI qx ax qm am) H) (hD : va_D (fun q : Nat => s.heap.size ≤ q) (w_L cI qx ax qm am)) (hS : va_S (fun q : Nat => s.heap.size ≤ q) s.heap H locs) (hl : lv_has ls 4 [(3, .int 0), (2, .ref qm), (1, .ref qx), (0, .ref b)]) : W p l e room_1 s m #[Value.ref b] below meth c H locs 78 71288 (lw_Z below #[Value.ref b] s) (F0 m 418 ls []) := by
  have C0 := C
  obtain ⟨hx, hb, hr, hml, hown, hT, hX, hbl, hlocks, hK⟩ := C
  have hA : ∀ q : Nat, s.heap.size ≤ q → (fun q : Nat => s.heap.size ≤ q) q := fun _ h => h
  have hbA : ¬ (fun q : Nat => s.heap.size ≤ q) b := Nat.not_le.mpr hbl
  refine lv_aload_n hx hb dL_law_418 rfl (lv_at hl 2 rfl) ?_
  refine lv_aload_n hx hb dL_law_419 rfl (lv_at hl 3 rfl) ?_
  refine lv_iload_n hx hb dL_law_420 rfl (lv_at hl 0 rfl) ?_
  refine lv_iconst (v := 1) hx hb dL_law_421 (by decide) ?_
  refine lv_iadd hx hb dL_law_422 ?_
  refine ct_i (z := 1) (by decide) ?_
  refine va_sld hx hb hX hbl hbA hS (vi_c (by decide +kernel)) dL_law_423 ?_
  refine lv_aload_n hx hb dL_law_424 rfl (lv_at hl 3 rfl) ?_
  refine lv_iload_n hx hb dL_law_425 rfl (lv_at hl 0 rfl) ?_
  refine lv_iconst (v := 2) hx hb dL_law_426 (by decide) ?_
  refine lv_iadd hx hb dL_law_427 ?_
  refine ct_i (z := 2) (by decide) ?_
  refine va_sld hx hb hX hbl hbA hS (vi_c (by decide +kernel)) dL_law_428 ?_
  refine go_R (v := some (.int (-1))) (st1 := [.int (-1)]) (run_V (As := [.int (xs (1 : Int32).toNatClampNeg), .int (xs (2 : Int32).toNatClampNeg)]) (rest := []) ⟨hx, hb, hml, hown, hT⟩ (kX11_thing_0 l D cI qx ax (xs (1 : Int32).toNatClampNeg) (xs (2 : Int32).toNatClampNeg)) sw_837 lkv_X11_thing (p_R_V (ci := 11) (q0 := 0) (hP.sub (ws' := [(qx, .inr (11, (Value.ref (ax 0) :: Value.ref (ax 1) :: Value.ref (ax 2) :: Value.ref (ax 3) :: Value.ref (ax 4) :: Value.ref (ax 5) :: Value.ref (ax 6) :: Value.ref (ax 7) :: Value.ref (ax 8) :: Value.ref (ax 9) :: Value.ref (ax 10) :: Value.ref (ax 11) :: Value.ref (ax 12) :: Value.ref (ax 13) :: Value.ref (ax 14) :: Value.int 0 :: Value.int 0 :: Value.int 0 :: []))), ((ax 5), .inr (5, (Value.ref (ax 30) :: Value.ref (ax 31) :: Value.ref (ax 32) :: Value.ref (ax 33) :: Value.ref (ax 34) :: Value.ref (ax 35) :: Value.ref (ax 36) :: Value.ref (ax 37) :: Value.int 0 :: Value.int 0 :: Value.int 0 :: Value.int 0 :: Value.int 0 :: Value.int 0 :: Value.int 0 :: [])))]) [0, 8] rfl) hK rfl rfl) rfl hl.1 rfl (Nat.le_of_ble_eq_true rfl) dL_law_429 ⟨⟨Nat.le_of_ble_eq_true rfl, Nat.le_of_ble_eq_true rfl⟩, Nat.le_of_ble_eq_true rfl, Nat.le_of_ble_eq_true rfl⟩) rfl ?_
  refine lv_aload_n hx hb dL_law_432 rfl (lv_at hl 1 rfl) ?_
  refine lv_aload_n hx hb dL_law_433 rfl (lv_at hl 3 rfl) ?_
  refine lv_iload_n hx hb dL_law_434 rfl (lv_at hl 0 rfl) ?_
  refine lv_iconst (v := 1) hx hb dL_law_435 (by decide) ?_
  refine lv_iadd hx hb dL_law_436 ?_
  refine ct_i (z := 1) (by decide) ?_
  refine va_sld hx hb hX hbl hbA hS (vi_c (by decide +kernel)) dL_law_437 ?_
  refine lv_aload_n hx hb dL_law_438 rfl (lv_at hl 3 rfl) ?_
  refine lv_iload_n hx hb dL_law_439 rfl (lv_at hl 0 rfl) ?_
  refine lv_iconst (v := 2) hx hb dL_law_440 (by decide) ?_
  refine lv_iadd hx hb dL_law_441 ?_
  refine ct_i (z := 2) (by decide) ?_
  refine va_sld hx hb hX hbl hbA hS (vi_c (by decide +kernel)) dL_law_442 ?_
  refine go_R (v := some (.int (-1))) (st1 := [.int (-1), .int (-1)]) (run_V (As := [.int (xs (1 : Int32).toNatClampNeg), .int (xs (2 : Int32).toNatClampNeg)]) (rest := [.int (-1)]) ⟨hx, hb, hml, hown, hT⟩ (kX12_thing_0 l D cI qm am (xs (1 : Int32).toNatClampNeg) (xs (2 : Int32).toNatClampNeg)) sw_1602 lkv_X12_thing (p_R_V (ci := 12) (q0 := 0) (hP.sub (ws' := [(qm, .inr (12, (Value.int 0 :: Value.int 0 :: Value.ref (am 0) :: Value.int 0 :: Value.int 0 :: Value.ref (am 1) :: Value.ref (am 2) :: Value.int 0 :: Value.ref (am 3) :: Value.ref (am 4) :: Value.int 0 :: Value.ref (am 5) :: Value.ref (am 6) :: Value.ref (am 7) :: Value.int 0 :: Value.ref (am 8) :: Value.int 0 :: Value.int (-1) :: Value.int 0 :: Value.int 0 :: Value.int 0 :: Value.int 0 :: Value.int (-1) :: Value.ref (am 9) :: Value.ref (am 10) :: Value.ref (am 11) :: Value.int 0 :: Value.ref (am 12) :: Value.ref (am 13) :: Value.ref (am 14) :: Value.ref (am 15) :: Value.int 0 :: Value.int 0 :: Value.int 0 :: Value.int 0 :: Value.int 0 :: Value.int 0 :: Value.int 0 :: Value.int 0 :: Value.ref (am 16) :: Value.ref (am 17) :: Value.ref (am 18) :: Value.ref (am 19) :: Value.int 0 :: Value.int 0 :: Value.int 1 :: Value.ref (am 20) :: Value.int 0 :: [])))]) [13] rfl) hK rfl rfl) rfl hl.1 rfl (Nat.le_of_ble_eq_true rfl) dL_law_443 ⟨⟨Nat.le_of_ble_eq_true rfl, Nat.le_of_ble_eq_true rfl⟩, Nat.le_of_ble_eq_true rfl, Nat.le_of_ble_eq_true rfl⟩) rfl ?_
  refine lv_icmp_eq (tgt := 1665) hx hb dL_law_446 (by decide) (fun _ => ?_) (fun h9 => absurd rfl h9)
  exact law_back C0 hS hl
set_option maxHeartbeats 4000000 in
set_option maxRecDepth 100000 in
/-- weight: class and reference answer alike -/
theorem law_7 {p : Program} {l : Launch} {e : Env} {s : State} {m : MethodId} {below : List Frame} {meth : Method} {c : Code} {b : Nat} {xs : Nat → Int32} {D : va_G} {cI : ClassId} {qx qm : Nat} {ax am : Nat → Nat} {H : Heap} {locs : List Loc} {ls : Array Slot} (C : lw_C p s m meth c b xs D cI) (hP : va_P D vwCl (w_L cI qx ax qm am) H) (hD : va_D (fun q : Nat => s.heap.size ≤ q) (w_L cI qx ax qm am)) (hS : va_S (fun q : Nat => s.heap.size ≤ q) s.heap H locs) (hl : lv_has ls 4 [(3, .int 0), (2, .ref qm), (1, .ref qx), (0, .ref b)]) : W p l e room_1 s m #[Value.ref b] below meth c H locs 78 71288 (lw_Z below #[Value.ref b] s) (F0 m 451 ls []) := by
  have C0 := C
  obtain ⟨hx, hb, hr, hml, hown, hT, hX, hbl, hlocks, hK⟩ := C
  have hA : ∀ q : Nat, s.heap.size ≤ q → (fun q : Nat => s.heap.size ≤ q) q := fun _ h => h
  have hbA : ¬ (fun q : Nat => s.heap.size ≤ q) b := Nat.not_le.mpr hbl
  refine lv_aload_n hx hb dL_law_451 rfl (lv_at hl 2 rfl) ?_
  refine lv_aload_n hx hb dL_law_452 rfl (lv_at hl 3 rfl) ?_
  refine lv_iload_n hx hb dL_law_453 rfl (lv_at hl 0 rfl) ?_
  refine lv_iconst (v := 1) hx hb dL_law_454 (by decide) ?_
  refine lv_iadd hx hb dL_law_455 ?_
  refine ct_i (z := 1) (by decide) ?_
  refine va_sld hx hb hX hbl hbA hS (vi_c (by decide +kernel)) dL_law_456 ?_
  refine go_R (v := some (.long (-1))) (st1 := [.long (-1)]) (run_V (As := [.int (xs (1 : Int32).toNatClampNeg)]) (rest := []) ⟨hx, hb, hml, hown, hT⟩ (kX11_weight_0 l D cI qx ax (xs (1 : Int32).toNatClampNeg)) sw_843 lkv_X11_weight (p_R_V (ci := 11) (q0 := 0) (hP.sub (ws' := [(qx, .inr (11, (Value.ref (ax 0) :: Value.ref (ax 1) :: Value.ref (ax 2) :: Value.ref (ax 3) :: Value.ref (ax 4) :: Value.ref (ax 5) :: Value.ref (ax 6) :: Value.ref (ax 7) :: Value.ref (ax 8) :: Value.ref (ax 9) :: Value.ref (ax 10) :: Value.ref (ax 11) :: Value.ref (ax 12) :: Value.ref (ax 13) :: Value.ref (ax 14) :: Value.int 0 :: Value.int 0 :: Value.int 0 :: []))), ((ax 5), .inr (5, (Value.ref (ax 30) :: Value.ref (ax 31) :: Value.ref (ax 32) :: Value.ref (ax 33) :: Value.ref (ax 34) :: Value.ref (ax 35) :: Value.ref (ax 36) :: Value.ref (ax 37) :: Value.int 0 :: Value.int 0 :: Value.int 0 :: Value.int 0 :: Value.int 0 :: Value.int 0 :: Value.int 0 :: [])))]) [0, 8] rfl) hK rfl rfl) rfl hl.1 rfl (Nat.le_of_ble_eq_true rfl) dL_law_457 ⟨⟨Nat.le_of_ble_eq_true rfl, Nat.le_of_ble_eq_true rfl⟩, Nat.le_of_ble_eq_true rfl, Nat.le_of_ble_eq_true rfl⟩) rfl ?_
  refine lv_aload_n hx hb dL_law_460 rfl (lv_at hl 1 rfl) ?_
  refine lv_aload_n hx hb dL_law_461 rfl (lv_at hl 3 rfl) ?_
  refine lv_iload_n hx hb dL_law_462 rfl (lv_at hl 0 rfl) ?_
  refine lv_iconst (v := 1) hx hb dL_law_463 (by decide) ?_
  refine lv_iadd hx hb dL_law_464 ?_
  refine ct_i (z := 1) (by decide) ?_
  refine va_sld hx hb hX hbl hbA hS (vi_c (by decide +kernel)) dL_law_465 ?_
  refine go_R (v := some (.long (-1))) (st1 := [.long (-1), .long (-1)]) (run_V (As := [.int (xs (1 : Int32).toNatClampNeg)]) (rest := [.long (-1)]) ⟨hx, hb, hml, hown, hT⟩ (kX12_weight_0 l D cI qm am (xs (1 : Int32).toNatClampNeg)) sw_1606 lkv_X12_weight (p_R_V (ci := 12) (q0 := 0) (hP.sub (ws' := [(qm, .inr (12, (Value.int 0 :: Value.int 0 :: Value.ref (am 0) :: Value.int 0 :: Value.int 0 :: Value.ref (am 1) :: Value.ref (am 2) :: Value.int 0 :: Value.ref (am 3) :: Value.ref (am 4) :: Value.int 0 :: Value.ref (am 5) :: Value.ref (am 6) :: Value.ref (am 7) :: Value.int 0 :: Value.ref (am 8) :: Value.int 0 :: Value.int (-1) :: Value.int 0 :: Value.int 0 :: Value.int 0 :: Value.int 0 :: Value.int (-1) :: Value.ref (am 9) :: Value.ref (am 10) :: Value.ref (am 11) :: Value.int 0 :: Value.ref (am 12) :: Value.ref (am 13) :: Value.ref (am 14) :: Value.ref (am 15) :: Value.int 0 :: Value.int 0 :: Value.int 0 :: Value.int 0 :: Value.int 0 :: Value.int 0 :: Value.int 0 :: Value.int 0 :: Value.ref (am 16) :: Value.ref (am 17) :: Value.ref (am 18) :: Value.ref (am 19) :: Value.int 0 :: Value.int 0 :: Value.int 1 :: Value.ref (am 20) :: Value.int 0 :: [])))]) [13] rfl) hK rfl rfl) rfl hl.1 rfl (Nat.le_of_ble_eq_true rfl) dL_law_466 ⟨⟨Nat.le_of_ble_eq_true rfl, Nat.le_of_ble_eq_true rfl⟩, Nat.le_of_ble_eq_true rfl, Nat.le_of_ble_eq_true rfl⟩) rfl ?_
  refine W.lcmp hx hb dL_law_469 ?_
  refine ct_i (z := 0) (by decide) ?_
  refine lv_if_eq (tgt := 1665) hx hb dL_law_470 (by decide) (fun _ => ?_) (fun h9 => absurd rfl h9)
  exact law_back C0 hS hl
set_option maxHeartbeats 4000000 in
set_option maxRecDepth 100000 in
/-- column: class and reference answer alike -/
theorem law_8 {p : Program} {l : Launch} {e : Env} {s : State} {m : MethodId} {below : List Frame} {meth : Method} {c : Code} {b : Nat} {xs : Nat → Int32} {D : va_G} {cI : ClassId} {qx qm : Nat} {ax am : Nat → Nat} {H : Heap} {locs : List Loc} {ls : Array Slot} (C : lw_C p s m meth c b xs D cI) (hP : va_P D vwCl (w_L cI qx ax qm am) H) (hD : va_D (fun q : Nat => s.heap.size ≤ q) (w_L cI qx ax qm am)) (hS : va_S (fun q : Nat => s.heap.size ≤ q) s.heap H locs) (hl : lv_has ls 4 [(3, .int 0), (2, .ref qm), (1, .ref qx), (0, .ref b)]) : W p l e room_1 s m #[Value.ref b] below meth c H locs 78 71288 (lw_Z below #[Value.ref b] s) (F0 m 475 ls []) := by
  have C0 := C
  obtain ⟨hx, hb, hr, hml, hown, hT, hX, hbl, hlocks, hK⟩ := C
  have hA : ∀ q : Nat, s.heap.size ≤ q → (fun q : Nat => s.heap.size ≤ q) q := fun _ h => h
  have hbA : ¬ (fun q : Nat => s.heap.size ≤ q) b := Nat.not_le.mpr hbl
  refine lv_aload_n hx hb dL_law_475 rfl (lv_at hl 2 rfl) ?_
  refine lv_aload_n hx hb dL_law_476 rfl (lv_at hl 3 rfl) ?_
  refine lv_iload_n hx hb dL_law_477 rfl (lv_at hl 0 rfl) ?_
  refine lv_iconst (v := 1) hx hb dL_law_478 (by decide) ?_
  refine lv_iadd hx hb dL_law_479 ?_
  refine ct_i (z := 1) (by decide) ?_
  refine va_sld hx hb hX hbl hbA hS (vi_c (by decide +kernel)) dL_law_480 ?_
  refine lv_aload_n hx hb dL_law_481 rfl (lv_at hl 3 rfl) ?_
  refine lv_iload_n hx hb dL_law_482 rfl (lv_at hl 0 rfl) ?_
  refine lv_iconst (v := 2) hx hb dL_law_483 (by decide) ?_
  refine lv_iadd hx hb dL_law_484 ?_
  refine ct_i (z := 2) (by decide) ?_
  refine va_sld hx hb hX hbl hbA hS (vi_c (by decide +kernel)) dL_law_485 ?_
  refine go_R (v := some (.int (-1))) (st1 := [.int (-1)]) (run_V (As := [.int (xs (1 : Int32).toNatClampNeg), .int (xs (2 : Int32).toNatClampNeg)]) (rest := []) ⟨hx, hb, hml, hown, hT⟩ (kX11_column_0 l D cI qx ax (xs (1 : Int32).toNatClampNeg) (xs (2 : Int32).toNatClampNeg)) sw_850 lkv_X11_column (p_R_V (ci := 11) (q0 := 0) (hP.sub (ws' := [(qx, .inr (11, (Value.ref (ax 0) :: Value.ref (ax 1) :: Value.ref (ax 2) :: Value.ref (ax 3) :: Value.ref (ax 4) :: Value.ref (ax 5) :: Value.ref (ax 6) :: Value.ref (ax 7) :: Value.ref (ax 8) :: Value.ref (ax 9) :: Value.ref (ax 10) :: Value.ref (ax 11) :: Value.ref (ax 12) :: Value.ref (ax 13) :: Value.ref (ax 14) :: Value.int 0 :: Value.int 0 :: Value.int 0 :: []))), ((ax 5), .inr (5, (Value.ref (ax 30) :: Value.ref (ax 31) :: Value.ref (ax 32) :: Value.ref (ax 33) :: Value.ref (ax 34) :: Value.ref (ax 35) :: Value.ref (ax 36) :: Value.ref (ax 37) :: Value.int 0 :: Value.int 0 :: Value.int 0 :: Value.int 0 :: Value.int 0 :: Value.int 0 :: Value.int 0 :: [])))]) [0, 8] rfl) hK rfl rfl) rfl hl.1 rfl (Nat.le_of_ble_eq_true rfl) dL_law_486 ⟨⟨Nat.le_of_ble_eq_true rfl, Nat.le_of_ble_eq_true rfl⟩, Nat.le_of_ble_eq_true rfl, Nat.le_of_ble_eq_true rfl⟩) rfl ?_
  refine lv_aload_n hx hb dL_law_489 rfl (lv_at hl 1 rfl) ?_
  refine lv_aload_n hx hb dL_law_490 rfl (lv_at hl 3 rfl) ?_
  refine lv_iload_n hx hb dL_law_491 rfl (lv_at hl 0 rfl) ?_
  refine lv_iconst (v := 1) hx hb dL_law_492 (by decide) ?_
  refine lv_iadd hx hb dL_law_493 ?_
  refine ct_i (z := 1) (by decide) ?_
  refine va_sld hx hb hX hbl hbA hS (vi_c (by decide +kernel)) dL_law_494 ?_
  refine lv_aload_n hx hb dL_law_495 rfl (lv_at hl 3 rfl) ?_
  refine lv_iload_n hx hb dL_law_496 rfl (lv_at hl 0 rfl) ?_
  refine lv_iconst (v := 2) hx hb dL_law_497 (by decide) ?_
  refine lv_iadd hx hb dL_law_498 ?_
  refine ct_i (z := 2) (by decide) ?_
  refine va_sld hx hb hX hbl hbA hS (vi_c (by decide +kernel)) dL_law_499 ?_
  refine go_R (v := some (.int (-1))) (st1 := [.int (-1), .int (-1)]) (run_V (As := [.int (xs (1 : Int32).toNatClampNeg), .int (xs (2 : Int32).toNatClampNeg)]) (rest := [.int (-1)]) ⟨hx, hb, hml, hown, hT⟩ (kX12_column_0 l D cI qm am (xs (1 : Int32).toNatClampNeg) (xs (2 : Int32).toNatClampNeg)) sw_1622 lkv_X12_column (p_R_V (ci := 12) (q0 := 0) (hP.sub (ws' := [(qm, .inr (12, (Value.int 0 :: Value.int 0 :: Value.ref (am 0) :: Value.int 0 :: Value.int 0 :: Value.ref (am 1) :: Value.ref (am 2) :: Value.int 0 :: Value.ref (am 3) :: Value.ref (am 4) :: Value.int 0 :: Value.ref (am 5) :: Value.ref (am 6) :: Value.ref (am 7) :: Value.int 0 :: Value.ref (am 8) :: Value.int 0 :: Value.int (-1) :: Value.int 0 :: Value.int 0 :: Value.int 0 :: Value.int 0 :: Value.int (-1) :: Value.ref (am 9) :: Value.ref (am 10) :: Value.ref (am 11) :: Value.int 0 :: Value.ref (am 12) :: Value.ref (am 13) :: Value.ref (am 14) :: Value.ref (am 15) :: Value.int 0 :: Value.int 0 :: Value.int 0 :: Value.int 0 :: Value.int 0 :: Value.int 0 :: Value.int 0 :: Value.int 0 :: Value.ref (am 16) :: Value.ref (am 17) :: Value.ref (am 18) :: Value.ref (am 19) :: Value.int 0 :: Value.int 0 :: Value.int 1 :: Value.ref (am 20) :: Value.int 0 :: [])))]) [13] rfl) hK rfl rfl) rfl hl.1 rfl (Nat.le_of_ble_eq_true rfl) dL_law_500 ⟨⟨Nat.le_of_ble_eq_true rfl, Nat.le_of_ble_eq_true rfl⟩, Nat.le_of_ble_eq_true rfl, Nat.le_of_ble_eq_true rfl⟩) rfl ?_
  refine lv_icmp_eq (tgt := 1665) hx hb dL_law_503 (by decide) (fun _ => ?_) (fun h9 => absurd rfl h9)
  exact law_back C0 hS hl
set_option maxHeartbeats 4000000 in
set_option maxRecDepth 100000 in
/-- mass: class and reference answer alike -/
theorem law_9 {p : Program} {l : Launch} {e : Env} {s : State} {m : MethodId} {below : List Frame} {meth : Method} {c : Code} {b : Nat} {xs : Nat → Int32} {D : va_G} {cI : ClassId} {qx qm : Nat} {ax am : Nat → Nat} {H : Heap} {locs : List Loc} {ls : Array Slot} (C : lw_C p s m meth c b xs D cI) (hP : va_P D vwCl (w_L cI qx ax qm am) H) (hD : va_D (fun q : Nat => s.heap.size ≤ q) (w_L cI qx ax qm am)) (hS : va_S (fun q : Nat => s.heap.size ≤ q) s.heap H locs) (hl : lv_has ls 4 [(3, .int 0), (2, .ref qm), (1, .ref qx), (0, .ref b)]) : W p l e room_1 s m #[Value.ref b] below meth c H locs 78 71288 (lw_Z below #[Value.ref b] s) (F0 m 508 ls []) := by
  have C0 := C
  obtain ⟨hx, hb, hr, hml, hown, hT, hX, hbl, hlocks, hK⟩ := C
  have hA : ∀ q : Nat, s.heap.size ≤ q → (fun q : Nat => s.heap.size ≤ q) q := fun _ h => h
  have hbA : ¬ (fun q : Nat => s.heap.size ≤ q) b := Nat.not_le.mpr hbl
  refine lv_aload_n hx hb dL_law_508 rfl (lv_at hl 2 rfl) ?_
  refine lv_aload_n hx hb dL_law_509 rfl (lv_at hl 3 rfl) ?_
  refine lv_iload_n hx hb dL_law_510 rfl (lv_at hl 0 rfl) ?_
  refine lv_iconst (v := 1) hx hb dL_law_511 (by decide) ?_
  refine lv_iadd hx hb dL_law_512 ?_
  refine ct_i (z := 1) (by decide) ?_
  refine va_sld hx hb hX hbl hbA hS (vi_c (by decide +kernel)) dL_law_513 ?_
  refine go_R (v := some (.int (-1))) (st1 := [.int (-1)]) (run_V (As := [.int (xs (1 : Int32).toNatClampNeg)]) (rest := []) ⟨hx, hb, hml, hown, hT⟩ (kX11_mass_0 l D cI qx ax (xs (1 : Int32).toNatClampNeg)) sw_859 lkv_X11_mass (p_R_V (ci := 11) (q0 := 0) (hP.sub (ws' := [(qx, .inr (11, (Value.ref (ax 0) :: Value.ref (ax 1) :: Value.ref (ax 2) :: Value.ref (ax 3) :: Value.ref (ax 4) :: Value.ref (ax 5) :: Value.ref (ax 6) :: Value.ref (ax 7) :: Value.ref (ax 8) :: Value.ref (ax 9) :: Value.ref (ax 10) :: Value.ref (ax 11) :: Value.ref (ax 12) :: Value.ref (ax 13) :: Value.ref (ax 14) :: Value.int 0 :: Value.int 0 :: Value.int 0 :: []))), ((ax 5), .inr (5, (Value.ref (ax 30) :: Value.ref (ax 31) :: Value.ref (ax 32) :: Value.ref (ax 33) :: Value.ref (ax 34) :: Value.ref (ax 35) :: Value.ref (ax 36) :: Value.ref (ax 37) :: Value.int 0 :: Value.int 0 :: Value.int 0 :: Value.int 0 :: Value.int 0 :: Value.int 0 :: Value.int 0 :: [])))]) [0, 8] rfl) hK rfl rfl) rfl hl.1 rfl (Nat.le_of_ble_eq_true rfl) dL_law_514 ⟨⟨Nat.le_of_ble_eq_true rfl, Nat.le_of_ble_eq_true rfl⟩, Nat.le_of_ble_eq_true rfl, Nat.le_of_ble_eq_true rfl⟩) rfl ?_
  refine lv_aload_n hx hb dL_law_517 rfl (lv_at hl 1 rfl) ?_
  refine lv_aload_n hx hb dL_law_518 rfl (lv_at hl 3 rfl) ?_
  refine lv_iload_n hx hb dL_law_519 rfl (lv_at hl 0 rfl) ?_
  refine lv_iconst (v := 1) hx hb dL_law_520 (by decide) ?_
  refine lv_iadd hx hb dL_law_521 ?_
  refine ct_i (z := 1) (by decide) ?_
  refine va_sld hx hb hX hbl hbA hS (vi_c (by decide +kernel)) dL_law_522 ?_
  refine go_R (v := some (.int (-1))) (st1 := [.int (-1), .int (-1)]) (run_V (As := [.int (xs (1 : Int32).toNatClampNeg)]) (rest := [.int (-1)]) ⟨hx, hb, hml, hown, hT⟩ (kX12_mass_0 l D cI qm am (xs (1 : Int32).toNatClampNeg)) sw_1638 lkv_X12_mass (p_R_V (ci := 12) (q0 := 0) (hP.sub (ws' := [(qm, .inr (12, (Value.int 0 :: Value.int 0 :: Value.ref (am 0) :: Value.int 0 :: Value.int 0 :: Value.ref (am 1) :: Value.ref (am 2) :: Value.int 0 :: Value.ref (am 3) :: Value.ref (am 4) :: Value.int 0 :: Value.ref (am 5) :: Value.ref (am 6) :: Value.ref (am 7) :: Value.int 0 :: Value.ref (am 8) :: Value.int 0 :: Value.int (-1) :: Value.int 0 :: Value.int 0 :: Value.int 0 :: Value.int 0 :: Value.int (-1) :: Value.ref (am 9) :: Value.ref (am 10) :: Value.ref (am 11) :: Value.int 0 :: Value.ref (am 12) :: Value.ref (am 13) :: Value.ref (am 14) :: Value.ref (am 15) :: Value.int 0 :: Value.int 0 :: Value.int 0 :: Value.int 0 :: Value.int 0 :: Value.int 0 :: Value.int 0 :: Value.int 0 :: Value.ref (am 16) :: Value.ref (am 17) :: Value.ref (am 18) :: Value.ref (am 19) :: Value.int 0 :: Value.int 0 :: Value.int 1 :: Value.ref (am 20) :: Value.int 0 :: [])))]) [13] rfl) hK rfl rfl) rfl hl.1 rfl (Nat.le_of_ble_eq_true rfl) dL_law_523 ⟨⟨Nat.le_of_ble_eq_true rfl, Nat.le_of_ble_eq_true rfl⟩, Nat.le_of_ble_eq_true rfl, Nat.le_of_ble_eq_true rfl⟩) rfl ?_
  refine lv_icmp_eq (tgt := 1665) hx hb dL_law_526 (by decide) (fun _ => ?_) (fun h9 => absurd rfl h9)
  exact law_back C0 hS hl
set_option maxHeartbeats 4000000 in
set_option maxRecDepth 100000 in
/-- rank: class and reference answer alike -/
theorem law_10 {p : Program} {l : Launch} {e : Env} {s : State} {m : MethodId} {below : List Frame} {meth : Method} {c : Code} {b : Nat} {xs : Nat → Int32} {D : va_G} {cI : ClassId} {qx qm : Nat} {ax am : Nat → Nat} {H : Heap} {locs : List Loc} {ls : Array Slot} (C : lw_C p s m meth c b xs D cI) (hP : va_P D vwCl (w_L cI qx ax qm am) H) (hD : va_D (fun q : Nat => s.heap.size ≤ q) (w_L cI qx ax qm am)) (hS : va_S (fun q : Nat => s.heap.size ≤ q) s.heap H locs) (hl : lv_has ls 4 [(3, .int 0), (2, .ref qm), (1, .ref qx), (0, .ref b)]) : W p l e room_1 s m #[Value.ref b] below meth c H locs 78 71288 (lw_Z below #[Value.ref b] s) (F0 m 531 ls []) := by
  have C0 := C
  obtain ⟨hx, hb, hr, hml, hown, hT, hX, hbl, hlocks, hK⟩ := C
  have hA : ∀ q : Nat, s.heap.size ≤ q → (fun q : Nat => s.heap.size ≤ q) q := fun _ h => h
  have hbA : ¬ (fun q : Nat => s.heap.size ≤ q) b := Nat.not_le.mpr hbl
  refine lv_aload_n hx hb dL_law_531 rfl (lv_at hl 2 rfl) ?_
  refine lv_aload_n hx hb dL_law_532 rfl (lv_at hl 3 rfl) ?_
  refine lv_iload_n hx hb dL_law_533 rfl (lv_at hl 0 rfl) ?_
  refine lv_iconst (v := 1) hx hb dL_law_534 (by decide) ?_
  refine lv_iadd hx hb dL_law_535 ?_
  refine ct_i (z := 1) (by decide) ?_
  refine va_sld hx hb hX hbl hbA hS (vi_c (by decide +kernel)) dL_law_536 ?_
  refine go_R (v := some (.int (-1))) (st1 := [.int (-1)]) (run_V (As := [.int (xs (1 : Int32).toNatClampNeg)]) (rest := []) ⟨hx, hb, hml, hown, hT⟩ (kX11_rank_0 l D cI qx ax (xs (1 : Int32).toNatClampNeg)) sw_863 lkv_X11_rank (p_R_V (ci := 11) (q0 := 0) (hP.sub (ws' := [(qx, .inr (11, (Value.ref (ax 0) :: Value.ref (ax 1) :: Value.ref (ax 2) :: Value.ref (ax 3) :: Value.ref (ax 4) :: Value.ref (ax 5) :: Value.ref (ax 6) :: Value.ref (ax 7) :: Value.ref (ax 8) :: Value.ref (ax 9) :: Value.ref (ax 10) :: Value.ref (ax 11) :: Value.ref (ax 12) :: Value.ref (ax 13) :: Value.ref (ax 14) :: Value.int 0 :: Value.int 0 :: Value.int 0 :: []))), ((ax 5), .inr (5, (Value.ref (ax 30) :: Value.ref (ax 31) :: Value.ref (ax 32) :: Value.ref (ax 33) :: Value.ref (ax 34) :: Value.ref (ax 35) :: Value.ref (ax 36) :: Value.ref (ax 37) :: Value.int 0 :: Value.int 0 :: Value.int 0 :: Value.int 0 :: Value.int 0 :: Value.int 0 :: Value.int 0 :: [])))]) [0, 8] rfl) hK rfl rfl) rfl hl.1 rfl (Nat.le_of_ble_eq_true rfl) dL_law_537 ⟨⟨Nat.le_of_ble_eq_true rfl, Nat.le_of_ble_eq_true rfl⟩, Nat.le_of_ble_eq_true rfl, Nat.le_of_ble_eq_true rfl⟩) rfl ?_
  refine lv_aload_n hx hb dL_law_540 rfl (lv_at hl 1 rfl) ?_
  refine lv_aload_n hx hb dL_law_541 rfl (lv_at hl 3 rfl) ?_
  refine lv_iload_n hx hb dL_law_542 rfl (lv_at hl 0 rfl) ?_
  refine lv_iconst (v := 1) hx hb dL_law_543 (by decide) ?_
  refine lv_iadd hx hb dL_law_544 ?_
  refine ct_i (z := 1) (by decide) ?_
  refine va_sld hx hb hX hbl hbA hS (vi_c (by decide +kernel)) dL_law_545 ?_
  refine go_R (v := some (.int (-1))) (st1 := [.int (-1), .int (-1)]) (run_V (As := [.int (xs (1 : Int32).toNatClampNeg)]) (rest := [.int (-1)]) ⟨hx, hb, hml, hown, hT⟩ (kX12_rank_0 l D cI qm am (xs (1 : Int32).toNatClampNeg)) sw_1642 lkv_X12_rank (p_R_V (ci := 12) (q0 := 0) (hP.sub (ws' := [(qm, .inr (12, (Value.int 0 :: Value.int 0 :: Value.ref (am 0) :: Value.int 0 :: Value.int 0 :: Value.ref (am 1) :: Value.ref (am 2) :: Value.int 0 :: Value.ref (am 3) :: Value.ref (am 4) :: Value.int 0 :: Value.ref (am 5) :: Value.ref (am 6) :: Value.ref (am 7) :: Value.int 0 :: Value.ref (am 8) :: Value.int 0 :: Value.int (-1) :: Value.int 0 :: Value.int 0 :: Value.int 0 :: Value.int 0 :: Value.int (-1) :: Value.ref (am 9) :: Value.ref (am 10) :: Value.ref (am 11) :: Value.int 0 :: Value.ref (am 12) :: Value.ref (am 13) :: Value.ref (am 14) :: Value.ref (am 15) :: Value.int 0 :: Value.int 0 :: Value.int 0 :: Value.int 0 :: Value.int 0 :: Value.int 0 :: Value.int 0 :: Value.int 0 :: Value.ref (am 16) :: Value.ref (am 17) :: Value.ref (am 18) :: Value.ref (am 19) :: Value.int 0 :: Value.int 0 :: Value.int 1 :: Value.ref (am 20) :: Value.int 0 :: [])))]) [13] rfl) hK rfl rfl) rfl hl.1 rfl (Nat.le_of_ble_eq_true rfl) dL_law_546 ⟨⟨Nat.le_of_ble_eq_true rfl, Nat.le_of_ble_eq_true rfl⟩, Nat.le_of_ble_eq_true rfl, Nat.le_of_ble_eq_true rfl⟩) rfl ?_
  refine lv_icmp_eq (tgt := 1665) hx hb dL_law_549 (by decide) (fun _ => ?_) (fun h9 => absurd rfl h9)
  exact law_back C0 hS hl
set_option maxHeartbeats 4000000 in
set_option maxRecDepth 100000 in
/-- share: class and reference answer alike -/
theorem law_11 {p : Program} {l : Launch} {e : Env} {s : State} {m : MethodId} {below : List Frame} {meth : Method} {c : Code} {b : Nat} {xs : Nat → Int32} {D : va_G} {cI : ClassId} {qx qm : Nat} {ax am : Nat → Nat} {H : Heap} {locs : List Loc} {ls : Array Slot} (C : lw_C p s m meth c b xs D cI) (hP : va_P D vwCl (w_L cI qx ax qm am) H) (hD : va_D (fun q : Nat => s.heap.size ≤ q) (w_L cI qx ax qm am)) (hS : va_S (fun q : Nat => s.heap.size ≤ q) s.heap H locs) (hl : lv_has ls 4 [(3, .int 0), (2, .ref qm), (1, .ref qx), (0, .ref b)]) : W p l e room_1 s m #[Value.ref b] below meth c H locs 78 71288 (lw_Z below #[Value.ref b] s) (F0 m 554 ls []) := by
  have C0 := C
  obtain ⟨hx, hb, hr, hml, hown, hT, hX, hbl, hlocks, hK⟩ := C
  have hA : ∀ q : Nat, s.heap.size ≤ q → (fun q : Nat => s.heap.size ≤ q) q := fun _ h => h
  have hbA : ¬ (fun q : Nat => s.heap.size ≤ q) b := Nat.not_le.mpr hbl
  refine lv_aload_n hx hb dL_law_554 rfl (lv_at hl 2 rfl) ?_
  refine lv_aload_n hx hb dL_law_555 rfl (lv_at hl 3 rfl) ?_
  refine lv_iload_n hx hb dL_law_556 rfl (lv_at hl 0 rfl) ?_
  refine lv_iconst (v := 1) hx hb dL_law_557 (by decide) ?_
  refine lv_iadd hx hb dL_law_558 ?_
  refine ct_i (z := 1) (by decide) ?_
  refine va_sld hx hb hX hbl hbA hS (vi_c (by decide +kernel)) dL_law_559 ?_
  refine lv_aload_n hx hb dL_law_560 rfl (lv_at hl 3 rfl) ?_
  refine lv_iload_n hx hb dL_law_561 rfl (lv_at hl 0 rfl) ?_
  refine lv_iconst (v := 2) hx hb dL_law_562 (by decide) ?_
  refine lv_iadd hx hb dL_law_563 ?_
  refine ct_i (z := 2) (by decide) ?_
  refine va_sld hx hb hX hbl hbA hS (vi_c (by decide +kernel)) dL_law_564 ?_
  refine go_R (v := some (.int (-1))) (st1 := [.int (-1)]) (run_V (As := [.int (xs (1 : Int32).toNatClampNeg), .int (xs (2 : Int32).toNatClampNeg)]) (rest := []) ⟨hx, hb, hml, hown, hT⟩ (kX11_share_0 l D cI qx ax (xs (1 : Int32).toNatClampNeg) (xs (2 : Int32).toNatClampNeg)) sw_871 lkv_X11_share (p_R_V (ci := 11) (q0 := 0) (hP.sub (ws' := [(qx, .inr (11, (Value.ref (ax 0) :: Value.ref (ax 1) :: Value.ref (ax 2) :: Value.ref (ax 3) :: Value.ref (ax 4) :: Value.ref (ax 5) :: Value.ref (ax 6) :: Value.ref (ax 7) :: Value.ref (ax 8) :: Value.ref (ax 9) :: Value.ref (ax 10) :: Value.ref (ax 11) :: Value.ref (ax 12) :: Value.ref (ax 13) :: Value.ref (ax 14) :: Value.int 0 :: Value.int 0 :: Value.int 0 :: []))), ((ax 5), .inr (5, (Value.ref (ax 30) :: Value.ref (ax 31) :: Value.ref (ax 32) :: Value.ref (ax 33) :: Value.ref (ax 34) :: Value.ref (ax 35) :: Value.ref (ax 36) :: Value.ref (ax 37) :: Value.int 0 :: Value.int 0 :: Value.int 0 :: Value.int 0 :: Value.int 0 :: Value.int 0 :: Value.int 0 :: [])))]) [0, 8] rfl) hK rfl rfl) rfl hl.1 rfl (Nat.le_of_ble_eq_true rfl) dL_law_565 ⟨⟨Nat.le_of_ble_eq_true rfl, Nat.le_of_ble_eq_true rfl⟩, Nat.le_of_ble_eq_true rfl, Nat.le_of_ble_eq_true rfl⟩) rfl ?_
  refine lv_aload_n hx hb dL_law_568 rfl (lv_at hl 1 rfl) ?_
  refine lv_aload_n hx hb dL_law_569 rfl (lv_at hl 3 rfl) ?_
  refine lv_iload_n hx hb dL_law_570 rfl (lv_at hl 0 rfl) ?_
  refine lv_iconst (v := 1) hx hb dL_law_571 (by decide) ?_
  refine lv_iadd hx hb dL_law_572 ?_
  refine ct_i (z := 1) (by decide) ?_
  refine va_sld hx hb hX hbl hbA hS (vi_c (by decide +kernel)) dL_law_573 ?_
  refine lv_aload_n hx hb dL_law_574 rfl (lv_at hl 3 rfl) ?_
  refine lv_iload_n hx hb dL_law_575 rfl (lv_at hl 0 rfl) ?_
  refine lv_iconst (v := 2) hx hb dL_law_576 (by decide) ?_
  refine lv_iadd hx hb dL_law_577 ?_
  refine ct_i (z := 2) (by decide) ?_
  refine va_sld hx hb hX hbl hbA hS (vi_c (by decide +kernel)) dL_law_578 ?_
  refine go_R (v := some (.int (-1))) (st1 := [.int (-1), .int (-1)]) (run_V (As := [.int (xs (1 : Int32).toNatClampNeg), .int (xs (2 : Int32).toNatClampNeg)]) (rest := [.int (-1)]) ⟨hx, hb, hml, hown, hT⟩ (kX12_share_0 l D cI qm am (xs (1 : Int32).toNatClampNeg) (xs (2 : Int32).toNatClampNeg)) sw_1646 lkv_X12_share (p_R_V (ci := 12) (q0 := 0) (hP.sub (ws' := [(qm, .inr (12, (Value.int 0 :: Value.int 0 :: Value.ref (am 0) :: Value.int 0 :: Value.int 0 :: Value.ref (am 1) :: Value.ref (am 2) :: Value.int 0 :: Value.ref (am 3) :: Value.ref (am 4) :: Value.int 0 :: Value.ref (am 5) :: Value.ref (am 6) :: Value.ref (am 7) :: Value.int 0 :: Value.ref (am 8) :: Value.int 0 :: Value.int (-1) :: Value.int 0 :: Value.int 0 :: Value.int 0 :: Value.int 0 :: Value.int (-1) :: Value.ref (am 9) :: Value.ref (am 10) :: Value.ref (am 11) :: Value.int 0 :: Value.ref (am 12) :: Value.ref (am 13) :: Value.ref (am 14) :: Value.ref (am 15) :: Value.int 0 :: Value.int 0 :: Value.int 0 :: Value.int 0 :: Value.int 0 :: Value.int 0 :: Value.int 0 :: Value.int 0 :: Value.ref (am 16) :: Value.ref (am 17) :: Value.ref (am 18) :: Value.ref (am 19) :: Value.int 0 :: Value.int 0 :: Value.int 1 :: Value.ref (am 20) :: Value.int 0 :: [])))]) [13] rfl) hK rfl rfl) rfl hl.1 rfl (Nat.le_of_ble_eq_true rfl) dL_law_579 ⟨⟨Nat.le_of_ble_eq_true rfl, Nat.le_of_ble_eq_true rfl⟩, Nat.le_of_ble_eq_true rfl, Nat.le_of_ble_eq_true rfl⟩) rfl ?_
  refine lv_icmp_eq (tgt := 1665) hx hb dL_law_582 (by decide) (fun _ => ?_) (fun h9 => absurd rfl h9)
  exact law_back C0 hS hl
set_option maxHeartbeats 4000000 in
set_option maxRecDepth 100000 in
/-- goes: class and reference answer alike -/
theorem law_12 {p : Program} {l : Launch} {e : Env} {s : State} {m : MethodId} {below : List Frame} {meth : Method} {c : Code} {b : Nat} {xs : Nat → Int32} {D : va_G} {cI : ClassId} {qx qm : Nat} {ax am : Nat → Nat} {H : Heap} {locs : List Loc} {ls : Array Slot} (C : lw_C p s m meth c b xs D cI) (hP : va_P D vwCl (w_L cI qx ax qm am) H) (hD : va_D (fun q : Nat => s.heap.size ≤ q) (w_L cI qx ax qm am)) (hS : va_S (fun q : Nat => s.heap.size ≤ q) s.heap H locs) (hl : lv_has ls 4 [(3, .int 0), (2, .ref qm), (1, .ref qx), (0, .ref b)]) : W p l e room_1 s m #[Value.ref b] below meth c H locs 78 71288 (lw_Z below #[Value.ref b] s) (F0 m 587 ls []) := by
  have C0 := C
  obtain ⟨hx, hb, hr, hml, hown, hT, hX, hbl, hlocks, hK⟩ := C
  have hA : ∀ q : Nat, s.heap.size ≤ q → (fun q : Nat => s.heap.size ≤ q) q := fun _ h => h
  have hbA : ¬ (fun q : Nat => s.heap.size ≤ q) b := Nat.not_le.mpr hbl
  refine lv_aload_n hx hb dL_law_587 rfl (lv_at hl 2 rfl) ?_
  refine lv_aload_n hx hb dL_law_588 rfl (lv_at hl 3 rfl) ?_
  refine lv_iload_n hx hb dL_law_589 rfl (lv_at hl 0 rfl) ?_
  refine lv_iconst (v := 1) hx hb dL_law_590 (by decide) ?_
  refine lv_iadd hx hb dL_law_591 ?_
  refine ct_i (z := 1) (by decide) ?_
  refine va_sld hx hb hX hbl hbA hS (vi_c (by decide +kernel)) dL_law_592 ?_
  refine go_R (v := some (.int (-1))) (st1 := [.int (-1)]) (run_V (As := [.int (xs (1 : Int32).toNatClampNeg)]) (rest := []) ⟨hx, hb, hml, hown, hT⟩ (kX11_goes_0 l D cI qx ax (xs (1 : Int32).toNatClampNeg)) sw_879 lkv_X11_goes (p_R_V (ci := 11) (q0 := 0) (hP.sub (ws' := [(qx, .inr (11, (Value.ref (ax 0) :: Value.ref (ax 1) :: Value.ref (ax 2) :: Value.ref (ax 3) :: Value.ref (ax 4) :: Value.ref (ax 5) :: Value.ref (ax 6) :: Value.ref (ax 7) :: Value.ref (ax 8) :: Value.ref (ax 9) :: Value.ref (ax 10) :: Value.ref (ax 11) :: Value.ref (ax 12) :: Value.ref (ax 13) :: Value.ref (ax 14) :: Value.int 0 :: Value.int 0 :: Value.int 0 :: []))), ((ax 5), .inr (5, (Value.ref (ax 30) :: Value.ref (ax 31) :: Value.ref (ax 32) :: Value.ref (ax 33) :: Value.ref (ax 34) :: Value.ref (ax 35) :: Value.ref (ax 36) :: Value.ref (ax 37) :: Value.int 0 :: Value.int 0 :: Value.int 0 :: Value.int 0 :: Value.int 0 :: Value.int 0 :: Value.int 0 :: [])))]) [0, 8] rfl) hK rfl rfl) rfl hl.1 rfl (Nat.le_of_ble_eq_true rfl) dL_law_593 ⟨⟨Nat.le_of_ble_eq_true rfl, Nat.le_of_ble_eq_true rfl⟩, Nat.le_of_ble_eq_true rfl, Nat.le_of_ble_eq_true rfl⟩) rfl ?_
  refine lv_aload_n hx hb dL_law_596 rfl (lv_at hl 1 rfl) ?_
  refine lv_aload_n hx hb dL_law_597 rfl (lv_at hl 3 rfl) ?_
  refine lv_iload_n hx hb dL_law_598 rfl (lv_at hl 0 rfl) ?_
  refine lv_iconst (v := 1) hx hb dL_law_599 (by decide) ?_
  refine lv_iadd hx hb dL_law_600 ?_
  refine ct_i (z := 1) (by decide) ?_
  refine va_sld hx hb hX hbl hbA hS (vi_c (by decide +kernel)) dL_law_601 ?_
  refine go_R (v := some (.int (-1))) (st1 := [.int (-1), .int (-1)]) (run_V (As := [.int (xs (1 : Int32).toNatClampNeg)]) (rest := [.int (-1)]) ⟨hx, hb, hml, hown, hT⟩ (kX12_goes_0 l D cI qm am (xs (1 : Int32).toNatClampNeg)) sw_1657 lkv_X12_goes (p_R_V (ci := 12) (q0 := 0) (hP.sub (ws' := [(qm, .inr (12, (Value.int 0 :: Value.int 0 :: Value.ref (am 0) :: Value.int 0 :: Value.int 0 :: Value.ref (am 1) :: Value.ref (am 2) :: Value.int 0 :: Value.ref (am 3) :: Value.ref (am 4) :: Value.int 0 :: Value.ref (am 5) :: Value.ref (am 6) :: Value.ref (am 7) :: Value.int 0 :: Value.ref (am 8) :: Value.int 0 :: Value.int (-1) :: Value.int 0 :: Value.int 0 :: Value.int 0 :: Value.int 0 :: Value.int (-1) :: Value.ref (am 9) :: Value.ref (am 10) :: Value.ref (am 11) :: Value.int 0 :: Value.ref (am 12) :: Value.ref (am 13) :: Value.ref (am 14) :: Value.ref (am 15) :: Value.int 0 :: Value.int 0 :: Value.int 0 :: Value.int 0 :: Value.int 0 :: Value.int 0 :: Value.int 0 :: Value.int 0 :: Value.ref (am 16) :: Value.ref (am 17) :: Value.ref (am 18) :: Value.ref (am 19) :: Value.int 0 :: Value.int 0 :: Value.int 1 :: Value.ref (am 20) :: Value.int 0 :: [])))]) [13] rfl) hK rfl rfl) rfl hl.1 rfl (Nat.le_of_ble_eq_true rfl) dL_law_602 ⟨⟨Nat.le_of_ble_eq_true rfl, Nat.le_of_ble_eq_true rfl⟩, Nat.le_of_ble_eq_true rfl, Nat.le_of_ble_eq_true rfl⟩) rfl ?_
  refine lv_icmp_eq (tgt := 1665) hx hb dL_law_605 (by decide) (fun _ => ?_) (fun h9 => absurd rfl h9)
  exact law_back C0 hS hl
set_option maxHeartbeats 4000000 in
set_option maxRecDepth 100000 in
/-- would: class and reference answer alike -/
theorem law_13 {p : Program} {l : Launch} {e : Env} {s : State} {m : MethodId} {below : List Frame} {meth : Method} {c : Code} {b : Nat} {xs : Nat → Int32} {D : va_G} {cI : ClassId} {qx qm : Nat} {ax am : Nat → Nat} {H : Heap} {locs : List Loc} {ls : Array Slot} (C : lw_C p s m meth c b xs D cI) (hP : va_P D vwCl (w_L cI qx ax qm am) H) (hD : va_D (fun q : Nat => s.heap.size ≤ q) (w_L cI qx ax qm am)) (hS : va_S (fun q : Nat => s.heap.size ≤ q) s.heap H locs) (hl : lv_has ls 4 [(3, .int 0), (2, .ref qm), (1, .ref qx), (0, .ref b)]) : W p l e room_1 s m #[Value.ref b] below meth c H locs 78 71288 (lw_Z below #[Value.ref b] s) (F0 m 610 ls []) := by
  have C0 := C
  obtain ⟨hx, hb, hr, hml, hown, hT, hX, hbl, hlocks, hK⟩ := C
  have hA : ∀ q : Nat, s.heap.size ≤ q → (fun q : Nat => s.heap.size ≤ q) q := fun _ h => h
  have hbA : ¬ (fun q : Nat => s.heap.size ≤ q) b := Nat.not_le.mpr hbl
  refine lv_aload_n hx hb dL_law_610 rfl (lv_at hl 2 rfl) ?_
  refine lv_aload_n hx hb dL_law_611 rfl (lv_at hl 3 rfl) ?_
  refine lv_iload_n hx hb dL_law_612 rfl (lv_at hl 0 rfl) ?_
  refine lv_iconst (v := 1) hx hb dL_law_613 (by decide) ?_
  refine lv_iadd hx hb dL_law_614 ?_
  refine ct_i (z := 1) (by decide) ?_
  refine va_sld hx hb hX hbl hbA hS (vi_c (by decide +kernel)) dL_law_615 ?_
  refine lv_aload_n hx hb dL_law_616 rfl (lv_at hl 3 rfl) ?_
  refine lv_iload_n hx hb dL_law_617 rfl (lv_at hl 0 rfl) ?_
  refine lv_iconst (v := 2) hx hb dL_law_618 (by decide) ?_
  refine lv_iadd hx hb dL_law_619 ?_
  refine ct_i (z := 2) (by decide) ?_
  refine va_sld hx hb hX hbl hbA hS (vi_c (by decide +kernel)) dL_law_620 ?_
  refine lv_aload_n hx hb dL_law_621 rfl (lv_at hl 3 rfl) ?_
  refine lv_iload_n hx hb dL_law_622 rfl (lv_at hl 0 rfl) ?_
  refine lv_iconst (v := 3) hx hb dL_law_623 (by decide) ?_
  refine lv_iadd hx hb dL_law_624 ?_
  refine ct_i (z := 3) (by decide) ?_
  refine va_sld hx hb hX hbl hbA hS (vi_c (by decide +kernel)) dL_law_625 ?_
  refine lv_aload_n hx hb dL_law_626 rfl (lv_at hl 3 rfl) ?_
  refine lv_iload_n hx hb dL_law_627 rfl (lv_at hl 0 rfl) ?_
  refine lv_iconst (v := 4) hx hb dL_law_628 (by decide) ?_
  refine lv_iadd hx hb dL_law_629 ?_
  refine ct_i (z := 4) (by decide) ?_
  refine va_sld hx hb hX hbl hbA hS (vi_c (by decide +kernel)) dL_law_630 ?_
  refine go_R (v := some (.int (-1))) (st1 := [.int (-1)]) (run_V (As := [.int (xs (1 : Int32).toNatClampNeg), .int (xs (2 : Int32).toNatClampNeg), .int (xs (3 : Int32).toNatClampNeg), .int (xs (4 : Int32).toNatClampNeg)]) (rest := []) ⟨hx, hb, hml, hown, hT⟩ (kX11_would_0 l D cI qx ax (xs (1 : Int32).toNatClampNeg) (xs (2 : Int32).toNatClampNeg) (xs (3 : Int32).toNatClampNeg) (xs (4 : Int32).toNatClampNeg)) sw_883 lkv_X11_would (p_R_V (ci := 11) (q0 := 0) (hP.sub (ws' := [(qx, .inr (11, (Value.ref (ax 0) :: Value.ref (ax 1) :: Value.ref (ax 2) :: Value.ref (ax 3) :: Value.ref (ax 4) :: Value.ref (ax 5) :: Value.ref (ax 6) :: Value.ref (ax 7) :: Value.ref (ax 8) :: Value.ref (ax 9) :: Value.ref (ax 10) :: Value.ref (ax 11) :: Value.ref (ax 12) :: Value.ref (ax 13) :: Value.ref (ax 14) :: Value.int 0 :: Value.int 0 :: Value.int 0 :: []))), ((ax 5), .inr (5, (Value.ref (ax 30) :: Value.ref (ax 31) :: Value.ref (ax 32) :: Value.ref (ax 33) :: Value.ref (ax 34) :: Value.ref (ax 35) :: Value.ref (ax 36) :: Value.ref (ax 37) :: Value.int 0 :: Value.int 0 :: Value.int 0 :: Value.int 0 :: Value.int 0 :: Value.int 0 :: Value.int 0 :: [])))]) [0, 8] rfl) hK rfl rfl) rfl hl.1 rfl (Nat.le_of_ble_eq_true rfl) dL_law_631 ⟨⟨Nat.le_of_ble_eq_true rfl, Nat.le_of_ble_eq_true rfl⟩, Nat.le_of_ble_eq_true rfl, Nat.le_of_ble_eq_true rfl⟩) rfl ?_
  refine lv_aload_n hx hb dL_law_634 rfl (lv_at hl 1 rfl) ?_
  refine lv_aload_n hx hb dL_law_635 rfl (lv_at hl 3 rfl) ?_
  refine lv_iload_n hx hb dL_law_636 rfl (lv_at hl 0 rfl) ?_
  refine lv_iconst (v := 1) hx hb dL_law_637 (by decide) ?_
  refine lv_iadd hx hb dL_law_638 ?_
  refine ct_i (z := 1) (by decide) ?_
  refine va_sld hx hb hX hbl hbA hS (vi_c (by decide +kernel)) dL_law_639 ?_
  refine lv_aload_n hx hb dL_law_640 rfl (lv_at hl 3 rfl) ?_
  refine lv_iload_n hx hb dL_law_641 rfl (lv_at hl 0 rfl) ?_
  refine lv_iconst (v := 2) hx hb dL_law_642 (by decide) ?_
  refine lv_iadd hx hb dL_law_643 ?_
  refine ct_i (z := 2) (by decide) ?_
  refine va_sld hx hb hX hbl hbA hS (vi_c (by decide +kernel)) dL_law_644 ?_
  refine lv_aload_n hx hb dL_law_645 rfl (lv_at hl 3 rfl) ?_
  refine lv_iload_n hx hb dL_law_646 rfl (lv_at hl 0 rfl) ?_
  refine lv_iconst (v := 3) hx hb dL_law_647 (by decide) ?_
  refine lv_iadd hx hb dL_law_648 ?_
  refine ct_i (z := 3) (by decide) ?_
  refine va_sld hx hb hX hbl hbA hS (vi_c (by decide +kernel)) dL_law_649 ?_
  refine lv_aload_n hx hb dL_law_650 rfl (lv_at hl 3 rfl) ?_
  refine lv_iload_n hx hb dL_law_651 rfl (lv_at hl 0 rfl) ?_
  refine lv_iconst (v := 4) hx hb dL_law_652 (by decide) ?_
  refine lv_iadd hx hb dL_law_653 ?_
  refine ct_i (z := 4) (by decide) ?_
  refine va_sld hx hb hX hbl hbA hS (vi_c (by decide +kernel)) dL_law_654 ?_
  refine go_R (v := some (.int (-1))) (st1 := [.int (-1), .int (-1)]) (run_V (As := [.int (xs (1 : Int32).toNatClampNeg), .int (xs (2 : Int32).toNatClampNeg), .int (xs (3 : Int32).toNatClampNeg), .int (xs (4 : Int32).toNatClampNeg)]) (rest := [.int (-1)]) ⟨hx, hb, hml, hown, hT⟩ (kX12_would_0 l D cI qm am (xs (1 : Int32).toNatClampNeg) (xs (2 : Int32).toNatClampNeg) (xs (3 : Int32).toNatClampNeg) (xs (4 : Int32).toNatClampNeg)) sw_1661 lkv_X12_would (p_R_V (ci := 12) (q0 := 0) (hP.sub (ws' := [(qm, .inr (12, (Value.int 0 :: Value.int 0 :: Value.ref (am 0) :: Value.int 0 :: Value.int 0 :: Value.ref (am 1) :: Value.ref (am 2) :: Value.int 0 :: Value.ref (am 3) :: Value.ref (am 4) :: Value.int 0 :: Value.ref (am 5) :: Value.ref (am 6) :: Value.ref (am 7) :: Value.int 0 :: Value.ref (am 8) :: Value.int 0 :: Value.int (-1) :: Value.int 0 :: Value.int 0 :: Value.int 0 :: Value.int 0 :: Value.int (-1) :: Value.ref (am 9) :: Value.ref (am 10) :: Value.ref (am 11) :: Value.int 0 :: Value.ref (am 12) :: Value.ref (am 13) :: Value.ref (am 14) :: Value.ref (am 15) :: Value.int 0 :: Value.int 0 :: Value.int 0 :: Value.int 0 :: Value.int 0 :: Value.int 0 :: Value.int 0 :: Value.int 0 :: Value.ref (am 16) :: Value.ref (am 17) :: Value.ref (am 18) :: Value.ref (am 19) :: Value.int 0 :: Value.int 0 :: Value.int 1 :: Value.ref (am 20) :: Value.int 0 :: [])))]) [13] rfl) hK rfl rfl) rfl hl.1 rfl (Nat.le_of_ble_eq_true rfl) dL_law_655 ⟨⟨Nat.le_of_ble_eq_true rfl, Nat.le_of_ble_eq_true rfl⟩, Nat.le_of_ble_eq_true rfl, Nat.le_of_ble_eq_true rfl⟩) rfl ?_
  refine lv_icmp_eq (tgt := 1665) hx hb dL_law_658 (by decide) (fun _ => ?_) (fun h9 => absurd rfl h9)
  exact law_back C0 hS hl
set_option maxHeartbeats 4000000 in
set_option maxRecDepth 100000 in
/-- needs: class and reference answer alike -/
theorem law_14 {p : Program} {l : Launch} {e : Env} {s : State} {m : MethodId} {below : List Frame} {meth : Method} {c : Code} {b : Nat} {xs : Nat → Int32} {D : va_G} {cI : ClassId} {qx qm : Nat} {ax am : Nat → Nat} {H : Heap} {locs : List Loc} {ls : Array Slot} (C : lw_C p s m meth c b xs D cI) (hP : va_P D vwCl (w_L cI qx ax qm am) H) (hD : va_D (fun q : Nat => s.heap.size ≤ q) (w_L cI qx ax qm am)) (hS : va_S (fun q : Nat => s.heap.size ≤ q) s.heap H locs) (hl : lv_has ls 4 [(3, .int 0), (2, .ref qm), (1, .ref qx), (0, .ref b)]) : W p l e room_1 s m #[Value.ref b] below meth c H locs 78 71288 (lw_Z below #[Value.ref b] s) (F0 m 663 ls []) := by
  have C0 := C
  obtain ⟨hx, hb, hr, hml, hown, hT, hX, hbl, hlocks, hK⟩ := C
  have hA : ∀ q : Nat, s.heap.size ≤ q → (fun q : Nat => s.heap.size ≤ q) q := fun _ h => h
  have hbA : ¬ (fun q : Nat => s.heap.size ≤ q) b := Nat.not_le.mpr hbl
  refine lv_aload_n hx hb dL_law_663 rfl (lv_at hl 2 rfl) ?_
  refine lv_aload_n hx hb dL_law_664 rfl (lv_at hl 3 rfl) ?_
  refine lv_iload_n hx hb dL_law_665 rfl (lv_at hl 0 rfl) ?_
  refine lv_iconst (v := 1) hx hb dL_law_666 (by decide) ?_
  refine lv_iadd hx hb dL_law_667 ?_
  refine ct_i (z := 1) (by decide) ?_
  refine va_sld hx hb hX hbl hbA hS (vi_c (by decide +kernel)) dL_law_668 ?_
  refine lv_aload_n hx hb dL_law_669 rfl (lv_at hl 3 rfl) ?_
  refine lv_iload_n hx hb dL_law_670 rfl (lv_at hl 0 rfl) ?_
  refine lv_iconst (v := 2) hx hb dL_law_671 (by decide) ?_
  refine lv_iadd hx hb dL_law_672 ?_
  refine ct_i (z := 2) (by decide) ?_
  refine va_sld hx hb hX hbl hbA hS (vi_c (by decide +kernel)) dL_law_673 ?_
  refine lv_aload_n hx hb dL_law_674 rfl (lv_at hl 3 rfl) ?_
  refine lv_iload_n hx hb dL_law_675 rfl (lv_at hl 0 rfl) ?_
  refine lv_iconst (v := 3) hx hb dL_law_676 (by decide) ?_
  refine lv_iadd hx hb dL_law_677 ?_
  refine ct_i (z := 3) (by decide) ?_
  refine va_sld hx hb hX hbl hbA hS (vi_c (by decide +kernel)) dL_law_678 ?_
  refine go_R (v := some (.int (-1))) (st1 := [.int (-1)]) (run_V (As := [.int (xs (1 : Int32).toNatClampNeg), .int (xs (2 : Int32).toNatClampNeg), .int (xs (3 : Int32).toNatClampNeg)]) (rest := []) ⟨hx, hb, hml, hown, hT⟩ (kX11_needs_0 l D cI qx ax (xs (1 : Int32).toNatClampNeg) (xs (2 : Int32).toNatClampNeg) (xs (3 : Int32).toNatClampNeg)) sw_891 lkv_X11_needs (p_R_V (ci := 11) (q0 := 0) (hP.sub (ws' := [(qx, .inr (11, (Value.ref (ax 0) :: Value.ref (ax 1) :: Value.ref (ax 2) :: Value.ref (ax 3) :: Value.ref (ax 4) :: Value.ref (ax 5) :: Value.ref (ax 6) :: Value.ref (ax 7) :: Value.ref (ax 8) :: Value.ref (ax 9) :: Value.ref (ax 10) :: Value.ref (ax 11) :: Value.ref (ax 12) :: Value.ref (ax 13) :: Value.ref (ax 14) :: Value.int 0 :: Value.int 0 :: Value.int 0 :: []))), ((ax 5), .inr (5, (Value.ref (ax 30) :: Value.ref (ax 31) :: Value.ref (ax 32) :: Value.ref (ax 33) :: Value.ref (ax 34) :: Value.ref (ax 35) :: Value.ref (ax 36) :: Value.ref (ax 37) :: Value.int 0 :: Value.int 0 :: Value.int 0 :: Value.int 0 :: Value.int 0 :: Value.int 0 :: Value.int 0 :: [])))]) [0, 8] rfl) hK rfl rfl) rfl hl.1 rfl (Nat.le_of_ble_eq_true rfl) dL_law_679 ⟨⟨Nat.le_of_ble_eq_true rfl, Nat.le_of_ble_eq_true rfl⟩, Nat.le_of_ble_eq_true rfl, Nat.le_of_ble_eq_true rfl⟩) rfl ?_
  refine lv_aload_n hx hb dL_law_682 rfl (lv_at hl 1 rfl) ?_
  refine lv_aload_n hx hb dL_law_683 rfl (lv_at hl 3 rfl) ?_
  refine lv_iload_n hx hb dL_law_684 rfl (lv_at hl 0 rfl) ?_
  refine lv_iconst (v := 1) hx hb dL_law_685 (by decide) ?_
  refine lv_iadd hx hb dL_law_686 ?_
  refine ct_i (z := 1) (by decide) ?_
  refine va_sld hx hb hX hbl hbA hS (vi_c (by decide +kernel)) dL_law_687 ?_
  refine lv_aload_n hx hb dL_law_688 rfl (lv_at hl 3 rfl) ?_
  refine lv_iload_n hx hb dL_law_689 rfl (lv_at hl 0 rfl) ?_
  refine lv_iconst (v := 2) hx hb dL_law_690 (by decide) ?_
  refine lv_iadd hx hb dL_law_691 ?_
  refine ct_i (z := 2) (by decide) ?_
  refine va_sld hx hb hX hbl hbA hS (vi_c (by decide +kernel)) dL_law_692 ?_
  refine lv_aload_n hx hb dL_law_693 rfl (lv_at hl 3 rfl) ?_
  refine lv_iload_n hx hb dL_law_694 rfl (lv_at hl 0 rfl) ?_
  refine lv_iconst (v := 3) hx hb dL_law_695 (by decide) ?_
  refine lv_iadd hx hb dL_law_696 ?_
  refine ct_i (z := 3) (by decide) ?_
  refine va_sld hx hb hX hbl hbA hS (vi_c (by decide +kernel)) dL_law_697 ?_
  refine go_R (v := some (.int (-1))) (st1 := [.int (-1), .int (-1)]) (run_V (As := [.int (xs (1 : Int32).toNatClampNeg), .int (xs (2 : Int32).toNatClampNeg), .int (xs (3 : Int32).toNatClampNeg)]) (rest := [.int (-1)]) ⟨hx, hb, hml, hown, hT⟩ (kX12_needs_0 l D cI qm am (xs (1 : Int32).toNatClampNeg) (xs (2 : Int32).toNatClampNeg) (xs (3 : Int32).toNatClampNeg)) sw_1666 lkv_X12_needs (p_R_V (ci := 12) (q0 := 0) (hP.sub (ws' := [(qm, .inr (12, (Value.int 0 :: Value.int 0 :: Value.ref (am 0) :: Value.int 0 :: Value.int 0 :: Value.ref (am 1) :: Value.ref (am 2) :: Value.int 0 :: Value.ref (am 3) :: Value.ref (am 4) :: Value.int 0 :: Value.ref (am 5) :: Value.ref (am 6) :: Value.ref (am 7) :: Value.int 0 :: Value.ref (am 8) :: Value.int 0 :: Value.int (-1) :: Value.int 0 :: Value.int 0 :: Value.int 0 :: Value.int 0 :: Value.int (-1) :: Value.ref (am 9) :: Value.ref (am 10) :: Value.ref (am 11) :: Value.int 0 :: Value.ref (am 12) :: Value.ref (am 13) :: Value.ref (am 14) :: Value.ref (am 15) :: Value.int 0 :: Value.int 0 :: Value.int 0 :: Value.int 0 :: Value.int 0 :: Value.int 0 :: Value.int 0 :: Value.int 0 :: Value.ref (am 16) :: Value.ref (am 17) :: Value.ref (am 18) :: Value.ref (am 19) :: Value.int 0 :: Value.int 0 :: Value.int 1 :: Value.ref (am 20) :: Value.int 0 :: [])))]) [13] rfl) hK rfl rfl) rfl hl.1 rfl (Nat.le_of_ble_eq_true rfl) dL_law_698 ⟨⟨Nat.le_of_ble_eq_true rfl, Nat.le_of_ble_eq_true rfl⟩, Nat.le_of_ble_eq_true rfl, Nat.le_of_ble_eq_true rfl⟩) rfl ?_
  refine lv_icmp_eq (tgt := 1665) hx hb dL_law_701 (by decide) (fun _ => ?_) (fun h9 => absurd rfl h9)
  exact law_back C0 hS hl
set_option maxHeartbeats 4000000 in
set_option maxRecDepth 100000 in
/-- merges: class and reference answer alike -/
theorem law_15 {p : Program} {l : Launch} {e : Env} {s : State} {m : MethodId} {below : List Frame} {meth : Method} {c : Code} {b : Nat} {xs : Nat → Int32} {D : va_G} {cI : ClassId} {qx qm : Nat} {ax am : Nat → Nat} {H : Heap} {locs : List Loc} {ls : Array Slot} (C : lw_C p s m meth c b xs D cI) (hP : va_P D vwCl (w_L cI qx ax qm am) H) (hD : va_D (fun q : Nat => s.heap.size ≤ q) (w_L cI qx ax qm am)) (hS : va_S (fun q : Nat => s.heap.size ≤ q) s.heap H locs) (hl : lv_has ls 4 [(3, .int 0), (2, .ref qm), (1, .ref qx), (0, .ref b)]) : W p l e room_1 s m #[Value.ref b] below meth c H locs 78 71288 (lw_Z below #[Value.ref b] s) (F0 m 706 ls []) := by
  have C0 := C
  obtain ⟨hx, hb, hr, hml, hown, hT, hX, hbl, hlocks, hK⟩ := C
  have hA : ∀ q : Nat, s.heap.size ≤ q → (fun q : Nat => s.heap.size ≤ q) q := fun _ h => h
  have hbA : ¬ (fun q : Nat => s.heap.size ≤ q) b := Nat.not_le.mpr hbl
  refine lv_aload_n hx hb dL_law_706 rfl (lv_at hl 2 rfl) ?_
  refine lv_aload_n hx hb dL_law_707 rfl (lv_at hl 3 rfl) ?_
  refine lv_iload_n hx hb dL_law_708 rfl (lv_at hl 0 rfl) ?_
  refine lv_iconst (v := 1) hx hb dL_law_709 (by decide) ?_
  refine lv_iadd hx hb dL_law_710 ?_
  refine ct_i (z := 1) (by decide) ?_
  refine va_sld hx hb hX hbl hbA hS (vi_c (by decide +kernel)) dL_law_711 ?_
  refine lv_aload_n hx hb dL_law_712 rfl (lv_at hl 3 rfl) ?_
  refine lv_iload_n hx hb dL_law_713 rfl (lv_at hl 0 rfl) ?_
  refine lv_iconst (v := 2) hx hb dL_law_714 (by decide) ?_
  refine lv_iadd hx hb dL_law_715 ?_
  refine ct_i (z := 2) (by decide) ?_
  refine va_sld hx hb hX hbl hbA hS (vi_c (by decide +kernel)) dL_law_716 ?_
  refine go_R (v := some (.int (-1))) (st1 := [.int (-1)]) (run_V (As := [.int (xs (1 : Int32).toNatClampNeg), .int (xs (2 : Int32).toNatClampNeg)]) (rest := []) ⟨hx, hb, hml, hown, hT⟩ (kX11_merges_0 l D cI qx ax (xs (1 : Int32).toNatClampNeg) (xs (2 : Int32).toNatClampNeg)) sw_902 lkv_X11_merges (p_R_V (ci := 11) (q0 := 0) (hP.sub (ws' := [(qx, .inr (11, (Value.ref (ax 0) :: Value.ref (ax 1) :: Value.ref (ax 2) :: Value.ref (ax 3) :: Value.ref (ax 4) :: Value.ref (ax 5) :: Value.ref (ax 6) :: Value.ref (ax 7) :: Value.ref (ax 8) :: Value.ref (ax 9) :: Value.ref (ax 10) :: Value.ref (ax 11) :: Value.ref (ax 12) :: Value.ref (ax 13) :: Value.ref (ax 14) :: Value.int 0 :: Value.int 0 :: Value.int 0 :: []))), ((ax 5), .inr (5, (Value.ref (ax 30) :: Value.ref (ax 31) :: Value.ref (ax 32) :: Value.ref (ax 33) :: Value.ref (ax 34) :: Value.ref (ax 35) :: Value.ref (ax 36) :: Value.ref (ax 37) :: Value.int 0 :: Value.int 0 :: Value.int 0 :: Value.int 0 :: Value.int 0 :: Value.int 0 :: Value.int 0 :: [])))]) [0, 8] rfl) hK rfl rfl) rfl hl.1 rfl (Nat.le_of_ble_eq_true rfl) dL_law_717 ⟨⟨Nat.le_of_ble_eq_true rfl, Nat.le_of_ble_eq_true rfl⟩, Nat.le_of_ble_eq_true rfl, Nat.le_of_ble_eq_true rfl⟩) rfl ?_
  refine lv_aload_n hx hb dL_law_720 rfl (lv_at hl 1 rfl) ?_
  refine lv_aload_n hx hb dL_law_721 rfl (lv_at hl 3 rfl) ?_
  refine lv_iload_n hx hb dL_law_722 rfl (lv_at hl 0 rfl) ?_
  refine lv_iconst (v := 1) hx hb dL_law_723 (by decide) ?_
  refine lv_iadd hx hb dL_law_724 ?_
  refine ct_i (z := 1) (by decide) ?_
  refine va_sld hx hb hX hbl hbA hS (vi_c (by decide +kernel)) dL_law_725 ?_
  refine lv_aload_n hx hb dL_law_726 rfl (lv_at hl 3 rfl) ?_
  refine lv_iload_n hx hb dL_law_727 rfl (lv_at hl 0 rfl) ?_
  refine lv_iconst (v := 2) hx hb dL_law_728 (by decide) ?_
  refine lv_iadd hx hb dL_law_729 ?_
  refine ct_i (z := 2) (by decide) ?_
  refine va_sld hx hb hX hbl hbA hS (vi_c (by decide +kernel)) dL_law_730 ?_
  refine go_R (v := some (.int (-1))) (st1 := [.int (-1), .int (-1)]) (run_V (As := [.int (xs (1 : Int32).toNatClampNeg), .int (xs (2 : Int32).toNatClampNeg)]) (rest := [.int (-1)]) ⟨hx, hb, hml, hown, hT⟩ (kX12_merges_0 l D cI qm am (xs (1 : Int32).toNatClampNeg) (xs (2 : Int32).toNatClampNeg)) sw_1674 lkv_X12_merges (p_R_V (ci := 12) (q0 := 0) (hP.sub (ws' := [(qm, .inr (12, (Value.int 0 :: Value.int 0 :: Value.ref (am 0) :: Value.int 0 :: Value.int 0 :: Value.ref (am 1) :: Value.ref (am 2) :: Value.int 0 :: Value.ref (am 3) :: Value.ref (am 4) :: Value.int 0 :: Value.ref (am 5) :: Value.ref (am 6) :: Value.ref (am 7) :: Value.int 0 :: Value.ref (am 8) :: Value.int 0 :: Value.int (-1) :: Value.int 0 :: Value.int 0 :: Value.int 0 :: Value.int 0 :: Value.int (-1) :: Value.ref (am 9) :: Value.ref (am 10) :: Value.ref (am 11) :: Value.int 0 :: Value.ref (am 12) :: Value.ref (am 13) :: Value.ref (am 14) :: Value.ref (am 15) :: Value.int 0 :: Value.int 0 :: Value.int 0 :: Value.int 0 :: Value.int 0 :: Value.int 0 :: Value.int 0 :: Value.int 0 :: Value.ref (am 16) :: Value.ref (am 17) :: Value.ref (am 18) :: Value.ref (am 19) :: Value.int 0 :: Value.int 0 :: Value.int 1 :: Value.ref (am 20) :: Value.int 0 :: [])))]) [13] rfl) hK rfl rfl) rfl hl.1 rfl (Nat.le_of_ble_eq_true rfl) dL_law_731 ⟨⟨Nat.le_of_ble_eq_true rfl, Nat.le_of_ble_eq_true rfl⟩, Nat.le_of_ble_eq_true rfl, Nat.le_of_ble_eq_true rfl⟩) rfl ?_
  refine lv_icmp_eq (tgt := 1665) hx hb dL_law_734 (by decide) (fun _ => ?_) (fun h9 => absurd rfl h9)
  exact law_back C0 hS hl
