set_option maxHeartbeats 4000000 in
set_option maxRecDepth 100000 in
theorem law_switch {p : Program} {l : Launch} {e : Env} {s : State} {m : MethodId} {below : List Frame} {meth : Method} {c : Code} {b : Nat} {xs : Nat → Int32} {D : va_G} {cI : ClassId} {qx qm : Nat} {ax am : Nat → Nat} {H : Heap} {locs : List Loc} {ls : Array Slot} (C : lw_C p s m meth c b xs D cI) {aS aV : Nat} (hZ : z_S aS aV (fun q : Nat => s.heap.size ≤ q) s s.heap) (hP : va_P D vwCl (w_L cI qx ax qm am) H) (hD : va_D (fun q : Nat => s.heap.size ≤ q) (w_L cI qx ax qm am)) (hS : va_S (fun q : Nat => s.heap.size ≤ q) s.heap H locs) (hl : lv_has ls 4 [(3, .int 0), (2, .ref qm), (1, .ref qx), (0, .ref b)]) (j : Nat) (hj : j < 64) : W p l e room_1 s m #[Value.ref b] below meth c H locs 78 71288 (lw_Z below #[Value.ref b] s) (F0 m 33 ls [.int (nI j)]) := by
  have hx := C.1
  have hb : c.code = cL_law := C.2.1
  match j, hj with
  | 0, _ =>
    refine ct_i (z := 0) (by decide) ?_
    refine lv_tableIn (off := 207) (tgt := 240) hx hb dL_law_33 (by decide) (by decide) (by decide +kernel) (by decide) ?_
    exact law_0 C hP hD hS hl
  | 1, _ =>
    refine ct_i (z := 1) (by decide) ?_
    refine lv_tableIn (off := 270) (tgt := 303) hx hb dL_law_33 (by decide) (by decide) (by decide +kernel) (by decide) ?_
    exact law_1 C hP hD hS hl
  | 2, _ =>
    refine ct_i (z := 2) (by decide) ?_
    refine lv_tableIn (off := 293) (tgt := 326) hx hb dL_law_33 (by decide) (by decide) (by decide +kernel) (by decide) ?_
    exact law_2 C hZ hP hD hS hl
  | 3, _ =>
    refine ct_i (z := 3) (by decide) ?_
    refine lv_tableIn (off := 306) (tgt := 339) hx hb dL_law_33 (by decide) (by decide) (by decide +kernel) (by decide) ?_
    exact law_3 C hP hD hS hl
  | 4, _ =>
    refine ct_i (z := 4) (by decide) ?_
    refine lv_tableIn (off := 329) (tgt := 362) hx hb dL_law_33 (by decide) (by decide) (by decide +kernel) (by decide) ?_
    exact law_4 C hP hD hS hl
  | 5, _ =>
    refine ct_i (z := 5) (by decide) ?_
    refine lv_tableIn (off := 352) (tgt := 385) hx hb dL_law_33 (by decide) (by decide) (by decide +kernel) (by decide) ?_
    exact law_5 C hP hD hS hl
  | 6, _ =>
    refine ct_i (z := 6) (by decide) ?_
    refine lv_tableIn (off := 385) (tgt := 418) hx hb dL_law_33 (by decide) (by decide) (by decide +kernel) (by decide) ?_
    exact law_6 C hP hD hS hl
  | 7, _ =>
    refine ct_i (z := 7) (by decide) ?_
    refine lv_tableIn (off := 418) (tgt := 451) hx hb dL_law_33 (by decide) (by decide) (by decide +kernel) (by decide) ?_
    exact law_7 C hP hD hS hl
  | 8, _ =>
    refine ct_i (z := 8) (by decide) ?_
    refine lv_tableIn (off := 442) (tgt := 475) hx hb dL_law_33 (by decide) (by decide) (by decide +kernel) (by decide) ?_
    exact law_8 C hP hD hS hl
  | 9, _ =>
    refine ct_i (z := 9) (by decide) ?_
    refine lv_tableIn (off := 475) (tgt := 508) hx hb dL_law_33 (by decide) (by decide) (by decide +kernel) (by decide) ?_
    exact law_9 C hP hD hS hl
  | 10, _ =>
    refine ct_i (z := 10) (by decide) ?_
    refine lv_tableIn (off := 498) (tgt := 531) hx hb dL_law_33 (by decide) (by decide) (by decide +kernel) (by decide) ?_
    exact law_10 C hP hD hS hl
  | 11, _ =>
    refine ct_i (z := 11) (by decide) ?_
    refine lv_tableIn (off := 521) (tgt := 554) hx hb dL_law_33 (by decide) (by decide) (by decide +kernel) (by decide) ?_
    exact law_11 C hP hD hS hl
  | 12, _ =>
    refine ct_i (z := 12) (by decide) ?_
    refine lv_tableIn (off := 554) (tgt := 587) hx hb dL_law_33 (by decide) (by decide) (by decide +kernel) (by decide) ?_
    exact law_12 C hP hD hS hl
  | 13, _ =>
    refine ct_i (z := 13) (by decide) ?_
    refine lv_tableIn (off := 577) (tgt := 610) hx hb dL_law_33 (by decide) (by decide) (by decide +kernel) (by decide) ?_
    exact law_13 C hP hD hS hl
  | 14, _ =>
    refine ct_i (z := 14) (by decide) ?_
    refine lv_tableIn (off := 630) (tgt := 663) hx hb dL_law_33 (by decide) (by decide) (by decide +kernel) (by decide) ?_
    exact law_14 C hP hD hS hl
  | 15, _ =>
    refine ct_i (z := 15) (by decide) ?_
    refine lv_tableIn (off := 673) (tgt := 706) hx hb dL_law_33 (by decide) (by decide) (by decide +kernel) (by decide) ?_
    exact law_15 C hP hD hS hl
  | 16, _ =>
    refine ct_i (z := 16) (by decide) ?_
    refine lv_tableIn (off := 706) (tgt := 739) hx hb dL_law_33 (by decide) (by decide) (by decide +kernel) (by decide) ?_
    exact law_16 C hP hD hS hl
  | 17, _ =>
    refine ct_i (z := 17) (by decide) ?_
    refine lv_tableIn (off := 729) (tgt := 762) hx hb dL_law_33 (by decide) (by decide) (by decide +kernel) (by decide) ?_
    exact law_17 C hP hD hS hl
  | 18, _ =>
    refine ct_i (z := 18) (by decide) ?_
    refine lv_tableIn (off := 752) (tgt := 785) hx hb dL_law_33 (by decide) (by decide) (by decide +kernel) (by decide) ?_
    exact law_18 C hP hD hS hl
  | 19, _ =>
    refine ct_i (z := 19) (by decide) ?_
    refine lv_tableIn (off := 785) (tgt := 818) hx hb dL_law_33 (by decide) (by decide) (by decide +kernel) (by decide) ?_
    exact law_19 C hP hD hS hl
  | 20, _ =>
    refine ct_i (z := 20) (by decide) ?_
    refine lv_tableIn (off := 818) (tgt := 851) hx hb dL_law_33 (by decide) (by decide) (by decide +kernel) (by decide) ?_
    exact law_20 C hP hD hS hl
  | 21, _ =>
    refine ct_i (z := 21) (by decide) ?_
    refine lv_tableIn (off := 861) (tgt := 894) hx hb dL_law_33 (by decide) (by decide) (by decide +kernel) (by decide) ?_
    exact law_21 C hP hD hS hl
  | 22, _ =>
    refine ct_i (z := 22) (by decide) ?_
    refine lv_tableIn (off := 894) (tgt := 927) hx hb dL_law_33 (by decide) (by decide) (by decide +kernel) (by decide) ?_
    exact law_22 C hP hD hS hl
  | 23, _ =>
    refine ct_i (z := 23) (by decide) ?_
    refine lv_tableIn (off := 937) (tgt := 970) hx hb dL_law_33 (by decide) (by decide) (by decide +kernel) (by decide) ?_
    exact law_23 C hP hD hS hl
  | 24, _ =>
    refine ct_i (z := 24) (by decide) ?_
    refine lv_tableIn (off := 980) (tgt := 1013) hx hb dL_law_33 (by decide) (by decide) (by decide +kernel) (by decide) ?_
    exact law_24 C hP hD hS hl
  | 25, _ =>
    refine ct_i (z := 25) (by decide) ?_
    refine lv_tableIn (off := 1023) (tgt := 1056) hx hb dL_law_33 (by decide) (by decide) (by decide +kernel) (by decide) ?_
    exact law_25 C hP hD hS hl
  | 26, _ =>
    refine ct_i (z := 26) (by decide) ?_
    refine lv_tableIn (off := 1056) (tgt := 1089) hx hb dL_law_33 (by decide) (by decide) (by decide +kernel) (by decide) ?_
    exact law_26 C hP hD hS hl
  | 27, _ =>
    refine ct_i (z := 27) (by decide) ?_
    refine lv_tableIn (off := 1089) (tgt := 1122) hx hb dL_law_33 (by decide) (by decide) (by decide +kernel) (by decide) ?_
    exact law_27 C hP hD hS hl
  | 28, _ =>
    refine ct_i (z := 28) (by decide) ?_
    refine lv_tableIn (off := 1112) (tgt := 1145) hx hb dL_law_33 (by decide) (by decide) (by decide +kernel) (by decide) ?_
    exact law_28 C hP hD hS hl
  | 29, _ =>
    refine ct_i (z := 29) (by decide) ?_
    refine lv_tableIn (off := 1155) (tgt := 1188) hx hb dL_law_33 (by decide) (by decide) (by decide +kernel) (by decide) ?_
    exact law_29 C hP hD hS hl
  | 30, _ =>
    refine ct_i (z := 30) (by decide) ?_
    refine lv_tableIn (off := 1198) (tgt := 1231) hx hb dL_law_33 (by decide) (by decide) (by decide +kernel) (by decide) ?_
    exact law_30 C hP hD hS hl
  | 31, _ =>
    refine ct_i (z := 31) (by decide) ?_
    refine lv_tableIn (off := 1241) (tgt := 1274) hx hb dL_law_33 (by decide) (by decide) (by decide +kernel) (by decide) ?_
    exact law_31 C hP hD hS hl
  | 32, _ =>
    refine ct_i (z := 32) (by decide) ?_
    refine lv_tableIn (off := 1284) (tgt := 1317) hx hb dL_law_33 (by decide) (by decide) (by decide +kernel) (by decide) ?_
    exact law_32 C hP hD hS hl
  | 33, _ =>
    refine ct_i (z := 33) (by decide) ?_
    refine lv_tableIn (off := 1307) (tgt := 1340) hx hb dL_law_33 (by decide) (by decide) (by decide +kernel) (by decide) ?_
    exact law_33 C hP hD hS hl
  | 34, _ =>
    refine ct_i (z := 34) (by decide) ?_
    refine lv_tableIn (off := 1330) (tgt := 1363) hx hb dL_law_33 (by decide) (by decide) (by decide +kernel) (by decide) ?_
    exact law_34 C hP hD hS hl
  | 35, _ =>
    refine ct_i (z := 35) (by decide) ?_
    refine lv_tableIn (off := 1353) (tgt := 1386) hx hb dL_law_33 (by decide) (by decide) (by decide +kernel) (by decide) ?_
    exact law_35 C hP hD hS hl
  | 36, _ =>
    refine ct_i (z := 36) (by decide) ?_
    refine lv_tableIn (off := 1396) (tgt := 1429) hx hb dL_law_33 (by decide) (by decide) (by decide +kernel) (by decide) ?_
    exact law_36 C hP hD hS hl
  | 37, _ =>
    refine ct_i (z := 37) (by decide) ?_
    refine lv_tableIn (off := 1419) (tgt := 1452) hx hb dL_law_33 (by decide) (by decide) (by decide +kernel) (by decide) ?_
    exact law_37 C hP hD hS hl
  | 38, _ =>
    refine ct_i (z := 38) (by decide) ?_
    refine lv_tableIn (off := 1442) (tgt := 1475) hx hb dL_law_33 (by decide) (by decide) (by decide +kernel) (by decide) ?_
    exact law_38 C hP hD hS hl
  | 39, _ =>
    refine ct_i (z := 39) (by decide) ?_
    refine lv_tableIn (off := 1455) (tgt := 1488) hx hb dL_law_33 (by decide) (by decide) (by decide +kernel) (by decide) ?_
    exact law_39 C hP hD hS hl
  | 40, _ =>
    refine ct_i (z := 40) (by decide) ?_
    refine lv_tableIn (off := 1468) (tgt := 1501) hx hb dL_law_33 (by decide) (by decide) (by decide +kernel) (by decide) ?_
    exact law_40 C hP hD hS hl
  | 41, _ =>
    refine ct_i (z := 41) (by decide) ?_
    refine lv_tableIn (off := 1491) (tgt := 1524) hx hb dL_law_33 (by decide) (by decide) (by decide +kernel) (by decide) ?_
    exact law_41 C hP hD hS hl
  | 42, _ =>
    refine ct_i (z := 42) (by decide) ?_
    refine lv_tableIn (off := 1524) (tgt := 1557) hx hb dL_law_33 (by decide) (by decide) (by decide +kernel) (by decide) ?_
    exact law_42 C hP hD hS hl
  | 43, _ =>
    refine ct_i (z := 43) (by decide) ?_
    refine lv_tableIn (off := 1537) (tgt := 1570) hx hb dL_law_33 (by decide) (by decide) (by decide +kernel) (by decide) ?_
    exact law_43 C hP hD hS hl
  | 44, _ =>
    refine ct_i (z := 44) (by decide) ?_
    refine lv_tableIn (off := 1560) (tgt := 1593) hx hb dL_law_33 (by decide) (by decide) (by decide +kernel) (by decide) ?_
    exact law_44 C hP hD hS hl
  | 45, _ =>
    refine ct_i (z := 45) (by decide) ?_
    refine lv_tableIn (off := 1573) (tgt := 1606) hx hb dL_law_33 (by decide) (by decide) (by decide +kernel) (by decide) ?_
    exact law_45 C hP hD hS hl
  | 46, _ =>
    refine ct_i (z := 46) (by decide) ?_
    refine lv_tableIn (off := 1596) (tgt := 1629) hx hb dL_law_33 (by decide) (by decide) (by decide +kernel) (by decide) ?_
    exact law_46 C hP hD hS hl
  | 47, _ =>
    refine ct_i (z := 47) (by decide) ?_
    refine lv_tableIn (off := 1609) (tgt := 1642) hx hb dL_law_33 (by decide) (by decide) (by decide +kernel) (by decide) ?_
    exact law_47 C hP hD hS hl
  | k + 48, hj =>
    refine lv_tableOut (tgt := 1665) hx hb dL_law_33 (Or.inr (by rw [nI_toInt (by omega)]; omega)) (by decide) ?_
    exact law_back C hS hl
set_option maxHeartbeats 4000000 in
theorem law_K {s : State} {b : Nat} (hT : ∀ w ∈ sw_all, w.before #[Value.ref b] s = true) : ∃ (D : va_G) (cI : ClassId), va_K D vwCl [(cI, .int)] s := by
  obtain ⟨c0, i0, k0⟩ := u_known (C := RX0) (T := TX0) (N := 4) (n := 4) hT ix_0 (hT _ sw_410)
  obtain ⟨c1, i1, k1⟩ := u_known (C := RX1) (T := TX1) (N := 3) (n := 3) hT ix_1 (hT _ sw_297)
  obtain ⟨c2, i2, k2⟩ := u_known (C := RX2) (T := TX2) (N := 1) (n := 1) hT ix_2 (hT _ sw_394)
  obtain ⟨c3, i3, k3⟩ := u_known (C := RX3) (T := TX3) (N := 8) (n := 8) hT ix_3 (hT _ sw_167)
  obtain ⟨c4, i4, k4⟩ := u_known (C := RX4) (T := TX4) (N := 9) (n := 9) hT ix_4 (hT _ sw_208)
  obtain ⟨c5, i5, k5⟩ := u_known (C := RX5) (T := TX5) (N := 15) (n := 15) hT ix_5 (hT _ sw_316)
  obtain ⟨c6, i6, k6⟩ := u_known (C := RX6) (T := TX6) (N := 5) (n := 5) hT ix_6 (hT _ sw_501)
  obtain ⟨c7, i7, k7⟩ := u_known (C := RX7) (T := TX7) (N := 9) (n := 9) hT ix_7 (hT _ sw_458)
  obtain ⟨c8, i8, k8⟩ := u_known (C := RX8) (T := TX8) (N := 10) (n := 10) hT ix_8 (hT _ sw_247)
  obtain ⟨c9, i9, k9⟩ := u_known (C := RX9) (T := TX9) (N := 2) (n := 2) hT ix_9 (hT _ sw_147)
  obtain ⟨c10, i10, k10⟩ := u_known (C := RX10) (T := TX10) (N := 7) (n := 7) hT ix_10 (hT _ sw_404)
  obtain ⟨c11, i11, k11⟩ := u_known (C := RX11) (T := TX11) (N := 18) (n := 18) hT ix_11 (hT _ sw_139)
  obtain ⟨c12, i12, k12⟩ := u_known (C := RX12) (T := TX12) (N := 48) (n := 48) hT ix_12 (hT _ sw_1282)
  obtain ⟨cI, kA, comp, h1, h2, h3⟩ := Cond.arrayClass_spec (hT _ sw_165)
  refine ⟨(fun k => ([c0, c1, c2, c3, c4, c5, c6, c7, c8, c9, c10, c11, c12] : List ClassId).getD k c0, fun k => ([i0, i1, i2, i3, i4, i5, i6, i7, i8, i9, i10, i11, i12] : List (Nat → Nat)).getD k i0), cI, ?_, ?_⟩
  · intro k r hr
    match k, hr with
    | 0, hr => cases hr; exact k0
    | 1, hr => cases hr; exact k1
    | 2, hr => cases hr; exact k2
    | 3, hr => cases hr; exact k3
    | 4, hr => cases hr; exact k4
    | 5, hr => cases hr; exact k5
    | 6, hr => cases hr; exact k6
    | 7, hr => cases hr; exact k7
    | 8, hr => cases hr; exact k8
    | 9, hr => cases hr; exact k9
    | 10, hr => cases hr; exact k10
    | 11, hr => cases hr; exact k11
    | 12, hr => cases hr; exact k12
    | k + 13, hr => exact absurd hr (by simp [vwCl])
  · intro k r hr
    match k, hr with
    | 0, hr => cases hr; exact ⟨fun n z => ⟨fun k h => (by cases h), kA, h2, comp, h3⟩, h1⟩
    | k + 1, hr => exact absurd hr (by simp)
set_option maxHeartbeats 4000000 in
set_option maxRecDepth 100000 in
theorem law_Z {s : State} {b : Nat} (hts : ∀ w ∈ lw_tbl, w.before #[Value.ref b] s = true) (hgv : (Jvm.Cond.and given_1 narrow_1).before #[Value.ref b] s = true) : ∃ aS aV : Nat, z_S aS aV (fun q : Nat => s.heap.size ≤ q) s s.heap := by
  have hs := flat_of_before _ hgv
  have hA : ∀ a : Nat, a < s.heap.size → ¬ (fun q : Nat => s.heap.size ≤ q) a := fun a h => Nat.not_le.mpr h
  have h1 : (Cond.exactly (Term.string "ShareWheel$Reader" 74) "java/lang/String").before #[Value.ref b] s = true := hs _ (by decide +kernel)
  have h2 : (Cond.eq (Term.field (Term.string "ShareWheel$Reader" 74) "java/lang/String" "coder" "B") (.int 0)).before #[Value.ref b] s = true := hs _ (by decide +kernel)
  have h3 : (Cond.arrayOf (Term.field (Term.string "ShareWheel$Reader" 74) "java/lang/String" "value" "[B") .byte).before #[Value.ref b] s = true := hs _ (by decide +kernel)
  have h4 : (Cond.eq (.length (Term.field (Term.string "ShareWheel$Reader" 74) "java/lang/String" "value" "[B")) (.int 5)).before #[Value.ref b] s = true := hs _ (by decide +kernel)
  have g0 : (Cond.eq (.elem (Term.field (Term.string "ShareWheel$Reader" 74) "java/lang/String" "value" "[B") (.int 0)) (.int 119)).before #[Value.ref b] s = true := hs _ (by decide +kernel)
  have g1 : (Cond.eq (.elem (Term.field (Term.string "ShareWheel$Reader" 74) "java/lang/String" "value" "[B") (.int 1)) (.int 104)).before #[Value.ref b] s = true := hs _ (by decide +kernel)
  have g2 : (Cond.eq (.elem (Term.field (Term.string "ShareWheel$Reader" 74) "java/lang/String" "value" "[B") (.int 2)) (.int 101)).before #[Value.ref b] s = true := hs _ (by decide +kernel)
  have g3 : (Cond.eq (.elem (Term.field (Term.string "ShareWheel$Reader" 74) "java/lang/String" "value" "[B") (.int 3)) (.int 101)).before #[Value.ref b] s = true := hs _ (by decide +kernel)
  have g4 : (Cond.eq (.elem (Term.field (Term.string "ShareWheel$Reader" 74) "java/lang/String" "value" "[B") (.int 4)) (.int 108)).before #[Value.ref b] s = true := hs _ (by decide +kernel)
  have h6 : (Cond.eq (.static "java/lang/String" "COMPACT_STRINGS" "Z") (.int 1)).before #[Value.ref b] s = true := hs _ (by decide +kernel)
  obtain ⟨adK, adV, hE, hev⟩ := vk_Sof (N := 1) (tm := fun _ => (Term.string "ShareWheel$Reader" 74)) (len := [5]) (byt := [[119, 104, 101, 101, 108]]) (A := fun q : Nat => s.heap.size ≤ q) (fun i hi => by rcases (show i = 0 by omega) with rfl; decide) (fun i hi => h1) (fun i hi => h2) (fun i hi => h3) (fun i hi => by rcases (show i = 0 by omega) with rfl; exact h4) (fun i hi j hj => by
    rcases (show i = 0 by omega) with rfl
    have hj5 : j < 5 := hj
    match j, hj5 with
    | 0, _ => exact g0
    | 1, _ => exact g1
    | 2, _ => exact g2
    | 3, _ => exact g3
    | 4, _ => exact g4) (fun i j hi hj hne => absurd (by omega) hne) hA
  obtain ⟨q1, q2, q3, q4⟩ := hE.1 0 (by decide)
  have hZ0 := va_Zof (A := fun q : Nat => s.heap.size ≤ q) (hts (.laysStatic "java/lang/String" "COMPACT_STRINGS" "Z") (List.mem_of_getElem? (i := 641) (by decide +kernel))) (hts (.initialized "java/lang/String") (List.mem_of_getElem? (i := 128) (by decide +kernel))) (va_eqt h6) hA
  exact ⟨adK 0, adV 0, vk_R.of (hts (.stringRef "ShareWheel$Reader" 74 "wheel") (List.mem_of_getElem? (i := 605) (by decide +kernel))) (hev 0 (by decide)), q1, q2, q3, q4, hZ0⟩
set_option maxHeartbeats 4000000 in
set_option maxRecDepth 100000 in
/-- THE LAW, from its entry -/
theorem whole_start {p : Program} {e : Env} {s : State} {m : MethodId} {below : List Frame} {meth : Method} {c : Code} (l : Launch) (hflags : l.flags = flags0) {b L : Nat} {xs : Nat → Int32} (hL : L ≤ 6) (C0 : lw_At p s m meth c b L xs) : W p l e room_1 s m #[Value.ref b] below meth c s.heap [] 0 0 (lw_Z below #[Value.ref b] s) (entryFrame m ([Value.ref b] : List Value).toArray 4) := by
  obtain ⟨hx, hb, hr, hml, hown, hts, hX, hbl, hlocks, hgv⟩ := C0
  have hb : c.code = cL_law := hb
  have hown : s.vm.findClass RL = some m.cls := hown
  have hT : ∀ w ∈ sw_all, w.before #[Value.ref b] s = true := fun w h => hts w (List.mem_filter.mp h).1
  obtain ⟨aS, aV, hZ⟩ := law_Z hts hgv
  obtain ⟨D, cI, hK⟩ := law_K hT
  have hA : ∀ q : Nat, s.heap.size ≤ q → (fun q : Nat => s.heap.size ≤ q) q := fun _ h => h
  have hbA : ¬ (fun q : Nat => s.heap.size ≤ q) b := Nat.not_le.mpr hbl
  have hS : va_S (fun q : Nat => s.heap.size ≤ q) s.heap s.heap [] := va_S.rf
  have hP : va_P D vwCl [] s.heap := fun k q h => by simp at h
  have hD : va_D (fun q : Nat => s.heap.size ≤ q) [] := ⟨fun i j p q h => by simp at h, fun k q h => by simp at h⟩
  have hl := lv_entry ([.ref b]) (n := 4) (Nat.le_of_ble_eq_true rfl)
  rw [lg_entry_eq]
  generalize (lg_sl ([.ref b]) ++ List.replicate (4 - (lg_sl ([.ref b])).length) Slot.unset).toArray = ls at hl ⊢
  have hl : lv_has ls 4 [(0, .ref b)] := hl
  refine va_new (ci := 11) (fs := (Value.null :: Value.null :: Value.null :: Value.null :: Value.null :: Value.null :: Value.null :: Value.null :: Value.null :: Value.null :: Value.null :: Value.null :: Value.null :: Value.null :: Value.null :: Value.int 0 :: Value.int 0 :: Value.int 0 :: [])) (C := RX11) (T := TX11) (N := 18) hx hb hT ix_11 tyX11 tyX11_ok hown (hT _ sw_138) (hT _ sw_139) (hT _ sw_115) hK hP hD hS hA rfl (lt_s (lt_s (lt_s (lt_s (lt_s (lt_s (lt_s (lt_s (lt_s (lt_s (lt_s (lt_s (lt_s (lt_s (lt_s (lt_s (lt_s (lt_s lt_0 rfl) rfl) rfl) rfl) rfl) rfl) rfl) rfl) rfl) rfl) rfl) rfl) rfl) rfl) rfl) rfl) rfl) rfl) (Nat.le_of_ble_eq_true rfl) (Nat.le_of_ble_eq_true rfl) dL_law_0 (fun qx H hP hD hS => ?_)
  have hP : va_P D vwCl [(qx, .inr (11, (Value.null :: Value.null :: Value.null :: Value.null :: Value.null :: Value.null :: Value.null :: Value.null :: Value.null :: Value.null :: Value.null :: Value.null :: Value.null :: Value.null :: Value.null :: Value.int 0 :: Value.int 0 :: Value.int 0 :: [])))] H := hP
  have hD : va_D (fun q : Nat => s.heap.size ≤ q) [(qx, .inr (11, (Value.null :: Value.null :: Value.null :: Value.null :: Value.null :: Value.null :: Value.null :: Value.null :: Value.null :: Value.null :: Value.null :: Value.null :: Value.null :: Value.null :: Value.null :: Value.int 0 :: Value.int 0 :: Value.int 0 :: [])))] := hD
  refine W.widen (k := 1) (n := 18) (Nat.le_of_ble_eq_true rfl) (Nat.le_of_ble_eq_true rfl) ?_
  refine lv_dup hx hb dL_law_3 rfl ?_
  refine go_M (wc := [(qx, .inr (11, (Value.null :: Value.null :: Value.null :: Value.null :: Value.null :: Value.null :: Value.null :: Value.null :: Value.null :: Value.null :: Value.null :: Value.null :: Value.null :: Value.null :: Value.null :: Value.int 0 :: Value.int 0 :: Value.int 0 :: [])))]) (wr := []) (w1 := fun u => [(qx, .inr (11, (Value.ref (u.1 0) :: Value.ref (u.1 1) :: Value.ref (u.1 2) :: Value.ref (u.1 3) :: Value.ref (u.1 4) :: Value.ref (u.1 5) :: Value.ref (u.1 6) :: Value.ref (u.1 7) :: Value.ref (u.1 8) :: Value.ref (u.1 9) :: Value.ref (u.1 10) :: Value.ref (u.1 11) :: Value.ref (u.1 12) :: Value.ref (u.1 13) :: Value.ref (u.1 14) :: Value.int 0 :: Value.int 0 :: Value.int 0 :: []))), ((u.1 0), .inr (9, [.ref (u.1 15), .int 0])), ((u.1 15), .inl (cI, 300, .inl zI)), ((u.1 1), .inr (3, [.ref (u.1 16), .ref (u.1 17), .ref (u.1 18), .ref (u.1 19), .int 0, .int 0, .int 0, .int 0])), ((u.1 2), .inr (4, [.ref (u.1 0), .ref (u.1 20), .int 0, .int 0, .int 0, .int 0, .int 0, .int 0, .int (-1)])), ((u.1 20), .inr (3, [.ref (u.1 21), .ref (u.1 22), .ref (u.1 23), .ref (u.1 24), .int 0, .int 0, .int 0, .int 0])), ((u.1 3), .inr (8, [.ref (u.1 25), .ref (u.1 26), .ref (u.1 27), .ref (u.1 28), .int 0, .int 0, .int 0, .int 0, .int 0, .int 0])), ((u.1 4), .inr (1, [.ref (u.1 29), .int 0, .int 0])), ((u.1 5), .inr (5, (Value.ref (u.1 30) :: Value.ref (u.1 31) :: Value.ref (u.1 32) :: Value.ref (u.1 33) :: Value.ref (u.1 34) :: Value.ref (u.1 35) :: Value.ref (u.1 36) :: Value.ref (u.1 37) :: Value.int 0 :: Value.int 0 :: Value.int 0 :: Value.int 0 :: Value.int 0 :: Value.int 0 :: Value.int 0 :: []))), ((u.1 8), .inr (7, [.ref (u.1 38), .ref (u.1 39), .ref (u.1 40), .ref (u.1 41), .ref (u.1 42), .ref (u.1 43), .null, .int 0, .int 0])), ((u.1 11), .inr (6, [.ref (u.1 44), .int 0, .int 0, .int 0, .int 1])), ((u.1 13), .inl (cI, 6, .inl zI)), ((u.1 14), .inl (cI, 130, .inl zI))]) (v := none) (st1 := [.ref qx]) hP hD hS hA [0] [] rfl rfl (by decide) (by decide) (by decide) (fun hPc hDc => run_I (As := []) (rest := [.ref qx]) ⟨hx, hb, hml, hown, hT⟩ (kX11_init_0 l D cI qx _) sw_140 lki_X11_init (p_M_S hPc hK hDc) rfl hl.1 rfl (Nat.le_of_ble_eq_true rfl) dL_law_4 ⟨⟨Nat.le_of_ble_eq_true rfl, Nat.le_of_ble_eq_true rfl⟩, Nat.le_of_ble_eq_true rfl, Nat.le_of_ble_eq_true rfl⟩) rfl (fun u H locs hP hD hS => ?_)
  obtain ⟨ax, ax_2⟩ := u
  have hP : va_P D vwCl (w_X cI qx ax) H := hP
  have hD : va_D (fun q : Nat => s.heap.size ≤ q) (w_X cI qx ax) := hD
  refine W.widen (k := 56) (n := 1158) (Nat.le_of_ble_eq_true rfl) (Nat.le_of_ble_eq_true rfl) ?_
  refine lv_astore_n (lv' := [(1, .ref qx), (0, .ref b)]) hx hb dL_law_7 rfl hl (by decide) rfl (fun ls hl => ?_)
  refine va_new (ci := 12) (fs := (Value.int 0 :: Value.int 0 :: Value.null :: Value.int 0 :: Value.int 0 :: Value.null :: Value.null :: Value.int 0 :: Value.null :: Value.null :: Value.int 0 :: Value.null :: Value.null :: Value.null :: Value.int 0 :: Value.null :: Value.int 0 :: Value.int 0 :: Value.int 0 :: Value.int 0 :: Value.int 0 :: Value.int 0 :: Value.int 0 :: Value.null :: Value.null :: Value.null :: Value.int 0 :: Value.null :: Value.null :: Value.null :: Value.null :: Value.int 0 :: Value.int 0 :: Value.int 0 :: Value.int 0 :: Value.int 0 :: Value.int 0 :: Value.int 0 :: Value.int 0 :: Value.null :: Value.null :: Value.null :: Value.null :: Value.int 0 :: Value.int 0 :: Value.int 0 :: Value.null :: Value.int 0 :: [])) (C := RX12) (T := TX12) (N := 48) hx hb hT ix_12 tyX12 tyX12_ok hown (hT _ sw_1281) (hT _ sw_1282) (hT _ sw_127) hK hP hD hS hA rfl (lt_s (lt_s (lt_s (lt_s (lt_s (lt_s (lt_s (lt_s (lt_s (lt_s (lt_s (lt_s (lt_s (lt_s (lt_s (lt_s (lt_s (lt_s (lt_s (lt_s (lt_s (lt_s (lt_s (lt_s (lt_s (lt_s (lt_s (lt_s (lt_s (lt_s (lt_s (lt_s (lt_s (lt_s (lt_s (lt_s (lt_s (lt_s (lt_s (lt_s (lt_s (lt_s (lt_s (lt_s (lt_s (lt_s (lt_s (lt_s lt_0 rfl) rfl) rfl) rfl) rfl) rfl) rfl) rfl) rfl) rfl) rfl) rfl) rfl) rfl) rfl) rfl) rfl) rfl) rfl) rfl) rfl) rfl) rfl) rfl) rfl) rfl) rfl) rfl) rfl) rfl) rfl) rfl) rfl) rfl) rfl) rfl) rfl) rfl) rfl) rfl) rfl) rfl) rfl) rfl) rfl) rfl) rfl) rfl) (Nat.le_of_ble_eq_true rfl) (Nat.le_of_ble_eq_true rfl) dL_law_8 (fun qm H hP hD hS => ?_)
  have hP : va_P D vwCl [(qx, .inr (11, (Value.ref (ax 0) :: Value.ref (ax 1) :: Value.ref (ax 2) :: Value.ref (ax 3) :: Value.ref (ax 4) :: Value.ref (ax 5) :: Value.ref (ax 6) :: Value.ref (ax 7) :: Value.ref (ax 8) :: Value.ref (ax 9) :: Value.ref (ax 10) :: Value.ref (ax 11) :: Value.ref (ax 12) :: Value.ref (ax 13) :: Value.ref (ax 14) :: Value.int 0 :: Value.int 0 :: Value.int 0 :: []))), ((ax 0), .inr (9, [.ref (ax 15), .int 0])), ((ax 15), .inl (cI, 300, .inl zI)), ((ax 1), .inr (3, [.ref (ax 16), .ref (ax 17), .ref (ax 18), .ref (ax 19), .int 0, .int 0, .int 0, .int 0])), ((ax 2), .inr (4, [.ref (ax 0), .ref (ax 20), .int 0, .int 0, .int 0, .int 0, .int 0, .int 0, .int (-1)])), ((ax 20), .inr (3, [.ref (ax 21), .ref (ax 22), .ref (ax 23), .ref (ax 24), .int 0, .int 0, .int 0, .int 0])), ((ax 3), .inr (8, [.ref (ax 25), .ref (ax 26), .ref (ax 27), .ref (ax 28), .int 0, .int 0, .int 0, .int 0, .int 0, .int 0])), ((ax 4), .inr (1, [.ref (ax 29), .int 0, .int 0])), ((ax 5), .inr (5, (Value.ref (ax 30) :: Value.ref (ax 31) :: Value.ref (ax 32) :: Value.ref (ax 33) :: Value.ref (ax 34) :: Value.ref (ax 35) :: Value.ref (ax 36) :: Value.ref (ax 37) :: Value.int 0 :: Value.int 0 :: Value.int 0 :: Value.int 0 :: Value.int 0 :: Value.int 0 :: Value.int 0 :: []))), ((ax 8), .inr (7, [.ref (ax 38), .ref (ax 39), .ref (ax 40), .ref (ax 41), .ref (ax 42), .ref (ax 43), .null, .int 0, .int 0])), ((ax 11), .inr (6, [.ref (ax 44), .int 0, .int 0, .int 0, .int 1])), ((ax 13), .inl (cI, 6, .inl zI)), ((ax 14), .inl (cI, 130, .inl zI)), (qm, .inr (12, (Value.int 0 :: Value.int 0 :: Value.null :: Value.int 0 :: Value.int 0 :: Value.null :: Value.null :: Value.int 0 :: Value.null :: Value.null :: Value.int 0 :: Value.null :: Value.null :: Value.null :: Value.int 0 :: Value.null :: Value.int 0 :: Value.int 0 :: Value.int 0 :: Value.int 0 :: Value.int 0 :: Value.int 0 :: Value.int 0 :: Value.null :: Value.null :: Value.null :: Value.int 0 :: Value.null :: Value.null :: Value.null :: Value.null :: Value.int 0 :: Value.int 0 :: Value.int 0 :: Value.int 0 :: Value.int 0 :: Value.int 0 :: Value.int 0 :: Value.int 0 :: Value.null :: Value.null :: Value.null :: Value.null :: Value.int 0 :: Value.int 0 :: Value.int 0 :: Value.null :: Value.int 0 :: [])))] H := hP
  have hD : va_D (fun q : Nat => s.heap.size ≤ q) [(qx, .inr (11, (Value.ref (ax 0) :: Value.ref (ax 1) :: Value.ref (ax 2) :: Value.ref (ax 3) :: Value.ref (ax 4) :: Value.ref (ax 5) :: Value.ref (ax 6) :: Value.ref (ax 7) :: Value.ref (ax 8) :: Value.ref (ax 9) :: Value.ref (ax 10) :: Value.ref (ax 11) :: Value.ref (ax 12) :: Value.ref (ax 13) :: Value.ref (ax 14) :: Value.int 0 :: Value.int 0 :: Value.int 0 :: []))), ((ax 0), .inr (9, [.ref (ax 15), .int 0])), ((ax 15), .inl (cI, 300, .inl zI)), ((ax 1), .inr (3, [.ref (ax 16), .ref (ax 17), .ref (ax 18), .ref (ax 19), .int 0, .int 0, .int 0, .int 0])), ((ax 2), .inr (4, [.ref (ax 0), .ref (ax 20), .int 0, .int 0, .int 0, .int 0, .int 0, .int 0, .int (-1)])), ((ax 20), .inr (3, [.ref (ax 21), .ref (ax 22), .ref (ax 23), .ref (ax 24), .int 0, .int 0, .int 0, .int 0])), ((ax 3), .inr (8, [.ref (ax 25), .ref (ax 26), .ref (ax 27), .ref (ax 28), .int 0, .int 0, .int 0, .int 0, .int 0, .int 0])), ((ax 4), .inr (1, [.ref (ax 29), .int 0, .int 0])), ((ax 5), .inr (5, (Value.ref (ax 30) :: Value.ref (ax 31) :: Value.ref (ax 32) :: Value.ref (ax 33) :: Value.ref (ax 34) :: Value.ref (ax 35) :: Value.ref (ax 36) :: Value.ref (ax 37) :: Value.int 0 :: Value.int 0 :: Value.int 0 :: Value.int 0 :: Value.int 0 :: Value.int 0 :: Value.int 0 :: []))), ((ax 8), .inr (7, [.ref (ax 38), .ref (ax 39), .ref (ax 40), .ref (ax 41), .ref (ax 42), .ref (ax 43), .null, .int 0, .int 0])), ((ax 11), .inr (6, [.ref (ax 44), .int 0, .int 0, .int 0, .int 1])), ((ax 13), .inl (cI, 6, .inl zI)), ((ax 14), .inl (cI, 130, .inl zI)), (qm, .inr (12, (Value.int 0 :: Value.int 0 :: Value.null :: Value.int 0 :: Value.int 0 :: Value.null :: Value.null :: Value.int 0 :: Value.null :: Value.null :: Value.int 0 :: Value.null :: Value.null :: Value.null :: Value.int 0 :: Value.null :: Value.int 0 :: Value.int 0 :: Value.int 0 :: Value.int 0 :: Value.int 0 :: Value.int 0 :: Value.int 0 :: Value.null :: Value.null :: Value.null :: Value.int 0 :: Value.null :: Value.null :: Value.null :: Value.null :: Value.int 0 :: Value.int 0 :: Value.int 0 :: Value.int 0 :: Value.int 0 :: Value.int 0 :: Value.int 0 :: Value.int 0 :: Value.null :: Value.null :: Value.null :: Value.null :: Value.int 0 :: Value.int 0 :: Value.int 0 :: Value.null :: Value.int 0 :: [])))] := hD
  refine W.widen (k := 57) (n := 1206) (Nat.le_of_ble_eq_true rfl) (Nat.le_of_ble_eq_true rfl) ?_
  refine lv_dup hx hb dL_law_11 rfl ?_
  refine go_M (wc := [(qm, .inr (12, (Value.int 0 :: Value.int 0 :: Value.null :: Value.int 0 :: Value.int 0 :: Value.null :: Value.null :: Value.int 0 :: Value.null :: Value.null :: Value.int 0 :: Value.null :: Value.null :: Value.null :: Value.int 0 :: Value.null :: Value.int 0 :: Value.int 0 :: Value.int 0 :: Value.int 0 :: Value.int 0 :: Value.int 0 :: Value.int 0 :: Value.null :: Value.null :: Value.null :: Value.int 0 :: Value.null :: Value.null :: Value.null :: Value.null :: Value.int 0 :: Value.int 0 :: Value.int 0 :: Value.int 0 :: Value.int 0 :: Value.int 0 :: Value.int 0 :: Value.int 0 :: Value.null :: Value.null :: Value.null :: Value.null :: Value.int 0 :: Value.int 0 :: Value.int 0 :: Value.null :: Value.int 0 :: [])))]) (wr := [(qx, .inr (11, (Value.ref (ax 0) :: Value.ref (ax 1) :: Value.ref (ax 2) :: Value.ref (ax 3) :: Value.ref (ax 4) :: Value.ref (ax 5) :: Value.ref (ax 6) :: Value.ref (ax 7) :: Value.ref (ax 8) :: Value.ref (ax 9) :: Value.ref (ax 10) :: Value.ref (ax 11) :: Value.ref (ax 12) :: Value.ref (ax 13) :: Value.ref (ax 14) :: Value.int 0 :: Value.int 0 :: Value.int 0 :: []))), ((ax 0), .inr (9, [.ref (ax 15), .int 0])), ((ax 15), .inl (cI, 300, .inl zI)), ((ax 1), .inr (3, [.ref (ax 16), .ref (ax 17), .ref (ax 18), .ref (ax 19), .int 0, .int 0, .int 0, .int 0])), ((ax 2), .inr (4, [.ref (ax 0), .ref (ax 20), .int 0, .int 0, .int 0, .int 0, .int 0, .int 0, .int (-1)])), ((ax 20), .inr (3, [.ref (ax 21), .ref (ax 22), .ref (ax 23), .ref (ax 24), .int 0, .int 0, .int 0, .int 0])), ((ax 3), .inr (8, [.ref (ax 25), .ref (ax 26), .ref (ax 27), .ref (ax 28), .int 0, .int 0, .int 0, .int 0, .int 0, .int 0])), ((ax 4), .inr (1, [.ref (ax 29), .int 0, .int 0])), ((ax 5), .inr (5, (Value.ref (ax 30) :: Value.ref (ax 31) :: Value.ref (ax 32) :: Value.ref (ax 33) :: Value.ref (ax 34) :: Value.ref (ax 35) :: Value.ref (ax 36) :: Value.ref (ax 37) :: Value.int 0 :: Value.int 0 :: Value.int 0 :: Value.int 0 :: Value.int 0 :: Value.int 0 :: Value.int 0 :: []))), ((ax 8), .inr (7, [.ref (ax 38), .ref (ax 39), .ref (ax 40), .ref (ax 41), .ref (ax 42), .ref (ax 43), .null, .int 0, .int 0])), ((ax 11), .inr (6, [.ref (ax 44), .int 0, .int 0, .int 0, .int 1])), ((ax 13), .inl (cI, 6, .inl zI)), ((ax 14), .inl (cI, 130, .inl zI))]) (w1 := fun u => [(qm, .inr (12, (Value.int 0 :: Value.int 0 :: Value.ref (u.1 0) :: Value.int 0 :: Value.int 0 :: Value.ref (u.1 1) :: Value.ref (u.1 2) :: Value.int 0 :: Value.ref (u.1 3) :: Value.ref (u.1 4) :: Value.int 0 :: Value.ref (u.1 5) :: Value.ref (u.1 6) :: Value.ref (u.1 7) :: Value.int 0 :: Value.ref (u.1 8) :: Value.int 0 :: Value.int (-1) :: Value.int 0 :: Value.int 0 :: Value.int 0 :: Value.int 0 :: Value.int (-1) :: Value.ref (u.1 9) :: Value.ref (u.1 10) :: Value.ref (u.1 11) :: Value.int 0 :: Value.ref (u.1 12) :: Value.ref (u.1 13) :: Value.ref (u.1 14) :: Value.ref (u.1 15) :: Value.int 0 :: Value.int 0 :: Value.int 0 :: Value.int 0 :: Value.int 0 :: Value.int 0 :: Value.int 0 :: Value.int 0 :: Value.ref (u.1 16) :: Value.ref (u.1 17) :: Value.ref (u.1 18) :: Value.ref (u.1 19) :: Value.int 0 :: Value.int 0 :: Value.int 1 :: Value.ref (u.1 20) :: Value.int 0 :: []))), ((u.1 7), .inl (cI, 1200, .inl zI)), ((u.1 8), .inl (cI, 6, .inl zI)), ((u.1 10), .inl (cI, 3252, .inl zI)), ((u.1 20), .inl (cI, 130, .inl zI))]) (v := none) (st1 := [.ref qm]) hP hD hS hA [13] [0, 1, 2, 3, 4, 5, 6, 7, 8, 9, 10, 11, 12] rfl rfl (by decide) (by decide) (by decide) (fun hPc hDc => run_I (As := []) (rest := [.ref qm]) ⟨hx, hb, hml, hown, hT⟩ (kX12_init_0 l D cI qm _) sw_1283 lki_X12_init (p_M_S hPc hK hDc) rfl hl.1 rfl (Nat.le_of_ble_eq_true rfl) dL_law_12 ⟨⟨Nat.le_of_ble_eq_true rfl, Nat.le_of_ble_eq_true rfl⟩, Nat.le_of_ble_eq_true rfl, Nat.le_of_ble_eq_true rfl⟩) rfl (fun u H locs hP hD hS => ?_)
  obtain ⟨am, am_2⟩ := u
  have hP : va_P D vwCl (w_L cI qx ax qm am) H := hP
  have hD : va_D (fun q : Nat => s.heap.size ≤ q) (w_L cI qx ax qm am) := hD
  refine W.widen (k := 78) (n := 71288) (Nat.le_of_ble_eq_true rfl) (Nat.le_of_ble_eq_true rfl) ?_
  refine lv_astore_n (lv' := [(2, .ref qm), (1, .ref qx), (0, .ref b)]) hx hb dL_law_15 rfl hl (by decide) rfl (fun ls hl => ?_)
  refine lv_iconst (v := 0) hx hb dL_law_16 (by decide) ?_
  refine lv_istore_n (lv' := [(3, .int 0), (2, .ref qm), (1, .ref qx), (0, .ref b)]) hx hb dL_law_17 rfl hl (by decide) rfl (fun ls hl => ?_)
  refine lv_iload_n hx hb dL_law_18 rfl (lv_at hl 0 rfl) ?_
  refine lv_aload_n hx hb dL_law_19 rfl (lv_at hl 3 rfl) ?_
  refine va_slen hx hb hX hbl hbA hS dL_law_20 ?_
  refine lv_bipush (v := 6) hx hb dL_law_21 (by decide) ?_
  refine lv_isub hx hb dL_law_23 ?_
  rcases (show L = 6 ∨ L < 6 by omega) with rfl | hL6
  · refine ct_i (z := 0) (by decide) ?_
    refine lv_icmp_gt (tgt := 1671) hx hb dL_law_24 (by decide) (fun h9 => absurd h9 (by decide)) (fun _ => ?_)
    refine lv_aload_n hx hb dL_law_27 rfl (lv_at hl 3 rfl) ?_
    refine lv_iload_n hx hb dL_law_28 rfl (lv_at hl 0 rfl) ?_
    refine va_sld hx hb hX hbl hbA hS (vi_c (by decide +kernel)) dL_law_29 ?_
    refine lv_bipush (v := 63) hx hb dL_law_30 (by decide) ?_
    refine lv_iand hx hb dL_law_32 ?_
    obtain ⟨j, hj, ej⟩ := pk_andE (xs (0 : Int32).toNatClampNeg) (m := 63) 6 (by decide)
    refine ct_i (z := nI j) ej ?_
    exact law_switch ⟨hx, hb, hr, hml, hown, hT, hX, hbl, hlocks, hK⟩ hZ hP hD hS hl j hj
  · have hlt : Int32.ofNat L - 6 < 0 := by
      have h8 : ∀ L : Nat, L < 6 → Int32.ofNat L - 6 < 0 := by decide
      exact h8 L hL6
    refine lv_icmp_gt (tgt := 1671) hx hb dL_law_24 (by decide) (fun _ => ?_) (fun h9 => absurd hlt h9)
    exact law_out hx hb hr hlocks hS (Nat.le_of_ble_eq_true rfl) (Nat.le_of_ble_eq_true rfl)
