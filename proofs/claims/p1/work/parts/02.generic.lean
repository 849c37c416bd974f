/-! the words that stay when the tables warm: the tables' own, and those of nest mates; one list for every method -/
def sw_ok : Cond → Bool
  | .fieldLinkNest _ _ _ _ _ _ => true
  | .methodLinkNest _ _ _ _ => true
  | .arrayOver (.object _) => true
  | w => goodWord w
def sw_all : List Cond := lw_tbl.filter sw_ok
theorem sw_i (i : Nat) {w : Cond} (h : lw_tbl[i]? = some w ∧ sw_ok w = true) : w ∈ sw_all := List.mem_filter.mpr ⟨List.mem_of_getElem? h.1, h.2⟩
theorem sw_sub (ws : List Cond) (ps : List Nat) (h : ws = ps.filterMap (fun i => lw_tbl[i]?) ∧ ws.all sw_ok = true) : ∀ w ∈ ws, w ∈ sw_all := by
  intro w hw
  have h1 := List.all_eq_true.mp h.2 w hw
  rw [h.1] at hw
  obtain ⟨i, -, hi⟩ := List.mem_filterMap.mp hw
  exact List.mem_filter.mpr ⟨List.mem_of_getElem? hi, h1⟩
theorem sw_stay {args : Array Value} {s : State} (h : ∀ w ∈ sw_all, w.before args s = true) : ∀ w ∈ sw_all, ∀ (a' : Array Value) (U : State), s.WarmedH U.vm → w.before a' U = true := by
  intro w hw a' U hW
  have hb := h w hw
  have hk := (List.mem_filter.mp hw).2
  cases w
  case fieldLinkNest => exact va_Nw.use rfl (va_Nw.warmF hW (va_Nw.of rfl hb))
  case methodLinkNest => exact va_Nw.use rfl (va_Nw.warmM hW (va_Nw.of rfl hb))
  case arrayOver t =>
    cases t
    case object C => exact va_AO.use (va_AO.moved hW.alike (va_AO.of hb))
    all_goals exact word_at hW (good_of_word hk) hb
  all_goals exact word_at hW (good_of_word hk) hb
def sw_ws (y : MethodName) (c : ByteArray) (n : Nat) (r : Option FieldType) : List Cond := Cond.code y c n r :: sw_all
theorem sw_in {y : MethodName} {c : ByteArray} {n : Nat} {r : Option FieldType} {args : Array Value} {s : State} (h : ∀ w ∈ sw_ws y c n r, w.before args s = true) : ∀ w ∈ sw_all, w.before args s = true := fun w hw => h w (List.mem_cons_of_mem _ hw)
theorem sw_ws_stay {y : MethodName} {c : ByteArray} {n : Nat} {r : Option FieldType} {args : Array Value} {s : State} (hc : Cond.code y c n r ∈ sw_all) (h : ∀ w ∈ sw_all, w.before args s = true) : ∀ w ∈ sw_ws y c n r, ∀ (a' : Array Value) (U : State), s.WarmedH U.vm → w.before a' U = true := by
  intro w hw
  rcases List.mem_cons.mp hw with rfl | hw
  · exact sw_stay h _ hc
  · exact sw_stay h w hw
/-! what a call's words say: of its place, its method -/
def lk_m (y : MethodName) (c : ByteArray) (n : Nat) (r : Option FieldType) (k : Nat) : Prop := Cond.code y c n r ∈ sw_all ∧ Cond.initialized y.cls ∈ sw_all ∧ (y.cls ≠ "java/lang/invoke/MethodHandle" ∧ y.cls ≠ "java/lang/invoke/VarHandle" ∧ (parseMethodDescriptor y.desc).map (fun d => d.parameters.length) = some k)
def lk_v (y : MethodName) (c : ByteArray) (n : Nat) (r : Option FieldType) (k : Nat) : Prop := lk_m y c n r k ∧ Cond.instanceMethod y ∈ sw_all ∧ Cond.selects y.cls y y ∈ sw_all
def lk_s (y : MethodName) (c : ByteArray) (n : Nat) (r : Option FieldType) (k : Nat) : Prop := lk_m y c n r k ∧ Cond.static y ∈ sw_all
def lk_i (y : MethodName) (c : ByteArray) (n : Nat) (k : Nat) : Prop := lk_m y c n none k ∧ y.name = "<init>" ∧ Cond.instanceMethod y ∈ sw_all
abbrev rm_ (f lo mc ms : Nat) : Room := { frames := f, cells := mc, slots := ms, locals := lo }
section GEN
variable {p : Program} {l : Launch} {e : Env} {R : Room} {s : State} {m : MethodId} {args : Array Value} {below : List Frame} {meth : Method} {c : Code} {H : Heap} {locs : List Loc} {cells slots : Nat} {Q : State → Prop}
  {cc bytes : ByteArray} {nL maxL index n f lo mc ms : Nat} {own host : String} {y : MethodName} {ret : Option FieldType} {Pc : Array Value → State → Prop} {Qc : Array Value → State → Outcome → State → Prop} {free : Addr → Prop}
  {b : Addr} {As rest st0 : List Value} {pc : Nat} {ls : Array Slot}
theorem lk_sig (hd : (parseMethodDescriptor y.desc).map (fun d => d.parameters.length) = some n) : ∀ sig, parseMethodDescriptor y.desc = some sig → n = sig.parameters.length := fun sig h => by
  rw [h] at hd
  exact (Option.some.inj hd).symm
theorem lk_cb (ht : ∀ w ∈ sw_all, w.before args s = true) (hm : lk_m y bytes maxL ret n) (hl : Cond.methodLink own index y ∈ sw_all) (hR : f + 1 ≤ R.frames ∧ 8 + (maxL + 11) + lo ≤ R.locals) : CallB R s args own index y bytes maxL ret (sw_ws y bytes maxL ret) (rm_ f lo mc ms) mc ms n :=
  ⟨rfl, rfl, hR.1, hR.2, sw_ws_stay hm.1 ht, List.mem_cons_self, ht _ hm.1, ht _ hm.2.1, ⟨hm.2.2.1, hm.2.2.2.1⟩, lk_sig hm.2.2.2.2, ht _ hl⟩
theorem lk_cn (ht : ∀ w ∈ sw_all, w.before args s = true) (hm : lk_m y bytes maxL ret n) (hl : Cond.methodLinkNest own index y host ∈ sw_all) (hR : f + 1 ≤ R.frames ∧ 8 + (maxL + 11) + lo ≤ R.locals) : va_CN R s args own index y host bytes maxL ret (sw_ws y bytes maxL ret) (rm_ f lo mc ms) mc ms n :=
  ⟨⟨rfl, rfl, hR.1, hR.2, sw_ws_stay hm.1 ht, List.mem_cons_self⟩, ht _ hm.1, ht _ hm.2.1, ⟨hm.2.2.1, hm.2.2.2.1⟩, lk_sig hm.2.2.2.2, ht _ hl⟩
/-- a call's run, for the four kinds -/
theorem run_V (S : CallFix p m c cc nL s args sw_all own) (hM : Met l y (sw_ws y bytes maxL ret) (rm_ f lo mc ms) Pc Qc mc ms free) (hl : Cond.methodLink own index y ∈ sw_all) (hk : lk_v y bytes maxL ret n) (hp : PreV s H y.cls b Pc As) (hn : As.length = n) (hsize : ls.size = nL) (hst : st0 = As.reverse ++ .ref b :: rest) (hW : (rest.map fun v => v.category).sum ≤ 8) (hdg : decode cc pc = .ok (.invokevirtual index, 3)) (hR : (f + 1 ≤ R.frames ∧ 8 + (maxL + 11) + lo ≤ R.locals) ∧ cells + mc ≤ R.cells ∧ slots + ms ≤ R.slots) :
    va_Run p l e R s m args below meth c H locs cells slots mc ms (F0 m pc ls st0) rest (Qc (Value.ref b :: As).toArray) free :=
  va_runV S hM ⟨lk_cb S.2.2.2.2 hk.1 hl hR.1, S.2.2.2.2 _ hk.2.1, S.2.2.2.2 _ hk.2.2⟩ hp rfl hn hsize hst (lv_room hW) hdg hR.2
theorem run_VN (S : CallFix p m c cc nL s args sw_all own) (hM : Met l y (sw_ws y bytes maxL ret) (rm_ f lo mc ms) Pc Qc mc ms free) (hl : Cond.methodLinkNest own index y host ∈ sw_all) (hk : lk_v y bytes maxL ret n) (hp : PreV s H y.cls b Pc As) (hn : As.length = n) (hsize : ls.size = nL) (hst : st0 = As.reverse ++ .ref b :: rest) (hW : (rest.map fun v => v.category).sum ≤ 8) (hdg : decode cc pc = .ok (.invokevirtual index, 3)) (hR : (f + 1 ≤ R.frames ∧ 8 + (maxL + 11) + lo ≤ R.locals) ∧ cells + mc ≤ R.cells ∧ slots + ms ≤ R.slots) :
    va_Run p l e R s m args below meth c H locs cells slots mc ms (F0 m pc ls st0) rest (Qc (Value.ref b :: As).toArray) free :=
  va_runVN S hM ⟨lk_cn S.2.2.2.2 hk.1 hl hR.1, S.2.2.2.2 _ hk.2.1, S.2.2.2.2 _ hk.2.2⟩ hp rfl hn hsize hst (lv_room hW) hdg hR.2
theorem run_S (S : CallFix p m c cc nL s args sw_all own) (hM : Met l y (sw_ws y bytes maxL ret) (rm_ f lo mc ms) Pc Qc mc ms free) (hl : Cond.methodLink own index y ∈ sw_all) (hk : lk_s y bytes maxL ret n) (hp : PreS s H Pc As) (hn : As.length = n) (hsize : ls.size = nL) (hst : st0 = As.reverse ++ rest) (hW : (rest.map fun v => v.category).sum ≤ 8) (hdg : decode cc pc = .ok (.invokestatic index, 3)) (hR : (f + 1 ≤ R.frames ∧ 8 + (maxL + 11) + lo ≤ R.locals) ∧ cells + mc ≤ R.cells ∧ slots + ms ≤ R.slots) :
    va_Run p l e R s m args below meth c H locs cells slots mc ms (F0 m pc ls st0) rest (Qc As.toArray) free :=
  va_runS S hM ⟨lk_cb S.2.2.2.2 hk.1 hl hR.1, S.2.2.2.2 _ hk.2⟩ hp rfl hn hsize hst (lv_room hW) hdg hR.2
theorem run_SN (S : CallFix p m c cc nL s args sw_all own) (hM : Met l y (sw_ws y bytes maxL ret) (rm_ f lo mc ms) Pc Qc mc ms free) (hl : Cond.methodLinkNest own index y host ∈ sw_all) (hk : lk_s y bytes maxL ret n) (hp : PreS s H Pc As) (hn : As.length = n) (hsize : ls.size = nL) (hst : st0 = As.reverse ++ rest) (hW : (rest.map fun v => v.category).sum ≤ 8) (hdg : decode cc pc = .ok (.invokestatic index, 3)) (hR : (f + 1 ≤ R.frames ∧ 8 + (maxL + 11) + lo ≤ R.locals) ∧ cells + mc ≤ R.cells ∧ slots + ms ≤ R.slots) :
    va_Run p l e R s m args below meth c H locs cells slots mc ms (F0 m pc ls st0) rest (Qc As.toArray) free :=
  va_runSN S hM ⟨lk_cn S.2.2.2.2 hk.1 hl hR.1, S.2.2.2.2 _ hk.2, trivial⟩ hp rfl hn hsize hst (lv_room hW) hdg hR.2
theorem run_I (S : CallFix p m c cc nL s args sw_all own) (hM : Met l y (sw_ws y bytes maxL none) (rm_ f lo mc ms) Pc Qc mc ms free) (hl : Cond.methodLink own index y ∈ sw_all) (hk : lk_i y bytes maxL n) (hp : PreS s H Pc (.ref b :: As)) (hn : As.length = n) (hsize : ls.size = nL) (hst : st0 = As.reverse ++ .ref b :: rest) (hW : (rest.map fun v => v.category).sum ≤ 8) (hdg : decode cc pc = .ok (.invokespecial index, 3)) (hR : (f + 1 ≤ R.frames ∧ 8 + (maxL + 11) + lo ≤ R.locals) ∧ cells + mc ≤ R.cells ∧ slots + ms ≤ R.slots) :
    va_Run p l e R s m args below meth c H locs cells slots mc ms (F0 m pc ls st0) rest (Qc (Value.ref b :: As).toArray) free :=
  va_runI S hM ⟨lk_cb S.2.2.2.2 hk.1 hl hR.1, hk.2.1, S.2.2.2.2 _ hk.2.2⟩ hp rfl hn hsize hst (lv_room hW) hdg hR.2
theorem run_IN (S : CallFix p m c cc nL s args sw_all own) (hM : Met l y (sw_ws y bytes maxL none) (rm_ f lo mc ms) Pc Qc mc ms free) (hl : Cond.methodLinkNest own index y host ∈ sw_all) (hk : lk_i y bytes maxL n) (hp : PreS s H Pc (.ref b :: As)) (hn : As.length = n) (hsize : ls.size = nL) (hst : st0 = As.reverse ++ .ref b :: rest) (hW : (rest.map fun v => v.category).sum ≤ 8) (hdg : decode cc pc = .ok (.invokespecial index, 3)) (hR : (f + 1 ≤ R.frames ∧ 8 + (maxL + 11) + lo ≤ R.locals) ∧ cells + mc ≤ R.cells ∧ slots + ms ≤ R.slots) :
    va_Run p l e R s m args below meth c H locs cells slots mc ms (F0 m pc ls st0) rest (Qc (Value.ref b :: As).toArray) free :=
  va_runIN S hM ⟨lk_cn S.2.2.2.2 hk.1 hl hR.1, hk.2.1, S.2.2.2.2 _ hk.2.2⟩ hp rfl hn hsize hst (lv_room hW) hdg hR.2
/-! a method that only reads: its answer, the heap as it was -/
def q_R (v : Option Value) : Array Value → State → Outcome → State → Prop := fun _ st o t => o = .returned v ∧ t.heap = st.heap
theorem go_R {v : Option Value} {a : Array Value} (hr : va_Run p l e R s m args below meth c H locs cells slots 0 0 (F0 m pc ls st0) rest (q_R v a) (fun _ => False)) {st1 : List Value} (hst1 : v.toList ++ rest = st1) (kk : W p l e R s m args below meth c H locs cells slots Q (F0 m (pc + 3) ls st1)) : W p l e R s m args below meth c H locs cells slots Q (F0 m pc ls st0) := by
  subst hst1
  intro T hT X
  obtain ⟨v', st₀, t, T', L, h0, X', hL, e1, -, ⟨hv, hh⟩, st⟩ := hr T hT X
  cases hv
  obtain ⟨t2, a1, b1⟩ := kk T' (by rw [e1, hh, h0]) (Stand.forget X' (fun q h => (hL q h).elim))
  exact ⟨t2, st t2 a1, b1⟩
/-! a method that writes: its answer, its cells, all else as it was; u: the addresses and contents that aren't told -/
abbrev u_S : Type := (Nat → Nat) × (Nat → Nat → Int32)
def q_M (D : va_G) (cl : List vw_C) (v : Option Value) (w1 : u_S → va_W) (A : Nat → Prop) : Array Value → State → Outcome → State → Prop := fun _ st oc t => oc = .returned v ∧ (∃ u : u_S, va_P D cl (w1 u) t.heap ∧ va_D A (w1 u)) ∧ va_F A st t
theorem go_M {D : va_G} {cl : List vw_C} {v : Option Value} {w1 : u_S → va_W} {ws wc wr : va_W} {A : Nat → Prop} {H0 : Heap} {a : Array Value} (hP : va_P D cl ws H) (hD : va_D A ws) (hS : va_S A H0 H locs) (hA : ∀ q, H0.size ≤ q → A q)
    (isC isR : List Nat) (hC : isC.map (fun i => ws[i]?) = wc.map some) (hR : isR.map (fun i => ws[i]?) = wr.map some) (hnC : va_nd isC = true) (hn : va_nd isR = true) (hdis : ∀ i ∈ isR, i ∉ isC)
    (hr : va_P D cl wc H → va_D (fun _ => True) wc → va_Run p l e R s m args below meth c H locs cells slots mc ms (F0 m pc ls st0) rest (q_M D cl v w1 (va_A wc H.size) a) (va_A wc H.size))
    {st1 : List Value} (hst1 : v.toList ++ rest = st1)
    (kk : ∀ (u : u_S) (H1 : Heap) (locs1 : List Loc), va_P D cl (wr ++ w1 u) H1 → va_D A (wr ++ w1 u) → va_S A H0 H1 locs1 → W p l e R s m args below meth c H1 locs1 (cells + mc) (slots + ms) Q (F0 m (pc + 3) ls st1)) : W p l e R s m args below meth c H locs cells slots Q (F0 m pc ls st0) := by
  subst hst1
  have hf := va_free hD hS hA isC hC
  have hDc : va_D (fun _ => True) wc := (hD.sub isC hnC hC).weaken (fun _ _ _ _ => trivial)
  have hsub : ∀ (k : Nat) (q : Nat × va_E), wc[k]? = some q → ∃ i, isC[k]? = some i ∧ ws[i]? = some q := by
    intro k q hq
    have h1 : (isC.map (fun i => ws[i]?))[k]? = some (some q) := by rw [hC, List.getElem?_map, hq]; rfl
    rw [List.getElem?_map] at h1
    cases hi : isC[k]? with
    | none => rw [hi] at h1; cases h1
    | some i => rw [hi] at h1; exact ⟨i, rfl, Option.some.inj h1⟩
  have hPc : va_P D cl wc H := fun k q hq => by
    obtain ⟨i, -, h2⟩ := hsub k q hq
    exact hP i q h2
  intro T hT X
  obtain ⟨v', st₀, t, T', L, h0, X', hL, e1, e2, ⟨hv, ⟨u, hp1, hd1⟩, hz, hk⟩, st⟩ := hr hPc hDc T hT X
  cases hv
  rw [h0] at hz hk
  obtain ⟨hP', hD'⟩ := va_join (H1 := T'.heap) hP hD isC isR hC hR hn hdis (fun q h1 h2 => by rw [e1]; exact hk q h1 h2) hf (by rw [e1]; exact hp1) hd1
  obtain ⟨t2, a1, b1⟩ := kk u T'.heap (locs ++ L) hP' hD' ⟨Nat.le_trans hS.1 (by rw [e1]; exact hz), fun q h1 h2 => by rw [e1, hk q (Nat.lt_of_lt_of_le h1 hS.1) (fun z => h2 (hf q z))]; exact hS.2.1 q h1 h2, fun q hq => by
      rcases List.mem_append.mp hq with h | h
      · exact hS.2.2 q h
      · exact hf _ (hL q h)⟩ T' rfl X'
  exact ⟨t2, st t2 a1, b1⟩
/-- the value on top, by another name -/
theorem ct_i {x z : Int32} (h : x = z) (kk : W p l e R s m args below meth c H locs cells slots Q (F0 m pc ls (.int z :: rest))) : W p l e R s m args below meth c H locs cells slots Q (F0 m pc ls (.int x :: rest)) := by rw [h]; exact kk
/-! arrays that are made: of ints, its class known; and such as nobody reads later, of which nothing is kept -/
theorem vp_init {D : va_G} {cl : List vw_C} {ws : va_W} {x : Nat × va_E} (h : va_P D cl (ws ++ [x]) H) : va_P D cl ws H := fun k q hk => h k q (by rw [List.getElem?_append_left ((List.getElem?_eq_some_iff.mp hk).1)]; exact hk)
theorem vd_init {A : Nat → Prop} {ws : va_W} {x : Nat × va_E} (h : va_D A (ws ++ [x])) : va_D A ws := by
  have hm : ∀ (k : Nat) (q : Nat × va_E), ws[k]? = some q → (ws ++ [x])[k]? = some q := fun k q hk => by rw [List.getElem?_append_left ((List.getElem?_eq_some_iff.mp hk).1)]; exact hk
  exact ⟨fun i j p q hp hq e => h.1 i j p q (hm i p hp) (hm j q hq) e, fun k q hk => h.2 k q (hm k q hk)⟩
abbrev zI : Nat → Int32 := fun _ => 0
theorem new_I {D : va_G} {cl : List vw_C} {cI : ClassId} {ws : va_W} {A : Nat → Prop} {H0 : Heap} (hx : p.tables.exec = Jvm.exec) (hb : c.code = cc) (harr : (Cond.arrayClass .int).before args s = true) (hK : va_K D cl [(cI, .int)] s) (hP : va_P D cl ws H) (hD : va_D A ws) (hS : va_S A H0 H locs) (hA : ∀ q, H0.size ≤ q → A q)
    {n : Int32} {N' : Nat} (hn : ¬ n < 0) (hN : n.toNatClampNeg = N') (hbytes : N' * 4 ≤ 536870912) (hcells : cells + 1 ≤ R.cells) (hslots : slots + N' ≤ R.slots) (hdg : decode cc pc = .ok (.newarray .int, 2))
    (kk : ∀ (q : Nat) (H1 : Heap), va_P D cl (ws ++ [(q, .inl (cI, N', .inl zI))]) H1 → va_D A (ws ++ [(q, .inl (cI, N', .inl zI))]) → va_S A H0 H1 locs → W p l e R s m args below meth c H1 locs (cells + 1) (slots + N') Q (F0 m (pc + 2) ls (.ref q :: rest))) : W p l e R s m args below meth c H locs cells slots Q (F0 m pc ls (.int n :: rest)) := by
  refine va_newa (atype := .int) (ty := .int) (a0 := (N', .inl zI)) hx hb harr rfl hK hP hD hS hA (fun _ => rfl) hn hN hbytes hcells hslots hdg (fun q cA H1 hK1 hP1 hD1 hS1 => ?_)
  have h1 := (hK.2 0 _ rfl).2
  have h2 := (hK1.2 1 _ rfl).2
  have e : cA = cI := Option.some.inj (h2.symm.trans h1)
  subst e
  exact kk q H1 hP1 hD1 hS1
theorem new_I0 {D : va_G} {cl : List vw_C} {cI : ClassId} {ws : va_W} {A : Nat → Prop} {H0 : Heap} (hx : p.tables.exec = Jvm.exec) (hb : c.code = cc) (harr : (Cond.arrayClass .int).before args s = true) (hK : va_K D cl [(cI, .int)] s) (hP : va_P D cl ws H) (hD : va_D A ws) (hS : va_S A H0 H locs) (hA : ∀ q, H0.size ≤ q → A q)
    {n : Int32} {N' : Nat} (hn : ¬ n < 0) (hN : n.toNatClampNeg = N') (hbytes : N' * 4 ≤ 536870912) (hcells : cells + 1 ≤ R.cells) (hslots : slots + N' ≤ R.slots) (hdg : decode cc pc = .ok (.newarray .int, 2))
    (kk : ∀ (q : Nat) (H1 : Heap), va_P D cl ws H1 → va_D A ws → va_S A H0 H1 locs → W p l e R s m args below meth c H1 locs (cells + 1) (slots + N') Q (F0 m (pc + 2) ls (.ref q :: rest))) : W p l e R s m args below meth c H locs cells slots Q (F0 m pc ls (.int n :: rest)) :=
  new_I hx hb harr hK hP hD hS hA hn hN hbytes hcells hslots hdg (fun q H1 hP1 hD1 hS1 => kk q H1 (vp_init hP1) (vd_init hD1) hS1)
theorem new_J0 {D : va_G} {cl : List vw_C} {tys : List (ClassId × FieldType)} {ws : va_W} {A : Nat → Prop} {H0 : Heap} (hx : p.tables.exec = Jvm.exec) (hb : c.code = cc) (harr : (Cond.arrayClass .long).before args s = true) (hK : va_K D cl tys s) (hP : va_P D cl ws H) (hD : va_D A ws) (hS : va_S A H0 H locs) (hA : ∀ q, H0.size ≤ q → A q)
    {n : Int32} {N' : Nat} (hn : ¬ n < 0) (hN : n.toNatClampNeg = N') (hbytes : N' * 8 ≤ 536870912) (hcells : cells + 1 ≤ R.cells) (hslots : slots + N' ≤ R.slots) (hdg : decode cc pc = .ok (.newarray .long, 2))
    (kk : ∀ (q : Nat) (H1 : Heap), va_P D cl ws H1 → va_D A ws → va_S A H0 H1 locs → W p l e R s m args below meth c H1 locs (cells + 1) (slots + N') Q (F0 m (pc + 2) ls (.ref q :: rest))) : W p l e R s m args below meth c H locs cells slots Q (F0 m pc ls (.int n :: rest)) :=
  va_newa (atype := .long) (ty := .long) (a0 := (N', .inr (.inl (fun _ => 0)))) hx hb harr rfl hK hP hD hS hA (fun _ => rfl) hn hN hbytes hcells hslots hdg (fun q cA H1 hK1 hP1 hD1 hS1 => kk q H1 (vp_init hP1) (vd_init hD1) hS1)
theorem new_Q0 {D : va_G} {cl : List vw_C} {tys : List (ClassId × FieldType)} {ws : va_W} {A : Nat → Prop} {H0 : Heap} {C : String} (hx : p.tables.exec = Jvm.exec) (hb : c.code = cc) (hown : s.vm.findClass own = some m.cls) (hcl : (Cond.classLink own index C).before args s = true) (hover : (Cond.arrayOver (.object C)).before args s = true) (hK : va_K D cl tys s) (hP : va_P D cl ws H) (hD : va_D A ws) (hS : va_S A H0 H locs) (hA : ∀ q, H0.size ≤ q → A q)
    {n : Int32} {N' : Nat} (hn : ¬ n < 0) (hN : n.toNatClampNeg = N') (hbytes : N' * 4 ≤ 536870912) (hcells : cells + 1 ≤ R.cells) (hslots : slots + N' ≤ R.slots) (hdg : decode cc pc = .ok (.anewarray index, 3))
    (kk : ∀ (q : Nat) (H1 : Heap), va_P D cl ws H1 → va_D A ws → va_S A H0 H1 locs → W p l e R s m args below meth c H1 locs (cells + 1) (slots + N') Q (F0 m (pc + 3) ls (.ref q :: rest))) : W p l e R s m args below meth c H locs cells slots Q (F0 m pc ls (.int n :: rest)) :=
  va_newq hx hb hown hcl (va_AO.of hover) hK hP hD hS hA hn hN hbytes hcells hslots hdg (fun q cA H1 hK1 hP1 hD1 hS1 => kk q H1 (vp_init hP1) (vd_init hD1) hS1)
theorem vi_c {i : Int32} {n : Nat} (h : (decide (i < 0) || decide (n ≤ i.toNatClampNeg)) = false) : vp_in i n := by
  intro q
  rcases q with q | q <;> simp [q] at h
end GEN
/-! starts of contracts -/
def p_R (D : va_G) (cl : List vw_C) (ty : List (ClassId × FieldType)) (av : List Value) (ws : va_W) : Array Value → State → Prop := fun v U => v = av.toArray ∧ va_P D cl ws U.heap ∧ va_K D cl ty U
def p_M (D : va_G) (cl : List vw_C) (ty : List (ClassId × FieldType)) (av : List Value) (ws : va_W) (sz : Nat) : Array Value → State → Prop := fun v U => v = av.toArray ∧ U.heap.size = sz ∧ va_P D cl ws U.heap ∧ va_K D cl ty U ∧ va_D (fun _ => True) ws
section PRE
variable {s : State} {H : Heap} {D : va_G} {cl : List vw_C} {ty : List (ClassId × FieldType)} {av As : List Value} {ws : va_W}
theorem p_R_S (hP : va_P D cl ws H) (hK : va_K D cl ty s) : PreS s H (p_R D cl ty As ws) As :=
  ⟨fun a U g mk q => ⟨q.1, q.2.1, va_K.moved (u := U) (U := U.calling g mk a) (Vm.Alike.refl U.vm) q.2.2⟩, fun U hU hW => ⟨rfl, by rw [hU]; exact hP, va_K.moved hW.alike hK⟩⟩
theorem p_M_S (hP : va_P D cl ws H) (hK : va_K D cl ty s) (hD : va_D (fun _ => True) ws) : PreS s H (p_M D cl ty As ws H.size) As :=
  ⟨fun a U g mk q => ⟨q.1, q.2.1, q.2.2.1, va_K.moved (u := U) (U := U.calling g mk a) (Vm.Alike.refl U.vm) q.2.2.2.1, q.2.2.2.2⟩, fun U hU hW => ⟨rfl, by rw [hU], by rw [hU]; exact hP, va_K.moved hW.alike hK, hD⟩⟩
theorem p_R_V {a ci q0 : Nat} {q : vw_C} {fs : List Value} (hP : va_P D cl ws H) (hK : va_K D cl ty s) (hc : cl[ci]? = some q) (he : ws[q0]? = some (a, .inr (ci, fs))) : PreV s H q.1 a (p_R D cl ty (.ref a :: As) ws) As :=
  ⟨(p_R_S (As := .ref a :: As) hP hK).1, va_recv hK hP hc he, (p_R_S (As := .ref a :: As) hP hK).2⟩
theorem p_M_V {a ci q0 : Nat} {q : vw_C} {fs : List Value} (hP : va_P D cl ws H) (hK : va_K D cl ty s) (hD : va_D (fun _ => True) ws) (hc : cl[ci]? = some q) (he : ws[q0]? = some (a, .inr (ci, fs))) : PreV s H q.1 a (p_M D cl ty (.ref a :: As) ws H.size) As :=
  ⟨(p_M_S (As := .ref a :: As) hP hK hD).1, va_recv hK hP hc he, (p_M_S (As := .ref a :: As) hP hK hD).2⟩
end PRE
