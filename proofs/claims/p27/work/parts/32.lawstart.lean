/-! From the law's entry to its loops. -/
theorem adr_at {ws : va_W} {ad : Nat → Nat} {n i : Nat} (h : adr ws = (List.range n).map ad) (hi : i < n) : ∃ c, ws[i]? = some (ad i, c) := by
  have h1 : (adr ws)[i]? = some (ad i) := by rw [h]; simp [hi]
  unfold adr at h1
  rw [List.getElem?_map] at h1
  obtain ⟨x, hx, hxa⟩ := Option.map_eq_some_iff.mp h1
  exact ⟨x.2, by rw [hx, ← hxa]⟩
theorem FN_of_D {ws : va_W} {ad : Nat → Nat} {n : Nat} {A : Nat → Prop} (h : adr ws = (List.range n).map ad) (hD : va_D A ws) : FN ad n := by
  intro i j hi hj hij
  obtain ⟨c, hc⟩ := adr_at h hi
  obtain ⟨d, hd⟩ := adr_at h hj
  exact hD.1 i j _ _ hc hd hij
theorem D_l {w1 w2 : va_W} {A : Nat → Prop} (hD : va_D A (w1 ++ w2)) : va_D A w1 :=
  ⟨fun i j x y hi hj h => hD.1 i j x y (by rw [List.getElem?_append_left (List.getElem?_eq_some_iff.mp hi).1]; exact hi) (by rw [List.getElem?_append_left (List.getElem?_eq_some_iff.mp hj).1]; exact hj) h, fun k x hk => hD.2 k x (by rw [List.getElem?_append_left (List.getElem?_eq_some_iff.mp hk).1]; exact hk)⟩
theorem D_r {w1 w2 : va_W} {A : Nat → Prop} (hD : va_D A (w1 ++ w2)) : va_D A w2 := by
  have key : ∀ (k : Nat) (x : Nat × va_E), w2[k]? = some x → (w1 ++ w2)[w1.length + k]? = some x := fun k x hk => by
    rw [List.getElem?_append_right (by omega), Nat.add_sub_cancel_left]; exact hk
  refine ⟨fun i j x y hi hj h => ?_, fun k x hk => hD.2 _ x (key k x hk)⟩
  have := hD.1 _ _ x y (key i x hi) (key j y hj) h
  omega
theorem D_dis {w1 w2 : va_W} {A : Nat → Prop} (hD : va_D A (w1 ++ w2)) : ∀ z ∈ adr w2, ¬ z ∈ adr w1 := by
  intro z h2 h1
  obtain ⟨x, hx, hxz⟩ := List.mem_map.mp h1
  obtain ⟨y, hy, hyz⟩ := List.mem_map.mp h2
  obtain ⟨i, hi⟩ := List.getElem?_of_mem hx
  obtain ⟨j, hj⟩ := List.getElem?_of_mem hy
  have hl := (List.getElem?_eq_some_iff.mp hi).1
  have := hD.1 i (w1.length + j) x y (by rw [List.getElem?_append_left hl]; exact hi) (by rw [List.getElem?_append_right (by omega), Nat.add_sub_cancel_left]; exact hj) (hxz.trans hyz.symm)
  omega
theorem D_A {ws : va_W} {A : Nat → Prop} (hD : va_D A ws) : ∀ z ∈ adr ws, A z := by
  intro z hz
  obtain ⟨x, hx, hxz⟩ := List.mem_map.mp hz
  obtain ⟨i, hi⟩ := List.getElem?_of_mem hx
  rw [← hxz]
  exact hD.2 i x hi
theorem Inv_0 : Inv σ0 := by
  refine ⟨by decide, by decide, by decide, by decide, fun e => ?_, fun e => ?_, fun e he => ?_, fun q hq => ?_⟩
  · show 0 < 8
    decide
  · show 0 < 150
    decide
  · exact absurd he (Nat.not_lt_zero e)
  · show (if q < 8 then 0 else 1) ≤ 0
    rw [if_pos hq]; exact Nat.le_refl _
theorem Setd_0 : Setd σ0 := fun q hq => Nat.zero_le _
theorem rows_0 : rowsOk σ0 τ0 8 := by
  intro q hq
  have h1 : sf σ0 q = 0 := by
    show (if q < 8 then 0 else 1) = 0
    rw [if_pos hq]
  rw [h1]
  exact rowOk_0
theorem str_in : ∀ q ∈ gStrs, Cond.stringRef RX4 q.1 q.2 ∈ lw_tbl := by decide +kernel
theorem nest_in : ∀ w ∈ nestW, w.onTables = true ∧ w ∈ lw_tbl := by decide +kernel
theorem xtra_in : ∀ w ∈ xtraW, w.onTables = true ∧ w ∈ lw_tbl := by decide +kernel
theorem arr_RA {s : State} {args : Array Value} {ty : FieldType} (h : (Cond.arrayClass ty).before args s = true) (hty : ty = .int ∨ ty = .boolean) : ∃ cA, ArrOfT s cA ty ∧ va_RA s cA ty := by
  obtain ⟨cA, kA, comp, h1, h2, h3⟩ := Cond.arrayClass_spec h
  refine ⟨cA, fun n z => ⟨fun k h => (by cases h), kA, h2, comp, h3⟩, ?_⟩
  rcases hty with rfl | rfl <;> exact h1
theorem arr_RAo {s : State} {args : Array Value} {C : String} (h : (Cond.arrayOver (.object C)).before args s = true) : ∃ cA, ArrOfT s cA (.object C) ∧ va_RA s cA (.object C) := by
  obtain ⟨comp, cA, kA, h1, h2, h3, h4, h5⟩ := Cond.arrayOver_spec h
  exact ⟨cA, fun n z => ⟨fun k h => (by cases h), kA, h3, comp, h4⟩, kA, comp, h3, h4, h1, h5⟩
/-- the machine's words at the start -/
theorem gE_0 {s : State} {args : Array Value} (hts : ∀ w ∈ lw_tbl, w.before args s = true) : ∃ g : GT, gE g s := by
  obtain ⟨c0, i0, k0⟩ := u_known (C := RX0) (T := TX0) (N := 4) (n := 4) hts inX0 (hts (.instantiable RX0 4) (by decide +kernel))
  obtain ⟨c1, i1, k1⟩ := u_known (C := RX1) (T := TX1) (N := 1) (n := 1) hts inX1 (hts (.instantiable RX1 1) (by decide +kernel))
  obtain ⟨c2, i2, k2⟩ := u_known (C := RX2) (T := TX2) (N := 4) (n := 4) hts inX2 (hts (.instantiable RX2 4) (by decide +kernel))
  obtain ⟨c3, i3, k3⟩ := u_known (C := RX3) (T := TX3) (N := 3) (n := 3) hts inX3 (hts (.instantiable RX3 3) (by decide +kernel))
  obtain ⟨c4, i4, k4⟩ := u_known (C := RX4) (T := TX4) (N := 8) (n := 8) hts inX4 (hts (.instantiable RX4 8) (by decide +kernel))
  obtain ⟨a0, x0, y0⟩ := arr_RA (hts (.arrayClass .int) (by decide +kernel)) (Or.inl rfl)
  obtain ⟨a1, x1, y1⟩ := arr_RA (hts (.arrayClass .boolean) (by decide +kernel)) (Or.inr rfl)
  obtain ⟨a2, x2, y2⟩ := arr_RAo (hts (.arrayOver (.object RX2)) (by decide +kernel))
  refine ⟨((fun k => match k with | 0 => c0 | 1 => c1 | 2 => c2 | 3 => c3 | _ => c4, fun k => match k with | 0 => i0 | 1 => i1 | 2 => i2 | 3 => i3 | _ => i4), fun k => match k with | 0 => a0 | 1 => a1 | _ => a2), ⟨fun k q hq => ?_, fun k q hq => ?_⟩, fun w hw => ?_, fun q hq => ?_, fun w hw => ?_, fun q hq => ?_⟩
  · match k, hq with
    | 0, hq => cases hq; exact k0
    | 1, hq => cases hq; exact k1
    | 2, hq => cases hq; exact k2
    | 3, hq => cases hq; exact k3
    | 4, hq => cases hq; exact k4
    | k + 5, hq => simp [vwCl] at hq
  · match k, hq with
    | 0, hq => cases hq; exact ⟨x0, y0⟩
    | 1, hq => cases hq; exact ⟨x1, y1⟩
    | 2, hq => cases hq; exact ⟨x2, y2⟩
    | k + 3, hq => simp [tysG] at hq
  · exact va_Nw.of (nest_in w hw).1 (hts w (nest_in w hw).2)
  · have h1 := hts _ (str_in q hq)
    obtain ⟨k, cf, i, a, -, -, -, -, -, h2⟩ := Cond.stringRef_spec k4.2.1 h1
    exact ⟨a, vk_R.of h1 h2⟩
  · exact va_Nw.of (xtra_in w hw).1 (hts w (xtra_in w hw).2)
  · simp [ncP] at hq
theorem xv_0 {s : State} {args : Array Value} (hts : ∀ w ∈ lw_tbl, w.before args s = true) (hgv : (Jvm.Cond.and given_1 narrow_1).before args s = true) : xv s.heap s :=
  ⟨vx_Zqof (hts (.laysStatic Bundle.tN "UNASSIGNED_STACK" Bundle.steD) (by decide +kernel)) (hts (.initialized Bundle.tN) (by decide +kernel)) (flat_of_before _ hgv _ (by decide +kernel)) (fun a ha h => absurd h (Nat.not_le.mpr ha)),
   vx_Zqof (hts (.laysStatic Bundle.tN "SUPPRESSED_SENTINEL" Bundle.listD) (by decide +kernel)) (hts (.initialized Bundle.tN) (by decide +kernel)) (flat_of_before _ hgv _ (by decide +kernel)) (fun a ha h => absurd h (Nat.not_le.mpr ha))⟩
theorem xvA_0 {ad : Nat → Nat} {s : State} {H : Heap} {locs : List Loc} (h : xv s.heap s) (hS : va_S (frA s) s.heap H locs) (hA : ∀ z ∈ fA ad, frA s z) : xvA ad H s :=
  ⟨(h.1.kept (fun a ha hn => hS.2.1 a ha hn)).narrow (fun q hq => hq.elim (fun z => hA q z) (fun z => Nat.le_trans hS.1 z)), (h.2.kept (fun a ha hn => hS.2.1 a ha hn)).narrow (fun q hq => hq.elim (fun z => hA q z) (fun z => Nat.le_trans hS.1 z))⟩
set_option maxHeartbeats 4000000 in
set_option maxRecDepth 100000 in
/-- from the entry to the end of the turns -/
theorem lw_begin {p : Program} {l : Launch} {e : Env} {s : State} {m : MethodId} {below : List Frame} {meth : Method} {c : Code} {b L : Nat} {xs : Nat → Int32} (hlf : l.stackTraces = false) (hL : L ≤ 260) (hx : p.tables.exec = Jvm.exec) (hb : c.code = cL_law) (hml : c.maxLocals = 7) (hown : s.vm.findClass RL = some m.cls) (hts : ∀ w ∈ lw_tbl, w.before #[Value.ref b] s = true) (hX : va_X b L xs s s.heap) (hbl : b < s.heap.size) (hgv : (Jvm.Cond.and given_1 narrow_1).before #[Value.ref b] s = true) {Q : State → Prop}
    (ke : ∀ (H : Heap) (locs : List Loc) (ls : Array Slot) (cells slots : Nat), cells ≤ 20000 → slots ≤ 100000 → va_S (frA s) s.heap H locs → W p l e room_1 s m #[Value.ref b] below meth c H locs cells slots Q (F0 m 235 ls [.int 1])) : W p l e room_1 s m #[Value.ref b] below meth c s.heap [] 0 0 Q (entryFrame m ([Value.ref b] : List Value).toArray 7) := by
  obtain ⟨g, hE⟩ := gE_0 hts
  have hxv0 := xv_0 hts hgv
  have hts1 : ∀ w ∈ wsL_law, w.before #[Value.ref b] s = true := fun w h => hts w (wsL_law_in w h)
  have hao : va_AO RX2 s := va_AO.of (hts (.arrayOver (.object RX2)) (by decide +kernel))
  have hA : ∀ q : Nat, s.heap.size ≤ q → frA s q := fun _ h => h
  have hS : va_S (frA s) s.heap s.heap [] := va_S.rf
  have hP : gP g [] s.heap := gP_nil
  have hD : va_D (frA s) [] := ⟨fun i j p q h => by simp at h, fun k q h => by simp at h⟩
  have hl := lv_entry ([.ref b]) (n := 7) (Nat.le_of_ble_eq_true rfl)
  rw [lg_entry_eq]
  generalize (lg_sl ([.ref b]) ++ List.replicate (7 - (lg_sl ([.ref b])).length) Slot.unset).toArray = ls at hl ⊢
  have hl : lv_has ls 7 [(0, .ref b)] := hl
  refine na_o (ci := 4) (fs := [.null, .null, .null, .null, .null, .null, .int (nI 0), .int (nI 0)]) (T := TX4) (N := 8) (ty := tyX4) hx hb hts inX4 tyX4_ok hown (by decide +kernel) (by decide +kernel) (by decide +kernel) hE hP hD hS hA rfl (fun j hj => by rcases (show j = 0 ∨ j = 1 ∨ j = 2 ∨ j = 3 ∨ j = 4 ∨ j = 5 ∨ j = 6 ∨ j = 7 by omega) with rfl | rfl | rfl | rfl | rfl | rfl | rfl | rfl <;> rfl) (Nat.le_of_ble_eq_true rfl) (Nat.le_of_ble_eq_true rfl) dL_law_0 (fun q0 H hP hD hS => ?_)
  refine lv_dup hx hb dL_law_3 rfl ?_
  refine nw_go (ws := []) (q := q0) (c0 := .inr (4, [.null, .null, .null, .null, .null, .null, .int (nI 0), .int (nI 0)])) (nn_I (As := []) ⟨hx, hb, hml, hown, hts1⟩ (c_X4_init l g (b := q0) (sz := H.size) (hP 0 _ rfl).lt) gL_law_X4_init rfl (by decide +kernel) (by decide +kernel) (by decide +kernel) rfl qX4_init ⟨Nat.le_of_ble_eq_true rfl, Nat.le_of_ble_eq_true rfl⟩ ⟨Nat.le_of_ble_eq_true rfl, Nat.le_of_ble_eq_true rfl⟩ hP hE rfl (fun _ => hao) rfl hl.1 rfl (Nat.le_of_ble_eq_true rfl) dL_law_4) hS hA hP hD (fun w1 H9 locs hW hP9 hD9 hS => ?_)
  obtain ⟨ad, had, rfl⟩ := hW
  subst had
  clear hP hD
  have hP : gP g (wF g ad σ0 τ0) H9 := hP9
  have hD : va_D (frA s) (wF g ad σ0 τ0) := hD9
  clear hP9 hD9
  refine lv_astore_n (lv' := [(1, .ref (ad 0)), (0, .ref (b))]) hx hb dL_law_7 rfl hl (by decide) rfl (fun ls hl => ?_)
  refine lv_bipush (v := nI 10) hx hb dL_law_8 (by decide) ?_
  refine lv_istore_n (lv' := [(2, .int (nI 10)), (1, .ref (ad 0)), (0, .ref (b))]) hx hb dL_law_10 rfl hl (by decide) rfl (fun ls hl => ?_)
  refine lv_iconst (v := bI true) hx hb dL_law_11 (by decide) ?_
  refine lv_istore_n (lv' := [(3, .int (bI true)), (2, .int (nI 10)), (1, .ref (ad 0)), (0, .ref (b))]) hx hb dL_law_12 rfl hl (by decide) rfl (fun ls hl => ?_)
  refine lv_iconst (v := nI 0) hx hb dL_law_13 (by decide) ?_
  refine lv_istore (lv' := [(4, .int (nI 0)), (3, .int (bI true)), (2, .int (nI 10)), (1, .ref (ad 0)), (0, .ref (b))]) hx hb dL_law_14 hl (by decide) rfl (fun ls hl => ?_)
  have hN : FN ad 31 := FN_of_D wF_adr hD
  have hfa : ∀ z ∈ fA ad, frA s z := D_A hD
  have C : lwC p l s m c b L xs g ad := ⟨hx, hb, hml, hown, hts1, hX, hbl, hL, hlf, hE, hN, hfa⟩
  have hK : cH g ad s (frA s) σ0 H9 locs := ⟨⟨τ0, hP, rows_0, by decide⟩, xvA_0 hxv0 hS hfa, hS⟩
  have hO : OK σ0 := ⟨Inv_0, Setd_0, fun _ _ => rfl⟩
  refine W.widen (k := 18 * 0 + 100) (n := 108 * 0 + 1400) (Nat.le_of_ble_eq_true rfl) (Nat.le_of_ble_eq_true rfl) ?_
  refine lw_follows C (fun σ H locs ls hO hr0 hK hl => ?_) (8 + 1) 0 σ0 (by omega) (Nat.zero_le _) hO (fun _ => rfl) rfl H9 _ hK ls hl
  refine lv_iconst (v := nI 0) hx hb dL_law_95 (by decide) ?_
  refine lv_istore (lv' := [(4, .int (nI 0)), (3, .int (bI true)), (2, .int (nI 10)), (1, .ref (ad 0)), (0, .ref (b))]) hx hb dL_law_96 hl (by decide) rfl (fun ls hl => ?_)
  exact lw_turns C ke (60 + 1) 0 σ 10 (by omega) (Nat.zero_le _) hO hr0 H _ hK ls hl
