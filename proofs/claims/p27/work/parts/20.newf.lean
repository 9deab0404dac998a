theorem at_mid {α : Type} (a b : List α) (x : α) (c : List α) : (a ++ (b ++ x :: c))[a.length + b.length]? = some x := by
  rw [List.getElem?_append_right (by omega), List.getElem?_append_right (by omega)]
  simp
def wB (g : GT) (ad : Nat → Nat) (f : Nat → Option Nat) : va_W := wTop g ad σ0 ++ (wRel g (ad 1) (ad 2) (fun _ => false) ++ (wRel g (ad 3) (ad 4) (fun _ => false) ++ (wRel g (ad 5) (ad 6) (fun _ => false) ++ (wLed g (ad 7) (ad 8) (ad 9) (ad 10) (fun _ => 0) (fun _ => 0) (fun _ => false) 0 ++ ([(ad 11, .inl (g.2 2, 8, .inr (.inr (.inr (.inr f)))))] ++ wTim g (ad 12) (ad 13) (ad 14) (fun _ => 0) (fun _ => false) 0)))))
def rwF (ad : Nat → Nat) (i : Nat) : Nat → Option Nat := fun k => if k < i then some (ad (15 + 2 * k)) else none
def rwL (g : GT) (ad : Nat → Nat) : Nat → va_W
  | 0 => []
  | i + 1 => rwL g ad i ++ wRow g (ad (15 + 2 * i)) (ad (16 + 2 * i)) i (fun _ => 0) 0 0
def adN (ad : Nat → Nat) (i q b1 : Nat) : Nat → Nat := fun k => if k = 15 + 2 * i then q else if k = 16 + 2 * i then b1 else ad k
theorem adN_lo {ad : Nat → Nat} {i q b1 k : Nat} (h : k < 15 + 2 * i) : adN ad i q b1 k = ad k := by
  unfold adN
  rw [if_neg (by omega), if_neg (by omega)]
theorem adN_a {ad : Nat → Nat} {i q b1 : Nat} : adN ad i q b1 (15 + 2 * i) = q := by
  unfold adN
  rw [if_pos rfl]
theorem adN_b {ad : Nat → Nat} {i q b1 : Nat} : adN ad i q b1 (16 + 2 * i) = b1 := by
  unfold adN
  rw [if_neg (by omega), if_pos rfl]
theorem rwL_cg {g : GT} {ad ad' : Nat → Nat} : ∀ i, (∀ k, k < 15 + 2 * i → ad' k = ad k) → rwL g ad' i = rwL g ad i
  | 0, _ => rfl
  | i + 1, h => by
    show rwL g ad' i ++ wRow g (ad' (15 + 2 * i)) (ad' (16 + 2 * i)) i (fun _ => 0) 0 0 = rwL g ad i ++ wRow g (ad (15 + 2 * i)) (ad (16 + 2 * i)) i (fun _ => 0) 0 0
    rw [rwL_cg i (fun k hk => h k (by omega)), h (15 + 2 * i) (by omega), h (16 + 2 * i) (by omega)]
theorem wB_cg {g : GT} {ad ad' : Nat → Nat} {f : Nat → Option Nat} (h : ∀ k, k < 15 → ad' k = ad k) : wB g ad' f = wB g ad f := by
  unfold wB wTop
  rw [h 0 (by decide), h 1 (by decide), h 2 (by decide), h 3 (by decide), h 4 (by decide), h 5 (by decide), h 6 (by decide), h 7 (by decide), h 8 (by decide), h 9 (by decide), h 10 (by decide), h 11 (by decide), h 12 (by decide), h 13 (by decide), h 14 (by decide)]
theorem rwF_s {ad : Nat → Nat} {i q b1 : Nat} : va_up (rwF ad i) i (some q) = rwF (adN ad i q b1) (i + 1) := by
  funext k
  unfold va_up
  by_cases h : k = i
  · subst h
    rw [if_pos rfl]
    unfold rwF
    rw [if_pos (Nat.lt_succ_self _), adN_a]
  · rw [if_neg h]
    unfold rwF
    by_cases h2 : k < i
    · rw [if_pos h2, if_pos (by omega), adN_lo (by omega)]
    · rw [if_neg h2, if_neg (by omega)]
theorem rows_more {g : GT} {ad : Nat → Nat} {i q b1 : Nat} : wB g ad (va_up (rwF ad i) i (some q)) ++ (rwL g ad i ++ wRow g q b1 i (fun _ => 0) 0 0) = wB g (adN ad i q b1) (rwF (adN ad i q b1) (i + 1)) ++ rwL g (adN ad i q b1) (i + 1) := by
  rw [rwF_s (b1 := b1), ← wB_cg (ad := ad) (ad' := adN ad i q b1) (fun k hk => adN_lo (by omega))]
  congr 1
  show _ = rwL g (adN ad i q b1) i ++ wRow g (adN ad i q b1 (15 + 2 * i)) (adN ad i q b1 (16 + 2 * i)) i (fun _ => 0) 0 0
  rw [adN_a, adN_b, rwL_cg i (fun k hk => adN_lo hk)]
theorem rwF_0 {ad : Nat → Nat} : (fun _ => none : Nat → Option Nat) = rwF ad 0 := funext fun k => (if_neg (Nat.not_lt_zero k)).symm
theorem arrV_cg {cA : ClassId} {n : Nat} {f f' : Nat → Value} (h : ∀ k, k < n → f k = f' k) : arrV cA n f = arrV cA n f' := by
  unfold arrV
  congr 1
  apply congrArg
  funext j
  exact h j j.2
theorem wF_of_rows {g : GT} {ad : Nat → Nat} {A : Nat → Prop} {H : Heap} (hP : gP g (wB g ad (rwF ad 8) ++ rwL g ad 8) H) (hD : va_D A (wB g ad (rwF ad 8) ++ rwL g ad 8)) : gP g (wF g ad σ0 τ0) H ∧ va_D A (wF g ad σ0 τ0) := by
  have hw : (wB g ad (rwF ad 8) ++ rwL g ad 8).set 11 (ad 11, .inl (g.2 2, 8, .inr (.inr (.inr (.inr (fun i => some (ad (15 + 2 * i)))))))) = wF g ad σ0 τ0 := rfl
  have h11 : (wB g ad (rwF ad 8) ++ rwL g ad 8)[11]? = some (ad 11, .inl (g.2 2, 8, .inr (.inr (.inr (.inr (rwF ad 8)))))) := rfl
  rw [← hw]
  refine ⟨fun k x hx => ?_, hD.set h11⟩
  by_cases hk : k = 11
  · subst hk
    have h1 := hP 11 _ h11
    rw [List.getElem?_set_self (List.getElem?_eq_some_iff.mp h11).1] at hx
    cases hx
    show H[ad 11]? = some (vp_cell _ _)
    have h2 : H[ad 11]? = some (vp_cell _ _) := h1
    rw [h2, vp_cell_q, vp_cell_q]
    congr 1
  · rw [List.getElem?_set_ne (fun z => hk z.symm)] at hx
    exact hP k x hx
theorem mX4_init_10 : Cond.fieldLink RX4 10 "Followrow" "following" "LFollowrow$Relation;" ∈ wsX4_init := by decide +kernel
theorem mX4_init_16 : Cond.fieldLink RX4 16 "Followrow" "muting" "LFollowrow$Relation;" ∈ wsX4_init := by decide +kernel
theorem mX4_init_19 : Cond.fieldLink RX4 19 "Followrow" "blocking" "LFollowrow$Relation;" ∈ wsX4_init := by decide +kernel
theorem mX4_init_25 : Cond.fieldLink RX4 25 "Followrow" "ledger" "LFollowrow$Ledger;" ∈ wsX4_init := by decide +kernel
theorem mX4_init_31 : Cond.fieldLink RX4 31 "Followrow" "rows" "[LFollowrow$Row;" ∈ wsX4_init := by decide +kernel
theorem mX4_init_38 : Cond.fieldLink RX4 38 "Followrow" "timeline" "LFollowrow$Timeline;" ∈ wsX4_init := by decide +kernel
theorem mX4_init_42 : Cond.fieldLink RX4 42 "Followrow" "mark" "I" ∈ wsX4_init := by decide +kernel
theorem mX4_init_46 : Cond.fieldLink RX4 46 "Followrow" "room" "I" ∈ wsX4_init := by decide +kernel
theorem iX4_init_0 : ∀ w ∈ wsX00, w ∈ wsX4_init := by decide +kernel
theorem iX4_init_1 : ∀ w ∈ wsX10, w ∈ wsX4_init := by decide +kernel
theorem iX4_init_2 : ∀ w ∈ wsX20, w ∈ wsX4_init := by decide +kernel
theorem iX4_init_3 : ∀ w ∈ wsX30, w ∈ wsX4_init := by decide +kernel
theorem iX4_init_4 : ∀ w ∈ wsX40, w ∈ wsX4_init := by decide +kernel
set_option maxHeartbeats 4000000 in
set_option maxRecDepth 100000 in
/-- X4_init: a new object -/
theorem c_X4_init (l : Launch) (g : GT) {b sz : Nat} (hbs : b < sz) : nwM l g yX4_init wsX4_init 2 41 30 1312 b [] ([(b, .inr (4, [.null, .null, .null, .null, .null, .null, .int (nI (0)), .int (nI (0))]))]) sz true (fun w => ∃ ad, ad 0 = b ∧ w = wF g ad σ0 τ0) := by
  refine nw_of (cc := cX4_init) (maxL := 2) (ret := none) (by decide) rfl (Nat.le_of_ble_eq_true rfl) hbs (fun p e s m below meth c ls hx hb hr hml hts hown hlocks hin hl hP hE hD hS hA hao => ?_)
  have hin : meth.name = "<init>" := hin
  have hl : lv_has ls 2 [(0, .ref (b))] := hl
  have hown : s.vm.findClass RX4 = some m.cls := hown
  refine lv_aload_n hx hb dX4_init_0 rfl (lv_at hl 0 rfl) ?_
  refine obj_init hx hb hml hown hts (by decide +kernel) (by decide +kernel) (by decide +kernel) hl.1 dX4_init_1 (Nat.le_of_ble_eq_true rfl) (Nat.le_of_ble_eq_true rfl) (Nat.le_of_ble_eq_true rfl) ?_
  refine lv_aload_n hx hb dX4_init_4 rfl (lv_at hl 0 rfl) ?_
  refine na_o (ci := 1) (fs := [.null]) (T := TX1) (N := 1) (ty := tyX1) hx hb hts iX4_init_1 tyX1_ok hown (by decide +kernel) (by decide +kernel) (by decide +kernel) hE hP hD hS hA rfl (fun j hj => by rcases (show j = 0 by omega) with rfl <;> rfl) (Nat.le_of_ble_eq_true rfl) (Nat.le_of_ble_eq_true rfl) dX4_init_5 (fun q5 H hP hD hS => ?_)
  have hP : gP g ([(b, .inr (4, [.null, .null, .null, .null, .null, .null, .int (nI (0)), .int (nI (0))])), (q5, .inr (1, [.null]))]) H := hP
  have hD : va_D (nwA [b] sz) ([(b, .inr (4, [.null, .null, .null, .null, .null, .null, .int (nI (0)), .int (nI (0))])), (q5, .inr (1, [.null]))]) := hD
  refine lv_dup hx hb dX4_init_8 rfl ?_
  refine nw_go (ws := [(b, .inr (4, [.null, .null, .null, .null, .null, .null, .int (nI (0)), .int (nI (0))]))]) (q := q5) (c0 := .inr (1, [.null])) (nn_N (host := RX4) ⟨hx, hb, hml, hown, hts⟩ (c_X1_init l g (b := q5) (sz := H.size) (hP 1 _ rfl).lt) gX4_init_X1_init_n9 rfl (hE.2.1 _ (by simp [nestW])) (by decide +kernel) (by decide +kernel) rfl qX1_init ⟨Nat.le_of_ble_eq_true rfl, Nat.le_of_ble_eq_true rfl⟩ ⟨Nat.le_of_ble_eq_true rfl, Nat.le_of_ble_eq_true rfl⟩ (hP.sub (ws' := [(q5, .inr (1, [.null]))]) [1] rfl) hE rfl (fun z => by cases z) rfl hl.1 rfl (Nat.le_of_ble_eq_true rfl) dX4_init_9) hS hA hP hD (fun w1 H locs hW340 hP hD hS => ?_)
  obtain ⟨q5_1, rfl⟩ := hW340
  have hP : gP g ([(b, .inr (4, [.null, .null, .null, .null, .null, .null, .int (nI (0)), .int (nI (0))])), (q5, .inr (1, [.ref (q5_1)])), (q5_1, .inl (g.2 1, 64, .inl (zc (fun _ => false))))]) H := hP
  have hD : va_D (nwA [b] sz) ([(b, .inr (4, [.null, .null, .null, .null, .null, .null, .int (nI (0)), .int (nI (0))])), (q5, .inr (1, [.ref (q5_1)])), (q5_1, .inl (g.2 1, 64, .inl (zc (fun _ => false))))]) := hD
  refine pfF (q0 := 0) (ci := 4) (k := 0) (ws' := [(b, .inr (4, [.ref (q5), .null, .null, .null, .null, .null, .int (nI (0)), .int (nI (0))])), (q5, .inr (1, [.ref (q5_1)])), (q5_1, .inl (g.2 1, 64, .inl (zc (fun _ => false))))]) (ty := tyX4 0) hx hb hts iX4_init_4 hown hE hP hD hS rfl rfl (by decide) tyX4_ok nmX4 mX4_init_10 rfl hin rfl (tyX4_ok 0 (by decide)) rfl rfl (Nat.le_of_ble_eq_true rfl) rfl dX4_init_12 (fun H locs hP hD hS => ?_)
  refine lv_aload_n hx hb dX4_init_15 rfl (lv_at hl 0 rfl) ?_
  refine na_o (ci := 1) (fs := [.null]) (T := TX1) (N := 1) (ty := tyX1) hx hb hts iX4_init_1 tyX1_ok hown (by decide +kernel) (by decide +kernel) (by decide +kernel) hE hP hD hS hA rfl (fun j hj => by rcases (show j = 0 by omega) with rfl <;> rfl) (Nat.le_of_ble_eq_true rfl) (Nat.le_of_ble_eq_true rfl) dX4_init_16 (fun q16 H hP hD hS => ?_)
  have hP : gP g ([(b, .inr (4, [.ref (q5), .null, .null, .null, .null, .null, .int (nI (0)), .int (nI (0))])), (q5, .inr (1, [.ref (q5_1)])), (q5_1, .inl (g.2 1, 64, .inl (zc (fun _ => false)))), (q16, .inr (1, [.null]))]) H := hP
  have hD : va_D (nwA [b] sz) ([(b, .inr (4, [.ref (q5), .null, .null, .null, .null, .null, .int (nI (0)), .int (nI (0))])), (q5, .inr (1, [.ref (q5_1)])), (q5_1, .inl (g.2 1, 64, .inl (zc (fun _ => false)))), (q16, .inr (1, [.null]))]) := hD
  refine lv_dup hx hb dX4_init_19 rfl ?_
  refine nw_go (ws := [(b, .inr (4, [.ref (q5), .null, .null, .null, .null, .null, .int (nI (0)), .int (nI (0))])), (q5, .inr (1, [.ref (q5_1)])), (q5_1, .inl (g.2 1, 64, .inl (zc (fun _ => false))))]) (q := q16) (c0 := .inr (1, [.null])) (nn_N (host := RX4) ⟨hx, hb, hml, hown, hts⟩ (c_X1_init l g (b := q16) (sz := H.size) (hP 3 _ rfl).lt) gX4_init_X1_init_n9 rfl (hE.2.1 _ (by simp [nestW])) (by decide +kernel) (by decide +kernel) rfl qX1_init ⟨Nat.le_of_ble_eq_true rfl, Nat.le_of_ble_eq_true rfl⟩ ⟨Nat.le_of_ble_eq_true rfl, Nat.le_of_ble_eq_true rfl⟩ (hP.sub (ws' := [(q16, .inr (1, [.null]))]) [3] rfl) hE rfl (fun z => by cases z) rfl hl.1 rfl (Nat.le_of_ble_eq_true rfl) dX4_init_20) hS hA hP hD (fun w1 H locs hW341 hP hD hS => ?_)
  obtain ⟨q16_1, rfl⟩ := hW341
  have hP : gP g ([(b, .inr (4, [.ref (q5), .null, .null, .null, .null, .null, .int (nI (0)), .int (nI (0))])), (q5, .inr (1, [.ref (q5_1)])), (q5_1, .inl (g.2 1, 64, .inl (zc (fun _ => false)))), (q16, .inr (1, [.ref (q16_1)])), (q16_1, .inl (g.2 1, 64, .inl (zc (fun _ => false))))]) H := hP
  have hD : va_D (nwA [b] sz) ([(b, .inr (4, [.ref (q5), .null, .null, .null, .null, .null, .int (nI (0)), .int (nI (0))])), (q5, .inr (1, [.ref (q5_1)])), (q5_1, .inl (g.2 1, 64, .inl (zc (fun _ => false)))), (q16, .inr (1, [.ref (q16_1)])), (q16_1, .inl (g.2 1, 64, .inl (zc (fun _ => false))))]) := hD
  refine pfF (q0 := 0) (ci := 4) (k := 1) (ws' := [(b, .inr (4, [.ref (q5), .ref (q16), .null, .null, .null, .null, .int (nI (0)), .int (nI (0))])), (q5, .inr (1, [.ref (q5_1)])), (q5_1, .inl (g.2 1, 64, .inl (zc (fun _ => false)))), (q16, .inr (1, [.ref (q16_1)])), (q16_1, .inl (g.2 1, 64, .inl (zc (fun _ => false))))]) (ty := tyX4 1) hx hb hts iX4_init_4 hown hE hP hD hS rfl rfl (by decide) tyX4_ok nmX4 mX4_init_16 rfl hin rfl (tyX4_ok 1 (by decide)) rfl rfl (Nat.le_of_ble_eq_true rfl) rfl dX4_init_23 (fun H locs hP hD hS => ?_)
  refine lv_aload_n hx hb dX4_init_26 rfl (lv_at hl 0 rfl) ?_
  refine na_o (ci := 1) (fs := [.null]) (T := TX1) (N := 1) (ty := tyX1) hx hb hts iX4_init_1 tyX1_ok hown (by decide +kernel) (by decide +kernel) (by decide +kernel) hE hP hD hS hA rfl (fun j hj => by rcases (show j = 0 by omega) with rfl <;> rfl) (Nat.le_of_ble_eq_true rfl) (Nat.le_of_ble_eq_true rfl) dX4_init_27 (fun q27 H hP hD hS => ?_)
  have hP : gP g ([(b, .inr (4, [.ref (q5), .ref (q16), .null, .null, .null, .null, .int (nI (0)), .int (nI (0))])), (q5, .inr (1, [.ref (q5_1)])), (q5_1, .inl (g.2 1, 64, .inl (zc (fun _ => false)))), (q16, .inr (1, [.ref (q16_1)])), (q16_1, .inl (g.2 1, 64, .inl (zc (fun _ => false)))), (q27, .inr (1, [.null]))]) H := hP
  have hD : va_D (nwA [b] sz) ([(b, .inr (4, [.ref (q5), .ref (q16), .null, .null, .null, .null, .int (nI (0)), .int (nI (0))])), (q5, .inr (1, [.ref (q5_1)])), (q5_1, .inl (g.2 1, 64, .inl (zc (fun _ => false)))), (q16, .inr (1, [.ref (q16_1)])), (q16_1, .inl (g.2 1, 64, .inl (zc (fun _ => false)))), (q27, .inr (1, [.null]))]) := hD
  refine lv_dup hx hb dX4_init_30 rfl ?_
  refine nw_go (ws := [(b, .inr (4, [.ref (q5), .ref (q16), .null, .null, .null, .null, .int (nI (0)), .int (nI (0))])), (q5, .inr (1, [.ref (q5_1)])), (q5_1, .inl (g.2 1, 64, .inl (zc (fun _ => false)))), (q16, .inr (1, [.ref (q16_1)])), (q16_1, .inl (g.2 1, 64, .inl (zc (fun _ => false))))]) (q := q27) (c0 := .inr (1, [.null])) (nn_N (host := RX4) ⟨hx, hb, hml, hown, hts⟩ (c_X1_init l g (b := q27) (sz := H.size) (hP 5 _ rfl).lt) gX4_init_X1_init_n9 rfl (hE.2.1 _ (by simp [nestW])) (by decide +kernel) (by decide +kernel) rfl qX1_init ⟨Nat.le_of_ble_eq_true rfl, Nat.le_of_ble_eq_true rfl⟩ ⟨Nat.le_of_ble_eq_true rfl, Nat.le_of_ble_eq_true rfl⟩ (hP.sub (ws' := [(q27, .inr (1, [.null]))]) [5] rfl) hE rfl (fun z => by cases z) rfl hl.1 rfl (Nat.le_of_ble_eq_true rfl) dX4_init_31) hS hA hP hD (fun w1 H locs hW342 hP hD hS => ?_)
  obtain ⟨q27_1, rfl⟩ := hW342
  have hP : gP g ([(b, .inr (4, [.ref (q5), .ref (q16), .null, .null, .null, .null, .int (nI (0)), .int (nI (0))])), (q5, .inr (1, [.ref (q5_1)])), (q5_1, .inl (g.2 1, 64, .inl (zc (fun _ => false)))), (q16, .inr (1, [.ref (q16_1)])), (q16_1, .inl (g.2 1, 64, .inl (zc (fun _ => false)))), (q27, .inr (1, [.ref (q27_1)])), (q27_1, .inl (g.2 1, 64, .inl (zc (fun _ => false))))]) H := hP
  have hD : va_D (nwA [b] sz) ([(b, .inr (4, [.ref (q5), .ref (q16), .null, .null, .null, .null, .int (nI (0)), .int (nI (0))])), (q5, .inr (1, [.ref (q5_1)])), (q5_1, .inl (g.2 1, 64, .inl (zc (fun _ => false)))), (q16, .inr (1, [.ref (q16_1)])), (q16_1, .inl (g.2 1, 64, .inl (zc (fun _ => false)))), (q27, .inr (1, [.ref (q27_1)])), (q27_1, .inl (g.2 1, 64, .inl (zc (fun _ => false))))]) := hD
  refine pfF (q0 := 0) (ci := 4) (k := 2) (ws' := [(b, .inr (4, [.ref (q5), .ref (q16), .ref (q27), .null, .null, .null, .int (nI (0)), .int (nI (0))])), (q5, .inr (1, [.ref (q5_1)])), (q5_1, .inl (g.2 1, 64, .inl (zc (fun _ => false)))), (q16, .inr (1, [.ref (q16_1)])), (q16_1, .inl (g.2 1, 64, .inl (zc (fun _ => false)))), (q27, .inr (1, [.ref (q27_1)])), (q27_1, .inl (g.2 1, 64, .inl (zc (fun _ => false))))]) (ty := tyX4 2) hx hb hts iX4_init_4 hown hE hP hD hS rfl rfl (by decide) tyX4_ok nmX4 mX4_init_19 rfl hin rfl (tyX4_ok 2 (by decide)) rfl rfl (Nat.le_of_ble_eq_true rfl) rfl dX4_init_34 (fun H locs hP hD hS => ?_)
  refine lv_aload_n hx hb dX4_init_37 rfl (lv_at hl 0 rfl) ?_
  refine na_o (ci := 0) (fs := [.null, .null, .null, .int (nI (0))]) (T := TX0) (N := 4) (ty := tyX0) hx hb hts iX4_init_0 tyX0_ok hown (by decide +kernel) (by decide +kernel) (by decide +kernel) hE hP hD hS hA rfl (fun j hj => by rcases (show j = 0 ∨ j = 1 ∨ j = 2 ∨ j = 3 by omega) with rfl | rfl | rfl | rfl <;> rfl) (Nat.le_of_ble_eq_true rfl) (Nat.le_of_ble_eq_true rfl) dX4_init_38 (fun q38 H hP hD hS => ?_)
  have hP : gP g ([(b, .inr (4, [.ref (q5), .ref (q16), .ref (q27), .null, .null, .null, .int (nI (0)), .int (nI (0))])), (q5, .inr (1, [.ref (q5_1)])), (q5_1, .inl (g.2 1, 64, .inl (zc (fun _ => false)))), (q16, .inr (1, [.ref (q16_1)])), (q16_1, .inl (g.2 1, 64, .inl (zc (fun _ => false)))), (q27, .inr (1, [.ref (q27_1)])), (q27_1, .inl (g.2 1, 64, .inl (zc (fun _ => false)))), (q38, .inr (0, [.null, .null, .null, .int (nI (0))]))]) H := hP
  have hD : va_D (nwA [b] sz) ([(b, .inr (4, [.ref (q5), .ref (q16), .ref (q27), .null, .null, .null, .int (nI (0)), .int (nI (0))])), (q5, .inr (1, [.ref (q5_1)])), (q5_1, .inl (g.2 1, 64, .inl (zc (fun _ => false)))), (q16, .inr (1, [.ref (q16_1)])), (q16_1, .inl (g.2 1, 64, .inl (zc (fun _ => false)))), (q27, .inr (1, [.ref (q27_1)])), (q27_1, .inl (g.2 1, 64, .inl (zc (fun _ => false)))), (q38, .inr (0, [.null, .null, .null, .int (nI (0))]))]) := hD
  refine lv_dup hx hb dX4_init_41 rfl ?_
  refine nw_go (ws := [(b, .inr (4, [.ref (q5), .ref (q16), .ref (q27), .null, .null, .null, .int (nI (0)), .int (nI (0))])), (q5, .inr (1, [.ref (q5_1)])), (q5_1, .inl (g.2 1, 64, .inl (zc (fun _ => false)))), (q16, .inr (1, [.ref (q16_1)])), (q16_1, .inl (g.2 1, 64, .inl (zc (fun _ => false)))), (q27, .inr (1, [.ref (q27_1)])), (q27_1, .inl (g.2 1, 64, .inl (zc (fun _ => false))))]) (q := q38) (c0 := .inr (0, [.null, .null, .null, .int (nI (0))])) (nn_N (host := RX4) ⟨hx, hb, hml, hown, hts⟩ (c_X0_init l g (b := q38) (sz := H.size) (hP 7 _ rfl).lt) gX4_init_X0_init_n24 rfl (hE.2.1 _ (by simp [nestW])) (by decide +kernel) (by decide +kernel) rfl qX0_init ⟨Nat.le_of_ble_eq_true rfl, Nat.le_of_ble_eq_true rfl⟩ ⟨Nat.le_of_ble_eq_true rfl, Nat.le_of_ble_eq_true rfl⟩ (hP.sub (ws' := [(q38, .inr (0, [.null, .null, .null, .int (nI (0))]))]) [7] rfl) hE rfl (fun z => by cases z) rfl hl.1 rfl (Nat.le_of_ble_eq_true rfl) dX4_init_42) hS hA hP hD (fun w1 H locs hW343 hP hD hS => ?_)
  obtain ⟨q38_1, q38_2, q38_3, rfl⟩ := hW343
  have hP : gP g ([(b, .inr (4, [.ref (q5), .ref (q16), .ref (q27), .null, .null, .null, .int (nI (0)), .int (nI (0))])), (q5, .inr (1, [.ref (q5_1)])), (q5_1, .inl (g.2 1, 64, .inl (zc (fun _ => false)))), (q16, .inr (1, [.ref (q16_1)])), (q16_1, .inl (g.2 1, 64, .inl (zc (fun _ => false)))), (q27, .inr (1, [.ref (q27_1)])), (q27_1, .inl (g.2 1, 64, .inl (zc (fun _ => false)))), (q38, .inr (0, [.ref (q38_1), .ref (q38_2), .ref (q38_3), .int (nI (0))])), (q38_1, .inl (g.2 0, 150, .inl (nc (fun _ => 0)))), (q38_2, .inl (g.2 0, 150, .inl (nc (fun _ => 0)))), (q38_3, .inl (g.2 1, 150, .inl (zc (fun _ => false))))]) H := hP
  have hD : va_D (nwA [b] sz) ([(b, .inr (4, [.ref (q5), .ref (q16), .ref (q27), .null, .null, .null, .int (nI (0)), .int (nI (0))])), (q5, .inr (1, [.ref (q5_1)])), (q5_1, .inl (g.2 1, 64, .inl (zc (fun _ => false)))), (q16, .inr (1, [.ref (q16_1)])), (q16_1, .inl (g.2 1, 64, .inl (zc (fun _ => false)))), (q27, .inr (1, [.ref (q27_1)])), (q27_1, .inl (g.2 1, 64, .inl (zc (fun _ => false)))), (q38, .inr (0, [.ref (q38_1), .ref (q38_2), .ref (q38_3), .int (nI (0))])), (q38_1, .inl (g.2 0, 150, .inl (nc (fun _ => 0)))), (q38_2, .inl (g.2 0, 150, .inl (nc (fun _ => 0)))), (q38_3, .inl (g.2 1, 150, .inl (zc (fun _ => false))))]) := hD
  refine pfF (q0 := 0) (ci := 4) (k := 3) (ws' := [(b, .inr (4, [.ref (q5), .ref (q16), .ref (q27), .ref (q38), .null, .null, .int (nI (0)), .int (nI (0))])), (q5, .inr (1, [.ref (q5_1)])), (q5_1, .inl (g.2 1, 64, .inl (zc (fun _ => false)))), (q16, .inr (1, [.ref (q16_1)])), (q16_1, .inl (g.2 1, 64, .inl (zc (fun _ => false)))), (q27, .inr (1, [.ref (q27_1)])), (q27_1, .inl (g.2 1, 64, .inl (zc (fun _ => false)))), (q38, .inr (0, [.ref (q38_1), .ref (q38_2), .ref (q38_3), .int (nI (0))])), (q38_1, .inl (g.2 0, 150, .inl (nc (fun _ => 0)))), (q38_2, .inl (g.2 0, 150, .inl (nc (fun _ => 0)))), (q38_3, .inl (g.2 1, 150, .inl (zc (fun _ => false))))]) (ty := tyX4 3) hx hb hts iX4_init_4 hown hE hP hD hS rfl rfl (by decide) tyX4_ok nmX4 mX4_init_25 rfl hin rfl (tyX4_ok 3 (by decide)) rfl rfl (Nat.le_of_ble_eq_true rfl) rfl dX4_init_45 (fun H locs hP hD hS => ?_)
  refine lv_aload_n hx hb dX4_init_48 rfl (lv_at hl 0 rfl) ?_
  refine lv_bipush (v := nI (8)) hx hb dX4_init_49 (by decide) ?_
  refine na_q hx hb hts hown (by decide +kernel) (hao rfl) hE hP hD hS hA (by decide) (Nat.le_of_ble_eq_true rfl) (Nat.le_of_ble_eq_true rfl) dX4_init_51 (fun q51 H hP hD hS => ?_)
  have hP : gP g ([(b, .inr (4, [.ref (q5), .ref (q16), .ref (q27), .ref (q38), .null, .null, .int (nI (0)), .int (nI (0))])), (q5, .inr (1, [.ref (q5_1)])), (q5_1, .inl (g.2 1, 64, .inl (zc (fun _ => false)))), (q16, .inr (1, [.ref (q16_1)])), (q16_1, .inl (g.2 1, 64, .inl (zc (fun _ => false)))), (q27, .inr (1, [.ref (q27_1)])), (q27_1, .inl (g.2 1, 64, .inl (zc (fun _ => false)))), (q38, .inr (0, [.ref (q38_1), .ref (q38_2), .ref (q38_3), .int (nI (0))])), (q38_1, .inl (g.2 0, 150, .inl (nc (fun _ => 0)))), (q38_2, .inl (g.2 0, 150, .inl (nc (fun _ => 0)))), (q38_3, .inl (g.2 1, 150, .inl (zc (fun _ => false)))), (q51, .inl (g.2 2, 8, .inr (.inr (.inr (.inr (fun _ => none))))))]) H := hP
  have hD : va_D (nwA [b] sz) ([(b, .inr (4, [.ref (q5), .ref (q16), .ref (q27), .ref (q38), .null, .null, .int (nI (0)), .int (nI (0))])), (q5, .inr (1, [.ref (q5_1)])), (q5_1, .inl (g.2 1, 64, .inl (zc (fun _ => false)))), (q16, .inr (1, [.ref (q16_1)])), (q16_1, .inl (g.2 1, 64, .inl (zc (fun _ => false)))), (q27, .inr (1, [.ref (q27_1)])), (q27_1, .inl (g.2 1, 64, .inl (zc (fun _ => false)))), (q38, .inr (0, [.ref (q38_1), .ref (q38_2), .ref (q38_3), .int (nI (0))])), (q38_1, .inl (g.2 0, 150, .inl (nc (fun _ => 0)))), (q38_2, .inl (g.2 0, 150, .inl (nc (fun _ => 0)))), (q38_3, .inl (g.2 1, 150, .inl (zc (fun _ => false)))), (q51, .inl (g.2 2, 8, .inr (.inr (.inr (.inr (fun _ => none))))))]) := hD
  refine pfF (q0 := 0) (ci := 4) (k := 4) (ws' := [(b, .inr (4, [.ref (q5), .ref (q16), .ref (q27), .ref (q38), .ref (q51), .null, .int (nI (0)), .int (nI (0))])), (q5, .inr (1, [.ref (q5_1)])), (q5_1, .inl (g.2 1, 64, .inl (zc (fun _ => false)))), (q16, .inr (1, [.ref (q16_1)])), (q16_1, .inl (g.2 1, 64, .inl (zc (fun _ => false)))), (q27, .inr (1, [.ref (q27_1)])), (q27_1, .inl (g.2 1, 64, .inl (zc (fun _ => false)))), (q38, .inr (0, [.ref (q38_1), .ref (q38_2), .ref (q38_3), .int (nI (0))])), (q38_1, .inl (g.2 0, 150, .inl (nc (fun _ => 0)))), (q38_2, .inl (g.2 0, 150, .inl (nc (fun _ => 0)))), (q38_3, .inl (g.2 1, 150, .inl (zc (fun _ => false)))), (q51, .inl (g.2 2, 8, .inr (.inr (.inr (.inr (fun _ => none))))))]) (ty := tyX4 4) hx hb hts iX4_init_4 hown hE hP hD hS rfl rfl (by decide) tyX4_ok nmX4 mX4_init_31 rfl hin rfl (tyX4_ok 4 (by decide)) rfl rfl (Nat.le_of_ble_eq_true rfl) rfl dX4_init_54 (fun H locs hP hD hS => ?_)
  refine lv_aload_n hx hb dX4_init_57 rfl (lv_at hl 0 rfl) ?_
  refine na_o (ci := 3) (fs := [.null, .null, .int (nI (0))]) (T := TX3) (N := 3) (ty := tyX3) hx hb hts iX4_init_3 tyX3_ok hown (by decide +kernel) (by decide +kernel) (by decide +kernel) hE hP hD hS hA rfl (fun j hj => by rcases (show j = 0 ∨ j = 1 ∨ j = 2 by omega) with rfl | rfl | rfl <;> rfl) (Nat.le_of_ble_eq_true rfl) (Nat.le_of_ble_eq_true rfl) dX4_init_58 (fun q58 H hP hD hS => ?_)
  have hP : gP g ([(b, .inr (4, [.ref (q5), .ref (q16), .ref (q27), .ref (q38), .ref (q51), .null, .int (nI (0)), .int (nI (0))])), (q5, .inr (1, [.ref (q5_1)])), (q5_1, .inl (g.2 1, 64, .inl (zc (fun _ => false)))), (q16, .inr (1, [.ref (q16_1)])), (q16_1, .inl (g.2 1, 64, .inl (zc (fun _ => false)))), (q27, .inr (1, [.ref (q27_1)])), (q27_1, .inl (g.2 1, 64, .inl (zc (fun _ => false)))), (q38, .inr (0, [.ref (q38_1), .ref (q38_2), .ref (q38_3), .int (nI (0))])), (q38_1, .inl (g.2 0, 150, .inl (nc (fun _ => 0)))), (q38_2, .inl (g.2 0, 150, .inl (nc (fun _ => 0)))), (q38_3, .inl (g.2 1, 150, .inl (zc (fun _ => false)))), (q51, .inl (g.2 2, 8, .inr (.inr (.inr (.inr (fun _ => none)))))), (q58, .inr (3, [.null, .null, .int (nI (0))]))]) H := hP
  have hD : va_D (nwA [b] sz) ([(b, .inr (4, [.ref (q5), .ref (q16), .ref (q27), .ref (q38), .ref (q51), .null, .int (nI (0)), .int (nI (0))])), (q5, .inr (1, [.ref (q5_1)])), (q5_1, .inl (g.2 1, 64, .inl (zc (fun _ => false)))), (q16, .inr (1, [.ref (q16_1)])), (q16_1, .inl (g.2 1, 64, .inl (zc (fun _ => false)))), (q27, .inr (1, [.ref (q27_1)])), (q27_1, .inl (g.2 1, 64, .inl (zc (fun _ => false)))), (q38, .inr (0, [.ref (q38_1), .ref (q38_2), .ref (q38_3), .int (nI (0))])), (q38_1, .inl (g.2 0, 150, .inl (nc (fun _ => 0)))), (q38_2, .inl (g.2 0, 150, .inl (nc (fun _ => 0)))), (q38_3, .inl (g.2 1, 150, .inl (zc (fun _ => false)))), (q51, .inl (g.2 2, 8, .inr (.inr (.inr (.inr (fun _ => none)))))), (q58, .inr (3, [.null, .null, .int (nI (0))]))]) := hD
  refine lv_dup hx hb dX4_init_61 rfl ?_
  refine nw_go (ws := [(b, .inr (4, [.ref (q5), .ref (q16), .ref (q27), .ref (q38), .ref (q51), .null, .int (nI (0)), .int (nI (0))])), (q5, .inr (1, [.ref (q5_1)])), (q5_1, .inl (g.2 1, 64, .inl (zc (fun _ => false)))), (q16, .inr (1, [.ref (q16_1)])), (q16_1, .inl (g.2 1, 64, .inl (zc (fun _ => false)))), (q27, .inr (1, [.ref (q27_1)])), (q27_1, .inl (g.2 1, 64, .inl (zc (fun _ => false)))), (q38, .inr (0, [.ref (q38_1), .ref (q38_2), .ref (q38_3), .int (nI (0))])), (q38_1, .inl (g.2 0, 150, .inl (nc (fun _ => 0)))), (q38_2, .inl (g.2 0, 150, .inl (nc (fun _ => 0)))), (q38_3, .inl (g.2 1, 150, .inl (zc (fun _ => false)))), (q51, .inl (g.2 2, 8, .inr (.inr (.inr (.inr (fun _ => none))))))]) (q := q58) (c0 := .inr (3, [.null, .null, .int (nI (0))])) (nn_N (host := RX4) ⟨hx, hb, hml, hown, hts⟩ (c_X3_init l g (b := q58) (sz := H.size) (hP 12 _ rfl).lt) gX4_init_X3_init_n37 rfl (hE.2.1 _ (by simp [nestW])) (by decide +kernel) (by decide +kernel) rfl qX3_init ⟨Nat.le_of_ble_eq_true rfl, Nat.le_of_ble_eq_true rfl⟩ ⟨Nat.le_of_ble_eq_true rfl, Nat.le_of_ble_eq_true rfl⟩ (hP.sub (ws' := [(q58, .inr (3, [.null, .null, .int (nI (0))]))]) [12] rfl) hE rfl (fun z => by cases z) rfl hl.1 rfl (Nat.le_of_ble_eq_true rfl) dX4_init_62) hS hA hP hD (fun w1 H locs hW344 hP hD hS => ?_)
  obtain ⟨q58_1, q58_2, rfl⟩ := hW344
  have hP : gP g ([(b, .inr (4, [.ref (q5), .ref (q16), .ref (q27), .ref (q38), .ref (q51), .null, .int (nI (0)), .int (nI (0))])), (q5, .inr (1, [.ref (q5_1)])), (q5_1, .inl (g.2 1, 64, .inl (zc (fun _ => false)))), (q16, .inr (1, [.ref (q16_1)])), (q16_1, .inl (g.2 1, 64, .inl (zc (fun _ => false)))), (q27, .inr (1, [.ref (q27_1)])), (q27_1, .inl (g.2 1, 64, .inl (zc (fun _ => false)))), (q38, .inr (0, [.ref (q38_1), .ref (q38_2), .ref (q38_3), .int (nI (0))])), (q38_1, .inl (g.2 0, 150, .inl (nc (fun _ => 0)))), (q38_2, .inl (g.2 0, 150, .inl (nc (fun _ => 0)))), (q38_3, .inl (g.2 1, 150, .inl (zc (fun _ => false)))), (q51, .inl (g.2 2, 8, .inr (.inr (.inr (.inr (fun _ => none)))))), (q58, .inr (3, [.ref (q58_1), .ref (q58_2), .int (nI (0))])), (q58_1, .inl (g.2 0, 150, .inl (fun _ => 0))), (q58_2, .inl (g.2 1, 150, .inl (zc (fun _ => false))))]) H := hP
  have hD : va_D (nwA [b] sz) ([(b, .inr (4, [.ref (q5), .ref (q16), .ref (q27), .ref (q38), .ref (q51), .null, .int (nI (0)), .int (nI (0))])), (q5, .inr (1, [.ref (q5_1)])), (q5_1, .inl (g.2 1, 64, .inl (zc (fun _ => false)))), (q16, .inr (1, [.ref (q16_1)])), (q16_1, .inl (g.2 1, 64, .inl (zc (fun _ => false)))), (q27, .inr (1, [.ref (q27_1)])), (q27_1, .inl (g.2 1, 64, .inl (zc (fun _ => false)))), (q38, .inr (0, [.ref (q38_1), .ref (q38_2), .ref (q38_3), .int (nI (0))])), (q38_1, .inl (g.2 0, 150, .inl (nc (fun _ => 0)))), (q38_2, .inl (g.2 0, 150, .inl (nc (fun _ => 0)))), (q38_3, .inl (g.2 1, 150, .inl (zc (fun _ => false)))), (q51, .inl (g.2 2, 8, .inr (.inr (.inr (.inr (fun _ => none)))))), (q58, .inr (3, [.ref (q58_1), .ref (q58_2), .int (nI (0))])), (q58_1, .inl (g.2 0, 150, .inl (fun _ => 0))), (q58_2, .inl (g.2 1, 150, .inl (zc (fun _ => false))))]) := hD
  refine pfF (q0 := 0) (ci := 4) (k := 5) (ws' := [(b, .inr (4, [.ref (q5), .ref (q16), .ref (q27), .ref (q38), .ref (q51), .ref (q58), .int (nI (0)), .int (nI (0))])), (q5, .inr (1, [.ref (q5_1)])), (q5_1, .inl (g.2 1, 64, .inl (zc (fun _ => false)))), (q16, .inr (1, [.ref (q16_1)])), (q16_1, .inl (g.2 1, 64, .inl (zc (fun _ => false)))), (q27, .inr (1, [.ref (q27_1)])), (q27_1, .inl (g.2 1, 64, .inl (zc (fun _ => false)))), (q38, .inr (0, [.ref (q38_1), .ref (q38_2), .ref (q38_3), .int (nI (0))])), (q38_1, .inl (g.2 0, 150, .inl (nc (fun _ => 0)))), (q38_2, .inl (g.2 0, 150, .inl (nc (fun _ => 0)))), (q38_3, .inl (g.2 1, 150, .inl (zc (fun _ => false)))), (q51, .inl (g.2 2, 8, .inr (.inr (.inr (.inr (fun _ => none)))))), (q58, .inr (3, [.ref (q58_1), .ref (q58_2), .int (nI (0))])), (q58_1, .inl (g.2 0, 150, .inl (fun _ => 0))), (q58_2, .inl (g.2 1, 150, .inl (zc (fun _ => false))))]) (ty := tyX4 5) hx hb hts iX4_init_4 hown hE hP hD hS rfl rfl (by decide) tyX4_ok nmX4 mX4_init_38 rfl hin rfl (tyX4_ok 5 (by decide)) rfl rfl (Nat.le_of_ble_eq_true rfl) rfl dX4_init_65 (fun H locs hP hD hS => ?_)
  refine lv_aload_n hx hb dX4_init_68 rfl (lv_at hl 0 rfl) ?_
  refine lv_iconst (v := nI (3)) hx hb dX4_init_69 (by decide) ?_
  refine pf (q0 := 0) (ci := 4) (k := 6) (ws' := [(b, .inr (4, [.ref (q5), .ref (q16), .ref (q27), .ref (q38), .ref (q51), .ref (q58), .int (nI (3)), .int (nI (0))])), (q5, .inr (1, [.ref (q5_1)])), (q5_1, .inl (g.2 1, 64, .inl (zc (fun _ => false)))), (q16, .inr (1, [.ref (q16_1)])), (q16_1, .inl (g.2 1, 64, .inl (zc (fun _ => false)))), (q27, .inr (1, [.ref (q27_1)])), (q27_1, .inl (g.2 1, 64, .inl (zc (fun _ => false)))), (q38, .inr (0, [.ref (q38_1), .ref (q38_2), .ref (q38_3), .int (nI (0))])), (q38_1, .inl (g.2 0, 150, .inl (nc (fun _ => 0)))), (q38_2, .inl (g.2 0, 150, .inl (nc (fun _ => 0)))), (q38_3, .inl (g.2 1, 150, .inl (zc (fun _ => false)))), (q51, .inl (g.2 2, 8, .inr (.inr (.inr (.inr (fun _ => none)))))), (q58, .inr (3, [.ref (q58_1), .ref (q58_2), .int (nI (0))])), (q58_1, .inl (g.2 0, 150, .inl (fun _ => 0))), (q58_2, .inl (g.2 1, 150, .inl (zc (fun _ => false))))]) hx hb hts iX4_init_4 hown hE hP hD hS rfl rfl (by decide) tyX4_ok nmX4 mX4_init_42 rfl (by decide +kernel) (Nat.le_of_ble_eq_true rfl) rfl dX4_init_70 (fun H locs hP hD hS => ?_)
  refine lv_aload_n hx hb dX4_init_73 rfl (lv_at hl 0 rfl) ?_
  refine lv_bipush (v := nI (10)) hx hb dX4_init_74 (by decide) ?_
  refine pf (q0 := 0) (ci := 4) (k := 7) (ws' := [(b, .inr (4, [.ref (q5), .ref (q16), .ref (q27), .ref (q38), .ref (q51), .ref (q58), .int (nI (3)), .int (nI (10))])), (q5, .inr (1, [.ref (q5_1)])), (q5_1, .inl (g.2 1, 64, .inl (zc (fun _ => false)))), (q16, .inr (1, [.ref (q16_1)])), (q16_1, .inl (g.2 1, 64, .inl (zc (fun _ => false)))), (q27, .inr (1, [.ref (q27_1)])), (q27_1, .inl (g.2 1, 64, .inl (zc (fun _ => false)))), (q38, .inr (0, [.ref (q38_1), .ref (q38_2), .ref (q38_3), .int (nI (0))])), (q38_1, .inl (g.2 0, 150, .inl (nc (fun _ => 0)))), (q38_2, .inl (g.2 0, 150, .inl (nc (fun _ => 0)))), (q38_3, .inl (g.2 1, 150, .inl (zc (fun _ => false)))), (q51, .inl (g.2 2, 8, .inr (.inr (.inr (.inr (fun _ => none)))))), (q58, .inr (3, [.ref (q58_1), .ref (q58_2), .int (nI (0))])), (q58_1, .inl (g.2 0, 150, .inl (fun _ => 0))), (q58_2, .inl (g.2 1, 150, .inl (zc (fun _ => false))))]) hx hb hts iX4_init_4 hown hE hP hD hS rfl rfl (by decide) tyX4_ok nmX4 mX4_init_46 rfl (by decide +kernel) (Nat.le_of_ble_eq_true rfl) rfl dX4_init_76 (fun H locs hP hD hS => ?_)
  refine lv_iconst (v := nI (0)) hx hb dX4_init_79 (by decide) ?_
  refine lv_istore_n (lv' := [(1, .int (nI (0))), (0, .ref (b))]) hx hb dX4_init_80 rfl hl (by decide) rfl (fun ls hl => ?_)
  have lp : ∀ (n9 i : Nat) (ad : Nat → Nat), 8 - i < n9 → i ≤ 8 → ad 0 = b → ∀ (H : Heap) (locs : List Loc), gP g (wB g ad (rwF ad i) ++ rwL g ad i) H → va_D (nwA [b] sz) (wB g ad (rwF ad i) ++ rwL g ad i) → va_S (nwA [b] sz) s.heap H locs → ∀ ls : Array Slot, lv_has ls 2 [(0, .ref (ad 0)), (1, .int (nI i))] → W p l e ({ frames := 2, cells := 30, slots := 1312, locals := 41 } : Room) s m ([.ref (b)] : List Value).toArray below meth c H locs (14 + 2 * i) (960 + 44 * i) (MQ below (nwQ g (fun w => ∃ ad, ad 0 = b ∧ w = wF g ad σ0 τ0) (nwA [b] sz)) ([.ref (b)] : List Value).toArray s 30 1312 (nwA [b] sz)) (F0 m 81 ls []) := by
    intro n9
    induction n9 with
    | zero => intro i ad h; omega
    | succ n9 ih =>
      intro i ad h9 hi hb0 H locs hP hD hS ls hl
      refine lv_iload_n hx hb dX4_init_81 rfl (lv_at hl 1 rfl) ?_
      refine lv_bipush (v := nI (8)) hx hb dX4_init_82 (by decide) ?_
      refine br_geN (a := i) (b := 8) (tgt := 107) hx hb (by omega) (by omega) dX4_init_84 (by decide) (fun h1 => ?_) (fun h1 => ?_)
      · have hi8 : i = 8 := by omega
        subst hi8
        obtain ⟨hP, hD⟩ := wF_of_rows hP hD
        exact nw_retv hx hb hr hlocks hS hP hD ⟨ad, hb0, rfl⟩ (Nat.le_of_ble_eq_true rfl) (Nat.le_of_ble_eq_true rfl) dX4_init_107
      · refine lv_aload_n hx hb dX4_init_87 rfl (lv_at hl 0 rfl) ?_
        refine gf (q0 := 0) (ci := 4) (k := 4) (v := .ref (ad 11)) hx hb hts iX4_init_4 hown hE hP rfl rfl (by decide) mX4_init_31 rfl dX4_init_88 ?_
        refine lv_iload_n hx hb dX4_init_91 rfl (lv_at hl 1 rfl) ?_
        refine na_o (ci := 2) (fs := [.int (nI (0)), .null, .int (nI (0)), .int (fI (1))]) (T := TX2) (N := 4) (ty := tyX2) hx hb hts iX4_init_2 tyX2_ok hown (by decide +kernel) (by decide +kernel) (by decide +kernel) hE hP hD hS hA rfl (fun j hj => by rcases (show j = 0 ∨ j = 1 ∨ j = 2 ∨ j = 3 by omega) with rfl | rfl | rfl | rfl <;> rfl) (show 14 + 2 * i + 1 ≤ 30 by omega) (show 960 + 44 * i + 4 ≤ 1312 by omega) dX4_init_92 (fun q H hP hD hS => ?_)
        refine lv_dup hx hb dX4_init_95 rfl ?_
        refine lv_iload_n hx hb dX4_init_96 rfl (lv_at hl 1 rfl) ?_
        refine nw_go (ws := (wB g ad (rwF ad i) ++ rwL g ad i)) (q := q) (c0 := .inr (2, [.int (nI (0)), .null, .int (nI (0)), .int (fI (1))])) (nn_I (As := [.int (nI i)]) ⟨hx, hb, hml, hown, hts⟩ (c_X2_init l g (q := i) (b := q) (sz := H.size) (gP_mem.mp hP (q, _) (List.mem_append_right _ List.mem_cons_self)).lt) gX4_init_X2_init rfl (by decide +kernel) (by decide +kernel) (by decide +kernel) rfl qX2_init ⟨Nat.le_of_ble_eq_true rfl, Nat.le_of_ble_eq_true rfl⟩ ⟨(show 14 + 2 * i + 1 + 1 ≤ 30 by omega), (show 960 + 44 * i + 4 + 40 ≤ 1312 by omega)⟩ (gP_mem.mpr (fun x hx => gP_mem.mp hP x (List.mem_append_right _ hx))) hE rfl (fun z => by cases z) rfl hl.1 rfl (Nat.le_of_ble_eq_true rfl) dX4_init_97) hS hA hP hD (fun w1 H locs hW hP hD hS => ?_)
        obtain ⟨b1, rfl⟩ := hW
        rw [List.append_assoc] at hP hD
        refine pf_q (q0 := 11) (qk := (wB g ad (rwF ad i)).length + (rwL g ad i).length) (i := i) (nn := 8) (f := rwF ad i) (ws' := wB g ad (va_up (rwF ad i) i (some q)) ++ (rwL g ad i ++ wRow g q b1 i (fun _ => 0) 0 0)) hx hb hE hP hD hS rfl (at_mid _ _ _ _) (by omega) (by decide) rfl dX4_init_100 (fun H locs hP hD hS => ?_)
        rw [rows_more] at hP hD
        refine lv_iinc (v := nI (i + 1)) (lv' := [(1, .int (nI (i + 1))), (0, .ref (ad 0))]) hx hb dX4_init_101 hl (k := 1) rfl (inc1 (i)) (by decide) rfl (fun ls hl => ?_)
        refine lv_goto (tgt := 81) hx hb dX4_init_104 (by decide) ?_
        refine W.widen (k := 14 + 2 * (i + 1)) (n := 960 + 44 * (i + 1)) (by omega) (by omega) (ih (i + 1) (adN ad i q b1) (by omega) (by omega) ((adN_lo (by omega)).trans hb0) H locs hP hD hS ls ?_)
        rw [adN_lo (show 0 < 15 + 2 * i by omega)]
        exact lv_sub hl [1, 0] rfl
  rw [rwF_0 (ad := (fun k => [b, q5, q5_1, q16, q16_1, q27, q27_1, q38, q38_1, q38_2, q38_3, q51, q58, q58_1, q58_2].getD k 0))] at hP hD
  exact lp 9 0 (fun k => [b, q5, q5_1, q16, q16_1, q27, q27_1, q38, q38_1, q38_2, q38_3, q51, q58, q58_1, q58_2].getD k 0) (by omega) (Nat.zero_le _) rfl _ _ hP hD hS ls (lv_sub hl [1, 0] rfl)
