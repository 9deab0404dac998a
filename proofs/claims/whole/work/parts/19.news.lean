def fl (i : Nat) : Nat → Nat := fun k => if k < i then 0 else 1
theorem nc_0 : (fun _ => (0 : Int32)) = nc (fun _ => 0) := funext fun _ => (show (0 : Int32) = nI 0 by decide)
theorem fc_0 : (fun _ => (0 : Int32)) = fc (fl 0) := funext fun x => by
  show (0 : Int32) = fI (if x < 0 then 0 else 1)
  rw [if_neg (Nat.not_lt_zero x)]; decide
theorem fl_up (i : Nat) : va_up (fl i) i 0 = fl (i + 1) := by
  funext k
  unfold fl va_up
  by_cases h : k = i
  · subst h
    rw [if_pos rfl, if_pos (Nat.lt_succ_self _)]
  · rw [if_neg h]
    show (if k < i then 0 else 1) = if k < i + 1 then 0 else 1
    by_cases h2 : k < i
    · rw [if_pos h2, if_pos (by omega)]
    · rw [if_neg h2, if_neg (by omega)]
def σ0 : St := (fun _ => false, fun _ => false, fun _ => false, fun _ => 0, fun _ => 0, fun _ => false, 0, 3, 10, fl 8)
def τ0 : Sc := (fun _ => 0, fun _ _ => 0, fun _ => 0, fun _ => false, 0)
theorem mX1_init_9 : Cond.fieldLink RX1 9 "Followrow$Relation" "pairs" "[Z" ∈ wsX1_init := by decide +kernel
theorem iX1_init_1 : ∀ w ∈ wsX10, w ∈ wsX1_init := by decide +kernel
set_option maxHeartbeats 4000000 in
set_option maxRecDepth 100000 in
/-- X1_init: a new object -/
theorem c_X1_init (l : Launch) (g : GT) {b sz : Nat} (hbs : b < sz) : nwM l g yX1_init wsX1_init 1 20 1 64 b [] ([(b, .inr (1, [.null]))]) sz false (fun w => ∃ q, w = wRel g b q (fun _ => false)) := by
  refine nw_of (cc := cX1_init) (maxL := 1) (ret := none) (by decide) rfl (Nat.le_of_ble_eq_true rfl) hbs (fun p e s m below meth c ls hx hb hr hml hts hown hlocks hin hl hP hE hD hS hA hao => ?_)
  have hin : meth.name = "<init>" := hin
  have hl : lv_has ls 1 [(0, .ref (b))] := hl
  have hown : s.vm.findClass RX1 = some m.cls := hown
  refine lv_aload_n hx hb dX1_init_0 rfl (lv_at hl 0 rfl) ?_
  refine obj_init hx hb hml hown hts (by decide +kernel) (by decide +kernel) (by decide +kernel) hl.1 dX1_init_1 (Nat.le_of_ble_eq_true rfl) (Nat.le_of_ble_eq_true rfl) (Nat.le_of_ble_eq_true rfl) ?_
  refine lv_aload_n hx hb dX1_init_4 rfl (lv_at hl 0 rfl) ?_
  refine lv_bipush (v := nI (64)) hx hb dX1_init_5 (by decide) ?_
  refine na_z hx hb hts (by decide +kernel) hE hP hD hS hA (by decide) (Nat.le_of_ble_eq_true rfl) (Nat.le_of_ble_eq_true rfl) dX1_init_7 (fun q7 H hP hD hS => ?_)
  have hP : gP g ([(b, .inr (1, [.null])), (q7, .inl (g.2 1, 64, .inl (zc (fun _ => false))))]) H := hP
  have hD : va_D (nwA [b] sz) ([(b, .inr (1, [.null])), (q7, .inl (g.2 1, 64, .inl (zc (fun _ => false))))]) := hD
  refine pfF (q0 := 0) (ci := 1) (k := 0) (ws' := [(b, .inr (1, [.ref (q7)])), (q7, .inl (g.2 1, 64, .inl (zc (fun _ => false))))]) (ty := tyX1 0) hx hb hts iX1_init_1 hown hE hP hD hS rfl rfl (by decide) tyX1_ok nmX1 mX1_init_9 rfl hin rfl (tyX1_ok 0 (by decide)) rfl rfl (Nat.le_of_ble_eq_true rfl) rfl dX1_init_9 (fun H locs hP hD hS => ?_)
  exact nw_retv hx hb hr hlocks hS hP hD ⟨_, rfl⟩ (Nat.le_of_ble_eq_true rfl) (Nat.le_of_ble_eq_true rfl) dX1_init_12
theorem mX0_init_9 : Cond.fieldLink RX0 9 "Followrow$Ledger" "authors" "[I" ∈ wsX0_init := by decide +kernel
theorem mX0_init_15 : Cond.fieldLink RX0 15 "Followrow$Ledger" "origins" "[I" ∈ wsX0_init := by decide +kernel
theorem mX0_init_18 : Cond.fieldLink RX0 18 "Followrow$Ledger" "deleted" "[Z" ∈ wsX0_init := by decide +kernel
theorem iX0_init_0 : ∀ w ∈ wsX00, w ∈ wsX0_init := by decide +kernel
set_option maxHeartbeats 4000000 in
set_option maxRecDepth 100000 in
/-- X0_init: a new object -/
theorem c_X0_init (l : Launch) (g : GT) {b sz : Nat} (hbs : b < sz) : nwM l g yX0_init wsX0_init 1 20 3 450 b [] ([(b, .inr (0, [.null, .null, .null, .int (nI (0))]))]) sz false (fun w => ∃ a1 a2 a3, w = wLed g b a1 a2 a3 (fun _ => 0) (fun _ => 0) (fun _ => false) 0) := by
  refine nw_of (cc := cX0_init) (maxL := 1) (ret := none) (by decide) rfl (Nat.le_of_ble_eq_true rfl) hbs (fun p e s m below meth c ls hx hb hr hml hts hown hlocks hin hl hP hE hD hS hA hao => ?_)
  have hin : meth.name = "<init>" := hin
  have hl : lv_has ls 1 [(0, .ref (b))] := hl
  have hown : s.vm.findClass RX0 = some m.cls := hown
  refine lv_aload_n hx hb dX0_init_0 rfl (lv_at hl 0 rfl) ?_
  refine obj_init hx hb hml hown hts (by decide +kernel) (by decide +kernel) (by decide +kernel) hl.1 dX0_init_1 (Nat.le_of_ble_eq_true rfl) (Nat.le_of_ble_eq_true rfl) (Nat.le_of_ble_eq_true rfl) ?_
  refine lv_aload_n hx hb dX0_init_4 rfl (lv_at hl 0 rfl) ?_
  refine lv_sipush (v := nI (150)) hx hb dX0_init_5 (by decide) ?_
  refine na_i hx hb hts (by decide +kernel) hE hP hD hS hA (by decide) nc_0 (Nat.le_of_ble_eq_true rfl) (Nat.le_of_ble_eq_true rfl) dX0_init_8 (fun q8 H hP hD hS => ?_)
  have hP : gP g ([(b, .inr (0, [.null, .null, .null, .int (nI (0))])), (q8, .inl (g.2 0, 150, .inl (nc (fun _ => 0))))]) H := hP
  have hD : va_D (nwA [b] sz) ([(b, .inr (0, [.null, .null, .null, .int (nI (0))])), (q8, .inl (g.2 0, 150, .inl (nc (fun _ => 0))))]) := hD
  refine pfF (q0 := 0) (ci := 0) (k := 0) (ws' := [(b, .inr (0, [.ref (q8), .null, .null, .int (nI (0))])), (q8, .inl (g.2 0, 150, .inl (nc (fun _ => 0))))]) (ty := tyX0 0) hx hb hts iX0_init_0 hown hE hP hD hS rfl rfl (by decide) tyX0_ok nmX0 mX0_init_9 rfl hin rfl (tyX0_ok 0 (by decide)) rfl rfl (Nat.le_of_ble_eq_true rfl) rfl dX0_init_10 (fun H locs hP hD hS => ?_)
  refine lv_aload_n hx hb dX0_init_13 rfl (lv_at hl 0 rfl) ?_
  refine lv_sipush (v := nI (150)) hx hb dX0_init_14 (by decide) ?_
  refine na_i hx hb hts (by decide +kernel) hE hP hD hS hA (by decide) nc_0 (Nat.le_of_ble_eq_true rfl) (Nat.le_of_ble_eq_true rfl) dX0_init_17 (fun q17 H hP hD hS => ?_)
  have hP : gP g ([(b, .inr (0, [.ref (q8), .null, .null, .int (nI (0))])), (q8, .inl (g.2 0, 150, .inl (nc (fun _ => 0)))), (q17, .inl (g.2 0, 150, .inl (nc (fun _ => 0))))]) H := hP
  have hD : va_D (nwA [b] sz) ([(b, .inr (0, [.ref (q8), .null, .null, .int (nI (0))])), (q8, .inl (g.2 0, 150, .inl (nc (fun _ => 0)))), (q17, .inl (g.2 0, 150, .inl (nc (fun _ => 0))))]) := hD
  refine pfF (q0 := 0) (ci := 0) (k := 1) (ws' := [(b, .inr (0, [.ref (q8), .ref (q17), .null, .int (nI (0))])), (q8, .inl (g.2 0, 150, .inl (nc (fun _ => 0)))), (q17, .inl (g.2 0, 150, .inl (nc (fun _ => 0))))]) (ty := tyX0 1) hx hb hts iX0_init_0 hown hE hP hD hS rfl rfl (by decide) tyX0_ok nmX0 mX0_init_15 rfl hin rfl (tyX0_ok 1 (by decide)) rfl rfl (Nat.le_of_ble_eq_true rfl) rfl dX0_init_19 (fun H locs hP hD hS => ?_)
  refine lv_aload_n hx hb dX0_init_22 rfl (lv_at hl 0 rfl) ?_
  refine lv_sipush (v := nI (150)) hx hb dX0_init_23 (by decide) ?_
  refine na_z hx hb hts (by decide +kernel) hE hP hD hS hA (by decide) (Nat.le_of_ble_eq_true rfl) (Nat.le_of_ble_eq_true rfl) dX0_init_26 (fun q26 H hP hD hS => ?_)
  have hP : gP g ([(b, .inr (0, [.ref (q8), .ref (q17), .null, .int (nI (0))])), (q8, .inl (g.2 0, 150, .inl (nc (fun _ => 0)))), (q17, .inl (g.2 0, 150, .inl (nc (fun _ => 0)))), (q26, .inl (g.2 1, 150, .inl (zc (fun _ => false))))]) H := hP
  have hD : va_D (nwA [b] sz) ([(b, .inr (0, [.ref (q8), .ref (q17), .null, .int (nI (0))])), (q8, .inl (g.2 0, 150, .inl (nc (fun _ => 0)))), (q17, .inl (g.2 0, 150, .inl (nc (fun _ => 0)))), (q26, .inl (g.2 1, 150, .inl (zc (fun _ => false))))]) := hD
  refine pfF (q0 := 0) (ci := 0) (k := 2) (ws' := [(b, .inr (0, [.ref (q8), .ref (q17), .ref (q26), .int (nI (0))])), (q8, .inl (g.2 0, 150, .inl (nc (fun _ => 0)))), (q17, .inl (g.2 0, 150, .inl (nc (fun _ => 0)))), (q26, .inl (g.2 1, 150, .inl (zc (fun _ => false))))]) (ty := tyX0 2) hx hb hts iX0_init_0 hown hE hP hD hS rfl rfl (by decide) tyX0_ok nmX0 mX0_init_18 rfl hin rfl (tyX0_ok 2 (by decide)) rfl rfl (Nat.le_of_ble_eq_true rfl) rfl dX0_init_28 (fun H locs hP hD hS => ?_)
  exact nw_retv hx hb hr hlocks hS hP hD ⟨_, _, _, rfl⟩ (Nat.le_of_ble_eq_true rfl) (Nat.le_of_ble_eq_true rfl) dX0_init_31
theorem mX3_init_9 : Cond.fieldLink RX3 9 "Followrow$Timeline" "numbers" "[I" ∈ wsX3_init := by decide +kernel
theorem mX3_init_15 : Cond.fieldLink RX3 15 "Followrow$Timeline" "taken" "[Z" ∈ wsX3_init := by decide +kernel
theorem iX3_init_3 : ∀ w ∈ wsX30, w ∈ wsX3_init := by decide +kernel
set_option maxHeartbeats 4000000 in
set_option maxRecDepth 100000 in
/-- X3_init: a new object -/
theorem c_X3_init (l : Launch) (g : GT) {b sz : Nat} (hbs : b < sz) : nwM l g yX3_init wsX3_init 1 20 2 300 b [] ([(b, .inr (3, [.null, .null, .int (nI (0))]))]) sz false (fun w => ∃ t1 t2, w = wTim g b t1 t2 (fun _ => 0) (fun _ => false) 0) := by
  refine nw_of (cc := cX3_init) (maxL := 1) (ret := none) (by decide) rfl (Nat.le_of_ble_eq_true rfl) hbs (fun p e s m below meth c ls hx hb hr hml hts hown hlocks hin hl hP hE hD hS hA hao => ?_)
  have hin : meth.name = "<init>" := hin
  have hl : lv_has ls 1 [(0, .ref (b))] := hl
  have hown : s.vm.findClass RX3 = some m.cls := hown
  refine lv_aload_n hx hb dX3_init_0 rfl (lv_at hl 0 rfl) ?_
  refine obj_init hx hb hml hown hts (by decide +kernel) (by decide +kernel) (by decide +kernel) hl.1 dX3_init_1 (Nat.le_of_ble_eq_true rfl) (Nat.le_of_ble_eq_true rfl) (Nat.le_of_ble_eq_true rfl) ?_
  refine lv_aload_n hx hb dX3_init_4 rfl (lv_at hl 0 rfl) ?_
  refine lv_sipush (v := nI (150)) hx hb dX3_init_5 (by decide) ?_
  refine na_i hx hb hts (by decide +kernel) hE hP hD hS hA (by decide) rfl (Nat.le_of_ble_eq_true rfl) (Nat.le_of_ble_eq_true rfl) dX3_init_8 (fun q8 H hP hD hS => ?_)
  have hP : gP g ([(b, .inr (3, [.null, .null, .int (nI (0))])), (q8, .inl (g.2 0, 150, .inl (fun _ => 0)))]) H := hP
  have hD : va_D (nwA [b] sz) ([(b, .inr (3, [.null, .null, .int (nI (0))])), (q8, .inl (g.2 0, 150, .inl (fun _ => 0)))]) := hD
  refine pfF (q0 := 0) (ci := 3) (k := 0) (ws' := [(b, .inr (3, [.ref (q8), .null, .int (nI (0))])), (q8, .inl (g.2 0, 150, .inl (fun _ => 0)))]) (ty := tyX3 0) hx hb hts iX3_init_3 hown hE hP hD hS rfl rfl (by decide) tyX3_ok nmX3 mX3_init_9 rfl hin rfl (tyX3_ok 0 (by decide)) rfl rfl (Nat.le_of_ble_eq_true rfl) rfl dX3_init_10 (fun H locs hP hD hS => ?_)
  refine lv_aload_n hx hb dX3_init_13 rfl (lv_at hl 0 rfl) ?_
  refine lv_sipush (v := nI (150)) hx hb dX3_init_14 (by decide) ?_
  refine na_z hx hb hts (by decide +kernel) hE hP hD hS hA (by decide) (Nat.le_of_ble_eq_true rfl) (Nat.le_of_ble_eq_true rfl) dX3_init_17 (fun q17 H hP hD hS => ?_)
  have hP : gP g ([(b, .inr (3, [.ref (q8), .null, .int (nI (0))])), (q8, .inl (g.2 0, 150, .inl (fun _ => 0))), (q17, .inl (g.2 1, 150, .inl (zc (fun _ => false))))]) H := hP
  have hD : va_D (nwA [b] sz) ([(b, .inr (3, [.ref (q8), .null, .int (nI (0))])), (q8, .inl (g.2 0, 150, .inl (fun _ => 0))), (q17, .inl (g.2 1, 150, .inl (zc (fun _ => false))))]) := hD
  refine pfF (q0 := 0) (ci := 3) (k := 1) (ws' := [(b, .inr (3, [.ref (q8), .ref (q17), .int (nI (0))])), (q8, .inl (g.2 0, 150, .inl (fun _ => 0))), (q17, .inl (g.2 1, 150, .inl (zc (fun _ => false))))]) (ty := tyX3 1) hx hb hts iX3_init_3 hown hE hP hD hS rfl rfl (by decide) tyX3_ok nmX3 mX3_init_15 rfl hin rfl (tyX3_ok 1 (by decide)) rfl rfl (Nat.le_of_ble_eq_true rfl) rfl dX3_init_19 (fun H locs hP hD hS => ?_)
  exact nw_retv hx hb hr hlocks hS hP hD ⟨_, _, rfl⟩ (Nat.le_of_ble_eq_true rfl) (Nat.le_of_ble_eq_true rfl) dX3_init_22
theorem mX2_init_9 : Cond.fieldLink RX2 9 "Followrow$Row" "numbers" "[I" ∈ wsX2_init := by decide +kernel
theorem mX2_init_15 : Cond.fieldLink RX2 15 "Followrow$Row" "floor" "I" ∈ wsX2_init := by decide +kernel
theorem mX2_init_19 : Cond.fieldLink RX2 19 "Followrow$Row" "owner" "I" ∈ wsX2_init := by decide +kernel
theorem iX2_init_2 : ∀ w ∈ wsX20, w ∈ wsX2_init := by decide +kernel
set_option maxHeartbeats 4000000 in
set_option maxRecDepth 100000 in
/-- X2_init: a new object -/
theorem c_X2_init (l : Launch) (g : GT) {b sz : Nat} {q : Nat} (hbs : b < sz) : nwM l g yX2_init wsX2_init 1 20 1 40 b [.int (nI (q))] ([(b, .inr (2, [.int (nI (0)), .null, .int (nI (0)), .int (fI (1))]))]) sz false (fun w => ∃ b1, w = wRow g b b1 q (fun _ => 0) 0 0) := by
  refine nw_of (cc := cX2_init) (maxL := 2) (ret := none) (by decide) rfl (Nat.le_of_ble_eq_true rfl) hbs (fun p e s m below meth c ls hx hb hr hml hts hown hlocks hin hl hP hE hD hS hA hao => ?_)
  have hin : meth.name = "<init>" := hin
  have hl : lv_has ls 2 [(0, .ref (b)), (1, .int (nI (q)))] := hl
  have hown : s.vm.findClass RX2 = some m.cls := hown
  refine lv_aload_n hx hb dX2_init_0 rfl (lv_at hl 0 rfl) ?_
  refine obj_init hx hb hml hown hts (by decide +kernel) (by decide +kernel) (by decide +kernel) hl.1 dX2_init_1 (Nat.le_of_ble_eq_true rfl) (Nat.le_of_ble_eq_true rfl) (Nat.le_of_ble_eq_true rfl) ?_
  refine lv_aload_n hx hb dX2_init_4 rfl (lv_at hl 0 rfl) ?_
  refine lv_bipush (v := nI (40)) hx hb dX2_init_5 (by decide) ?_
  refine na_i hx hb hts (by decide +kernel) hE hP hD hS hA (by decide) rfl (Nat.le_of_ble_eq_true rfl) (Nat.le_of_ble_eq_true rfl) dX2_init_7 (fun q7 H hP hD hS => ?_)
  have hP : gP g ([(b, .inr (2, [.int (nI (0)), .null, .int (nI (0)), .int (fI (1))])), (q7, .inl (g.2 0, 40, .inl (fun _ => 0)))]) H := hP
  have hD : va_D (nwA [b] sz) ([(b, .inr (2, [.int (nI (0)), .null, .int (nI (0)), .int (fI (1))])), (q7, .inl (g.2 0, 40, .inl (fun _ => 0)))]) := hD
  refine pfF (q0 := 0) (ci := 2) (k := 1) (ws' := [(b, .inr (2, [.int (nI (0)), .ref (q7), .int (nI (0)), .int (fI (1))])), (q7, .inl (g.2 0, 40, .inl (fun _ => 0)))]) (ty := tyX2 1) hx hb hts iX2_init_2 hown hE hP hD hS rfl rfl (by decide) tyX2_ok nmX2 mX2_init_9 rfl hin rfl (tyX2_ok 1 (by decide)) rfl rfl (Nat.le_of_ble_eq_true rfl) rfl dX2_init_9 (fun H locs hP hD hS => ?_)
  refine lv_aload_n hx hb dX2_init_12 rfl (lv_at hl 0 rfl) ?_
  refine lv_iconst (v := fI (0)) hx hb dX2_init_13 (by decide) ?_
  refine pf (q0 := 0) (ci := 2) (k := 3) (ws' := [(b, .inr (2, [.int (nI (0)), .ref (q7), .int (nI (0)), .int (fI (0))])), (q7, .inl (g.2 0, 40, .inl (fun _ => 0)))]) hx hb hts iX2_init_2 hown hE hP hD hS rfl rfl (by decide) tyX2_ok nmX2 mX2_init_15 rfl (by decide +kernel) (Nat.le_of_ble_eq_true rfl) rfl dX2_init_14 (fun H locs hP hD hS => ?_)
  refine lv_aload_n hx hb dX2_init_17 rfl (lv_at hl 0 rfl) ?_
  refine lv_iload_n hx hb dX2_init_18 rfl (lv_at hl 1 rfl) ?_
  refine pfF (q0 := 0) (ci := 2) (k := 0) (ws' := [(b, .inr (2, [.int (nI (q)), .ref (q7), .int (nI (0)), .int (fI (0))])), (q7, .inl (g.2 0, 40, .inl (fun _ => 0)))]) (ty := tyX2 0) hx hb hts iX2_init_2 hown hE hP hD hS rfl rfl (by decide) tyX2_ok nmX2 mX2_init_19 rfl hin rfl (tyX2_ok 0 (by decide)) rfl rfl (Nat.le_of_ble_eq_true rfl) rfl dX2_init_19 (fun H locs hP hD hS => ?_)
  exact nw_retv hx hb hr hlocks hS hP hD ⟨_, rfl⟩ (Nat.le_of_ble_eq_true rfl) (Nat.le_of_ble_eq_true rfl) dX2_init_22
theorem mX5_init_7 : Cond.fieldLink RX5 7 "FollowrowModel" "followed" "[Z" ∈ wsX5_init := by decide +kernel
theorem mX5_init_13 : Cond.fieldLink RX5 13 "FollowrowModel" "muted" "[Z" ∈ wsX5_init := by decide +kernel
theorem mX5_init_16 : Cond.fieldLink RX5 16 "FollowrowModel" "blocked" "[Z" ∈ wsX5_init := by decide +kernel
theorem mX5_init_19 : Cond.fieldLink RX5 19 "FollowrowModel" "author" "[I" ∈ wsX5_init := by decide +kernel
theorem mX5_init_23 : Cond.fieldLink RX5 23 "FollowrowModel" "origin" "[I" ∈ wsX5_init := by decide +kernel
theorem mX5_init_26 : Cond.fieldLink RX5 26 "FollowrowModel" "isGone" "[Z" ∈ wsX5_init := by decide +kernel
theorem mX5_init_29 : Cond.fieldLink RX5 29 "FollowrowModel" "mark" "I" ∈ wsX5_init := by decide +kernel
theorem mX5_init_33 : Cond.fieldLink RX5 33 "FollowrowModel" "room" "I" ∈ wsX5_init := by decide +kernel
theorem mX5_init_36 : Cond.fieldLink RX5 36 "FollowrowModel" "floor" "[I" ∈ wsX5_init := by decide +kernel
theorem iX5_init_5 : ∀ w ∈ wsX50, w ∈ wsX5_init := by decide +kernel
set_option maxHeartbeats 4000000 in
set_option maxRecDepth 100000 in
/-- X5_init: a new object -/
theorem c_X5_init (l : Launch) (g : GT) {b sz : Nat} (hbs : b < sz) : nwM l g yX5_init wsX5_init 1 20 7 650 b [] ([(b, .inr (5, [.null, .null, .null, .null, .null, .null, .int (nI (0)), .int (nI (0)), .int (nI (0)), .null, .int (nI (0))]))]) sz false (fun w => ∃ am, am 0 = b ∧ w = wM g am σ0 0) := by
  refine nw_of (cc := cX5_init) (maxL := 2) (ret := none) (by decide) rfl (Nat.le_of_ble_eq_true rfl) hbs (fun p e s m below meth c ls hx hb hr hml hts hown hlocks hin hl hP hE hD hS hA hao => ?_)
  have hin : meth.name = "<init>" := hin
  have hl : lv_has ls 2 [(0, .ref (b))] := hl
  have hown : s.vm.findClass RX5 = some m.cls := hown
  refine lv_aload_n hx hb dX5_init_0 rfl (lv_at hl 0 rfl) ?_
  refine obj_init hx hb hml hown hts (by decide +kernel) (by decide +kernel) (by decide +kernel) hl.1 dX5_init_1 (Nat.le_of_ble_eq_true rfl) (Nat.le_of_ble_eq_true rfl) (Nat.le_of_ble_eq_true rfl) ?_
  refine lv_aload_n hx hb dX5_init_4 rfl (lv_at hl 0 rfl) ?_
  refine lv_bipush (v := nI (64)) hx hb dX5_init_5 (by decide) ?_
  refine na_z hx hb hts (by decide +kernel) hE hP hD hS hA (by decide) (Nat.le_of_ble_eq_true rfl) (Nat.le_of_ble_eq_true rfl) dX5_init_7 (fun q7 H hP hD hS => ?_)
  have hP : gP g ([(b, .inr (5, [.null, .null, .null, .null, .null, .null, .int (nI (0)), .int (nI (0)), .int (nI (0)), .null, .int (nI (0))])), (q7, .inl (g.2 1, 64, .inl (zc (fun _ => false))))]) H := hP
  have hD : va_D (nwA [b] sz) ([(b, .inr (5, [.null, .null, .null, .null, .null, .null, .int (nI (0)), .int (nI (0)), .int (nI (0)), .null, .int (nI (0))])), (q7, .inl (g.2 1, 64, .inl (zc (fun _ => false))))]) := hD
  refine pfF (q0 := 0) (ci := 5) (k := 0) (ws' := [(b, .inr (5, [.ref (q7), .null, .null, .null, .null, .null, .int (nI (0)), .int (nI (0)), .int (nI (0)), .null, .int (nI (0))])), (q7, .inl (g.2 1, 64, .inl (zc (fun _ => false))))]) (ty := tyX5 0) hx hb hts iX5_init_5 hown hE hP hD hS rfl rfl (by decide) tyX5_ok nmX5 mX5_init_7 rfl hin rfl (tyX5_ok 0 (by decide)) rfl rfl (Nat.le_of_ble_eq_true rfl) rfl dX5_init_9 (fun H locs hP hD hS => ?_)
  refine lv_aload_n hx hb dX5_init_12 rfl (lv_at hl 0 rfl) ?_
  refine lv_bipush (v := nI (64)) hx hb dX5_init_13 (by decide) ?_
  refine na_z hx hb hts (by decide +kernel) hE hP hD hS hA (by decide) (Nat.le_of_ble_eq_true rfl) (Nat.le_of_ble_eq_true rfl) dX5_init_15 (fun q15 H hP hD hS => ?_)
  have hP : gP g ([(b, .inr (5, [.ref (q7), .null, .null, .null, .null, .null, .int (nI (0)), .int (nI (0)), .int (nI (0)), .null, .int (nI (0))])), (q7, .inl (g.2 1, 64, .inl (zc (fun _ => false)))), (q15, .inl (g.2 1, 64, .inl (zc (fun _ => false))))]) H := hP
  have hD : va_D (nwA [b] sz) ([(b, .inr (5, [.ref (q7), .null, .null, .null, .null, .null, .int (nI (0)), .int (nI (0)), .int (nI (0)), .null, .int (nI (0))])), (q7, .inl (g.2 1, 64, .inl (zc (fun _ => false)))), (q15, .inl (g.2 1, 64, .inl (zc (fun _ => false))))]) := hD
  refine pfF (q0 := 0) (ci := 5) (k := 1) (ws' := [(b, .inr (5, [.ref (q7), .ref (q15), .null, .null, .null, .null, .int (nI (0)), .int (nI (0)), .int (nI (0)), .null, .int (nI (0))])), (q7, .inl (g.2 1, 64, .inl (zc (fun _ => false)))), (q15, .inl (g.2 1, 64, .inl (zc (fun _ => false))))]) (ty := tyX5 1) hx hb hts iX5_init_5 hown hE hP hD hS rfl rfl (by decide) tyX5_ok nmX5 mX5_init_13 rfl hin rfl (tyX5_ok 1 (by decide)) rfl rfl (Nat.le_of_ble_eq_true rfl) rfl dX5_init_17 (fun H locs hP hD hS => ?_)
  refine lv_aload_n hx hb dX5_init_20 rfl (lv_at hl 0 rfl) ?_
  refine lv_bipush (v := nI (64)) hx hb dX5_init_21 (by decide) ?_
  refine na_z hx hb hts (by decide +kernel) hE hP hD hS hA (by decide) (Nat.le_of_ble_eq_true rfl) (Nat.le_of_ble_eq_true rfl) dX5_init_23 (fun q23 H hP hD hS => ?_)
  have hP : gP g ([(b, .inr (5, [.ref (q7), .ref (q15), .null, .null, .null, .null, .int (nI (0)), .int (nI (0)), .int (nI (0)), .null, .int (nI (0))])), (q7, .inl (g.2 1, 64, .inl (zc (fun _ => false)))), (q15, .inl (g.2 1, 64, .inl (zc (fun _ => false)))), (q23, .inl (g.2 1, 64, .inl (zc (fun _ => false))))]) H := hP
  have hD : va_D (nwA [b] sz) ([(b, .inr (5, [.ref (q7), .ref (q15), .null, .null, .null, .null, .int (nI (0)), .int (nI (0)), .int (nI (0)), .null, .int (nI (0))])), (q7, .inl (g.2 1, 64, .inl (zc (fun _ => false)))), (q15, .inl (g.2 1, 64, .inl (zc (fun _ => false)))), (q23, .inl (g.2 1, 64, .inl (zc (fun _ => false))))]) := hD
  refine pfF (q0 := 0) (ci := 5) (k := 2) (ws' := [(b, .inr (5, [.ref (q7), .ref (q15), .ref (q23), .null, .null, .null, .int (nI (0)), .int (nI (0)), .int (nI (0)), .null, .int (nI (0))])), (q7, .inl (g.2 1, 64, .inl (zc (fun _ => false)))), (q15, .inl (g.2 1, 64, .inl (zc (fun _ => false)))), (q23, .inl (g.2 1, 64, .inl (zc (fun _ => false))))]) (ty := tyX5 2) hx hb hts iX5_init_5 hown hE hP hD hS rfl rfl (by decide) tyX5_ok nmX5 mX5_init_16 rfl hin rfl (tyX5_ok 2 (by decide)) rfl rfl (Nat.le_of_ble_eq_true rfl) rfl dX5_init_25 (fun H locs hP hD hS => ?_)
  refine lv_aload_n hx hb dX5_init_28 rfl (lv_at hl 0 rfl) ?_
  refine lv_sipush (v := nI (150)) hx hb dX5_init_29 (by decide) ?_
  refine na_i hx hb hts (by decide +kernel) hE hP hD hS hA (by decide) nc_0 (Nat.le_of_ble_eq_true rfl) (Nat.le_of_ble_eq_true rfl) dX5_init_32 (fun q32 H hP hD hS => ?_)
  have hP : gP g ([(b, .inr (5, [.ref (q7), .ref (q15), .ref (q23), .null, .null, .null, .int (nI (0)), .int (nI (0)), .int (nI (0)), .null, .int (nI (0))])), (q7, .inl (g.2 1, 64, .inl (zc (fun _ => false)))), (q15, .inl (g.2 1, 64, .inl (zc (fun _ => false)))), (q23, .inl (g.2 1, 64, .inl (zc (fun _ => false)))), (q32, .inl (g.2 0, 150, .inl (nc (fun _ => 0))))]) H := hP
  have hD : va_D (nwA [b] sz) ([(b, .inr (5, [.ref (q7), .ref (q15), .ref (q23), .null, .null, .null, .int (nI (0)), .int (nI (0)), .int (nI (0)), .null, .int (nI (0))])), (q7, .inl (g.2 1, 64, .inl (zc (fun _ => false)))), (q15, .inl (g.2 1, 64, .inl (zc (fun _ => false)))), (q23, .inl (g.2 1, 64, .inl (zc (fun _ => false)))), (q32, .inl (g.2 0, 150, .inl (nc (fun _ => 0))))]) := hD
  refine pfF (q0 := 0) (ci := 5) (k := 3) (ws' := [(b, .inr (5, [.ref (q7), .ref (q15), .ref (q23), .ref (q32), .null, .null, .int (nI (0)), .int (nI (0)), .int (nI (0)), .null, .int (nI (0))])), (q7, .inl (g.2 1, 64, .inl (zc (fun _ => false)))), (q15, .inl (g.2 1, 64, .inl (zc (fun _ => false)))), (q23, .inl (g.2 1, 64, .inl (zc (fun _ => false)))), (q32, .inl (g.2 0, 150, .inl (nc (fun _ => 0))))]) (ty := tyX5 3) hx hb hts iX5_init_5 hown hE hP hD hS rfl rfl (by decide) tyX5_ok nmX5 mX5_init_19 rfl hin rfl (tyX5_ok 3 (by decide)) rfl rfl (Nat.le_of_ble_eq_true rfl) rfl dX5_init_34 (fun H locs hP hD hS => ?_)
  refine lv_aload_n hx hb dX5_init_37 rfl (lv_at hl 0 rfl) ?_
  refine lv_sipush (v := nI (150)) hx hb dX5_init_38 (by decide) ?_
  refine na_i hx hb hts (by decide +kernel) hE hP hD hS hA (by decide) nc_0 (Nat.le_of_ble_eq_true rfl) (Nat.le_of_ble_eq_true rfl) dX5_init_41 (fun q41 H hP hD hS => ?_)
  have hP : gP g ([(b, .inr (5, [.ref (q7), .ref (q15), .ref (q23), .ref (q32), .null, .null, .int (nI (0)), .int (nI (0)), .int (nI (0)), .null, .int (nI (0))])), (q7, .inl (g.2 1, 64, .inl (zc (fun _ => false)))), (q15, .inl (g.2 1, 64, .inl (zc (fun _ => false)))), (q23, .inl (g.2 1, 64, .inl (zc (fun _ => false)))), (q32, .inl (g.2 0, 150, .inl (nc (fun _ => 0)))), (q41, .inl (g.2 0, 150, .inl (nc (fun _ => 0))))]) H := hP
  have hD : va_D (nwA [b] sz) ([(b, .inr (5, [.ref (q7), .ref (q15), .ref (q23), .ref (q32), .null, .null, .int (nI (0)), .int (nI (0)), .int (nI (0)), .null, .int (nI (0))])), (q7, .inl (g.2 1, 64, .inl (zc (fun _ => false)))), (q15, .inl (g.2 1, 64, .inl (zc (fun _ => false)))), (q23, .inl (g.2 1, 64, .inl (zc (fun _ => false)))), (q32, .inl (g.2 0, 150, .inl (nc (fun _ => 0)))), (q41, .inl (g.2 0, 150, .inl (nc (fun _ => 0))))]) := hD
  refine pfF (q0 := 0) (ci := 5) (k := 4) (ws' := [(b, .inr (5, [.ref (q7), .ref (q15), .ref (q23), .ref (q32), .ref (q41), .null, .int (nI (0)), .int (nI (0)), .int (nI (0)), .null, .int (nI (0))])), (q7, .inl (g.2 1, 64, .inl (zc (fun _ => false)))), (q15, .inl (g.2 1, 64, .inl (zc (fun _ => false)))), (q23, .inl (g.2 1, 64, .inl (zc (fun _ => false)))), (q32, .inl (g.2 0, 150, .inl (nc (fun _ => 0)))), (q41, .inl (g.2 0, 150, .inl (nc (fun _ => 0))))]) (ty := tyX5 4) hx hb hts iX5_init_5 hown hE hP hD hS rfl rfl (by decide) tyX5_ok nmX5 mX5_init_23 rfl hin rfl (tyX5_ok 4 (by decide)) rfl rfl (Nat.le_of_ble_eq_true rfl) rfl dX5_init_43 (fun H locs hP hD hS => ?_)
  refine lv_aload_n hx hb dX5_init_46 rfl (lv_at hl 0 rfl) ?_
  refine lv_sipush (v := nI (150)) hx hb dX5_init_47 (by decide) ?_
  refine na_z hx hb hts (by decide +kernel) hE hP hD hS hA (by decide) (Nat.le_of_ble_eq_true rfl) (Nat.le_of_ble_eq_true rfl) dX5_init_50 (fun q50 H hP hD hS => ?_)
  have hP : gP g ([(b, .inr (5, [.ref (q7), .ref (q15), .ref (q23), .ref (q32), .ref (q41), .null, .int (nI (0)), .int (nI (0)), .int (nI (0)), .null, .int (nI (0))])), (q7, .inl (g.2 1, 64, .inl (zc (fun _ => false)))), (q15, .inl (g.2 1, 64, .inl (zc (fun _ => false)))), (q23, .inl (g.2 1, 64, .inl (zc (fun _ => false)))), (q32, .inl (g.2 0, 150, .inl (nc (fun _ => 0)))), (q41, .inl (g.2 0, 150, .inl (nc (fun _ => 0)))), (q50, .inl (g.2 1, 150, .inl (zc (fun _ => false))))]) H := hP
  have hD : va_D (nwA [b] sz) ([(b, .inr (5, [.ref (q7), .ref (q15), .ref (q23), .ref (q32), .ref (q41), .null, .int (nI (0)), .int (nI (0)), .int (nI (0)), .null, .int (nI (0))])), (q7, .inl (g.2 1, 64, .inl (zc (fun _ => false)))), (q15, .inl (g.2 1, 64, .inl (zc (fun _ => false)))), (q23, .inl (g.2 1, 64, .inl (zc (fun _ => false)))), (q32, .inl (g.2 0, 150, .inl (nc (fun _ => 0)))), (q41, .inl (g.2 0, 150, .inl (nc (fun _ => 0)))), (q50, .inl (g.2 1, 150, .inl (zc (fun _ => false))))]) := hD
  refine pfF (q0 := 0) (ci := 5) (k := 5) (ws' := [(b, .inr (5, [.ref (q7), .ref (q15), .ref (q23), .ref (q32), .ref (q41), .ref (q50), .int (nI (0)), .int (nI (0)), .int (nI (0)), .null, .int (nI (0))])), (q7, .inl (g.2 1, 64, .inl (zc (fun _ => false)))), (q15, .inl (g.2 1, 64, .inl (zc (fun _ => false)))), (q23, .inl (g.2 1, 64, .inl (zc (fun _ => false)))), (q32, .inl (g.2 0, 150, .inl (nc (fun _ => 0)))), (q41, .inl (g.2 0, 150, .inl (nc (fun _ => 0)))), (q50, .inl (g.2 1, 150, .inl (zc (fun _ => false))))]) (ty := tyX5 5) hx hb hts iX5_init_5 hown hE hP hD hS rfl rfl (by decide) tyX5_ok nmX5 mX5_init_26 rfl hin rfl (tyX5_ok 5 (by decide)) rfl rfl (Nat.le_of_ble_eq_true rfl) rfl dX5_init_52 (fun H locs hP hD hS => ?_)
  refine lv_aload_n hx hb dX5_init_55 rfl (lv_at hl 0 rfl) ?_
  refine lv_iconst (v := nI (3)) hx hb dX5_init_56 (by decide) ?_
  refine pf (q0 := 0) (ci := 5) (k := 7) (ws' := [(b, .inr (5, [.ref (q7), .ref (q15), .ref (q23), .ref (q32), .ref (q41), .ref (q50), .int (nI (0)), .int (nI (3)), .int (nI (0)), .null, .int (nI (0))])), (q7, .inl (g.2 1, 64, .inl (zc (fun _ => false)))), (q15, .inl (g.2 1, 64, .inl (zc (fun _ => false)))), (q23, .inl (g.2 1, 64, .inl (zc (fun _ => false)))), (q32, .inl (g.2 0, 150, .inl (nc (fun _ => 0)))), (q41, .inl (g.2 0, 150, .inl (nc (fun _ => 0)))), (q50, .inl (g.2 1, 150, .inl (zc (fun _ => false))))]) hx hb hts iX5_init_5 hown hE hP hD hS rfl rfl (by decide) tyX5_ok nmX5 mX5_init_29 rfl (by decide +kernel) (Nat.le_of_ble_eq_true rfl) rfl dX5_init_57 (fun H locs hP hD hS => ?_)
  refine lv_aload_n hx hb dX5_init_60 rfl (lv_at hl 0 rfl) ?_
  refine lv_bipush (v := nI (10)) hx hb dX5_init_61 (by decide) ?_
  refine pf (q0 := 0) (ci := 5) (k := 8) (ws' := [(b, .inr (5, [.ref (q7), .ref (q15), .ref (q23), .ref (q32), .ref (q41), .ref (q50), .int (nI (0)), .int (nI (3)), .int (nI (10)), .null, .int (nI (0))])), (q7, .inl (g.2 1, 64, .inl (zc (fun _ => false)))), (q15, .inl (g.2 1, 64, .inl (zc (fun _ => false)))), (q23, .inl (g.2 1, 64, .inl (zc (fun _ => false)))), (q32, .inl (g.2 0, 150, .inl (nc (fun _ => 0)))), (q41, .inl (g.2 0, 150, .inl (nc (fun _ => 0)))), (q50, .inl (g.2 1, 150, .inl (zc (fun _ => false))))]) hx hb hts iX5_init_5 hown hE hP hD hS rfl rfl (by decide) tyX5_ok nmX5 mX5_init_33 rfl (by decide +kernel) (Nat.le_of_ble_eq_true rfl) rfl dX5_init_63 (fun H locs hP hD hS => ?_)
  refine lv_aload_n hx hb dX5_init_66 rfl (lv_at hl 0 rfl) ?_
  refine lv_bipush (v := nI (8)) hx hb dX5_init_67 (by decide) ?_
  refine na_i hx hb hts (by decide +kernel) hE hP hD hS hA (by decide) fc_0 (Nat.le_of_ble_eq_true rfl) (Nat.le_of_ble_eq_true rfl) dX5_init_69 (fun q69 H hP hD hS => ?_)
  have hP : gP g ([(b, .inr (5, [.ref (q7), .ref (q15), .ref (q23), .ref (q32), .ref (q41), .ref (q50), .int (nI (0)), .int (nI (3)), .int (nI (10)), .null, .int (nI (0))])), (q7, .inl (g.2 1, 64, .inl (zc (fun _ => false)))), (q15, .inl (g.2 1, 64, .inl (zc (fun _ => false)))), (q23, .inl (g.2 1, 64, .inl (zc (fun _ => false)))), (q32, .inl (g.2 0, 150, .inl (nc (fun _ => 0)))), (q41, .inl (g.2 0, 150, .inl (nc (fun _ => 0)))), (q50, .inl (g.2 1, 150, .inl (zc (fun _ => false)))), (q69, .inl (g.2 0, 8, .inl (fc (fl 0))))]) H := hP
  have hD : va_D (nwA [b] sz) ([(b, .inr (5, [.ref (q7), .ref (q15), .ref (q23), .ref (q32), .ref (q41), .ref (q50), .int (nI (0)), .int (nI (3)), .int (nI (10)), .null, .int (nI (0))])), (q7, .inl (g.2 1, 64, .inl (zc (fun _ => false)))), (q15, .inl (g.2 1, 64, .inl (zc (fun _ => false)))), (q23, .inl (g.2 1, 64, .inl (zc (fun _ => false)))), (q32, .inl (g.2 0, 150, .inl (nc (fun _ => 0)))), (q41, .inl (g.2 0, 150, .inl (nc (fun _ => 0)))), (q50, .inl (g.2 1, 150, .inl (zc (fun _ => false)))), (q69, .inl (g.2 0, 8, .inl (fc (fl 0))))]) := hD
  refine pfF (q0 := 0) (ci := 5) (k := 9) (ws' := [(b, .inr (5, [.ref (q7), .ref (q15), .ref (q23), .ref (q32), .ref (q41), .ref (q50), .int (nI (0)), .int (nI (3)), .int (nI (10)), .ref (q69), .int (nI (0))])), (q7, .inl (g.2 1, 64, .inl (zc (fun _ => false)))), (q15, .inl (g.2 1, 64, .inl (zc (fun _ => false)))), (q23, .inl (g.2 1, 64, .inl (zc (fun _ => false)))), (q32, .inl (g.2 0, 150, .inl (nc (fun _ => 0)))), (q41, .inl (g.2 0, 150, .inl (nc (fun _ => 0)))), (q50, .inl (g.2 1, 150, .inl (zc (fun _ => false)))), (q69, .inl (g.2 0, 8, .inl (fc (fl 0))))]) (ty := tyX5 9) hx hb hts iX5_init_5 hown hE hP hD hS rfl rfl (by decide) tyX5_ok nmX5 mX5_init_36 rfl hin rfl (tyX5_ok 9 (by decide)) rfl rfl (Nat.le_of_ble_eq_true rfl) rfl dX5_init_71 (fun H locs hP hD hS => ?_)
  refine lv_iconst (v := nI (0)) hx hb dX5_init_74 (by decide) ?_
  refine lv_istore_n (lv' := [(1, .int (nI (0))), (0, .ref (b))]) hx hb dX5_init_75 rfl hl (by decide) rfl (fun ls hl => ?_)
  have lp338 : ∀ (n9 i : Nat), 8 - i < n9 → (i ≤ 8) → ∀ (H : Heap) (locs : List Loc), gP g ([(b, .inr (5, [.ref (q7), .ref (q15), .ref (q23), .ref (q32), .ref (q41), .ref (q50), .int (nI (0)), .int (nI (3)), .int (nI (10)), .ref (q69), .int (nI (0))])), (q7, .inl (g.2 1, 64, .inl (zc (fun _ => false)))), (q15, .inl (g.2 1, 64, .inl (zc (fun _ => false)))), (q23, .inl (g.2 1, 64, .inl (zc (fun _ => false)))), (q32, .inl (g.2 0, 150, .inl (nc (fun _ => 0)))), (q41, .inl (g.2 0, 150, .inl (nc (fun _ => 0)))), (q50, .inl (g.2 1, 150, .inl (zc (fun _ => false)))), (q69, .inl (g.2 0, 8, .inl (fc (fl i))))]) H → va_D (nwA [b] sz) ([(b, .inr (5, [.ref (q7), .ref (q15), .ref (q23), .ref (q32), .ref (q41), .ref (q50), .int (nI (0)), .int (nI (3)), .int (nI (10)), .ref (q69), .int (nI (0))])), (q7, .inl (g.2 1, 64, .inl (zc (fun _ => false)))), (q15, .inl (g.2 1, 64, .inl (zc (fun _ => false)))), (q23, .inl (g.2 1, 64, .inl (zc (fun _ => false)))), (q32, .inl (g.2 0, 150, .inl (nc (fun _ => 0)))), (q41, .inl (g.2 0, 150, .inl (nc (fun _ => 0)))), (q50, .inl (g.2 1, 150, .inl (zc (fun _ => false)))), (q69, .inl (g.2 0, 8, .inl (fc (fl i))))]) → va_S (nwA [b] sz) s.heap H locs → ∀ ls : Array Slot, lv_has ls 2 [(0, .ref (b)), (1, .int (nI (i)))] → W p l e ({ frames := 1, cells := 7, slots := 650, locals := 20 } : Room) s m ([.ref (b)] : List Value).toArray below meth c H locs 7 650 (MQ below (nwQ g (fun w => ∃ am, am 0 = b ∧ w = wM g am σ0 0) (nwA [b] sz)) ([.ref (b)] : List Value).toArray s 7 650 (nwA [b] sz)) (F0 m 76 ls []) := by
    intro n9
    induction n9 with
    | zero => intro i h; omega
    | succ n9 ihlp338 =>
      intro i h9 hi H locs hP hD hS ls hl
      refine lv_iload_n hx hb dX5_init_76 rfl (lv_at hl 1 rfl) ?_
      refine lv_bipush (v := nI (8)) hx hb dX5_init_77 (by decide) ?_
      refine br_geN (a := i) (b := 8) (tgt := 95) hx hb (by omega) (by omega) dX5_init_79 (by decide) (fun h339 => ?_) (fun h339 => ?_)
      · have hi9 : i = 8 := by omega
        subst hi9
        exact nw_retv hx hb hr hlocks hS hP hD ⟨fun k => [b, q7, q15, q23, q32, q41, q50, q69].getD k 0, rfl, rfl⟩ (Nat.le_of_ble_eq_true rfl) (Nat.le_of_ble_eq_true rfl) dX5_init_95
      · refine lv_aload_n hx hb dX5_init_82 rfl (lv_at hl 0 rfl) ?_
        refine gf (q0 := 0) (ci := 5) (k := 9) (v := .ref (q69)) hx hb hts iX5_init_5 hown hE hP rfl rfl (by decide) mX5_init_36 rfl dX5_init_83 ?_
        refine lv_iload_n hx hb dX5_init_86 rfl (lv_at hl 1 rfl) ?_
        refine lv_iconst (v := fI (0)) hx hb dX5_init_87 (by decide) ?_
        refine wa_i (q0 := 7) (i := i) (ws' := [(b, .inr (5, [.ref (q7), .ref (q15), .ref (q23), .ref (q32), .ref (q41), .ref (q50), .int (nI (0)), .int (nI (3)), .int (nI (10)), .ref (q69), .int (nI (0))])), (q7, .inl (g.2 1, 64, .inl (zc (fun _ => false)))), (q15, .inl (g.2 1, 64, .inl (zc (fun _ => false)))), (q23, .inl (g.2 1, 64, .inl (zc (fun _ => false)))), (q32, .inl (g.2 0, 150, .inl (nc (fun _ => 0)))), (q41, .inl (g.2 0, 150, .inl (nc (fun _ => 0)))), (q50, .inl (g.2 1, 150, .inl (zc (fun _ => false)))), (q69, .inl (g.2 0, 8, .inl (fc (va_up (fl i) (i) (0)))))]) hx hb hE hP hD hS rfl (fc_up _ _ _) rfl (by omega) (by decide) dX5_init_88 (fun H locs hP hD hS => ?_)
        refine lv_iinc (v := nI (i + 1)) (lv' := [(1, .int (nI (i + 1))), (0, .ref (b))]) hx hb dX5_init_89 hl (k := 1) rfl (inc1 (i)) (by decide) rfl (fun ls hl => ?_)
        refine lv_goto (tgt := 76) hx hb dX5_init_92 (by decide) ?_
        rw [fl_up] at hP hD
        exact ihlp338 (i + 1) (by omega) (by omega) H locs hP hD hS ls (lv_sub hl [1, 0] rfl)
  exact lp338 (8 + 1) (0) (by omega) (by omega) _ _ hP hD hS ls (lv_sub hl [1, 0] rfl)
