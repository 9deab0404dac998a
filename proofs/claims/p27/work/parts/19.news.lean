def fl (i : Nat) : Nat → Nat := fun k => if k < i then 0 else 1
theorem nc_0 : (fun _ => (0 : Int32)) = nc (fun _ => 0) := funext fun _ => (show (0 : Int32) = nI 0 by decide)
theorem fc_0 : (fun _ => (0 : Int32)) = fc (fl 0) := funext fun x => by
  show (0 : Int32) = fI (if x < 0 then 0 else 1)
  rw [if_neg (Nat.not_lt_zero x)]; decide
theorem fl_up (i : Nat) : va_up (fl i) i 0 = fl (i + 1) := by
  funext k
  unfold fl va_up
  by_cases h : k = i
  · subst h
    rw [if_pos rfl, if_pos (Nat.lt_succ_self _)]
  · rw [if_neg h]
    show (if k < i then 0 else 1) = if k < i + 1 then 0 else 1
    by_cases h2 : k < i
    · rw [if_pos h2, if_pos (by omega)]
    · rw [if_neg h2, if_neg (by omega)]
def σ0 : St := (fun _ => false, fun _ => false, fun _ => false, fun _ => 0, fun _ => 0, fun _ => false, 0, 3, 10, fl 8)
def τ0 : Sc := (fun _ => 0, fun _ _ => 0, fun _ => 0, fun _ => false, 0)
theorem mX1_init_9 : Cond.fieldLink RX1 9 "Followrow$Relation" "pairs" "[Z" ∈ wsX1_init := by decide +kernel
theorem iX1_init_1 : ∀ w ∈ wsX10, w ∈ wsX1_init := by decide +kernel
set_option maxHeartbeats 4000000 in
set_option maxRecDepth 100000 in
/-- X1_init: a new object -/
theorem c_X1_init (l : Launch) (g : GT) {b sz : Nat} (hbs : b < sz) : nwM l g yX1_init wsX1_init 1 20 1 64 b [] ([(b, .inr (1, [.null]))]) sz false (fun w => ∃ q, w = wRel g b q (fun _ => false)) := by
  refine nw_of (cc := cX1_init) (maxL := 1) (ret := none) (by decide) rfl (Nat.le_of_ble_eq_true rfl) hbs (fun p e s m below meth c ls hx hb hr hml hts hown hlocks hin hl hP hE hD hS hA hao => ?_)
  have hin : meth.name = "<init>" := hin
  have hl : lv_has ls 1 [(0, .ref (b))] := hl
  have hown : s.vm.findClass RX1 = some m.cls := hown
  refine lv_aload_n hx hb dX1_init_0 rfl (lv_at hl 0 rfl) ?_
  refine obj_init hx hb hml hown hts (by decide +kernel) (by decide +kernel) (by decide +kernel) hl.1 dX1_init_1 (Nat.le_of_ble_eq_true rfl) (Nat.le_of_ble_eq_true rfl) (Nat.le_of_ble_eq_true rfl) ?_
  refine lv_aload_n hx hb dX1_init_4 rfl (lv_at hl 0 rfl) ?_
  refine lv_bipush (v := nI (64)) hx hb dX1_init_5 (by decide) ?_
  refine na_z hx hb hts (by decide +kernel) hE hP hD hS hA (by decide) (Nat.le_of_ble_eq_true rfl) (Nat.le_of_ble_eq_true rfl) dX1_init_7 (fun q7 H hP hD hS => ?_)
  have hP : gP g ([(b, .inr (1, [.null])), (q7, .inl (g.2 1, 64, .inl (zc (fun _ => false))))]) H := hP
  have hD : va_D (nwA [b] sz) ([(b, .inr (1, [.null])), (q7, .inl (g.2 1, 64, .inl (zc (fun _ => false))))]) := hD
  refine pfF (q0 := 0) (ci := 1) (k := 0) (ws' := [(b, .inr (1, [.ref (q7)])), (q7, .inl (g.2 1, 64, .inl (zc (fun _ => false))))]) (ty := tyX1 0) hx hb hts iX1_init_1 hown hE hP hD hS rfl rfl (by decide) tyX1_ok nmX1 mX1_init_9 rfl hin rfl (tyX1_ok 0 (by decide)) rfl rfl (Nat.le_of_ble_eq_true rfl) rfl dX1_init_9 (fun H locs hP hD hS => ?_)
  exact nw_retv hx hb hr hlocks hS hP hD ⟨_, rfl⟩ (Nat.le_of_ble_eq_true rfl) (Nat.le_of_ble_eq_true rfl) dX1_init_12
theorem mX0_init_9 : Cond.fieldLink RX0 9 "Followrow$Ledger" "authors" "[I" ∈ wsX0_init := by decide +kernel
theorem mX0_init_15 : Cond.fieldLink RX0 15 "Followrow$Ledger" "origins" "[I" ∈ wsX0_init := by decide +kernel
theorem mX0_init_18 : Cond.fieldLink RX0 18 "Followrow$Ledger" "deleted" "[Z" ∈ wsX0_init := by decide +kernel
theorem iX0_init_0 : ∀ w ∈ wsX00, w ∈ wsX0_init := by decide +kernel
set_option maxHeartbeats 4000000 in
set_option maxRecDepth 100000 in
/-- X0_init: a new object -/
theorem c_X0_init (l : Launch) (g : GT) {b sz : Nat} (hbs : b < sz) : nwM l g yX0_init wsX0_init 1 20 3 450 b [] ([(b, .inr (0, [.null, .null, .null, .int (nI (0))]))]) sz false (fun w => ∃ a1 a2 a3, w = wLed g b a1 a2 a3 (fun _ => 0) (fun _ => 0) (fun _ => false) 0) := by
  refine nw_of (cc := cX0_init) (maxL := 1) (ret := none) (by decide) rfl (Nat.le_of_ble_eq_true rfl) hbs (fun p e s m below meth c ls hx hb hr hml hts hown hlocks hin hl hP hE hD hS hA hao => ?_)
  have hin : meth.name = "<init>" := hin
  have hl : lv_has ls 1 [(0, .ref (b))] := hl
  have hown : s.vm.findClass RX0 = some m.cls := hown
  refine lv_aload_n hx hb dX0_init_0 rfl (lv_at hl 0 rfl) ?_
  refine obj_init hx hb hml hown hts (by decide +kernel) (by decide +kernel) (by decide +kernel) hl.1 dX0_init_1 (Nat.le_of_ble_eq_true rfl) (Nat.le_of_ble_eq_true rfl) (Nat.le_of_ble_eq_true rfl) ?_
  refine lv_aload_n hx hb dX0_init_4 rfl (lv_at hl 0 rfl) ?_
  refine lv_sipush (v := nI (150)) hx hb dX0_init_5 (by decide) ?_
  refine na_i hx hb hts (by decide +kernel) hE hP hD hS hA (by decide) nc_0 (Nat.le_of_ble_eq_true rfl) (Nat.le_of_ble_eq_true rfl) dX0_init_8 (fun q8 H hP hD hS => ?_)
  have hP : gP g ([(b, .inr (0, [.null, .null, .null, .int (nI (0))])), (q8, .inl (g.2 0, 150, .inl (nc (fun _ => 0))))]) H := hP
  have hD : va_D (nwA [b] sz) ([(b, .inr (0, [.null, .null, .null, .int (nI (0))])), (q8, .inl (g.2 0, 150, .inl (nc (fun _ => 0))))]) := hD
  refine pfF (q0 := 0) (ci := 0) (k := 0) (ws' := [(b, .inr (0, [.ref (q8), .null, .null, .int (nI (0))])), (q8, .inl (g.2 0, 150, .inl (nc (fun _ => 0))))]) (ty := tyX0 0) hx hb hts iX0_init_0 hown hE hP hD hS rfl rfl (by decide) tyX0_ok nmX0 mX0_init_9 rfl hin rfl (tyX0_ok 0 (by decide)) rfl rfl (Nat.le_of_ble_eq_true rfl) rfl dX0_init_10 (fun H locs hP hD hS => ?_)
  refine lv_aload_n hx hb dX0_init_13 rfl (lv_at hl 0 rfl) ?_
  refine lv_sipush (v := nI (150)) hx hb dX0_init_14 (by decide) ?_
  refine na_i hx hb hts (by decide +kernel) hE hP hD hS hA (by decide) nc_0 (Nat.le_of_ble_eq_true rfl) (Nat.le_of_ble_eq_true rfl) dX0_init_17 (fun q17 H hP hD hS => ?_)
  have hP : gP g ([(b, .inr (0, [.ref (q8), .null, .null, .int (nI (0))])), (q8, .inl (g.2 0, 150, .inl (nc (fun _ => 0)))), (q17, .inl (g.2 0, 150, .inl (nc (fun _ => 0))))]) H := hP
  have hD : va_D (nwA [b] sz) ([(b, .inr (0, [.ref (q8), .null, .null, .int (nI (0))])), (q8, .inl (g.2 0, 150, .inl (nc (fun _ => 0)))), (q17, .inl (g.2 0, 150, .inl (nc (fun _ => 0))))]) := hD
  refine pfF (q0 := 0) (ci := 0) (k := 1) (ws' := [(b, .inr (0, [.ref (q8), .ref (q17), .null, .int (nI (0))])), (q8, .inl (g.2 0, 150, .inl (nc (fun _ => 0)))), (q17, .inl (g.2 0, 150, .inl (nc (fun _ => 0))))]) (ty := tyX0 1) hx hb hts iX0_init_0 hown hE hP hD hS rfl rfl (by decide) tyX0_ok nmX0 mX0_init_15 rfl hin rfl (tyX0_ok 1 (by decide)) rfl rfl (Nat.le_of_ble_eq_true rfl) rfl dX0_init_19 (fun H locs hP hD hS => ?_)
  refine lv_aload_n hx hb dX0_init_22 rfl (lv_at hl 0 rfl) ?_
  refine lv_sipush (v := nI (150)) hx hb dX0_init_23 (by decide) ?_
  refine na_z hx hb hts (by decide +kernel) hE hP hD hS hA (by decide) (Nat.le_of_ble_eq_true rfl) (Nat.le_of_ble_eq_true rfl) dX0_init_26 (fun q26 H hP hD hS => ?_)
  have hP : gP g ([(b, .inr (0, [.ref (q8), .ref (q17), .null, .int (nI (0))])), (q8, .inl (g.2 0, 150, .inl (nc (fun _ => 0)))), (q17, .inl (g.2 0, 150, .inl (nc (fun _ => 0)))), (q26, .inl (g.2 1, 150, .inl (zc (fun _ => false))))]) H := hP
  have hD : va_D (nwA [b] sz) ([(b, .inr (0, [.ref (q8), .ref (q17), .null, .int (nI (0))])), (q8, .inl (g.2 0, 150, .inl (nc (fun _ => 0)))), (q17, .inl (g.2 0, 150, .inl (nc (fun _ => 0)))), (q26, .inl (g.2 1, 150, .inl (zc (fun _ => false))))]) := hD
  refine pfF (q0 := 0) (ci := 0) (k := 2) (ws' := [(b, .inr (0, [.ref (q8), .ref (q17), .ref (q26), .int (nI (0))])), (q8, .inl (g.2 0, 150, .inl (nc (fun _ => 0)))), (q17, .inl (g.2 0, 150, .inl (nc (fun _ => 0)))), (q26, .inl (g.2 1, 150, .inl (zc (fun _ => false))))]) (ty := tyX0 2) hx hb hts iX0_init_0 hown hE hP hD hS rfl rfl (by decide) tyX0_ok nmX0 mX0_init_18 rfl hin rfl (tyX0_ok 2 (by decide)) rfl rfl (Nat.le_of_ble_eq_true rfl) rfl dX0_init_28 (fun H locs hP hD hS => ?_)
  exact nw_retv hx hb hr hlocks hS hP hD ⟨_, _, _, rfl⟩ (Nat.le_of_ble_eq_true rfl) (Nat.le_of_ble_eq_true rfl) dX0_init_31
theorem mX3_init_9 : Cond.fieldLink RX3 9 "Followrow$Timeline" "numbers" "[I" ∈ wsX3_init := by decide +kernel
theorem mX3_init_15 : Cond.fieldLink RX3 15 "Followrow$Timeline" "taken" "[Z" ∈ wsX3_init := by decide +kernel
theorem iX3_init_3 : ∀ w ∈ wsX30, w ∈ wsX3_init := by decide +kernel
set_option maxHeartbeats 4000000 in
set_option maxRecDepth 100000 in
/-- X3_init: a new object -/
theorem c_X3_init (l : Launch) (g : GT) {b sz : Nat} (hbs : b < sz) : nwM l g yX3_init wsX3_init 1 20 2 300 b [] ([(b, .inr (3, [.null, .null, .int (nI (0))]))]) sz false (fun w => ∃ t1 t2, w = wTim g b t1 t2 (fun _ => 0) (fun _ => false) 0) := by
  refine nw_of (cc := cX3_init) (maxL := 1) (ret := none) (by decide) rfl (Nat.le_of_ble_eq_true rfl) hbs (fun p e s m below meth c ls hx hb hr hml hts hown hlocks hin hl hP hE hD hS hA hao => ?_)
  have hin : meth.name = "<init>" := hin
  have hl : lv_has ls 1 [(0, .ref (b))] := hl
  have hown : s.vm.findClass RX3 = some m.cls := hown
  refine lv_aload_n hx hb dX3_init_0 rfl (lv_at hl 0 rfl) ?_
  refine obj_init hx hb hml hown hts (by decide +kernel) (by decide +kernel) (by decide +kernel) hl.1 dX3_init_1 (Nat.le_of_ble_eq_true rfl) (Nat.le_of_ble_eq_true rfl) (Nat.le_of_ble_eq_true rfl) ?_
  refine lv_aload_n hx hb dX3_init_4 rfl (lv_at hl 0 rfl) ?_
  refine lv_sipush (v := nI (150)) hx hb dX3_init_5 (by decide) ?_
  refine na_i hx hb hts (by decide +kernel) hE hP hD hS hA (by decide) rfl (Nat.le_of_ble_eq_true rfl) (Nat.le_of_ble_eq_true rfl) dX3_init_8 (fun q8 H hP hD hS => ?_)
  have hP : gP g ([(b, .inr (3, [.null, .null, .int (nI (0))])), (q8, .inl (g.2 0, 150, .inl (fun _ => 0)))]) H := hP
  have hD : va_D (nwA [b] sz) ([(b, .inr (3, [.null, .null, .int (nI (0))])), (q8, .inl (g.2 0, 150, .inl (fun _ => 0)))]) := hD
  refine pfF (q0 := 0) (ci := 3) (k := 0) (ws' := [(b, .inr (3, [.ref (q8), .null, .int (nI (0))])), (q8, .inl (g.2 0, 150, .inl (fun _ => 0)))]) (ty := tyX3 0) hx hb hts iX3_init_3 hown hE hP hD hS rfl rfl (by decide) tyX3_ok nmX3 mX3_init_9 rfl hin rfl (tyX3_ok 0 (by decide)) rfl rfl (Nat.le_of_ble_eq_true rfl) rfl dX3_init_10 (fun H locs hP hD hS => ?_)
  refine lv_aload_n hx hb dX3_init_13 rfl (lv_at hl 0 rfl) ?_
  refine lv_sipush (v := nI (150)) hx hb dX3_init_14 (by decide) ?_
  refine na_z hx hb hts (by decide +kernel) hE hP hD hS hA (by decide) (Nat.le_of_ble_eq_true rfl) (Nat.le_of_ble_eq_true rfl) dX3_init_17 (fun q17 H hP hD hS => ?_)
  have hP : gP g ([(b, .inr (3, [.ref (q8), .null, .int (nI (0))])), (q8, .inl (g.2 0, 150, .inl (fun _ => 0))), (q17, .inl (g.2 1, 150, .inl (zc (fun _ => false))))]) H := hP
  have hD : va_D (nwA [b] sz) ([(b, .inr (3, [.ref (q8), .null, .int (nI (0))])), (q8, .inl (g.2 0, 150, .inl (fun _ => 0))), (q17, .inl (g.2 1, 150, .inl (zc (fun _ => false))))]) := hD
  refine pfF (q0 := 0) (ci := 3) (k := 1) (ws' := [(b, .inr (3, [.ref (q8), .ref (q17), .int (nI (0))])), (q8, .inl (g.2 0, 150, .inl (fun _ => 0))), (q17, .inl (g.2 1, 150, .inl (zc (fun _ => false))))]) (ty := tyX3 1) hx hb hts iX3_init_3 hown hE hP hD hS rfl rfl (by decide) tyX3_ok nmX3 mX3_init_15 rfl hin rfl (tyX3_ok 1 (by decide)) rfl rfl (Nat.le_of_ble_eq_true rfl) rfl dX3_init_19 (fun H locs hP hD hS => ?_)
  exact nw_retv hx hb hr hlocks hS hP hD ⟨_, _, rfl⟩ (Nat.le_of_ble_eq_true rfl) (Nat.le_of_ble_eq_true rfl) dX3_init_22
theorem mX2_init_9 : Cond.fieldLink RX2 9 "Followrow$Row" "numbers" "[I" ∈ wsX2_init := by decide +kernel
theorem mX2_init_15 : Cond.fieldLink RX2 15 "Followrow$Row" "floor" "I" ∈ wsX2_init := by decide +kernel
theorem mX2_init_19 : Cond.fieldLink RX2 19 "Followrow$Row" "owner" "I" ∈ wsX2_init := by decide +kernel
theorem iX2_init_2 : ∀ w ∈ wsX20, w ∈ wsX2_init := by decide +kernel
set_option maxHeartbeats 4000000 in
set_option maxRecDepth 100000 in
/-- X2_init: a new object -/
theorem c_X2_init (l : Launch) (g : GT) {b sz : Nat} {q : Nat} (hbs : b < sz) : nwM l g yX2_init wsX2_init 1 20 1 40 b [.int (nI (q))] ([(b, .inr (2, [.int (nI (0)), .null, .int (nI (0)), .int (fI (1))]))]) sz false (fun w => ∃ b1, w = wRow g b b1 q (fun _ => 0) 0 0) := by
  refine nw_of (cc := cX2_init) (maxL := 2) (ret := none) (by decide) rfl (Nat.le_of_ble_eq_true rfl) hbs (fun p e s m below meth c ls hx hb hr hml hts hown hlocks hin hl hP hE hD hS hA hao => ?_)
  have hin : meth.name = "<init>" := hin
  have hl : lv_has ls 2 [(0, .ref (b)), (1, .int (nI (q)))] := hl
  have hown : s.vm.findClass RX2 = some m.cls := hown
  refine lv_aload_n hx hb dX2_init_0 rfl (lv_at hl 0 rfl) ?_
  refine obj_init hx hb hml hown hts (by decide +kernel) (by decide +kernel) (by decide +kernel) hl.1 dX2_init_1 (Nat.le_of_ble_eq_true rfl) (Nat.le_of_ble_eq_true rfl) (Nat.le_of_ble_eq_true rfl) ?_
  refine lv_aload_n hx hb dX2_init_4 rfl (lv_at hl 0 rfl) ?_
  refine lv_bipush (v := nI (40)) hx hb dX2_init_5 (by decide) ?_
  refine na_i hx hb hts (by decide +kernel) hE hP hD hS hA (by decide) rfl (Nat.le_of_ble_eq_true rfl) (Nat.le_of_ble_eq_true rfl) dX2_init_7 (fun q7 H hP hD hS => ?_)
  have hP : gP g ([(b, .inr (2, [.int (nI (0)), .null, .int (nI (0)), .int (fI (1))])), (q7, .inl (g.2 0, 40, .inl (fun _ => 0)))]) H := hP
  have hD : va_D (nwA [b] sz) ([(b, .inr (2, [.int (nI (0)), .null, .int (nI (0)), .int (fI (1))])), (q7, .inl (g.2 0, 40, .inl (fun _ => 0)))]) := hD
  refine pfF (q0 := 0) (ci := 2) (k := 1) (ws' := [(b, .inr (2, [.int (nI (0)), .ref (q7), .int (nI (0)), .int (fI (1))])), (q7, .inl (g.2 0, 40, .inl (fun _ => 0)))]) (ty := tyX2 1) hx hb hts iX2_init_2 hown hE hP hD hS rfl rfl (by decide) tyX2_ok nmX2 mX2_init_9 rfl hin rfl (tyX2_ok 1 (by decide)) rfl rfl (Nat.le_of_ble_eq_true rfl) rfl dX2_init_9 (fun H locs hP hD hS => ?_)
  refine lv_aload_n hx hb dX2_init_12 rfl (lv_at hl 0 rfl) ?_
  refine lv_iconst (v := fI (0)) hx hb dX2_init_13 (by decide) ?_
  refine pf (q0 := 0) (ci := 2) (k := 3) (ws' := [(b, .inr (2, [.int (nI (0)), .ref (q7), .int (nI (0)), .int (fI (0))])), (q7, .inl (g.2 0, 40, .inl (fun _ => 0)))]) hx hb hts iX2_init_2 hown hE hP hD hS rfl rfl (by decide) tyX2_ok nmX2 mX2_init_15 rfl (by decide +kernel) (Nat.le_of_ble_eq_true rfl) rfl dX2_init_14 (fun H locs hP hD hS => ?_)
  refine lv_aload_n hx hb dX2_init_17 rfl (lv_at hl 0 rfl) ?_
  refine lv_iload_n hx hb dX2_init_18 rfl (lv_at hl 1 rfl) ?_
  refine pfF (q0 := 0) (ci := 2) (k := 0) (ws' := [(b, .inr (2, [.int (nI (q)), .ref (q7), .int (nI (0)), .int (fI (0))])), (q7, .inl (g.2 0, 40, .inl (fun _ => 0)))]) (ty := tyX2 0) hx hb hts iX2_init_2 hown hE hP hD hS rfl rfl (by decide) tyX2_ok nmX2 mX2_init_19 rfl hin rfl (tyX2_ok 0 (by decide)) rfl rfl (Nat.le_of_ble_eq_true rfl) rfl dX2_init_19 (fun H locs hP hD hS => ?_)
  exact nw_retv hx hb hr hlocks hS hP hD ⟨_, rfl⟩ (Nat.le_of_ble_eq_true rfl) (Nat.le_of_ble_eq_true rfl) dX2_init_22
