theorem tp_r {p : Program} {l : Launch} {e : Env} {R : Room} {s : State} {m : MethodId} {args : Array Value} {below : List Frame} {meth : Method} {c : Code} {H : Heap} {locs : List Loc} {cells slots : Nat} {Q : State → Prop} {pc a b : Nat} {ls : Array Slot} {rest : List Value} (h : a = b) (k : W p l e R s m args below meth c H locs cells slots Q (F0 m pc ls (.ref b :: rest))) : W p l e R s m args below meth c H locs cells slots Q (F0 m pc ls (.ref a :: rest)) := by
  rw [h]; exact k
theorem txexI : ∀ w ∈ (vx_atS RX4 icI exI exU).filter (fun w => !goodWord w), w ∈ xtraW := by decide +kernel
theorem txexA : ∀ w ∈ (vx_atS RX4 icA exA exU).filter (fun w => !goodWord w), w ∈ xtraW := by decide +kernel
theorem txexS : ∀ w ∈ (vx_atS RX4 icS exS exU).filter (fun w => !goodWord w), w ∈ xtraW := by decide +kernel
theorem tkX4_checkPerson_exI : Cond.classLink RX4 137 exI ∈ wsX4_checkPerson := by decide +kernel
theorem tiX4_checkPerson_exI : Cond.initialized exI ∈ wsX4_checkPerson := by decide +kernel
theorem taX4_checkPerson_exI : ∀ w ∈ (vx_atS RX4 icI exI exU).filter goodWord, w ∈ wsX4_checkPerson := by decide +kernel
theorem tgX4_checkPerson_exI : ∀ w ∈ Cond.classLink RX4 137 exI :: Cond.initialized exI :: vx_atS RX4 icI exI exU, vx_ot w = true := by decide +kernel
set_option maxHeartbeats 4000000 in
set_option maxRecDepth 100000 in
/-- checkPerson(x) -/
theorem c_X4_checkPerson (l : Launch) (hlf : l.stackTraces = false) (g : GT) {x : Int32} : xrM l g yX4_checkPerson wsX4_checkPerson 6 90 1 6 [.int (x)] ([]) (eP x) none := by
  refine xr_of (cc := cX4_checkPerson) (maxL := 1) (ret := none) (by decide) rfl (Nat.le_of_ble_eq_true rfl) (fun p e s m below meth c ls hx hb hr hml hts hown hlocks hl hP hE hxv hout => ?_)
  have hl : lv_has ls 1 [(0, .int (x))] := hl
  have hown : s.vm.findClass RX4 = some m.cls := hown
  refine lv_iload_n hx hb dX4_checkPerson_0 rfl (lv_at hl 0 rfl) ?_
  refine rd_goS (rn_S ⟨hx, hb, hml, hown, hts⟩ (c_X4_isPerson l g (x)) gX4_checkPerson_X4_isPerson rfl qX4_isPerson ⟨Nat.le_of_ble_eq_true rfl, Nat.le_of_ble_eq_true rfl⟩ ⟨Nat.le_of_ble_eq_true rfl, Nat.le_of_ble_eq_true rfl⟩ (gP_nil) hE rfl hl.1 rfl (Nat.le_of_ble_eq_true rfl) dX4_checkPerson_1) ?_
  refine br_neB (tgt := 17) hx hb dX4_checkPerson_4 (by decide) (fun h75 => ?_) (fun h75 => ?_)
  · exact xr_retv hx hb hr hlocks (by simp [eP, h75]) (Nat.le_of_ble_eq_true rfl) (Nat.le_of_ble_eq_true rfl) dX4_checkPerson_17
  · exact x_throw (text := "no such person or author") (cls := exI) (ic := icI) hx hb hlf hown hts hE hxv (by decide +kernel) tkX4_checkPerson_exI tiX4_checkPerson_exI taX4_checkPerson_exI txexI tgX4_checkPerson_exI (by decide +kernel) (hl.1.trans hml.symm) dX4_checkPerson_7 dX4_checkPerson_10 dX4_checkPerson_11 dX4_checkPerson_13 dX4_checkPerson_16 hout (by decide) (Nat.le_of_ble_eq_true rfl) (Nat.le_of_ble_eq_true rfl) (Nat.le_of_ble_eq_true rfl) hlocks (by have he9 : eP x = 1 := (by simp [eP, h75]); exact ⟨by rw [he9]; decide, by rw [he9]; rfl⟩) (Nat.le_of_ble_eq_true rfl) (Nat.le_of_ble_eq_true rfl)
theorem tkX4_checkDifferent_exA : Cond.classLink RX4 173 exA ∈ wsX4_checkDifferent := by decide +kernel
theorem tiX4_checkDifferent_exA : Cond.initialized exA ∈ wsX4_checkDifferent := by decide +kernel
theorem taX4_checkDifferent_exA : ∀ w ∈ (vx_atS RX4 icA exA exU).filter goodWord, w ∈ wsX4_checkDifferent := by decide +kernel
theorem tgX4_checkDifferent_exA : ∀ w ∈ Cond.classLink RX4 173 exA :: Cond.initialized exA :: vx_atS RX4 icA exA exU, vx_ot w = true := by decide +kernel
set_option maxHeartbeats 4000000 in
set_option maxRecDepth 100000 in
/-- checkDifferent(x, y) -/
theorem c_X4_checkDifferent (l : Launch) (hlf : l.stackTraces = false) (g : GT) {x y : Nat} (h1 : x < 2 ^ 31) (h2 : y < 2 ^ 31) : xrM l g yX4_checkDifferent wsX4_checkDifferent 6 90 1 6 [.int (nI (x)), .int (nI (y))] ([]) ((if x = y then 2 else 0)) none := by
  refine xr_of (cc := cX4_checkDifferent) (maxL := 2) (ret := none) (by decide) rfl (Nat.le_of_ble_eq_true rfl) (fun p e s m below meth c ls hx hb hr hml hts hown hlocks hl hP hE hxv hout => ?_)
  have hl : lv_has ls 2 [(0, .int (nI (x))), (1, .int (nI (y)))] := hl
  have hown : s.vm.findClass RX4 = some m.cls := hown
  refine lv_iload_n hx hb dX4_checkDifferent_0 rfl (lv_at hl 0 rfl) ?_
  refine lv_iload_n hx hb dX4_checkDifferent_1 rfl (lv_at hl 1 rfl) ?_
  refine br_neN (a := x) (b := y) (tgt := 15) hx hb (by omega) (by omega) dX4_checkDifferent_2 (by decide) (fun h76 => ?_) (fun h76 => ?_)
  · exact xr_retv hx hb hr hlocks (if_neg h76) (Nat.le_of_ble_eq_true rfl) (Nat.le_of_ble_eq_true rfl) dX4_checkDifferent_15
  · exact x_throw (text := "both are the same") (cls := exA) (ic := icA) hx hb hlf hown hts hE hxv (by decide +kernel) tkX4_checkDifferent_exA tiX4_checkDifferent_exA taX4_checkDifferent_exA txexA tgX4_checkDifferent_exA (by decide +kernel) (hl.1.trans hml.symm) dX4_checkDifferent_5 dX4_checkDifferent_8 dX4_checkDifferent_9 dX4_checkDifferent_11 dX4_checkDifferent_14 hout (by decide) (Nat.le_of_ble_eq_true rfl) (Nat.le_of_ble_eq_true rfl) (Nat.le_of_ble_eq_true rfl) hlocks (by have he9 : (if x = y then 2 else 0) = 2 := (if_pos h76); exact ⟨by rw [he9]; decide, by rw [he9]; rfl⟩) (Nat.le_of_ble_eq_true rfl) (Nat.le_of_ble_eq_true rfl)
theorem tkX4_checkRange_exA : Cond.classLink RX4 173 exA ∈ wsX4_checkRange := by decide +kernel
theorem tiX4_checkRange_exA : Cond.initialized exA ∈ wsX4_checkRange := by decide +kernel
theorem taX4_checkRange_exA : ∀ w ∈ (vx_atS RX4 icA exA exU).filter goodWord, w ∈ wsX4_checkRange := by decide +kernel
theorem tgX4_checkRange_exA : ∀ w ∈ Cond.classLink RX4 173 exA :: Cond.initialized exA :: vx_atS RX4 icA exA exU, vx_ot w = true := by decide +kernel
set_option maxHeartbeats 4000000 in
set_option maxRecDepth 100000 in
/-- checkRange(x, lo, hi) -/
theorem c_X4_checkRange (l : Launch) (hlf : l.stackTraces = false) (g : GT) {x : Int32} {lo hi : Nat} : xrM l g yX4_checkRange wsX4_checkRange 6 90 1 6 [.int (x), .int (nI (lo)), .int (nI (hi))] ([]) (eR lo hi x) none := by
  refine xr_of (cc := cX4_checkRange) (maxL := 3) (ret := none) (by decide) rfl (Nat.le_of_ble_eq_true rfl) (fun p e s m below meth c ls hx hb hr hml hts hown hlocks hl hP hE hxv hout => ?_)
  have hl : lv_has ls 3 [(0, .int (x)), (1, .int (nI (lo))), (2, .int (nI (hi)))] := hl
  have hown : s.vm.findClass RX4 = some m.cls := hown
  refine lv_iload_n hx hb dX4_checkRange_0 rfl (lv_at hl 0 rfl) ?_
  refine lv_iload_n hx hb dX4_checkRange_1 rfl (lv_at hl 1 rfl) ?_
  refine lv_icmp_lt (tgt := 10) hx hb dX4_checkRange_2 (by decide) (fun h77 => ?_) (fun h77 => ?_)
  · exact x_throw (text := "out of range") (cls := exA) (ic := icA) hx hb hlf hown hts hE hxv (by decide +kernel) tkX4_checkRange_exA tiX4_checkRange_exA taX4_checkRange_exA txexA tgX4_checkRange_exA (by decide +kernel) (hl.1.trans hml.symm) dX4_checkRange_10 dX4_checkRange_13 dX4_checkRange_14 dX4_checkRange_16 dX4_checkRange_19 hout (by decide) (Nat.le_of_ble_eq_true rfl) (Nat.le_of_ble_eq_true rfl) (Nat.le_of_ble_eq_true rfl) hlocks (by have he9 : eR lo hi x = 2 := (by simp only [eR]; rw [decide_eq_false (p := nI lo ≤ x) (Int32.not_le.mpr h77)]; rfl); exact ⟨by rw [he9]; decide, by rw [he9]; rfl⟩) (Nat.le_of_ble_eq_true rfl) (Nat.le_of_ble_eq_true rfl)
  · refine lv_iload_n hx hb dX4_checkRange_5 rfl (lv_at hl 0 rfl) ?_
    refine lv_iload_n hx hb dX4_checkRange_6 rfl (lv_at hl 2 rfl) ?_
    refine lv_icmp_le (tgt := 20) hx hb dX4_checkRange_7 (by decide) (fun h78 => ?_) (fun h78 => ?_)
    · exact xr_retv hx hb hr hlocks (by simp only [eR]; rw [decide_eq_true (p := nI lo ≤ x) (Int32.not_lt.mp h77), decide_eq_true (p := x ≤ nI hi) h78]; rfl) (Nat.le_of_ble_eq_true rfl) (Nat.le_of_ble_eq_true rfl) dX4_checkRange_20
    · exact x_throw (text := "out of range") (cls := exA) (ic := icA) hx hb hlf hown hts hE hxv (by decide +kernel) tkX4_checkRange_exA tiX4_checkRange_exA taX4_checkRange_exA txexA tgX4_checkRange_exA (by decide +kernel) (hl.1.trans hml.symm) dX4_checkRange_10 dX4_checkRange_13 dX4_checkRange_14 dX4_checkRange_16 dX4_checkRange_19 hout (by decide) (Nat.le_of_ble_eq_true rfl) (Nat.le_of_ble_eq_true rfl) (Nat.le_of_ble_eq_true rfl) hlocks (by have he9 : eR lo hi x = 2 := (by simp only [eR]; rw [decide_eq_false (p := x ≤ nI hi) h78, Bool.and_false]; rfl); exact ⟨by rw [he9]; decide, by rw [he9]; rfl⟩) (Nat.le_of_ble_eq_true rfl) (Nat.le_of_ble_eq_true rfl)
theorem mX4_checkEntry_25 : Cond.fieldLink RX4 25 "Followrow" "ledger" "LFollowrow$Ledger;" ∈ wsX4_checkEntry := by decide +kernel
theorem iX4_checkEntry_4 : ∀ w ∈ wsX40, w ∈ wsX4_checkEntry := by decide +kernel
theorem tkX4_checkEntry_exI : Cond.classLink RX4 137 exI ∈ wsX4_checkEntry := by decide +kernel
theorem tiX4_checkEntry_exI : Cond.initialized exI ∈ wsX4_checkEntry := by decide +kernel
theorem taX4_checkEntry_exI : ∀ w ∈ (vx_atS RX4 icI exI exU).filter goodWord, w ∈ wsX4_checkEntry := by decide +kernel
theorem tgX4_checkEntry_exI : ∀ w ∈ Cond.classLink RX4 137 exI :: Cond.initialized exI :: vx_atS RX4 icI exI exU, vx_ot w = true := by decide +kernel
set_option maxHeartbeats 4000000 in
set_option maxRecDepth 100000 in
/-- checkEntry(x) -/
theorem c_X4_checkEntry (l : Launch) (hlf : l.stackTraces = false) (g : GT) {ad : Nat → Nat} {σ : St} {τ : Sc} (hI : Inv σ) {x : Int32} : xrM l g yX4_checkEntry wsX4_checkEntry 6 90 1 6 [.ref (ad 0), .int (x)] (wF g ad (σ) (τ)) (eE (sn σ) x) none := by
  refine xr_of (cc := cX4_checkEntry) (maxL := 2) (ret := none) (by decide) rfl (Nat.le_of_ble_eq_true rfl) (fun p e s m below meth c ls hx hb hr hml hts hown hlocks hl hP hE hxv hout => ?_)
  have hl : lv_has ls 2 [(0, .ref (ad 0)), (1, .int (x))] := hl
  have hown : s.vm.findClass RX4 = some m.cls := hown
  obtain ⟨hi1, hi2, hi3, hi4, hi5, hi6, hi7, hi8⟩ := id hI
  refine lv_aload_n hx hb dX4_checkEntry_0 rfl (lv_at hl 0 rfl) ?_
  refine gf (q0 := 0) (ci := 4) (k := 3) (v := .ref (ad 7)) hx hb hts iX4_checkEntry_4 hown hE hP rfl rfl (by decide) mX4_checkEntry_25 rfl dX4_checkEntry_1 ?_
  refine lv_iload_n hx hb dX4_checkEntry_4 rfl (lv_at hl 1 rfl) ?_
  refine rd_goS (rn_V ⟨hx, hb, hml, hown, hts⟩ (c_X0_has l g (x := x) (by omega)) gX4_checkEntry_X0_has rfl pX0_has ⟨Nat.le_of_ble_eq_true rfl, Nat.le_of_ble_eq_true rfl⟩ ⟨Nat.le_of_ble_eq_true rfl, Nat.le_of_ble_eq_true rfl⟩ (hP.sub (ws' := wLed g (ad 7) (ad 8) (ad 9) (ad 10) (sa σ) (so σ) (sd σ) (sn σ)) [7, 8, 9, 10] rfl) hE rfl rfl rfl hl.1 rfl (Nat.le_of_ble_eq_true rfl) dX4_checkEntry_5) ?_
  refine br_neB (tgt := 21) hx hb dX4_checkEntry_8 (by decide) (fun h79 => ?_) (fun h79 => ?_)
  · exact xr_retv hx hb hr hlocks (by simp [eE, h79]) (Nat.le_of_ble_eq_true rfl) (Nat.le_of_ble_eq_true rfl) dX4_checkEntry_21
  · exact x_throw (text := "no such entry") (cls := exI) (ic := icI) hx hb hlf hown hts hE hxv (by decide +kernel) tkX4_checkEntry_exI tiX4_checkEntry_exI taX4_checkEntry_exI txexI tgX4_checkEntry_exI (by decide +kernel) (hl.1.trans hml.symm) dX4_checkEntry_11 dX4_checkEntry_14 dX4_checkEntry_15 dX4_checkEntry_17 dX4_checkEntry_20 hout (by decide) (Nat.le_of_ble_eq_true rfl) (Nat.le_of_ble_eq_true rfl) (Nat.le_of_ble_eq_true rfl) hlocks (by have he9 : eE (sn σ) x = 1 := (by simp [eE, h79]); exact ⟨by rw [he9]; decide, by rw [he9]; rfl⟩) (Nat.le_of_ble_eq_true rfl) (Nat.le_of_ble_eq_true rfl)
theorem mX4_checkPlace_25 : Cond.fieldLink RX4 25 "Followrow" "ledger" "LFollowrow$Ledger;" ∈ wsX4_checkPlace := by decide +kernel
theorem iX4_checkPlace_4 : ∀ w ∈ wsX40, w ∈ wsX4_checkPlace := by decide +kernel
theorem tkX4_checkPlace_exS : Cond.classLink RX4 63 exS ∈ wsX4_checkPlace := by decide +kernel
theorem tiX4_checkPlace_exS : Cond.initialized exS ∈ wsX4_checkPlace := by decide +kernel
theorem taX4_checkPlace_exS : ∀ w ∈ (vx_atS RX4 icS exS exU).filter goodWord, w ∈ wsX4_checkPlace := by decide +kernel
theorem tgX4_checkPlace_exS : ∀ w ∈ Cond.classLink RX4 63 exS :: Cond.initialized exS :: vx_atS RX4 icS exS exU, vx_ot w = true := by decide +kernel
set_option maxHeartbeats 4000000 in
set_option maxRecDepth 100000 in
/-- checkPlace() -/
theorem c_X4_checkPlace (l : Launch) (hlf : l.stackTraces = false) (g : GT) {ad : Nat → Nat} {σ : St} {τ : Sc} (hI : Inv σ) : xrM l g yX4_checkPlace wsX4_checkPlace 6 90 1 6 [.ref (ad 0)] (wF g ad (σ) (τ)) ((if sn σ < 150 then 0 else 3)) none := by
  refine xr_of (cc := cX4_checkPlace) (maxL := 1) (ret := none) (by decide) rfl (Nat.le_of_ble_eq_true rfl) (fun p e s m below meth c ls hx hb hr hml hts hown hlocks hl hP hE hxv hout => ?_)
  have hl : lv_has ls 1 [(0, .ref (ad 0))] := hl
  have hown : s.vm.findClass RX4 = some m.cls := hown
  obtain ⟨hi1, hi2, hi3, hi4, hi5, hi6, hi7, hi8⟩ := id hI
  refine lv_aload_n hx hb dX4_checkPlace_0 rfl (lv_at hl 0 rfl) ?_
  refine gf (q0 := 0) (ci := 4) (k := 3) (v := .ref (ad 7)) hx hb hts iX4_checkPlace_4 hown hE hP rfl rfl (by decide) mX4_checkPlace_25 rfl dX4_checkPlace_1 ?_
  refine rd_goS (rn_V ⟨hx, hb, hml, hown, hts⟩ (c_X0_made l g) gX4_checkPlace_X0_made rfl pX0_made ⟨Nat.le_of_ble_eq_true rfl, Nat.le_of_ble_eq_true rfl⟩ ⟨Nat.le_of_ble_eq_true rfl, Nat.le_of_ble_eq_true rfl⟩ (hP.sub (ws' := wLed g (ad 7) (ad 8) (ad 9) (ad 10) (sa σ) (so σ) (sd σ) (sn σ)) [7, 8, 9, 10] rfl) hE rfl rfl rfl hl.1 rfl (Nat.le_of_ble_eq_true rfl) dX4_checkPlace_4) ?_
  refine lv_sipush (v := nI (150)) hx hb dX4_checkPlace_7 (by decide) ?_
  refine br_ltN (a := sn σ) (b := 150) (tgt := 23) hx hb (by omega) (by omega) dX4_checkPlace_10 (by decide) (fun h80 => ?_) (fun h80 => ?_)
  · exact xr_retv hx hb hr hlocks (if_pos h80) (Nat.le_of_ble_eq_true rfl) (Nat.le_of_ble_eq_true rfl) dX4_checkPlace_23
  · exact x_throw (text := "all entries were made") (cls := exS) (ic := icS) hx hb hlf hown hts hE hxv (by decide +kernel) tkX4_checkPlace_exS tiX4_checkPlace_exS taX4_checkPlace_exS txexS tgX4_checkPlace_exS (by decide +kernel) (hl.1.trans hml.symm) dX4_checkPlace_13 dX4_checkPlace_16 dX4_checkPlace_17 dX4_checkPlace_19 dX4_checkPlace_22 hout (by decide) (Nat.le_of_ble_eq_true rfl) (Nat.le_of_ble_eq_true rfl) (Nat.le_of_ble_eq_true rfl) hlocks (by have he9 : (if sn σ < 150 then 0 else 3) = 3 := (if_neg (by omega)); exact ⟨by rw [he9]; decide, by rw [he9]; rfl⟩) (Nat.le_of_ble_eq_true rfl) (Nat.le_of_ble_eq_true rfl)
theorem mX4_rowOf_31 : Cond.fieldLink RX4 31 "Followrow" "rows" "[LFollowrow$Row;" ∈ wsX4_rowOf := by decide +kernel
theorem iX4_rowOf_4 : ∀ w ∈ wsX40, w ∈ wsX4_rowOf := by decide +kernel
set_option maxHeartbeats 4000000 in
set_option maxRecDepth 100000 in
/-- rowOf(x) -/
theorem c_X4_rowOf (l : Launch) (hlf : l.stackTraces = false) (g : GT) {ad : Nat → Nat} {σ : St} {τ : Sc} {x : Int32} : xrM l g yX4_rowOf wsX4_rowOf 7 110 1 6 [.ref (ad 0), .int (x)] (wF g ad (σ) (τ)) (eP x) (some (.ref (ad (15 + 2 * ix x)))) := by
  refine xr_of (cc := cX4_rowOf) (maxL := 2) (ret := (some (.object "Followrow$Row"))) (by decide) rfl (Nat.le_of_ble_eq_true rfl) (fun p e s m below meth c ls hx hb hr hml hts hown hlocks hl hP hE hxv hout => ?_)
  have hl : lv_has ls 2 [(0, .ref (ad 0)), (1, .int (x))] := hl
  have hown : s.vm.findClass RX4 = some m.cls := hown
  refine lv_iload_n hx hb dX4_rowOf_0 rfl (lv_at hl 1 rfl) ?_
  refine xr_goN (xn_S ⟨hx, hb, hml, hown, hts⟩ (c_X4_checkPerson l hlf g (x := x)) gX4_rowOf_X4_checkPerson rfl qX4_checkPerson ⟨Nat.le_of_ble_eq_true rfl, Nat.le_of_ble_eq_true rfl⟩ ⟨Nat.le_of_ble_eq_true rfl, Nat.le_of_ble_eq_true rfl⟩ (gP_nil) hE hxv rfl hl.1 rfl (Nat.le_of_ble_eq_true rfl) dX4_rowOf_1) hout hlocks (fun h => by cases hz : isP x <;> simp [eP, eP, hz] at h ⊢) (Nat.le_of_ble_eq_true rfl) (Nat.le_of_ble_eq_true rfl) (fun hx81 => ?_)
  obtain ⟨xj, hjx, rfl, hix⟩ := isP_of (eP_0 hx81)
  have hpx : isP (nI xj) = true := isP_nI hjx
  refine lv_aload_n hx hb dX4_rowOf_4 rfl (lv_at hl 0 rfl) ?_
  refine gf (q0 := 0) (ci := 4) (k := 4) (v := .ref (ad 11)) hx hb hts iX4_rowOf_4 hown hE hP rfl rfl (by decide) mX4_rowOf_31 rfl dX4_rowOf_5 ?_
  refine lv_iload_n hx hb dX4_rowOf_8 rfl (lv_at hl 1 rfl) ?_
  refine ra_q (q0 := 11) (i := xj) hx hb hE hP rfl (by omega) (by decide) dX4_rowOf_9 ?_
  show W _ _ _ _ _ _ _ _ _ _ _ _ _ _ _ (F0 m _ ls (.ref (ad (15 + 2 * xj)) :: _))
  exact xr_reta hx hb hr hlocks (by simp [eP, hpx]) (by rw [hix]) (Nat.le_of_ble_eq_true rfl) (Nat.le_of_ble_eq_true rfl) dX4_rowOf_10
theorem mX4_authorOf_25 : Cond.fieldLink RX4 25 "Followrow" "ledger" "LFollowrow$Ledger;" ∈ wsX4_authorOf := by decide +kernel
theorem iX4_authorOf_4 : ∀ w ∈ wsX40, w ∈ wsX4_authorOf := by decide +kernel
set_option maxHeartbeats 4000000 in
set_option maxRecDepth 100000 in
/-- authorOf(x) -/
theorem c_X4_authorOf (l : Launch) (hlf : l.stackTraces = false) (g : GT) {ad : Nat → Nat} {σ : St} {τ : Sc} (hI : Inv σ) {x : Int32} : xrM l g yX4_authorOf wsX4_authorOf 7 111 1 6 [.ref (ad 0), .int (x)] (wF g ad (σ) (τ)) (eE (sn σ) x) (some (.int (nI (sa σ (ix x))))) := by
  refine xr_of (cc := cX4_authorOf) (maxL := 2) (ret := (some .int)) (by decide) rfl (Nat.le_of_ble_eq_true rfl) (fun p e s m below meth c ls hx hb hr hml hts hown hlocks hl hP hE hxv hout => ?_)
  have hl : lv_has ls 2 [(0, .ref (ad 0)), (1, .int (x))] := hl
  have hown : s.vm.findClass RX4 = some m.cls := hown
  obtain ⟨hi1, hi2, hi3, hi4, hi5, hi6, hi7, hi8⟩ := id hI
  refine lv_aload_n hx hb dX4_authorOf_0 rfl (lv_at hl 0 rfl) ?_
  refine lv_iload_n hx hb dX4_authorOf_1 rfl (lv_at hl 1 rfl) ?_
  refine xr_goN (xn_V ⟨hx, hb, hml, hown, hts⟩ (c_X4_checkEntry l hlf g hI (x := x)) gX4_authorOf_X4_checkEntry rfl pX4_checkEntry ⟨Nat.le_of_ble_eq_true rfl, Nat.le_of_ble_eq_true rfl⟩ ⟨Nat.le_of_ble_eq_true rfl, Nat.le_of_ble_eq_true rfl⟩ (hP) hE hxv rfl rfl rfl hl.1 rfl (Nat.le_of_ble_eq_true rfl) dX4_authorOf_2) hout hlocks (fun h => by cases hz : isB x (sn σ) <;> simp [eE, eE, hz] at h ⊢) (Nat.le_of_ble_eq_true rfl) (Nat.le_of_ble_eq_true rfl) (fun hx82 => ?_)
  obtain ⟨xj, hjx, rfl, hix⟩ := isB_of (eE_0 hx82) (by omega)
  have hpx : isB (nI xj) (sn σ) = true := isB_lt (by omega) hjx
  refine lv_aload_n hx hb dX4_authorOf_5 rfl (lv_at hl 0 rfl) ?_
  refine gf (q0 := 0) (ci := 4) (k := 3) (v := .ref (ad 7)) hx hb hts iX4_authorOf_4 hown hE hP rfl rfl (by decide) mX4_authorOf_25 rfl dX4_authorOf_6 ?_
  refine lv_iload_n hx hb dX4_authorOf_9 rfl (lv_at hl 1 rfl) ?_
  refine rd_goS (rn_V ⟨hx, hb, hml, hown, hts⟩ (c_X0_author l g (x := xj) (by omega) (by omega)) gX4_authorOf_X0_author rfl pX0_author ⟨Nat.le_of_ble_eq_true rfl, Nat.le_of_ble_eq_true rfl⟩ ⟨Nat.le_of_ble_eq_true rfl, Nat.le_of_ble_eq_true rfl⟩ (hP.sub (ws' := wLed g (ad 7) (ad 8) (ad 9) (ad 10) (sa σ) (so σ) (sd σ) (sn σ)) [7, 8, 9, 10] rfl) hE rfl rfl rfl hl.1 rfl (Nat.le_of_ble_eq_true rfl) dX4_authorOf_10) ?_
  exact xr_reti hx hb hr hlocks (by simp [eE, hpx, hix]) (by rw [hix]) (Nat.le_of_ble_eq_true rfl) (Nat.le_of_ble_eq_true rfl) dX4_authorOf_13
theorem mX4_originOf_25 : Cond.fieldLink RX4 25 "Followrow" "ledger" "LFollowrow$Ledger;" ∈ wsX4_originOf := by decide +kernel
theorem iX4_originOf_4 : ∀ w ∈ wsX40, w ∈ wsX4_originOf := by decide +kernel
set_option maxHeartbeats 4000000 in
set_option maxRecDepth 100000 in
/-- originOf(x) -/
theorem c_X4_originOf (l : Launch) (hlf : l.stackTraces = false) (g : GT) {ad : Nat → Nat} {σ : St} {τ : Sc} (hI : Inv σ) {x : Int32} : xrM l g yX4_originOf wsX4_originOf 7 111 1 6 [.ref (ad 0), .int (x)] (wF g ad (σ) (τ)) (eE (sn σ) x) (some (.int (nI (so σ (ix x))))) := by
  refine xr_of (cc := cX4_originOf) (maxL := 2) (ret := (some .int)) (by decide) rfl (Nat.le_of_ble_eq_true rfl) (fun p e s m below meth c ls hx hb hr hml hts hown hlocks hl hP hE hxv hout => ?_)
  have hl : lv_has ls 2 [(0, .ref (ad 0)), (1, .int (x))] := hl
  have hown : s.vm.findClass RX4 = some m.cls := hown
  obtain ⟨hi1, hi2, hi3, hi4, hi5, hi6, hi7, hi8⟩ := id hI
  refine lv_aload_n hx hb dX4_originOf_0 rfl (lv_at hl 0 rfl) ?_
  refine lv_iload_n hx hb dX4_originOf_1 rfl (lv_at hl 1 rfl) ?_
  refine xr_goN (xn_V ⟨hx, hb, hml, hown, hts⟩ (c_X4_checkEntry l hlf g hI (x := x)) gX4_originOf_X4_checkEntry rfl pX4_checkEntry ⟨Nat.le_of_ble_eq_true rfl, Nat.le_of_ble_eq_true rfl⟩ ⟨Nat.le_of_ble_eq_true rfl, Nat.le_of_ble_eq_true rfl⟩ (hP) hE hxv rfl rfl rfl hl.1 rfl (Nat.le_of_ble_eq_true rfl) dX4_originOf_2) hout hlocks (fun h => by cases hz : isB x (sn σ) <;> simp [eE, eE, hz] at h ⊢) (Nat.le_of_ble_eq_true rfl) (Nat.le_of_ble_eq_true rfl) (fun hx83 => ?_)
  obtain ⟨xj, hjx, rfl, hix⟩ := isB_of (eE_0 hx83) (by omega)
  have hpx : isB (nI xj) (sn σ) = true := isB_lt (by omega) hjx
  refine lv_aload_n hx hb dX4_originOf_5 rfl (lv_at hl 0 rfl) ?_
  refine gf (q0 := 0) (ci := 4) (k := 3) (v := .ref (ad 7)) hx hb hts iX4_originOf_4 hown hE hP rfl rfl (by decide) mX4_originOf_25 rfl dX4_originOf_6 ?_
  refine lv_iload_n hx hb dX4_originOf_9 rfl (lv_at hl 1 rfl) ?_
  refine rd_goS (rn_V ⟨hx, hb, hml, hown, hts⟩ (c_X0_origin l g (x := xj) (by omega) (by omega)) gX4_originOf_X0_origin rfl pX0_origin ⟨Nat.le_of_ble_eq_true rfl, Nat.le_of_ble_eq_true rfl⟩ ⟨Nat.le_of_ble_eq_true rfl, Nat.le_of_ble_eq_true rfl⟩ (hP.sub (ws' := wLed g (ad 7) (ad 8) (ad 9) (ad 10) (sa σ) (so σ) (sd σ) (sn σ)) [7, 8, 9, 10] rfl) hE rfl rfl rfl hl.1 rfl (Nat.le_of_ble_eq_true rfl) dX4_originOf_10) ?_
  exact xr_reti hx hb hr hlocks (by simp [eE, hpx, hix]) (by rw [hix]) (Nat.le_of_ble_eq_true rfl) (Nat.le_of_ble_eq_true rfl) dX4_originOf_13
theorem mX4_follows_10 : Cond.fieldLink RX4 10 "Followrow" "following" "LFollowrow$Relation;" ∈ wsX4_follows := by decide +kernel
theorem iX4_follows_4 : ∀ w ∈ wsX40, w ∈ wsX4_follows := by decide +kernel
set_option maxHeartbeats 4000000 in
set_option maxRecDepth 100000 in
/-- follows(x, y) -/
theorem c_X4_follows (l : Launch) (hlf : l.stackTraces = false) (g : GT) {ad : Nat → Nat} {σ : St} {τ : Sc} (hI : Inv σ) {x y : Int32} : xrM l g yX4_follows wsX4_follows 7 110 2 12 [.ref (ad 0), .int (x), .int (y)] (wF g ad (σ) (τ)) (eFls x y) (some (.int (bI (sF σ (8 * ix x + ix y))))) := by
  refine xr_of (cc := cX4_follows) (maxL := 3) (ret := (some .boolean)) (by decide) rfl (Nat.le_of_ble_eq_true rfl) (fun p e s m below meth c ls hx hb hr hml hts hown hlocks hl hP hE hxv hout => ?_)
  have hl : lv_has ls 3 [(0, .ref (ad 0)), (1, .int (x)), (2, .int (y))] := hl
  have hown : s.vm.findClass RX4 = some m.cls := hown
  obtain ⟨hi1, hi2, hi3, hi4, hi5, hi6, hi7, hi8⟩ := id hI
  refine lv_iload_n hx hb dX4_follows_0 rfl (lv_at hl 1 rfl) ?_
  refine xr_goN (xn_S ⟨hx, hb, hml, hown, hts⟩ (c_X4_checkPerson l hlf g (x := x)) gX4_follows_X4_checkPerson rfl qX4_checkPerson ⟨Nat.le_of_ble_eq_true rfl, Nat.le_of_ble_eq_true rfl⟩ ⟨Nat.le_of_ble_eq_true rfl, Nat.le_of_ble_eq_true rfl⟩ (gP_nil) hE hxv rfl hl.1 rfl (Nat.le_of_ble_eq_true rfl) dX4_follows_1) hout hlocks (fun h => by cases hz : isP x <;> simp [eP, eFls, hz] at h ⊢) (Nat.le_of_ble_eq_true rfl) (Nat.le_of_ble_eq_true rfl) (fun hx84 => ?_)
  obtain ⟨xj, hjx, rfl, hix⟩ := isP_of (eP_0 hx84)
  have hpx : isP (nI xj) = true := isP_nI hjx
  refine lv_iload_n hx hb dX4_follows_4 rfl (lv_at hl 2 rfl) ?_
  refine xr_goN (xn_S ⟨hx, hb, hml, hown, hts⟩ (c_X4_checkPerson l hlf g (x := y)) gX4_follows_X4_checkPerson rfl qX4_checkPerson ⟨Nat.le_of_ble_eq_true rfl, Nat.le_of_ble_eq_true rfl⟩ ⟨Nat.le_of_ble_eq_true rfl, Nat.le_of_ble_eq_true rfl⟩ (gP_nil) hE hxv rfl hl.1 rfl (Nat.le_of_ble_eq_true rfl) dX4_follows_5) hout hlocks (fun h => by cases hz : isP y <;> simp [eP, eFls, hz, hpx, hix] at h ⊢) (Nat.le_of_ble_eq_true rfl) (Nat.le_of_ble_eq_true rfl) (fun hx85 => ?_)
  obtain ⟨yj, hjy, rfl, hiy⟩ := isP_of (eP_0 hx85)
  have hpy : isP (nI yj) = true := isP_nI hjy
  refine lv_aload_n hx hb dX4_follows_8 rfl (lv_at hl 0 rfl) ?_
  refine gf (q0 := 0) (ci := 4) (k := 0) (v := .ref (ad 1)) hx hb hts iX4_follows_4 hown hE hP rfl rfl (by decide) mX4_follows_10 rfl dX4_follows_9 ?_
  refine lv_iload_n hx hb dX4_follows_12 rfl (lv_at hl 1 rfl) ?_
  refine lv_iload_n hx hb dX4_follows_13 rfl (lv_at hl 2 rfl) ?_
  refine rd_goS (rn_V ⟨hx, hb, hml, hown, hts⟩ (c_X1_has l g (x := xj) (y := yj) (by first | omega | exact hi5 _ | exact hi6 _) (by first | omega | exact hi5 _ | exact hi6 _)) gX4_follows_X1_has rfl pX1_has ⟨Nat.le_of_ble_eq_true rfl, Nat.le_of_ble_eq_true rfl⟩ ⟨Nat.le_of_ble_eq_true rfl, Nat.le_of_ble_eq_true rfl⟩ (hP.sub (ws' := wRel g (ad 1) (ad 2) (sF σ)) [1, 2] rfl) hE rfl rfl rfl hl.1 rfl (Nat.le_of_ble_eq_true rfl) dX4_follows_14) ?_
  exact xr_retz hx hb hr hlocks (by simp [eFls, hpx, hix, hpy, hiy]) (by rw [hix, hiy]) (Nat.le_of_ble_eq_true rfl) (Nat.le_of_ble_eq_true rfl) dX4_follows_17
theorem mX4_followers_10 : Cond.fieldLink RX4 10 "Followrow" "following" "LFollowrow$Relation;" ∈ wsX4_followers := by decide +kernel
theorem iX4_followers_4 : ∀ w ∈ wsX40, w ∈ wsX4_followers := by decide +kernel
set_option maxHeartbeats 4000000 in
set_option maxRecDepth 100000 in
/-- followers(x) -/
theorem c_X4_followers (l : Launch) (hlf : l.stackTraces = false) (g : GT) {ad : Nat → Nat} {σ : St} {τ : Sc} (hI : Inv σ) {x : Int32} : xrM l g yX4_followers wsX4_followers 7 110 1 6 [.ref (ad 0), .int (x)] (wF g ad (σ) (τ)) (eP x) (some (.int (nI (fcnt (sF σ) (ix x))))) := by
  refine xr_of (cc := cX4_followers) (maxL := 2) (ret := (some .int)) (by decide) rfl (Nat.le_of_ble_eq_true rfl) (fun p e s m below meth c ls hx hb hr hml hts hown hlocks hl hP hE hxv hout => ?_)
  have hl : lv_has ls 2 [(0, .ref (ad 0)), (1, .int (x))] := hl
  have hown : s.vm.findClass RX4 = some m.cls := hown
  obtain ⟨hi1, hi2, hi3, hi4, hi5, hi6, hi7, hi8⟩ := id hI
  refine lv_iload_n hx hb dX4_followers_0 rfl (lv_at hl 1 rfl) ?_
  refine xr_goN (xn_S ⟨hx, hb, hml, hown, hts⟩ (c_X4_checkPerson l hlf g (x := x)) gX4_followers_X4_checkPerson rfl qX4_checkPerson ⟨Nat.le_of_ble_eq_true rfl, Nat.le_of_ble_eq_true rfl⟩ ⟨Nat.le_of_ble_eq_true rfl, Nat.le_of_ble_eq_true rfl⟩ (gP_nil) hE hxv rfl hl.1 rfl (Nat.le_of_ble_eq_true rfl) dX4_followers_1) hout hlocks (fun h => by cases hz : isP x <;> simp [eP, eP, hz] at h ⊢) (Nat.le_of_ble_eq_true rfl) (Nat.le_of_ble_eq_true rfl) (fun hx86 => ?_)
  obtain ⟨xj, hjx, rfl, hix⟩ := isP_of (eP_0 hx86)
  have hpx : isP (nI xj) = true := isP_nI hjx
  refine lv_aload_n hx hb dX4_followers_4 rfl (lv_at hl 0 rfl) ?_
  refine gf (q0 := 0) (ci := 4) (k := 0) (v := .ref (ad 1)) hx hb hts iX4_followers_4 hown hE hP rfl rfl (by decide) mX4_followers_10 rfl dX4_followers_5 ?_
  refine lv_iload_n hx hb dX4_followers_8 rfl (lv_at hl 1 rfl) ?_
  refine rd_goS (rn_V ⟨hx, hb, hml, hown, hts⟩ (c_X1_countTo l g (y := xj) (by first | omega | exact hi5 _ | exact hi6 _)) gX4_followers_X1_countTo rfl pX1_countTo ⟨Nat.le_of_ble_eq_true rfl, Nat.le_of_ble_eq_true rfl⟩ ⟨Nat.le_of_ble_eq_true rfl, Nat.le_of_ble_eq_true rfl⟩ (hP.sub (ws' := wRel g (ad 1) (ad 2) (sF σ)) [1, 2] rfl) hE rfl rfl rfl hl.1 rfl (Nat.le_of_ble_eq_true rfl) dX4_followers_9) ?_
  exact xr_reti hx hb hr hlocks (by simp [eP, hpx, hix]) (by rw [hix]) (Nat.le_of_ble_eq_true rfl) (Nat.le_of_ble_eq_true rfl) dX4_followers_12
set_option maxHeartbeats 4000000 in
set_option maxRecDepth 100000 in
/-- isLarge(x) -/
theorem c_X4_isLarge (l : Launch) (hlf : l.stackTraces = false) (g : GT) {ad : Nat → Nat} {σ : St} {τ : Sc} (hI : Inv σ) {x : Int32} : xrM l g yX4_isLarge wsX4_isLarge 7 110 1 6 [.ref (ad 0), .int (x)] (wF g ad (σ) (τ)) (eP x) (some (.int (bI (lg σ (ix x))))) := by
  refine xr_of (cc := cX4_isLarge) (maxL := 2) (ret := (some .boolean)) (by decide) rfl (Nat.le_of_ble_eq_true rfl) (fun p e s m below meth c ls hx hb hr hml hts hown hlocks hl hP hE hxv hout => ?_)
  have hl : lv_has ls 2 [(0, .ref (ad 0)), (1, .int (x))] := hl
  have hown : s.vm.findClass RX4 = some m.cls := hown
  obtain ⟨hi1, hi2, hi3, hi4, hi5, hi6, hi7, hi8⟩ := id hI
  refine lv_iload_n hx hb dX4_isLarge_0 rfl (lv_at hl 1 rfl) ?_
  refine xr_goN (xn_S ⟨hx, hb, hml, hown, hts⟩ (c_X4_checkPerson l hlf g (x := x)) gX4_isLarge_X4_checkPerson rfl qX4_checkPerson ⟨Nat.le_of_ble_eq_true rfl, Nat.le_of_ble_eq_true rfl⟩ ⟨Nat.le_of_ble_eq_true rfl, Nat.le_of_ble_eq_true rfl⟩ (gP_nil) hE hxv rfl hl.1 rfl (Nat.le_of_ble_eq_true rfl) dX4_isLarge_1) hout hlocks (fun h => by cases hz : isP x <;> simp [eP, eP, hz] at h ⊢) (Nat.le_of_ble_eq_true rfl) (Nat.le_of_ble_eq_true rfl) (fun hx87 => ?_)
  obtain ⟨xj, hjx, rfl, hix⟩ := isP_of (eP_0 hx87)
  have hpx : isP (nI xj) = true := isP_nI hjx
  refine lv_aload_n hx hb dX4_isLarge_4 rfl (lv_at hl 0 rfl) ?_
  refine lv_iload_n hx hb dX4_isLarge_5 rfl (lv_at hl 1 rfl) ?_
  refine rd_goS (rn_V ⟨hx, hb, hml, hown, hts⟩ (c_X4_isOverMark l g hI (y := xj) (by first | omega | exact hi5 _ | exact hi6 _)) gX4_isLarge_X4_isOverMark rfl pX4_isOverMark ⟨Nat.le_of_ble_eq_true rfl, Nat.le_of_ble_eq_true rfl⟩ ⟨Nat.le_of_ble_eq_true rfl, Nat.le_of_ble_eq_true rfl⟩ (hP) hE rfl rfl rfl hl.1 rfl (Nat.le_of_ble_eq_true rfl) dX4_isLarge_6) ?_
  exact xr_retz hx hb hr hlocks (by simp [eP, hpx, hix]) (by rw [hix]) (Nat.le_of_ble_eq_true rfl) (Nat.le_of_ble_eq_true rfl) dX4_isLarge_9
set_option maxHeartbeats 4000000 in
set_option maxRecDepth 100000 in
/-- inRow(x) -/
theorem c_X4_inRow (l : Launch) (hlf : l.stackTraces = false) (g : GT) {ad : Nat → Nat} {σ : St} {τ : Sc} (hI : Inv σ) (hR : rowsOk σ τ 8) {x : Int32} : xrM l g yX4_inRow wsX4_inRow 8 131 1 6 [.ref (ad 0), .int (x)] (wF g ad (σ) (τ)) (eP x) (some (.int (nI (rcn σ (ix x))))) := by
  refine xr_of (cc := cX4_inRow) (maxL := 2) (ret := (some .int)) (by decide) rfl (Nat.le_of_ble_eq_true rfl) (fun p e s m below meth c ls hx hb hr hml hts hown hlocks hl hP hE hxv hout => ?_)
  have hl : lv_has ls 2 [(0, .ref (ad 0)), (1, .int (x))] := hl
  have hown : s.vm.findClass RX4 = some m.cls := hown
  obtain ⟨hi1, hi2, hi3, hi4, hi5, hi6, hi7, hi8⟩ := id hI
  refine lv_aload_n hx hb dX4_inRow_0 rfl (lv_at hl 0 rfl) ?_
  refine lv_iload_n hx hb dX4_inRow_1 rfl (lv_at hl 1 rfl) ?_
  refine xr_goS (xn_V ⟨hx, hb, hml, hown, hts⟩ (c_X4_rowOf l hlf g (x := x)) gX4_inRow_X4_rowOf rfl pX4_rowOf ⟨Nat.le_of_ble_eq_true rfl, Nat.le_of_ble_eq_true rfl⟩ ⟨Nat.le_of_ble_eq_true rfl, Nat.le_of_ble_eq_true rfl⟩ (hP) hE hxv rfl rfl rfl hl.1 rfl (Nat.le_of_ble_eq_true rfl) dX4_inRow_2) hout hlocks (fun h => by cases hz : isP x <;> simp [eP, eP, hz] at h ⊢) (Nat.le_of_ble_eq_true rfl) (Nat.le_of_ble_eq_true rfl) (fun hx88 => ?_)
  obtain ⟨xj, hjx, rfl, hix⟩ := isP_of (eP_0 hx88)
  have hpx : isP (nI xj) = true := isP_nI hjx
  refine tp_r (congrArg (fun z => ad (15 + 2 * z)) hix) ?_
  refine rd_goS (rn_V ⟨hx, hb, hml, hown, hts⟩ (c_X2_count l g) gX4_inRow_X2_count rfl pX2_count ⟨Nat.le_of_ble_eq_true rfl, Nat.le_of_ble_eq_true rfl⟩ ⟨Nat.le_of_ble_eq_true rfl, Nat.le_of_ble_eq_true rfl⟩ ((wF_row (q := xj) (by omega) hP)) hE rfl rfl rfl hl.1 rfl (Nat.le_of_ble_eq_true rfl) dX4_inRow_5) ?_
  exact xr_reti hx hb hr hlocks (by simp [eP, hpx, hix]) (by rw [hix, (hR xj hjx).1]; rfl) (Nat.le_of_ble_eq_true rfl) (Nat.le_of_ble_eq_true rfl) dX4_inRow_8
set_option maxHeartbeats 4000000 in
set_option maxRecDepth 100000 in
/-- floorOf(x) -/
theorem c_X4_floorOf (l : Launch) (hlf : l.stackTraces = false) (g : GT) {ad : Nat → Nat} {σ : St} {τ : Sc} (hI : Inv σ) {x : Int32} : xrM l g yX4_floorOf wsX4_floorOf 8 131 1 6 [.ref (ad 0), .int (x)] (wF g ad (σ) (τ)) (eP x) (some (.int (fI (sf σ (ix x))))) := by
  refine xr_of (cc := cX4_floorOf) (maxL := 2) (ret := (some .int)) (by decide) rfl (Nat.le_of_ble_eq_true rfl) (fun p e s m below meth c ls hx hb hr hml hts hown hlocks hl hP hE hxv hout => ?_)
  have hl : lv_has ls 2 [(0, .ref (ad 0)), (1, .int (x))] := hl
  have hown : s.vm.findClass RX4 = some m.cls := hown
  obtain ⟨hi1, hi2, hi3, hi4, hi5, hi6, hi7, hi8⟩ := id hI
  refine lv_aload_n hx hb dX4_floorOf_0 rfl (lv_at hl 0 rfl) ?_
  refine lv_iload_n hx hb dX4_floorOf_1 rfl (lv_at hl 1 rfl) ?_
  refine xr_goS (xn_V ⟨hx, hb, hml, hown, hts⟩ (c_X4_rowOf l hlf g (x := x)) gX4_floorOf_X4_rowOf rfl pX4_rowOf ⟨Nat.le_of_ble_eq_true rfl, Nat.le_of_ble_eq_true rfl⟩ ⟨Nat.le_of_ble_eq_true rfl, Nat.le_of_ble_eq_true rfl⟩ (hP) hE hxv rfl rfl rfl hl.1 rfl (Nat.le_of_ble_eq_true rfl) dX4_floorOf_2) hout hlocks (fun h => by cases hz : isP x <;> simp [eP, eP, hz] at h ⊢) (Nat.le_of_ble_eq_true rfl) (Nat.le_of_ble_eq_true rfl) (fun hx89 => ?_)
  obtain ⟨xj, hjx, rfl, hix⟩ := isP_of (eP_0 hx89)
  have hpx : isP (nI xj) = true := isP_nI hjx
  refine tp_r (congrArg (fun z => ad (15 + 2 * z)) hix) ?_
  refine rd_goS (rn_V ⟨hx, hb, hml, hown, hts⟩ (c_X2_floor l g) gX4_floorOf_X2_floor rfl pX2_floor ⟨Nat.le_of_ble_eq_true rfl, Nat.le_of_ble_eq_true rfl⟩ ⟨Nat.le_of_ble_eq_true rfl, Nat.le_of_ble_eq_true rfl⟩ ((wF_row (q := xj) (by omega) hP)) hE rfl rfl rfl hl.1 rfl (Nat.le_of_ble_eq_true rfl) dX4_floorOf_5) ?_
  exact xr_reti hx hb hr hlocks (by simp [eP, hpx, hix]) (by rw [hix]) (Nat.le_of_ble_eq_true rfl) (Nat.le_of_ble_eq_true rfl) dX4_floorOf_8
theorem tkX4_rowAt_exI : Cond.classLink RX4 137 exI ∈ wsX4_rowAt := by decide +kernel
theorem tiX4_rowAt_exI : Cond.initialized exI ∈ wsX4_rowAt := by decide +kernel
theorem taX4_rowAt_exI : ∀ w ∈ (vx_atS RX4 icI exI exU).filter goodWord, w ∈ wsX4_rowAt := by decide +kernel
theorem tgX4_rowAt_exI : ∀ w ∈ Cond.classLink RX4 137 exI :: Cond.initialized exI :: vx_atS RX4 icI exI exU, vx_ot w = true := by decide +kernel
set_option maxHeartbeats 4000000 in
set_option maxRecDepth 100000 in
/-- rowAt(x, y): v9 stands there -/
theorem c_X4_rowAt (l : Launch) (hlf : l.stackTraces = false) (g : GT) {ad : Nat → Nat} {σ : St} {τ : Sc} (hI : Inv σ) (hR : rowsOk σ τ 8) (hSd : Setd σ) {x y : Int32} {v9 : Nat} (hv : eRow σ x y = 0 → isRow σ (ix x) (ix y) v9) : xrM l g yX4_rowAt wsX4_rowAt 8 131 2 12 [.ref (ad 0), .int (x), .int (y)] (wF g ad (σ) (τ)) (eRow σ x y) (some (.int (nI (v9)))) := by
  refine xr_of (cc := cX4_rowAt) (maxL := 4) (ret := (some .int)) (by decide) rfl (Nat.le_of_ble_eq_true rfl) (fun p e s m below meth c ls hx hb hr hml hts hown hlocks hl hP hE hxv hout => ?_)
  have hl : lv_has ls 4 [(0, .ref (ad 0)), (1, .int (x)), (2, .int (y))] := hl
  have hown : s.vm.findClass RX4 = some m.cls := hown
  obtain ⟨hi1, hi2, hi3, hi4, hi5, hi6, hi7, hi8⟩ := id hI
  refine lv_aload_n hx hb dX4_rowAt_0 rfl (lv_at hl 0 rfl) ?_
  refine lv_iload_n hx hb dX4_rowAt_1 rfl (lv_at hl 1 rfl) ?_
  refine xr_goS (xn_V ⟨hx, hb, hml, hown, hts⟩ (c_X4_rowOf l hlf g (x := x)) gX4_rowAt_X4_rowOf rfl pX4_rowOf ⟨Nat.le_of_ble_eq_true rfl, Nat.le_of_ble_eq_true rfl⟩ ⟨Nat.le_of_ble_eq_true rfl, Nat.le_of_ble_eq_true rfl⟩ (hP) hE hxv rfl rfl rfl hl.1 rfl (Nat.le_of_ble_eq_true rfl) dX4_rowAt_2) hout hlocks (fun h => by cases hz : isP x <;> simp [eP, eRow, hz] at h ⊢) (Nat.le_of_ble_eq_true rfl) (Nat.le_of_ble_eq_true rfl) (fun hx90 => ?_)
  obtain ⟨xj, hjx, rfl, hix⟩ := isP_of (eP_0 hx90)
  have hpx : isP (nI xj) = true := isP_nI hjx
  refine tp_r (congrArg (fun z => ad (15 + 2 * z)) hix) ?_
  refine lv_astore_n (lv' := [(3, .ref (ad (15 + 2 * xj))), (0, .ref (ad 0)), (1, .int (nI (xj))), (2, .int (y))]) hx hb dX4_rowAt_5 rfl hl (by decide) rfl (fun ls hl => ?_)
  have hrc9 : rc τ xj = rcn σ xj := (hR xj hjx).1
  have hrl9 : rc τ xj ≤ 40 := by have := hSd xj hjx; unfold rcn at hrc9; omega
  refine lv_iload_n hx hb dX4_rowAt_6 rfl (lv_at hl 3 rfl) ?_
  refine lv_if_lt (tgt := 18) hx hb dX4_rowAt_7 (by decide) (fun h91 => ?_) (fun h91 => ?_)
  · exact x_throw (text := "the row has not so many") (cls := exI) (ic := icI) hx hb hlf hown hts hE hxv (by decide +kernel) tkX4_rowAt_exI tiX4_rowAt_exI taX4_rowAt_exI txexI tgX4_rowAt_exI (by decide +kernel) (hl.1.trans hml.symm) dX4_rowAt_18 dX4_rowAt_21 dX4_rowAt_22 dX4_rowAt_24 dX4_rowAt_27 hout (by decide) (Nat.le_of_ble_eq_true rfl) (Nat.le_of_ble_eq_true rfl) (Nat.le_of_ble_eq_true rfl) hlocks (by have he9 : eRow σ (nI xj) y = 1 := (by have hz : isB y (rcn σ xj) = false := (isB_neg h91).symm; simp [eRow, hpx, hix, hz]); exact ⟨by rw [he9]; decide, by rw [he9]; rfl⟩) (Nat.le_of_ble_eq_true rfl) (Nat.le_of_ble_eq_true rfl)
  · have h_neg := h91
    refine lv_iload_n hx hb dX4_rowAt_10 rfl (lv_at hl 3 rfl) ?_
    refine lv_aload_n hx hb dX4_rowAt_11 rfl (lv_at hl 0 rfl) ?_
    refine rd_goS (rn_V ⟨hx, hb, hml, hown, hts⟩ (c_X2_count l g) gX4_rowAt_X2_count rfl pX2_count ⟨Nat.le_of_ble_eq_true rfl, Nat.le_of_ble_eq_true rfl⟩ ⟨Nat.le_of_ble_eq_true rfl, Nat.le_of_ble_eq_true rfl⟩ ((wF_row (q := xj) (by omega) hP)) hE rfl rfl rfl hl.1 rfl (Nat.le_of_ble_eq_true rfl) dX4_rowAt_12) ?_
    refine lv_icmp_lt (tgt := 28) hx hb dX4_rowAt_15 (by decide) (fun h92 => ?_) (fun h92 => ?_)
    · have hby : isB y (rc τ xj) = true := (isB_ok (by omega) h_neg (Int32.not_le.mpr h92)).symm
      obtain ⟨yj, hjy, rfl, hiy⟩ := isB_of hby (by omega)
      have hpy : isB (nI yj) (rcn σ xj) = true := by rw [← hrc9]; exact hby
      refine lv_aload_n hx hb dX4_rowAt_28 rfl (lv_at hl 0 rfl) ?_
      refine lv_aload_n hx hb dX4_rowAt_29 rfl (lv_at hl 0 rfl) ?_
      refine rd_goS (rn_V ⟨hx, hb, hml, hown, hts⟩ (c_X2_count l g) gX4_rowAt_X2_count rfl pX2_count ⟨Nat.le_of_ble_eq_true rfl, Nat.le_of_ble_eq_true rfl⟩ ⟨Nat.le_of_ble_eq_true rfl, Nat.le_of_ble_eq_true rfl⟩ ((wF_row (q := xj) (by omega) hP)) hE rfl rfl rfl hl.1 rfl (Nat.le_of_ble_eq_true rfl) dX4_rowAt_30) ?_
      refine lv_iconst (v := nI (1)) hx hb dX4_rowAt_33 (by decide) ?_
      refine lv_isub hx hb dX4_rowAt_34 ?_
      refine tp_i (sub1 (rc τ xj)) ?_
      refine lv_iload_n hx hb dX4_rowAt_35 rfl (lv_at hl 3 rfl) ?_
      refine lv_isub hx hb dX4_rowAt_36 ?_
      refine tp_i (show fI (rc τ xj) - nI yj = nI (rc τ xj - 1 - yj) from by rw [show rc τ xj = (rc τ xj - 1) + 1 by omega, fI_succ, pk_sub (by omega)]; rfl) ?_
      refine rd_goS (rn_V ⟨hx, hb, hml, hown, hts⟩ (c_X2_fromNewest l g (x := rc τ xj - 1 - yj) (by omega) (by omega)) gX4_rowAt_X2_fromNewest rfl pX2_fromNewest ⟨Nat.le_of_ble_eq_true rfl, Nat.le_of_ble_eq_true rfl⟩ ⟨Nat.le_of_ble_eq_true rfl, Nat.le_of_ble_eq_true rfl⟩ ((wF_row (q := xj) (by omega) hP)) hE rfl rfl rfl hl.1 rfl (Nat.le_of_ble_eq_true rfl) dX4_rowAt_37) ?_
      have he0 : eRow σ (nI xj) (nI yj) = 0 := by simp [eRow, hpx, hix, hpy]
      obtain ⟨k1, k2, k3, k4⟩ := hv he0
      rw [hix] at k1 k3 k4
      rw [hiy] at k4
      have hrw := (hR xj hjx).2 v9 k1 k2 k3
      have k5 := cN_t k3
      have k6 := cN_up _ k2 k3
      have k7 : rcn σ xj = cN (el σ xj) (sn σ) - cN (el σ xj) (sf σ xj) := rfl
      exact xr_reti hx hb hr hlocks he0 (by rw [if_pos (by omega), ← hrw]; congr 1; omega) (Nat.le_of_ble_eq_true rfl) (Nat.le_of_ble_eq_true rfl) dX4_rowAt_40
    · exact x_throw (text := "the row has not so many") (cls := exI) (ic := icI) hx hb hlf hown hts hE hxv (by decide +kernel) tkX4_rowAt_exI tiX4_rowAt_exI taX4_rowAt_exI txexI tgX4_rowAt_exI (by decide +kernel) (hl.1.trans hml.symm) dX4_rowAt_18 dX4_rowAt_21 dX4_rowAt_22 dX4_rowAt_24 dX4_rowAt_27 hout (by decide) (Nat.le_of_ble_eq_true rfl) (Nat.le_of_ble_eq_true rfl) (Nat.le_of_ble_eq_true rfl) hlocks (by have he9 : eRow σ (nI xj) y = 1 := (by have hz : isB y (rc τ xj) = false := (isB_big (by omega) (Int32.not_lt.mp h92)).symm; rw [hrc9] at hz; simp [eRow, hpx, hix, hz]); exact ⟨by rw [he9]; decide, by rw [he9]; rfl⟩) (Nat.le_of_ble_eq_true rfl) (Nat.le_of_ble_eq_true rfl)
theorem mX4_hasGap_10 : Cond.fieldLink RX4 10 "Followrow" "following" "LFollowrow$Relation;" ∈ wsX4_hasGap := by decide +kernel
theorem mX4_hasGap_25 : Cond.fieldLink RX4 25 "Followrow" "ledger" "LFollowrow$Ledger;" ∈ wsX4_hasGap := by decide +kernel
theorem iX4_hasGap_4 : ∀ w ∈ wsX40, w ∈ wsX4_hasGap := by decide +kernel
set_option maxHeartbeats 4000000 in
set_option maxRecDepth 100000 in
/-- hasGap(x) -/
theorem c_X4_hasGap (l : Launch) (hlf : l.stackTraces = false) (g : GT) {ad : Nat → Nat} {σ : St} {τ : Sc} (hI : Inv σ) {x : Int32} : xrM l g yX4_hasGap wsX4_hasGap 8 131 1 6 [.ref (ad 0), .int (x)] (wF g ad (σ) (τ)) (eP x) (some (.int (bI (rGap σ (ix x))))) := by
  refine xr_of (cc := cX4_hasGap) (maxL := 4) (ret := (some .boolean)) (by decide) rfl (Nat.le_of_ble_eq_true rfl) (fun p e s m below meth c ls hx hb hr hml hts hown hlocks hl hP hE hxv hout => ?_)
  have hl : lv_has ls 4 [(0, .ref (ad 0)), (1, .int (x))] := hl
  have hown : s.vm.findClass RX4 = some m.cls := hown
  obtain ⟨hi1, hi2, hi3, hi4, hi5, hi6, hi7, hi8⟩ := id hI
  refine lv_aload_n hx hb dX4_hasGap_0 rfl (lv_at hl 0 rfl) ?_
  refine lv_iload_n hx hb dX4_hasGap_1 rfl (lv_at hl 1 rfl) ?_
  refine xr_goS (xn_V ⟨hx, hb, hml, hown, hts⟩ (c_X4_rowOf l hlf g (x := x)) gX4_hasGap_X4_rowOf rfl pX4_rowOf ⟨Nat.le_of_ble_eq_true rfl, Nat.le_of_ble_eq_true rfl⟩ ⟨Nat.le_of_ble_eq_true rfl, Nat.le_of_ble_eq_true rfl⟩ (hP) hE hxv rfl rfl rfl hl.1 rfl (Nat.le_of_ble_eq_true rfl) dX4_hasGap_2) hout hlocks (fun h => by cases hz : isP x <;> simp [eP, eP, hz] at h ⊢) (Nat.le_of_ble_eq_true rfl) (Nat.le_of_ble_eq_true rfl) (fun hx93 => ?_)
  obtain ⟨xj, hjx, rfl, hix⟩ := isP_of (eP_0 hx93)
  have hpx : isP (nI xj) = true := isP_nI hjx
  refine tp_r (congrArg (fun z => ad (15 + 2 * z)) hix) ?_
  refine rd_goS (rn_V ⟨hx, hb, hml, hown, hts⟩ (c_X2_floor l g) gX4_hasGap_X2_floor rfl pX2_floor ⟨Nat.le_of_ble_eq_true rfl, Nat.le_of_ble_eq_true rfl⟩ ⟨Nat.le_of_ble_eq_true rfl, Nat.le_of_ble_eq_true rfl⟩ ((wF_row (q := xj) (by omega) hP)) hE rfl rfl rfl hl.1 rfl (Nat.le_of_ble_eq_true rfl) dX4_hasGap_5) ?_
  refine lv_istore_n (lv' := [(2, .int (fI (sf σ xj))), (0, .ref (ad 0)), (1, .int (nI (xj)))]) hx hb dX4_hasGap_8 rfl hl (by decide) rfl (fun ls hl => ?_)
  refine lv_iconst (v := nI (0)) hx hb dX4_hasGap_9 (by decide) ?_
  refine lv_istore_n (lv' := [(3, .int (nI (0))), (2, .int (fI (sf σ xj))), (0, .ref (ad 0)), (1, .int (nI (xj)))]) hx hb dX4_hasGap_10 rfl hl (by decide) rfl (fun ls hl => ?_)
  have hfx := hi8 xj hjx
  have lp94 : ∀ (n9 : Nat) (i : Nat), sf σ xj - i < n9 → (i ≤ sf σ xj) → (∀ k, k < i → (!sd σ k && sF σ (8 * xj + sa σ k)) = false) → ∀ ls : Array Slot, lv_has ls 4 [(0, .ref (ad 0)), (1, .int (nI (xj))), (2, .int (fI (sf σ xj))), (3, .int (nI (i)))] → W p l e ({ frames := 8, cells := 1, slots := 6, locals := 131 } : Room) s m ([.ref (ad 0), .int ((nI xj))] : List Value).toArray below meth c s.heap [] 1 6 (vx_MQ below (xrQ (eP (nI xj)) (some (.int (bI (rGap σ (ix (nI xj))))))) (xX (eP (nI xj))) ([.ref (ad 0), .int ((nI xj))] : List Value).toArray s 1 6 (fun _ => False)) (F0 m 11 ls []) := by
    intro n9
    induction n9 with
    | zero => intro i h; omega
    | succ n9 ih =>
      intro i h9 hi hno ls hl
      refine lv_iload_n hx hb dX4_hasGap_11 rfl (lv_at hl 3 rfl) ?_
      refine lv_iload_n hx hb dX4_hasGap_12 rfl (lv_at hl 2 rfl) ?_
      refine tp_i2 nI_fI ?_
      refine br_gtF (a := i + 1) (b := sf σ xj) (tgt := 54) hx hb (by omega) (by omega) dX4_hasGap_13 (by decide) (fun h95 => ?_) (fun h95 => ?_)
      · refine lv_iconst (v := bI (false)) hx hb dX4_hasGap_54 (by decide) ?_
        exact xr_retz hx hb hr hlocks (by simp [eP, hpx]) (by rw [hix]; exact (exB_false.mpr (fun k hk => by by_cases z9 : k < sf σ xj <;> first | (rw [decide_eq_false z9, Bool.false_and]; done) | (rw [hno k (by omega), Bool.and_false]; done))).symm) (Nat.le_of_ble_eq_true rfl) (Nat.le_of_ble_eq_true rfl) dX4_hasGap_55
      · refine lv_aload_n hx hb dX4_hasGap_16 rfl (lv_at hl 0 rfl) ?_
        refine gf (q0 := 0) (ci := 4) (k := 3) (v := .ref (ad 7)) hx hb hts iX4_hasGap_4 hown hE hP rfl rfl (by decide) mX4_hasGap_25 rfl dX4_hasGap_17 ?_
        refine lv_iload_n hx hb dX4_hasGap_20 rfl (lv_at hl 3 rfl) ?_
        refine rd_goS (rn_V ⟨hx, hb, hml, hown, hts⟩ (c_X0_stands l g (x := i) (by omega) (by omega)) gX4_hasGap_X0_stands rfl pX0_stands ⟨Nat.le_of_ble_eq_true rfl, Nat.le_of_ble_eq_true rfl⟩ ⟨Nat.le_of_ble_eq_true rfl, Nat.le_of_ble_eq_true rfl⟩ (hP.sub (ws' := wLed g (ad 7) (ad 8) (ad 9) (ad 10) (sa σ) (so σ) (sd σ) (sn σ)) [7, 8, 9, 10] rfl) hE rfl rfl rfl hl.1 rfl (Nat.le_of_ble_eq_true rfl) dX4_hasGap_21) ?_
        refine br_eqB (tgt := 48) hx hb dX4_hasGap_24 (by decide) (fun h96 => ?_) (fun h96 => ?_)
        · refine lv_iinc (v := nI (i + 1)) (lv' := [(3, .int (nI (i + 1))), (0, .ref (ad 0)), (1, .int (nI (xj))), (2, .int (fI (sf σ xj)))]) hx hb dX4_hasGap_48 hl (k := 3) rfl (inc1 (i)) (by decide) rfl (fun ls hl => ?_)
          refine lv_goto (tgt := 11) hx hb dX4_hasGap_51 (by decide) ?_
          exact ih (i + 1) (by omega) (by omega) (fun k hk => by rcases Nat.lt_or_ge k i with z9 | z9 <;> first | exact hno k z9 | (rw [show k = i by omega]; exact (by simp [bnf h96]))) ls (lv_sub hl [1, 2, 3, 0] rfl)
        · refine lv_aload_n hx hb dX4_hasGap_27 rfl (lv_at hl 0 rfl) ?_
          refine gf (q0 := 0) (ci := 4) (k := 0) (v := .ref (ad 1)) hx hb hts iX4_hasGap_4 hown hE hP rfl rfl (by decide) mX4_hasGap_10 rfl dX4_hasGap_28 ?_
          refine lv_iload_n hx hb dX4_hasGap_31 rfl (lv_at hl 1 rfl) ?_
          refine lv_aload_n hx hb dX4_hasGap_32 rfl (lv_at hl 0 rfl) ?_
          refine gf (q0 := 0) (ci := 4) (k := 3) (v := .ref (ad 7)) hx hb hts iX4_hasGap_4 hown hE hP rfl rfl (by decide) mX4_hasGap_25 rfl dX4_hasGap_33 ?_
          refine lv_iload_n hx hb dX4_hasGap_36 rfl (lv_at hl 3 rfl) ?_
          refine rd_goS (rn_V ⟨hx, hb, hml, hown, hts⟩ (c_X0_author l g (x := i) (by omega) (by omega)) gX4_hasGap_X0_author rfl pX0_author ⟨Nat.le_of_ble_eq_true rfl, Nat.le_of_ble_eq_true rfl⟩ ⟨Nat.le_of_ble_eq_true rfl, Nat.le_of_ble_eq_true rfl⟩ (hP.sub (ws' := wLed g (ad 7) (ad 8) (ad 9) (ad 10) (sa σ) (so σ) (sd σ) (sn σ)) [7, 8, 9, 10] rfl) hE rfl rfl rfl hl.1 rfl (Nat.le_of_ble_eq_true rfl) dX4_hasGap_37) ?_
          refine rd_goS (rn_V ⟨hx, hb, hml, hown, hts⟩ (c_X1_has l g (x := xj) (y := sa σ i) (by first | omega | exact hi5 _ | exact hi6 _) (by first | omega | exact hi5 _ | exact hi6 _)) gX4_hasGap_X1_has rfl pX1_has ⟨Nat.le_of_ble_eq_true rfl, Nat.le_of_ble_eq_true rfl⟩ ⟨Nat.le_of_ble_eq_true rfl, Nat.le_of_ble_eq_true rfl⟩ (hP.sub (ws' := wRel g (ad 1) (ad 2) (sF σ)) [1, 2] rfl) hE rfl rfl rfl hl.1 rfl (Nat.le_of_ble_eq_true rfl) dX4_hasGap_40) ?_
          refine br_eqB (tgt := 48) hx hb dX4_hasGap_43 (by decide) (fun h97 => ?_) (fun h97 => ?_)
          · refine lv_iinc (v := nI (i + 1)) (lv' := [(3, .int (nI (i + 1))), (0, .ref (ad 0)), (1, .int (nI (xj))), (2, .int (fI (sf σ xj)))]) hx hb dX4_hasGap_48 hl (k := 3) rfl (inc1 (i)) (by decide) rfl (fun ls hl => ?_)
            refine lv_goto (tgt := 11) hx hb dX4_hasGap_51 (by decide) ?_
            exact ih (i + 1) (by omega) (by omega) (fun k hk => by rcases Nat.lt_or_ge k i with z9 | z9 <;> first | exact hno k z9 | (rw [show k = i by omega]; exact (by simp [h97]))) ls (lv_sub hl [1, 2, 3, 0] rfl)
          · refine lv_iconst (v := bI (true)) hx hb dX4_hasGap_46 (by decide) ?_
            exact xr_retz hx hb hr hlocks (by simp [eP, hpx]) (by rw [hix]; exact ((exB_iff _ _).mpr ⟨i, by omega, by simp [bnt h96, h97]; omega⟩).symm) (Nat.le_of_ble_eq_true rfl) (Nat.le_of_ble_eq_true rfl) dX4_hasGap_47
  exact lp94 (_ + 1) 0 (Nat.lt_succ_self _) (Nat.zero_le _) (fun k hk => absurd hk (Nat.not_lt_zero k)) ls (lv_sub hl [2, 3, 1, 0] rfl)
