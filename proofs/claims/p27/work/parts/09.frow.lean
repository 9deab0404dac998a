theorem mX4_isOverMark_10 : Cond.fieldLink RX4 10 "Followrow" "following" "LFollowrow$Relation;" ∈ wsX4_isOverMark := by decide +kernel
theorem mX4_isOverMark_42 : Cond.fieldLink RX4 42 "Followrow" "mark" "I" ∈ wsX4_isOverMark := by decide +kernel
theorem iX4_isOverMark_4 : ∀ w ∈ wsX40, w ∈ wsX4_isOverMark := by decide +kernel
set_option maxHeartbeats 4000000 in
set_option maxRecDepth 100000 in
/-- isOverMark(y) -/
theorem c_X4_isOverMark (l : Launch) (g : GT) {ad : Nat → Nat} {σ : St} {τ : Sc} (hI : Inv σ) {y : Nat} (h2 : y < 8) : rdM l g yX4_isOverMark wsX4_isOverMark 3 65 [.ref (ad 0), .int (nI (y))] (wF g ad (σ) (τ)) (some (.int (bI (lg σ y)))) := by
  refine rd_of (cc := cX4_isOverMark) (maxL := 2) (ret := (some .boolean)) (by decide) rfl (Nat.le_of_ble_eq_true rfl) (fun p e s m below meth c ls hx hb hr hml hts hown hlocks hl hP hE => ?_)
  have hl : lv_has ls 2 [(0, .ref (ad 0)), (1, .int (nI (y)))] := hl
  have hown : s.vm.findClass RX4 = some m.cls := hown
  obtain ⟨hi1, hi2, hi3, hi4, hi5, hi6, hi7, hi8⟩ := id hI
  refine lv_aload_n hx hb dX4_isOverMark_0 rfl (lv_at hl 0 rfl) ?_
  refine gf (q0 := 0) (ci := 4) (k := 0) (v := .ref (ad 1)) hx hb hts iX4_isOverMark_4 hown hE hP rfl rfl (by decide) mX4_isOverMark_10 rfl dX4_isOverMark_1 ?_
  refine lv_iload_n hx hb dX4_isOverMark_4 rfl (lv_at hl 1 rfl) ?_
  refine rd_goS (rn_V ⟨hx, hb, hml, hown, hts⟩ (c_X1_countTo l g (y := y) (by first | omega | exact hi5 _ | exact hi6 _)) gX4_isOverMark_X1_countTo rfl pX1_countTo ⟨Nat.le_of_ble_eq_true rfl, Nat.le_of_ble_eq_true rfl⟩ ⟨Nat.le_of_ble_eq_true rfl, Nat.le_of_ble_eq_true rfl⟩ (hP.sub (ws' := wRel g (ad 1) (ad 2) (sF σ)) [1, 2] rfl) hE rfl rfl rfl hl.1 rfl (Nat.le_of_ble_eq_true rfl) dX4_isOverMark_5) ?_
  refine lv_aload_n hx hb dX4_isOverMark_8 rfl (lv_at hl 0 rfl) ?_
  refine gf (q0 := 0) (ci := 4) (k := 6) (v := .int (nI (sk σ))) hx hb hts iX4_isOverMark_4 hown hE hP rfl rfl (by decide) mX4_isOverMark_42 rfl dX4_isOverMark_9 ?_
  refine br_leN (a := fcnt (sF σ) (y)) (b := sk σ) (tgt := 19) hx hb (by have := fcnt_le (sF σ) (y); omega) (by omega) dX4_isOverMark_12 (by decide) (fun h43 => ?_) (fun h43 => ?_)
  · refine lv_iconst (v := bI (false)) hx hb dX4_isOverMark_19 (by decide) ?_
    exact rd_retz hx hb hr hlocks (decide_eq_false (p := sk σ < fcnt (sF σ) y) (by omega)).symm dX4_isOverMark_20
  · refine lv_iconst (v := bI (true)) hx hb dX4_isOverMark_15 (by decide) ?_
    refine lv_goto (tgt := 20) hx hb dX4_isOverMark_16 (by decide) ?_
    exact rd_retz hx hb hr hlocks (decide_eq_true (p := sk σ < fcnt (sF σ) y) (by omega)).symm dX4_isOverMark_20
theorem bnt {b : Bool} (h : (!b) = true) : b = false := by cases b <;> simp_all
theorem bnf {b : Bool} (h : (!b) = false) : b = true := by cases b <;> simp_all
theorem mX4_isForRow_10 : Cond.fieldLink RX4 10 "Followrow" "following" "LFollowrow$Relation;" ∈ wsX4_isForRow := by decide +kernel
theorem mX4_isForRow_25 : Cond.fieldLink RX4 25 "Followrow" "ledger" "LFollowrow$Ledger;" ∈ wsX4_isForRow := by decide +kernel
theorem iX4_isForRow_4 : ∀ w ∈ wsX40, w ∈ wsX4_isForRow := by decide +kernel
set_option maxHeartbeats 4000000 in
set_option maxRecDepth 100000 in
/-- isForRow(q, x) -/
theorem c_X4_isForRow (l : Launch) (g : GT) {ad : Nat → Nat} {σ : St} {τ : Sc} (hI : Inv σ) {q x : Nat} (h1 : q < 8) (h2 : x < sn σ) : rdM l g yX4_isForRow wsX4_isForRow 4 86 [.ref (ad 0), .int (nI (q)), .int (nI (x))] (wF g ad (σ) (τ)) (some (.int (bI (el σ q x)))) := by
  refine rd_of (cc := cX4_isForRow) (maxL := 4) (ret := (some .boolean)) (by decide) rfl (Nat.le_of_ble_eq_true rfl) (fun p e s m below meth c ls hx hb hr hml hts hown hlocks hl hP hE => ?_)
  have hl : lv_has ls 4 [(0, .ref (ad 0)), (1, .int (nI (q))), (2, .int (nI (x)))] := hl
  have hown : s.vm.findClass RX4 = some m.cls := hown
  obtain ⟨hi1, hi2, hi3, hi4, hi5, hi6, hi7, hi8⟩ := id hI
  refine lv_aload_n hx hb dX4_isForRow_0 rfl (lv_at hl 0 rfl) ?_
  refine gf (q0 := 0) (ci := 4) (k := 3) (v := .ref (ad 7)) hx hb hts iX4_isForRow_4 hown hE hP rfl rfl (by decide) mX4_isForRow_25 rfl dX4_isForRow_1 ?_
  refine lv_iload_n hx hb dX4_isForRow_4 rfl (lv_at hl 2 rfl) ?_
  refine rd_goS (rn_V ⟨hx, hb, hml, hown, hts⟩ (c_X0_author l g (x := x) (by omega) (by omega)) gX4_isForRow_X0_author rfl pX0_author ⟨Nat.le_of_ble_eq_true rfl, Nat.le_of_ble_eq_true rfl⟩ ⟨Nat.le_of_ble_eq_true rfl, Nat.le_of_ble_eq_true rfl⟩ (hP.sub (ws' := wLed g (ad 7) (ad 8) (ad 9) (ad 10) (sa σ) (so σ) (sd σ) (sn σ)) [7, 8, 9, 10] rfl) hE rfl rfl rfl hl.1 rfl (Nat.le_of_ble_eq_true rfl) dX4_isForRow_5) ?_
  refine lv_istore_n (lv' := [(3, .int (nI (sa σ x))), (0, .ref (ad 0)), (1, .int (nI (q))), (2, .int (nI (x)))]) hx hb dX4_isForRow_8 rfl hl (by decide) rfl (fun ls hl => ?_)
  refine lv_aload_n hx hb dX4_isForRow_9 rfl (lv_at hl 1 rfl) ?_
  refine gf (q0 := 0) (ci := 4) (k := 3) (v := .ref (ad 7)) hx hb hts iX4_isForRow_4 hown hE hP rfl rfl (by decide) mX4_isForRow_25 rfl dX4_isForRow_10 ?_
  refine lv_iload_n hx hb dX4_isForRow_13 rfl (lv_at hl 3 rfl) ?_
  refine rd_goS (rn_V ⟨hx, hb, hml, hown, hts⟩ (c_X0_stands l g (x := x) (by omega) (by omega)) gX4_isForRow_X0_stands rfl pX0_stands ⟨Nat.le_of_ble_eq_true rfl, Nat.le_of_ble_eq_true rfl⟩ ⟨Nat.le_of_ble_eq_true rfl, Nat.le_of_ble_eq_true rfl⟩ (hP.sub (ws' := wLed g (ad 7) (ad 8) (ad 9) (ad 10) (sa σ) (so σ) (sd σ) (sn σ)) [7, 8, 9, 10] rfl) hE rfl rfl rfl hl.1 rfl (Nat.le_of_ble_eq_true rfl) dX4_isForRow_14) ?_
  refine br_eqB (tgt := 44) hx hb dX4_isForRow_17 (by decide) (fun h44 => ?_) (fun h44 => ?_)
  · refine lv_iconst (v := bI (false)) hx hb dX4_isForRow_44 (by decide) ?_
    exact rd_retz hx hb hr hlocks (by simp [el, bnf h44]) dX4_isForRow_45
  · refine lv_aload_n hx hb dX4_isForRow_20 rfl (lv_at hl 1 rfl) ?_
    refine gf (q0 := 0) (ci := 4) (k := 0) (v := .ref (ad 1)) hx hb hts iX4_isForRow_4 hown hE hP rfl rfl (by decide) mX4_isForRow_10 rfl dX4_isForRow_21 ?_
    refine lv_iload_n hx hb dX4_isForRow_24 rfl (lv_at hl 2 rfl) ?_
    refine lv_iload_n hx hb dX4_isForRow_25 rfl (lv_at hl 0 rfl) ?_
    refine rd_goS (rn_V ⟨hx, hb, hml, hown, hts⟩ (c_X1_has l g (x := q) (y := sa σ x) (by first | omega | exact hi5 _ | exact hi6 _) (by first | omega | exact hi5 _ | exact hi6 _)) gX4_isForRow_X1_has rfl pX1_has ⟨Nat.le_of_ble_eq_true rfl, Nat.le_of_ble_eq_true rfl⟩ ⟨Nat.le_of_ble_eq_true rfl, Nat.le_of_ble_eq_true rfl⟩ (hP.sub (ws' := wRel g (ad 1) (ad 2) (sF σ)) [1, 2] rfl) hE rfl rfl rfl hl.1 rfl (Nat.le_of_ble_eq_true rfl) dX4_isForRow_26) ?_
    refine br_eqB (tgt := 44) hx hb dX4_isForRow_29 (by decide) (fun h45 => ?_) (fun h45 => ?_)
    · refine lv_iconst (v := bI (false)) hx hb dX4_isForRow_44 (by decide) ?_
      exact rd_retz hx hb hr hlocks (by simp [el, bnt h44, h45]) dX4_isForRow_45
    · refine lv_aload_n hx hb dX4_isForRow_32 rfl (lv_at hl 1 rfl) ?_
      refine lv_iload_n hx hb dX4_isForRow_33 rfl (lv_at hl 0 rfl) ?_
      refine rd_goS (rn_V ⟨hx, hb, hml, hown, hts⟩ (c_X4_isOverMark l g hI (y := sa σ x) (by first | omega | exact hi5 _ | exact hi6 _)) gX4_isForRow_X4_isOverMark rfl pX4_isOverMark ⟨Nat.le_of_ble_eq_true rfl, Nat.le_of_ble_eq_true rfl⟩ ⟨Nat.le_of_ble_eq_true rfl, Nat.le_of_ble_eq_true rfl⟩ (hP) hE rfl rfl rfl hl.1 rfl (Nat.le_of_ble_eq_true rfl) dX4_isForRow_34) ?_
      refine br_neB (tgt := 44) hx hb dX4_isForRow_37 (by decide) (fun h46 => ?_) (fun h46 => ?_)
      · refine lv_iconst (v := bI (false)) hx hb dX4_isForRow_44 (by decide) ?_
        exact rd_retz hx hb hr hlocks (by simp [el, bnt h44, h45, h46]) dX4_isForRow_45
      · refine lv_iconst (v := bI (true)) hx hb dX4_isForRow_40 (by decide) ?_
        refine lv_goto (tgt := 45) hx hb dX4_isForRow_41 (by decide) ?_
        exact rd_retz hx hb hr hlocks (by simp [el, bnt h44, h45, h46]) dX4_isForRow_45
theorem mX4_isFetched_10 : Cond.fieldLink RX4 10 "Followrow" "following" "LFollowrow$Relation;" ∈ wsX4_isFetched := by decide +kernel
theorem mX4_isFetched_25 : Cond.fieldLink RX4 25 "Followrow" "ledger" "LFollowrow$Ledger;" ∈ wsX4_isFetched := by decide +kernel
theorem iX4_isFetched_4 : ∀ w ∈ wsX40, w ∈ wsX4_isFetched := by decide +kernel
set_option maxHeartbeats 4000000 in
set_option maxRecDepth 100000 in
/-- isFetched(q, x) -/
theorem c_X4_isFetched (l : Launch) (g : GT) {ad : Nat → Nat} {σ : St} {τ : Sc} (hI : Inv σ) {q x : Nat} (h1 : q < 8) (h2 : x < sn σ) : rdM l g yX4_isFetched wsX4_isFetched 4 86 [.ref (ad 0), .int (nI (q)), .int (nI (x))] (wF g ad (σ) (τ)) (some (.int (bI (sF σ (8 * q + sa σ x) && lg σ (sa σ x))))) := by
  refine rd_of (cc := cX4_isFetched) (maxL := 4) (ret := (some .boolean)) (by decide) rfl (Nat.le_of_ble_eq_true rfl) (fun p e s m below meth c ls hx hb hr hml hts hown hlocks hl hP hE => ?_)
  have hl : lv_has ls 4 [(0, .ref (ad 0)), (1, .int (nI (q))), (2, .int (nI (x)))] := hl
  have hown : s.vm.findClass RX4 = some m.cls := hown
  obtain ⟨hi1, hi2, hi3, hi4, hi5, hi6, hi7, hi8⟩ := id hI
  refine lv_aload_n hx hb dX4_isFetched_0 rfl (lv_at hl 0 rfl) ?_
  refine gf (q0 := 0) (ci := 4) (k := 3) (v := .ref (ad 7)) hx hb hts iX4_isFetched_4 hown hE hP rfl rfl (by decide) mX4_isFetched_25 rfl dX4_isFetched_1 ?_
  refine lv_iload_n hx hb dX4_isFetched_4 rfl (lv_at hl 2 rfl) ?_
  refine rd_goS (rn_V ⟨hx, hb, hml, hown, hts⟩ (c_X0_author l g (x := x) (by omega) (by omega)) gX4_isFetched_X0_author rfl pX0_author ⟨Nat.le_of_ble_eq_true rfl, Nat.le_of_ble_eq_true rfl⟩ ⟨Nat.le_of_ble_eq_true rfl, Nat.le_of_ble_eq_true rfl⟩ (hP.sub (ws' := wLed g (ad 7) (ad 8) (ad 9) (ad 10) (sa σ) (so σ) (sd σ) (sn σ)) [7, 8, 9, 10] rfl) hE rfl rfl rfl hl.1 rfl (Nat.le_of_ble_eq_true rfl) dX4_isFetched_5) ?_
  refine lv_istore_n (lv' := [(3, .int (nI (sa σ x))), (0, .ref (ad 0)), (1, .int (nI (q))), (2, .int (nI (x)))]) hx hb dX4_isFetched_8 rfl hl (by decide) rfl (fun ls hl => ?_)
  refine lv_aload_n hx hb dX4_isFetched_9 rfl (lv_at hl 1 rfl) ?_
  refine gf (q0 := 0) (ci := 4) (k := 0) (v := .ref (ad 1)) hx hb hts iX4_isFetched_4 hown hE hP rfl rfl (by decide) mX4_isFetched_10 rfl dX4_isFetched_10 ?_
  refine lv_iload_n hx hb dX4_isFetched_13 rfl (lv_at hl 2 rfl) ?_
  refine lv_iload_n hx hb dX4_isFetched_14 rfl (lv_at hl 0 rfl) ?_
  refine rd_goS (rn_V ⟨hx, hb, hml, hown, hts⟩ (c_X1_has l g (x := q) (y := sa σ x) (by first | omega | exact hi5 _ | exact hi6 _) (by first | omega | exact hi5 _ | exact hi6 _)) gX4_isFetched_X1_has rfl pX1_has ⟨Nat.le_of_ble_eq_true rfl, Nat.le_of_ble_eq_true rfl⟩ ⟨Nat.le_of_ble_eq_true rfl, Nat.le_of_ble_eq_true rfl⟩ (hP.sub (ws' := wRel g (ad 1) (ad 2) (sF σ)) [1, 2] rfl) hE rfl rfl rfl hl.1 rfl (Nat.le_of_ble_eq_true rfl) dX4_isFetched_15) ?_
  refine br_eqB (tgt := 33) hx hb dX4_isFetched_18 (by decide) (fun h47 => ?_) (fun h47 => ?_)
  · refine lv_iconst (v := bI (false)) hx hb dX4_isFetched_33 (by decide) ?_
    exact rd_retz hx hb hr hlocks (by simp [Bool.and_eq_true, h47]) dX4_isFetched_34
  · refine lv_aload_n hx hb dX4_isFetched_21 rfl (lv_at hl 1 rfl) ?_
    refine lv_iload_n hx hb dX4_isFetched_22 rfl (lv_at hl 0 rfl) ?_
    refine rd_goS (rn_V ⟨hx, hb, hml, hown, hts⟩ (c_X4_isOverMark l g hI (y := sa σ x) (by first | omega | exact hi5 _ | exact hi6 _)) gX4_isFetched_X4_isOverMark rfl pX4_isOverMark ⟨Nat.le_of_ble_eq_true rfl, Nat.le_of_ble_eq_true rfl⟩ ⟨Nat.le_of_ble_eq_true rfl, Nat.le_of_ble_eq_true rfl⟩ (hP) hE rfl rfl rfl hl.1 rfl (Nat.le_of_ble_eq_true rfl) dX4_isFetched_23) ?_
    refine br_eqB (tgt := 33) hx hb dX4_isFetched_26 (by decide) (fun h48 => ?_) (fun h48 => ?_)
    · refine lv_iconst (v := bI (false)) hx hb dX4_isFetched_33 (by decide) ?_
      exact rd_retz hx hb hr hlocks (by simp [Bool.and_eq_true, h47, h48]) dX4_isFetched_34
    · refine lv_iconst (v := bI (true)) hx hb dX4_isFetched_29 (by decide) ?_
      refine lv_goto (tgt := 34) hx hb dX4_isFetched_30 (by decide) ?_
      exact rd_retz hx hb hr hlocks (by simp [Bool.and_eq_true, h47, h48]) dX4_isFetched_34
theorem mX4_isHidden_16 : Cond.fieldLink RX4 16 "Followrow" "muting" "LFollowrow$Relation;" ∈ wsX4_isHidden := by decide +kernel
theorem mX4_isHidden_19 : Cond.fieldLink RX4 19 "Followrow" "blocking" "LFollowrow$Relation;" ∈ wsX4_isHidden := by decide +kernel
theorem mX4_isHidden_25 : Cond.fieldLink RX4 25 "Followrow" "ledger" "LFollowrow$Ledger;" ∈ wsX4_isHidden := by decide +kernel
theorem iX4_isHidden_4 : ∀ w ∈ wsX40, w ∈ wsX4_isHidden := by decide +kernel
set_option maxHeartbeats 4000000 in
set_option maxRecDepth 100000 in
/-- isHidden(q, x) -/
theorem c_X4_isHidden (l : Launch) (g : GT) {ad : Nat → Nat} {σ : St} {τ : Sc} (hI : Inv σ) {q x : Nat} (h1 : q < 8) (h2 : x < sn σ) : rdM l g yX4_isHidden wsX4_isHidden 2 42 [.ref (ad 0), .int (nI (q)), .int (nI (x))] (wF g ad (σ) (τ)) (some (.int (bI (hid σ q x)))) := by
  refine rd_of (cc := cX4_isHidden) (maxL := 5) (ret := (some .boolean)) (by decide) rfl (Nat.le_of_ble_eq_true rfl) (fun p e s m below meth c ls hx hb hr hml hts hown hlocks hl hP hE => ?_)
  have hl : lv_has ls 5 [(0, .ref (ad 0)), (1, .int (nI (q))), (2, .int (nI (x)))] := hl
  have hown : s.vm.findClass RX4 = some m.cls := hown
  obtain ⟨hi1, hi2, hi3, hi4, hi5, hi6, hi7, hi8⟩ := id hI
  have hox := hi7 x h2
  refine lv_aload_n hx hb dX4_isHidden_0 rfl (lv_at hl 0 rfl) ?_
  refine gf (q0 := 0) (ci := 4) (k := 3) (v := .ref (ad 7)) hx hb hts iX4_isHidden_4 hown hE hP rfl rfl (by decide) mX4_isHidden_25 rfl dX4_isHidden_1 ?_
  refine lv_iload_n hx hb dX4_isHidden_4 rfl (lv_at hl 2 rfl) ?_
  refine rd_goS (rn_V ⟨hx, hb, hml, hown, hts⟩ (c_X0_origin l g (x := x) (by omega) (by omega)) gX4_isHidden_X0_origin rfl pX0_origin ⟨Nat.le_of_ble_eq_true rfl, Nat.le_of_ble_eq_true rfl⟩ ⟨Nat.le_of_ble_eq_true rfl, Nat.le_of_ble_eq_true rfl⟩ (hP.sub (ws' := wLed g (ad 7) (ad 8) (ad 9) (ad 10) (sa σ) (so σ) (sd σ) (sn σ)) [7, 8, 9, 10] rfl) hE rfl rfl rfl hl.1 rfl (Nat.le_of_ble_eq_true rfl) dX4_isHidden_5) ?_
  refine lv_istore_n (lv' := [(3, .int (nI (so σ x))), (0, .ref (ad 0)), (1, .int (nI (q))), (2, .int (nI (x)))]) hx hb dX4_isHidden_8 rfl hl (by decide) rfl (fun ls hl => ?_)
  refine lv_aload_n hx hb dX4_isHidden_9 rfl (lv_at hl 1 rfl) ?_
  refine gf (q0 := 0) (ci := 4) (k := 3) (v := .ref (ad 7)) hx hb hts iX4_isHidden_4 hown hE hP rfl rfl (by decide) mX4_isHidden_25 rfl dX4_isHidden_10 ?_
  refine lv_iload_n hx hb dX4_isHidden_13 rfl (lv_at hl 3 rfl) ?_
  refine rd_goS (rn_V ⟨hx, hb, hml, hown, hts⟩ (c_X0_stands l g (x := x) (by omega) (by omega)) gX4_isHidden_X0_stands rfl pX0_stands ⟨Nat.le_of_ble_eq_true rfl, Nat.le_of_ble_eq_true rfl⟩ ⟨Nat.le_of_ble_eq_true rfl, Nat.le_of_ble_eq_true rfl⟩ (hP.sub (ws' := wLed g (ad 7) (ad 8) (ad 9) (ad 10) (sa σ) (so σ) (sd σ) (sn σ)) [7, 8, 9, 10] rfl) hE rfl rfl rfl hl.1 rfl (Nat.le_of_ble_eq_true rfl) dX4_isHidden_14) ?_
  refine br_eqB (tgt := 31) hx hb dX4_isHidden_17 (by decide) (fun h49 => ?_) (fun h49 => ?_)
  · refine lv_iconst (v := bI (true)) hx hb dX4_isHidden_31 (by decide) ?_
    exact rd_retz hx hb hr hlocks (by simp [hid, bnf h49]) dX4_isHidden_32
  · refine lv_aload_n hx hb dX4_isHidden_20 rfl (lv_at hl 1 rfl) ?_
    refine gf (q0 := 0) (ci := 4) (k := 3) (v := .ref (ad 7)) hx hb hts iX4_isHidden_4 hown hE hP rfl rfl (by decide) mX4_isHidden_25 rfl dX4_isHidden_21 ?_
    refine lv_iload_n hx hb dX4_isHidden_24 rfl (lv_at hl 0 rfl) ?_
    refine rd_goS (rn_V ⟨hx, hb, hml, hown, hts⟩ (c_X0_stands l g (x := so σ x) (by omega) (by omega)) gX4_isHidden_X0_stands rfl pX0_stands ⟨Nat.le_of_ble_eq_true rfl, Nat.le_of_ble_eq_true rfl⟩ ⟨Nat.le_of_ble_eq_true rfl, Nat.le_of_ble_eq_true rfl⟩ (hP.sub (ws' := wLed g (ad 7) (ad 8) (ad 9) (ad 10) (sa σ) (so σ) (sd σ) (sn σ)) [7, 8, 9, 10] rfl) hE rfl rfl rfl hl.1 rfl (Nat.le_of_ble_eq_true rfl) dX4_isHidden_25) ?_
    refine br_neB (tgt := 33) hx hb dX4_isHidden_28 (by decide) (fun h50 => ?_) (fun h50 => ?_)
    · refine lv_aload_n hx hb dX4_isHidden_33 rfl (lv_at hl 1 rfl) ?_
      refine gf (q0 := 0) (ci := 4) (k := 3) (v := .ref (ad 7)) hx hb hts iX4_isHidden_4 hown hE hP rfl rfl (by decide) mX4_isHidden_25 rfl dX4_isHidden_34 ?_
      refine lv_iload_n hx hb dX4_isHidden_37 rfl (lv_at hl 0 rfl) ?_
      refine rd_goS (rn_V ⟨hx, hb, hml, hown, hts⟩ (c_X0_author l g (x := so σ x) (by omega) (by omega)) gX4_isHidden_X0_author rfl pX0_author ⟨Nat.le_of_ble_eq_true rfl, Nat.le_of_ble_eq_true rfl⟩ ⟨Nat.le_of_ble_eq_true rfl, Nat.le_of_ble_eq_true rfl⟩ (hP.sub (ws' := wLed g (ad 7) (ad 8) (ad 9) (ad 10) (sa σ) (so σ) (sd σ) (sn σ)) [7, 8, 9, 10] rfl) hE rfl rfl rfl hl.1 rfl (Nat.le_of_ble_eq_true rfl) dX4_isHidden_38) ?_
      refine lv_istore (lv' := [(4, .int (nI (sa σ (so σ x)))), (3, .int (nI (so σ x))), (0, .ref (ad 0)), (1, .int (nI (q))), (2, .int (nI (x)))]) hx hb dX4_isHidden_41 hl (by decide) rfl (fun ls hl => ?_)
      refine lv_aload_n hx hb dX4_isHidden_43 rfl (lv_at hl 2 rfl) ?_
      refine gf (q0 := 0) (ci := 4) (k := 1) (v := .ref (ad 3)) hx hb hts iX4_isHidden_4 hown hE hP rfl rfl (by decide) mX4_isHidden_16 rfl dX4_isHidden_44 ?_
      refine lv_iload_n hx hb dX4_isHidden_47 rfl (lv_at hl 3 rfl) ?_
      refine lv_aload_n hx hb dX4_isHidden_48 rfl (lv_at hl 2 rfl) ?_
      refine gf (q0 := 0) (ci := 4) (k := 3) (v := .ref (ad 7)) hx hb hts iX4_isHidden_4 hown hE hP rfl rfl (by decide) mX4_isHidden_25 rfl dX4_isHidden_49 ?_
      refine lv_iload_n hx hb dX4_isHidden_52 rfl (lv_at hl 4 rfl) ?_
      refine rd_goS (rn_V ⟨hx, hb, hml, hown, hts⟩ (c_X0_author l g (x := x) (by omega) (by omega)) gX4_isHidden_X0_author rfl pX0_author ⟨Nat.le_of_ble_eq_true rfl, Nat.le_of_ble_eq_true rfl⟩ ⟨Nat.le_of_ble_eq_true rfl, Nat.le_of_ble_eq_true rfl⟩ (hP.sub (ws' := wLed g (ad 7) (ad 8) (ad 9) (ad 10) (sa σ) (so σ) (sd σ) (sn σ)) [7, 8, 9, 10] rfl) hE rfl rfl rfl hl.1 rfl (Nat.le_of_ble_eq_true rfl) dX4_isHidden_53) ?_
      refine rd_goS (rn_V ⟨hx, hb, hml, hown, hts⟩ (c_X1_has l g (x := q) (y := sa σ x) (by first | omega | exact hi5 _ | exact hi6 _) (by first | omega | exact hi5 _ | exact hi6 _)) gX4_isHidden_X1_has rfl pX1_has ⟨Nat.le_of_ble_eq_true rfl, Nat.le_of_ble_eq_true rfl⟩ ⟨Nat.le_of_ble_eq_true rfl, Nat.le_of_ble_eq_true rfl⟩ (hP.sub (ws' := wRel g (ad 3) (ad 4) (sM σ)) [3, 4] rfl) hE rfl rfl rfl hl.1 rfl (Nat.le_of_ble_eq_true rfl) dX4_isHidden_56) ?_
      refine br_neB (tgt := 88) hx hb dX4_isHidden_59 (by decide) (fun h51 => ?_) (fun h51 => ?_)
      · refine lv_iconst (v := bI (true)) hx hb dX4_isHidden_88 (by decide) ?_
        refine lv_goto (tgt := 93) hx hb dX4_isHidden_89 (by decide) ?_
        exact rd_retz hx hb hr hlocks (by simp [hid, bnt h49, bnt h50, h51]) dX4_isHidden_93
      · refine lv_aload_n hx hb dX4_isHidden_62 rfl (lv_at hl 2 rfl) ?_
        refine gf (q0 := 0) (ci := 4) (k := 1) (v := .ref (ad 3)) hx hb hts iX4_isHidden_4 hown hE hP rfl rfl (by decide) mX4_isHidden_16 rfl dX4_isHidden_63 ?_
        refine lv_iload_n hx hb dX4_isHidden_66 rfl (lv_at hl 3 rfl) ?_
        refine lv_iload hx hb dX4_isHidden_67 (lv_at hl 0 rfl) ?_
        refine rd_goS (rn_V ⟨hx, hb, hml, hown, hts⟩ (c_X1_has l g (x := q) (y := sa σ (so σ x)) (by first | omega | exact hi5 _ | exact hi6 _) (by first | omega | exact hi5 _ | exact hi6 _)) gX4_isHidden_X1_has rfl pX1_has ⟨Nat.le_of_ble_eq_true rfl, Nat.le_of_ble_eq_true rfl⟩ ⟨Nat.le_of_ble_eq_true rfl, Nat.le_of_ble_eq_true rfl⟩ (hP.sub (ws' := wRel g (ad 3) (ad 4) (sM σ)) [3, 4] rfl) hE rfl rfl rfl hl.1 rfl (Nat.le_of_ble_eq_true rfl) dX4_isHidden_69) ?_
        refine br_neB (tgt := 88) hx hb dX4_isHidden_72 (by decide) (fun h52 => ?_) (fun h52 => ?_)
        · refine lv_iconst (v := bI (true)) hx hb dX4_isHidden_88 (by decide) ?_
          refine lv_goto (tgt := 93) hx hb dX4_isHidden_89 (by decide) ?_
          exact rd_retz hx hb hr hlocks (by simp [hid, bnt h49, bnt h50, h51, h52]) dX4_isHidden_93
        · refine lv_aload_n hx hb dX4_isHidden_75 rfl (lv_at hl 2 rfl) ?_
          refine gf (q0 := 0) (ci := 4) (k := 2) (v := .ref (ad 5)) hx hb hts iX4_isHidden_4 hown hE hP rfl rfl (by decide) mX4_isHidden_19 rfl dX4_isHidden_76 ?_
          refine lv_iload hx hb dX4_isHidden_79 (lv_at hl 0 rfl) ?_
          refine lv_iload_n hx hb dX4_isHidden_81 rfl (lv_at hl 3 rfl) ?_
          refine rd_goS (rn_V ⟨hx, hb, hml, hown, hts⟩ (c_X1_has l g (x := sa σ (so σ x)) (y := q) (by first | omega | exact hi5 _ | exact hi6 _) (by first | omega | exact hi5 _ | exact hi6 _)) gX4_isHidden_X1_has rfl pX1_has ⟨Nat.le_of_ble_eq_true rfl, Nat.le_of_ble_eq_true rfl⟩ ⟨Nat.le_of_ble_eq_true rfl, Nat.le_of_ble_eq_true rfl⟩ (hP.sub (ws' := wRel g (ad 5) (ad 6) (sB σ)) [5, 6] rfl) hE rfl rfl rfl hl.1 rfl (Nat.le_of_ble_eq_true rfl) dX4_isHidden_82) ?_
          refine br_eqB (tgt := 92) hx hb dX4_isHidden_85 (by decide) (fun h53 => ?_) (fun h53 => ?_)
          · refine lv_iconst (v := bI (false)) hx hb dX4_isHidden_92 (by decide) ?_
            exact rd_retz hx hb hr hlocks (by simp [hid, bnt h49, bnt h50, h51, h52, h53]) dX4_isHidden_93
          · refine lv_iconst (v := bI (true)) hx hb dX4_isHidden_88 (by decide) ?_
            refine lv_goto (tgt := 93) hx hb dX4_isHidden_89 (by decide) ?_
            exact rd_retz hx hb hr hlocks (by simp [hid, bnt h49, bnt h50, h51, h52, h53]) dX4_isHidden_93
    · refine lv_iconst (v := bI (true)) hx hb dX4_isHidden_31 (by decide) ?_
      exact rd_retz hx hb hr hlocks (by simp [hid, bnt h49, bnf h50]) dX4_isHidden_32
theorem mX4_entries_25 : Cond.fieldLink RX4 25 "Followrow" "ledger" "LFollowrow$Ledger;" ∈ wsX4_entries := by decide +kernel
theorem iX4_entries_4 : ∀ w ∈ wsX40, w ∈ wsX4_entries := by decide +kernel
set_option maxHeartbeats 4000000 in
set_option maxRecDepth 100000 in
/-- entries() -/
theorem c_X4_entries (l : Launch) (g : GT) {ad : Nat → Nat} {σ : St} {τ : Sc} (hI : Inv σ) : rdM l g yX4_entries wsX4_entries 1 20 [.ref (ad 0)] (wF g ad (σ) (τ)) (some (.int (nI (sn σ)))) := by
  refine rd_of (cc := cX4_entries) (maxL := 1) (ret := (some .int)) (by decide) rfl (Nat.le_of_ble_eq_true rfl) (fun p e s m below meth c ls hx hb hr hml hts hown hlocks hl hP hE => ?_)
  have hl : lv_has ls 1 [(0, .ref (ad 0))] := hl
  have hown : s.vm.findClass RX4 = some m.cls := hown
  refine lv_aload_n hx hb dX4_entries_0 rfl (lv_at hl 0 rfl) ?_
  refine gf (q0 := 0) (ci := 4) (k := 3) (v := .ref (ad 7)) hx hb hts iX4_entries_4 hown hE hP rfl rfl (by decide) mX4_entries_25 rfl dX4_entries_1 ?_
  refine rd_goS (rn_V ⟨hx, hb, hml, hown, hts⟩ (c_X0_made l g) gX4_entries_X0_made rfl pX0_made ⟨Nat.le_of_ble_eq_true rfl, Nat.le_of_ble_eq_true rfl⟩ ⟨Nat.le_of_ble_eq_true rfl, Nat.le_of_ble_eq_true rfl⟩ (hP.sub (ws' := wLed g (ad 7) (ad 8) (ad 9) (ad 10) (sa σ) (so σ) (sd σ) (sn σ)) [7, 8, 9, 10] rfl) hE rfl rfl rfl hl.1 rfl (Nat.le_of_ble_eq_true rfl) dX4_entries_4) ?_
  exact rd_reti hx hb hr hlocks rfl dX4_entries_7
set_option maxHeartbeats 4000000 in
set_option maxRecDepth 100000 in
/-- countLarge() -/
theorem c_X4_countLarge (l : Launch) (g : GT) {ad : Nat → Nat} {σ : St} {τ : Sc} (hI : Inv σ) : rdM l g yX4_countLarge wsX4_countLarge 4 86 [.ref (ad 0)] (wF g ad (σ) (τ)) (some (.int (nI (cN (lg σ) 8)))) := by
  refine rd_of (cc := cX4_countLarge) (maxL := 3) (ret := (some .int)) (by decide) rfl (Nat.le_of_ble_eq_true rfl) (fun p e s m below meth c ls hx hb hr hml hts hown hlocks hl hP hE => ?_)
  have hl : lv_has ls 3 [(0, .ref (ad 0))] := hl
  have hown : s.vm.findClass RX4 = some m.cls := hown
  obtain ⟨hi1, hi2, hi3, hi4, hi5, hi6, hi7, hi8⟩ := id hI
  refine lv_iconst (v := nI (0)) hx hb dX4_countLarge_0 (by decide) ?_
  refine lv_istore_n (lv' := [(1, .int (nI (0))), (0, .ref (ad 0))]) hx hb dX4_countLarge_1 rfl hl (by decide) rfl (fun ls hl => ?_)
  refine lv_iconst (v := nI (0)) hx hb dX4_countLarge_2 (by decide) ?_
  refine lv_istore_n (lv' := [(2, .int (nI (0))), (1, .int (nI (0))), (0, .ref (ad 0))]) hx hb dX4_countLarge_3 rfl hl (by decide) rfl (fun ls hl => ?_)
  have lp54 : ∀ (n9 i : Nat), 8 - i < n9 → (i ≤ 8) → ∀ ls : Array Slot, lv_has ls 3 [(0, .ref (ad 0)), (1, .int (nI (cN (lg σ) i))), (2, .int (nI (i)))] → W p l e ({ frames := 4, cells := 0, slots := 0, locals := 86 } : Room) s m ([.ref (ad 0)] : List Value).toArray below meth c s.heap [] 0 0 (MQ below (rdQ (some (.int (nI (cN (lg σ) 8))))) ([.ref (ad 0)] : List Value).toArray s 0 0 (fun _ => False)) (F0 m 4 ls []) := by
    intro n9
    induction n9 with
    | zero => intro i h; omega
    | succ n9 ih =>
      intro i h9 hi ls hl
      refine lv_iload_n hx hb dX4_countLarge_4 rfl (lv_at hl 2 rfl) ?_
      refine lv_bipush (v := nI (8)) hx hb dX4_countLarge_5 (by decide) ?_
      refine br_geN (a := i) (b := 8) (tgt := 27) hx hb (by omega) (by omega) dX4_countLarge_7 (by decide) (fun h55 => ?_) (fun h55 => ?_)
      · refine lv_iload_n hx hb dX4_countLarge_27 rfl (lv_at hl 1 rfl) ?_
        exact rd_reti hx hb hr hlocks (by rw [show i = 8 by omega]) dX4_countLarge_28
      · refine lv_aload_n hx hb dX4_countLarge_10 rfl (lv_at hl 0 rfl) ?_
        refine lv_iload_n hx hb dX4_countLarge_11 rfl (lv_at hl 2 rfl) ?_
        refine rd_goS (rn_V ⟨hx, hb, hml, hown, hts⟩ (c_X4_isOverMark l g hI (y := i) (by first | omega | exact hi5 _ | exact hi6 _)) gX4_countLarge_X4_isOverMark rfl pX4_isOverMark ⟨Nat.le_of_ble_eq_true rfl, Nat.le_of_ble_eq_true rfl⟩ ⟨Nat.le_of_ble_eq_true rfl, Nat.le_of_ble_eq_true rfl⟩ (hP) hE rfl rfl rfl hl.1 rfl (Nat.le_of_ble_eq_true rfl) dX4_countLarge_12) ?_
        refine br_eqB (tgt := 21) hx hb dX4_countLarge_15 (by decide) (fun h56 => ?_) (fun h56 => ?_)
        · refine lv_iinc (v := nI (i + 1)) (lv' := [(2, .int (nI (i + 1))), (0, .ref (ad 0)), (1, .int (nI (cN (lg σ) i)))]) hx hb dX4_countLarge_21 hl (k := 2) rfl (inc1 (i)) (by decide) rfl (fun ls hl => ?_)
          refine lv_goto (tgt := 4) hx hb dX4_countLarge_24 (by decide) ?_
          rw [← cN_f (P := lg σ) (k := i) h56] at hl
          exact ih (i + 1) (by omega) (by omega) ls (lv_sub hl [1, 2, 0] rfl)
        · refine lv_iinc (v := nI (cN (lg σ) i + 1)) (lv' := [(1, .int (nI (cN (lg σ) i + 1))), (0, .ref (ad 0)), (2, .int (nI (i)))]) hx hb dX4_countLarge_18 hl (k := 1) rfl (inc1 (cN (lg σ) i)) (by decide) rfl (fun ls hl => ?_)
          refine lv_iinc (v := nI (i + 1)) (lv' := [(2, .int (nI (i + 1))), (1, .int (nI (cN (lg σ) i + 1))), (0, .ref (ad 0))]) hx hb dX4_countLarge_21 hl (k := 2) rfl (inc1 (i)) (by decide) rfl (fun ls hl => ?_)
          refine lv_goto (tgt := 4) hx hb dX4_countLarge_24 (by decide) ?_
          rw [← cN_t (P := lg σ) (k := i) h56] at hl
          exact ih (i + 1) (by omega) (by omega) ls (lv_sub hl [2, 1, 0] rfl)
  exact lp54 (8 + 1) (0) (by omega) (by omega) ls (lv_sub hl [2, 1, 0] rfl)
theorem mX4_settleRow_25 : Cond.fieldLink RX4 25 "Followrow" "ledger" "LFollowrow$Ledger;" ∈ wsX4_settleRow := by decide +kernel
theorem mX4_settleRow_46 : Cond.fieldLink RX4 46 "Followrow" "room" "I" ∈ wsX4_settleRow := by decide +kernel
theorem iX4_settleRow_4 : ∀ w ∈ wsX40, w ∈ wsX4_settleRow := by decide +kernel
set_option maxHeartbeats 4000000 in
set_option maxRecDepth 100000 in
/-- settleRow(row q): the floor is cut, the row has what is above it -/
theorem c_X4_settleRow (l : Launch) (g : GT) {ad : Nat → Nat} {σ : St} {τ : Sc} {q : Nat} (hN : FN ad 31) (hI : Inv σ) (hq : q < 8) : wrM l g yX4_settleRow wsX4_settleRow 5 109 [.ref (ad 0), .ref (ad (15 + 2 * q))] (wF g ad (σ) (τ)) none (fun H1 => ∃ (c : Nat) (fn : Nat → Int32), gP g (wF g ad (uS σ (va_up (sf σ) q (nfl (el σ q) (sf σ q) (sn σ) (sr σ)))) (uRow τ q c fn)) H1 ∧ rowOk (el σ q) (nfl (el σ q) (sf σ q) (sn σ) (sr σ)) (sn σ) c fn) (fA ad) := by
  refine wr_of (cc := cX4_settleRow) (maxL := 4) (ret := none) (by decide) rfl (Nat.le_of_ble_eq_true rfl) (fun p e s m below meth c ls hx hb hr hml hts hown hlocks hl hP hE hS => ?_)
  have hl : lv_has ls 4 [(0, .ref (ad 0)), (1, .ref (ad (15 + 2 * q)))] := hl
  have hown : s.vm.findClass RX4 = some m.cls := hown
  obtain ⟨hi1, hi2, hi3, hi4, hi5, hi6, hi7, hi8⟩ := id hI
  have hfq := hi8 q hq
  have hP : gP g (wF g ad (σ) (uRow τ q (rc τ q) (rn τ q))) s.heap := by rw [uRow_self]; exact hP
  refine lv_aload_n hx hb dX4_settleRow_0 rfl (lv_at hl 1 rfl) ?_
  refine rd_goS (rn_V ⟨hx, hb, hml, hown, hts⟩ (c_X2_floor l g) gX4_settleRow_X2_floor rfl pX2_floor ⟨Nat.le_of_ble_eq_true rfl, Nat.le_of_ble_eq_true rfl⟩ ⟨Nat.le_of_ble_eq_true rfl, Nat.le_of_ble_eq_true rfl⟩ ((wF_rowG hq hP)) hE rfl rfl rfl hl.1 rfl (Nat.le_of_ble_eq_true rfl) dX4_settleRow_1) ?_
  refine lv_istore_n (lv' := [(2, .int (fI (sf σ q))), (0, .ref (ad 0)), (1, .ref (ad (15 + 2 * q)))]) hx hb dX4_settleRow_4 rfl hl (by decide) rfl (fun ls hl => ?_)
  refine lv_aload_n hx hb dX4_settleRow_5 rfl (lv_at hl 2 rfl) ?_
  refine wr_goN (rn_V ⟨hx, hb, hml, hown, hts⟩ (c_X2_empty l g (nd2 hN hq)) gX4_settleRow_X2_empty rfl pX2_empty ⟨Nat.le_of_ble_eq_true rfl, Nat.le_of_ble_eq_true rfl⟩ ⟨Nat.le_of_ble_eq_true rfl, Nat.le_of_ble_eq_true rfl⟩ (wF_rowG hq hP) hE rfl rfl rfl hl.1 rfl (Nat.le_of_ble_eq_true rfl) dX4_settleRow_6) hS (as2 hq) (fun H1 locs1 hB hz hk hS => ?_)
  have hP := wF_rowS hN hq hP hk hB
  have hD : va_D (fun z => z ∈ fA ad) (wF g ad (σ) (uRow τ q (0) (rn τ q))) := wF_D hN
  clear hk hB hz
  generalize H1 = H at hP hS ⊢
  generalize locs1 = locs at hS ⊢
  refine lv_aload_n hx hb dX4_settleRow_9 rfl (lv_at hl 1 rfl) ?_
  refine gf (q0 := 0) (ci := 4) (k := 3) (v := .ref (ad 7)) hx hb hts iX4_settleRow_4 hown hE hP rfl rfl (by decide) mX4_settleRow_25 rfl dX4_settleRow_10 ?_
  refine rd_goS (rn_V ⟨hx, hb, hml, hown, hts⟩ (c_X0_made l g) gX4_settleRow_X0_made rfl pX0_made ⟨Nat.le_of_ble_eq_true rfl, Nat.le_of_ble_eq_true rfl⟩ ⟨Nat.le_of_ble_eq_true rfl, Nat.le_of_ble_eq_true rfl⟩ (hP.sub (ws' := wLed g (ad 7) (ad 8) (ad 9) (ad 10) (sa σ) (so σ) (sd σ) (sn σ)) [7, 8, 9, 10] rfl) hE rfl rfl rfl hl.1 rfl (Nat.le_of_ble_eq_true rfl) dX4_settleRow_13) ?_
  refine lv_iconst (v := nI (1)) hx hb dX4_settleRow_16 (by decide) ?_
  refine lv_isub hx hb dX4_settleRow_17 ?_
  refine tp_i (sub1 (sn σ)) ?_
  refine lv_istore_n (lv' := [(3, .int (fI (sn σ))), (2, .int (fI (sf σ q))), (0, .ref (ad 0)), (1, .ref (ad (15 + 2 * q)))]) hx hb dX4_settleRow_18 rfl hl (by decide) rfl (fun ls hl => ?_)
  have lp57 : ∀ (n9 : Nat) (k : Nat) (c9 : Nat) (fn9 : Nat → Int32), k < n9 → (sf σ q ≤ k) → (k ≤ sn σ) → (rowOk (el σ q) k (sn σ) c9 fn9) → (c9 ≤ sr σ) → ∀ (H : Heap) (locs : List Loc), gP g (wF g ad (σ) (uRow τ q (c9) (fn9))) H → va_D (fun q => q ∈ (fA ad)) (wF g ad (σ) (uRow τ q (c9) (fn9))) → va_S (fun q => q ∈ (fA ad)) s.heap H locs → ∀ ls : Array Slot, lv_has ls 4 [(0, .ref (ad 0)), (1, .ref (ad (15 + 2 * q))), (2, .int (fI (sf σ q))), (3, .int (fI (k)))] → W p l e ({ frames := 5, cells := 0, slots := 0, locals := 109 } : Room) s m ([.ref (ad 0), .ref (ad (15 + 2 * q))] : List Value).toArray below meth c H locs 0 0 (MQ below (wrQ none (fun H1 => ∃ (c : Nat) (fn : Nat → Int32), gP g (wF g ad (uS σ (va_up (sf σ) q (nfl (el σ q) (sf σ q) (sn σ) (sr σ)))) (uRow τ q c fn)) H1 ∧ rowOk (el σ q) (nfl (el σ q) (sf σ q) (sn σ) (sr σ)) (sn σ) c fn) (fA ad)) ([.ref (ad 0), .ref (ad (15 + 2 * q))] : List Value).toArray s 0 0 (fun q => q ∈ (fA ad))) (F0 m 19 ls []) := by
    intro n9
    induction n9 with
    | zero => intro k c9 fn9 h; omega
    | succ n9 ih =>
      intro k c9 fn9 h9 hk1 hk2 hr9 hc9 H locs hP hD hS ls hl
      refine lv_iload_n hx hb dX4_settleRow_19 rfl (lv_at hl 3 rfl) ?_
      refine lv_iload_n hx hb dX4_settleRow_20 rfl (lv_at hl 2 rfl) ?_
      refine br_leF (a := k) (b := sf σ q) (tgt := 64) hx hb (by omega) (by omega) dX4_settleRow_21 (by decide) (fun h58 => ?_) (fun h58 => ?_)
      · have hkf : k = sf σ q := by omega
        subst hkf
        have hpn : Pnf (el σ q) (sf σ q) (sn σ) (sr σ) (sf σ q) := Or.inl ⟨rfl, by have := hr9.1; omega⟩
        have e9 := nfl_eq (by omega) hpn
        exact wr_retv hx hb hr hlocks hS ⟨c9, fn9, by rw [e9, uS_self]; exact hP, by rw [e9]; exact hr9⟩ dX4_settleRow_64
      · obtain ⟨j, rfl⟩ : ∃ j, k = j + 1 := ⟨k - 1, by omega⟩
        have hl : lv_has ls 4 [(0, .ref (ad 0)), (1, .ref (ad (15 + 2 * q))), (2, .int (fI (sf σ q))), (3, .int (nI (j)))] := by rw [fI_succ] at hl; exact hl
        refine lv_aload_n hx hb dX4_settleRow_24 rfl (lv_at hl 0 rfl) ?_
        refine lv_aload_n hx hb dX4_settleRow_25 rfl (lv_at hl 1 rfl) ?_
        refine rd_goS (rn_V ⟨hx, hb, hml, hown, hts⟩ (c_X2_owner l g) gX4_settleRow_X2_owner rfl pX2_owner ⟨Nat.le_of_ble_eq_true rfl, Nat.le_of_ble_eq_true rfl⟩ ⟨Nat.le_of_ble_eq_true rfl, Nat.le_of_ble_eq_true rfl⟩ ((wF_rowG hq hP)) hE rfl rfl rfl hl.1 rfl (Nat.le_of_ble_eq_true rfl) dX4_settleRow_26) ?_
        refine lv_iload_n hx hb dX4_settleRow_29 rfl (lv_at hl 3 rfl) ?_
        refine rd_goS (rn_V ⟨hx, hb, hml, hown, hts⟩ (c_X4_isForRow l g hI (q := q) (x := j) (by omega) (by omega)) gX4_settleRow_X4_isForRow rfl pX4_isForRow ⟨Nat.le_of_ble_eq_true rfl, Nat.le_of_ble_eq_true rfl⟩ ⟨Nat.le_of_ble_eq_true rfl, Nat.le_of_ble_eq_true rfl⟩ (hP) hE rfl rfl rfl hl.1 rfl (Nat.le_of_ble_eq_true rfl) dX4_settleRow_30) ?_
        refine br_eqB (tgt := 58) hx hb dX4_settleRow_33 (by decide) (fun h59 => ?_) (fun h59 => ?_)
        · refine lv_iinc (v := fI (j)) (lv' := [(3, .int (fI (j))), (0, .ref (ad 0)), (1, .ref (ad (15 + 2 * q))), (2, .int (fI (sf σ q)))]) hx hb dX4_settleRow_58 hl (k := 3) rfl (decNF j) (by decide) rfl (fun ls hl => ?_)
          refine lv_goto (tgt := 19) hx hb dX4_settleRow_61 (by decide) ?_
          exact ih j c9 fn9 (by omega) (by omega) (by omega) (rowOk_stop hr9 (by omega) rfl h59) hc9 H locs hP hD hS ls (lv_sub hl [1, 2, 3, 0] rfl)
        · refine lv_aload_n hx hb dX4_settleRow_36 rfl (lv_at hl 1 rfl) ?_
          refine rd_goS (rn_V ⟨hx, hb, hml, hown, hts⟩ (c_X2_count l g) gX4_settleRow_X2_count rfl pX2_count ⟨Nat.le_of_ble_eq_true rfl, Nat.le_of_ble_eq_true rfl⟩ ⟨Nat.le_of_ble_eq_true rfl, Nat.le_of_ble_eq_true rfl⟩ ((wF_rowG hq hP)) hE rfl rfl rfl hl.1 rfl (Nat.le_of_ble_eq_true rfl) dX4_settleRow_37) ?_
          refine lv_aload_n hx hb dX4_settleRow_40 rfl (lv_at hl 0 rfl) ?_
          refine gf (q0 := 0) (ci := 4) (k := 7) (v := .int (nI (sr σ))) hx hb hts iX4_settleRow_4 hown hE hP rfl rfl (by decide) mX4_settleRow_46 rfl dX4_settleRow_41 ?_
          refine br_ltN (a := c9) (b := sr σ) (tgt := 53) hx hb (by omega) (by omega) dX4_settleRow_44 (by decide) (fun h60 => ?_) (fun h60 => ?_)
          · refine lv_aload_n hx hb dX4_settleRow_53 rfl (lv_at hl 1 rfl) ?_
            refine lv_iload_n hx hb dX4_settleRow_54 rfl (lv_at hl 3 rfl) ?_
            refine wr_goN (rn_V ⟨hx, hb, hml, hown, hts⟩ (c_X2_addBelow l g (x := j) (nd2 hN hq) (by omega)) gX4_settleRow_X2_addBelow rfl pX2_addBelow ⟨Nat.le_of_ble_eq_true rfl, Nat.le_of_ble_eq_true rfl⟩ ⟨Nat.le_of_ble_eq_true rfl, Nat.le_of_ble_eq_true rfl⟩ (wF_rowG hq hP) hE rfl rfl rfl hl.1 rfl (Nat.le_of_ble_eq_true rfl) dX4_settleRow_55) hS (as2 hq) (fun H1 locs1 hB hz hk hS => ?_)
            have hP := wF_rowS hN hq hP hk hB
            have hD : va_D (fun z => z ∈ fA ad) (wF g ad (σ) (uRow τ q (c9 + 1) (upd fn9 c9 (nI j)))) := wF_D hN
            clear hk hB hz
            generalize H1 = H at hP hS ⊢
            generalize locs1 = locs at hS ⊢
            refine lv_iinc (v := fI (j)) (lv' := [(3, .int (fI (j))), (0, .ref (ad 0)), (1, .ref (ad (15 + 2 * q))), (2, .int (fI (sf σ q)))]) hx hb dX4_settleRow_58 hl (k := 3) rfl (decNF j) (by decide) rfl (fun ls hl => ?_)
            refine lv_goto (tgt := 19) hx hb dX4_settleRow_61 (by decide) ?_
            exact ih j (c9 + 1) (upd fn9 c9 (nI j)) (by omega) (by omega) (by omega) (rowOk_add hr9 (by omega) h59) (by omega) H locs hP hD hS ls (lv_sub hl [1, 2, 3, 0] rfl)
          · refine lv_aload_n hx hb dX4_settleRow_47 rfl (lv_at hl 1 rfl) ?_
            refine lv_iload_n hx hb dX4_settleRow_48 rfl (lv_at hl 3 rfl) ?_
            refine wr_goN (rn_V ⟨hx, hb, hml, hown, hts⟩ (c_X2_raiseFloor l g (x := j) (nd2 hN hq)) gX4_settleRow_X2_raiseFloor rfl pX2_raiseFloor ⟨Nat.le_of_ble_eq_true rfl, Nat.le_of_ble_eq_true rfl⟩ ⟨Nat.le_of_ble_eq_true rfl, Nat.le_of_ble_eq_true rfl⟩ (wF_rowG hq hP) hE rfl rfl rfl hl.1 rfl (Nat.le_of_ble_eq_true rfl) dX4_settleRow_49) hS (as2 hq) (fun H1 locs1 hB hz hk hS => ?_)
            have hP := wF_rowF hN hq hP hk hB
            have hpn : Pnf (el σ q) (sf σ q) (sn σ) (sr σ) (j + 1) := Or.inr ⟨by omega, by omega, h59, by have := hr9.1; have := cN_mono (el σ q) (show j + 1 ≤ sn σ by omega); omega⟩
            have e9 := nfl_eq (by omega) hpn
            exact wr_retv hx hb hr hlocks hS ⟨c9, fn9, by rw [e9]; exact hP, by rw [e9]; exact hr9⟩ dX4_settleRow_52
  exact lp57 (_ + 1) (sn σ) 0 (rn τ q) (Nat.lt_succ_self _) (by omega) (Nat.le_refl _) rowOk_0 (Nat.zero_le _) _ _ hP hD hS ls (lv_sub hl [2, 3, 1, 0] rfl)
theorem el_stlI (σ : St) (i : Nat) : el (stlI σ i) = el σ := rfl
theorem sn_stlI (σ : St) (i : Nat) : sn (stlI σ i) = sn σ := rfl
theorem sr_stlI (σ : St) (i : Nat) : sr (stlI σ i) = sr σ := rfl
theorem sf_stlI (σ : St) (i : Nat) : sf (stlI σ i) = fun q => if q < i then nfl (el σ q) (sf σ q) (sn σ) (sr σ) else sf σ q := rfl
theorem rows_step {σ : St} {τ : Sc} {i c : Nat} {fn : Nat → Int32} (h : rowsOk (stlI σ i) τ i) (hr : rowOk (el (stlI σ i) i) (nfl (el (stlI σ i) i) (sf (stlI σ i) i) (sn (stlI σ i)) (sr (stlI σ i))) (sn (stlI σ i)) c fn) : rowsOk (stlI σ (i + 1)) (uRow τ i c fn) (i + 1) := by
  intro q hq
  have e0 : ∀ j z, j < z → sf (stlI σ z) j = nfl (el σ j) (sf σ j) (sn σ) (sr σ) := fun j z hj => by
    rw [sf_stlI]
    simp only [if_pos hj]
  rw [el_stlI, sn_stlI, sr_stlI] at hr
  rw [el_stlI, sn_stlI]
  by_cases hqi : q = i
  · subst hqi
    have e1 : rc (uRow τ q c fn) q = c := va_up_at _ _ _
    have e2 : rn (uRow τ q c fn) q = fn := va_up_at _ _ _
    have e3 : sf (stlI σ q) q = sf σ q := by
      rw [sf_stlI]
      simp only [if_neg (Nat.lt_irrefl q)]
    rw [e1, e2, e0 q (q + 1) (by omega)]
    rw [e3] at hr
    exact hr
  · have hlt : q < i := by omega
    have e1 : rc (uRow τ i c fn) q = rc τ q := va_up_ne _ _ hqi
    have e2 : rn (uRow τ i c fn) q = rn τ q := va_up_ne _ _ hqi
    have h1 := h q hlt
    rw [el_stlI, sn_stlI, e0 q i hlt] at h1
    rw [e1, e2, e0 q (i + 1) (by omega)]
    exact h1
theorem mX4_settleRows_31 : Cond.fieldLink RX4 31 "Followrow" "rows" "[LFollowrow$Row;" ∈ wsX4_settleRows := by decide +kernel
theorem iX4_settleRows_4 : ∀ w ∈ wsX40, w ∈ wsX4_settleRows := by decide +kernel
set_option maxHeartbeats 4000000 in
set_option maxRecDepth 100000 in
/-- settleRows(): all rows are cut -/
theorem c_X4_settleRows (l : Launch) (g : GT) {ad : Nat → Nat} {σ : St} {τ : Sc} (hN : FN ad 31) (hI : Inv σ) : wrM l g yX4_settleRows wsX4_settleRows 6 132 [.ref (ad 0)] (wF g ad (σ) (τ)) none (fun H1 => ∃ τ1 : Sc, gP g (wF g ad (stl σ) τ1) H1 ∧ rowsOk (stl σ) τ1 8 ∧ tc τ1 = tc τ) (fA ad) := by
  refine wr_of (cc := cX4_settleRows) (maxL := 5) (ret := none) (by decide) rfl (Nat.le_of_ble_eq_true rfl) (fun p e s m below meth c ls hx hb hr hml hts hown hlocks hl hP hE hS => ?_)
  have hl : lv_has ls 5 [(0, .ref (ad 0))] := hl
  have hown : s.vm.findClass RX4 = some m.cls := hown
  have hD : va_D (fun z => z ∈ fA ad) (wF g ad σ τ) := wF_D hN
  refine lv_aload_n hx hb dX4_settleRows_0 rfl (lv_at hl 0 rfl) ?_
  refine gf (q0 := 0) (ci := 4) (k := 4) (v := .ref (ad 11)) hx hb hts iX4_settleRows_4 hown hE hP rfl rfl (by decide) mX4_settleRows_31 rfl dX4_settleRows_1 ?_
  refine lv_astore_n (lv' := [(1, .ref (ad 11)), (0, .ref (ad 0))]) hx hb dX4_settleRows_4 rfl hl (by decide) rfl (fun ls hl => ?_)
  refine lv_aload_n hx hb dX4_settleRows_5 rfl (lv_at hl 0 rfl) ?_
  refine va_alen (v := nI 8) hx hb hE.1 hP 11 2 rfl rfl rfl dX4_settleRows_6 ?_
  refine lv_istore_n (lv' := [(2, .int (nI (8))), (1, .ref (ad 11)), (0, .ref (ad 0))]) hx hb dX4_settleRows_7 rfl hl (by decide) rfl (fun ls hl => ?_)
  refine lv_iconst (v := nI (0)) hx hb dX4_settleRows_8 (by decide) ?_
  refine lv_istore_n (lv' := [(3, .int (nI (0))), (2, .int (nI (8))), (1, .ref (ad 11)), (0, .ref (ad 0))]) hx hb dX4_settleRows_9 rfl hl (by decide) rfl (fun ls hl => ?_)
  rw [← stlI_0 σ] at hP hD
  have lp61 : ∀ (n9 : Nat) (i : Nat) (τ9 : Sc), 8 - i < n9 → (i ≤ 8) → (rowsOk (stlI σ i) τ9 i) → (tc τ9 = tc τ) → ∀ (H : Heap) (locs : List Loc), gP g (wF g ad (stlI σ i) (τ9)) H → va_D (fun q => q ∈ (fA ad)) (wF g ad (stlI σ i) (τ9)) → va_S (fun q => q ∈ (fA ad)) s.heap H locs → ∀ ls : Array Slot, lv_has ls 5 [(0, .ref (ad 0)), (1, .ref (ad 11)), (2, .int (nI (8))), (3, .int (nI (i)))] → W p l e ({ frames := 6, cells := 0, slots := 0, locals := 132 } : Room) s m ([.ref (ad 0)] : List Value).toArray below meth c H locs 0 0 (MQ below (wrQ none (fun H1 => ∃ τ1 : Sc, gP g (wF g ad (stl σ) τ1) H1 ∧ rowsOk (stl σ) τ1 8 ∧ tc τ1 = tc τ) (fA ad)) ([.ref (ad 0)] : List Value).toArray s 0 0 (fun q => q ∈ (fA ad))) (F0 m 10 ls []) := by
    intro n9
    induction n9 with
    | zero => intro i τ9 h; omega
    | succ n9 ih =>
      intro i τ9 h9 hi hrs9 htm9 H locs hP hD hS ls hl
      refine lv_iload_n hx hb dX4_settleRows_10 rfl (lv_at hl 3 rfl) ?_
      refine lv_iload_n hx hb dX4_settleRows_11 rfl (lv_at hl 2 rfl) ?_
      refine br_geN (a := i) (b := 8) (tgt := 32) hx hb (by omega) (by omega) dX4_settleRows_12 (by decide) (fun h62 => ?_) (fun h62 => ?_)
      · have hi9 : i = 8 := by omega
        subst hi9
        exact wr_retv hx hb hr hlocks hS ⟨τ9, hP, hrs9, htm9⟩ dX4_settleRows_32
      · refine lv_aload_n hx hb dX4_settleRows_15 rfl (lv_at hl 1 rfl) ?_
        refine lv_iload_n hx hb dX4_settleRows_16 rfl (lv_at hl 3 rfl) ?_
        refine ra_q (q0 := 11) (i := i) hx hb hE hP rfl (by omega) (by decide) dX4_settleRows_17 ?_
        show W _ _ _ _ _ _ _ _ _ _ _ _ _ _ _ (F0 m _ ls (.ref (ad (15 + 2 * i)) :: _))
        refine lv_astore (lv' := [(4, .ref (ad (15 + 2 * i))), (0, .ref (ad 0)), (1, .ref (ad 11)), (2, .int (nI (8))), (3, .int (nI (i)))]) hx hb dX4_settleRows_18 hl (by decide) rfl (fun ls hl => ?_)
        refine lv_aload_n hx hb dX4_settleRows_20 rfl (lv_at hl 1 rfl) ?_
        refine lv_aload hx hb dX4_settleRows_21 (lv_at hl 0 rfl) ?_
        refine wr_goN (rn_V ⟨hx, hb, hml, hown, hts⟩ (c_X4_settleRow l g (σ := stlI σ i) (τ := τ9) (q := i) hN (Inv_stlI hI i) (by omega)) gX4_settleRows_X4_settleRow rfl pX4_settleRow ⟨Nat.le_of_ble_eq_true rfl, Nat.le_of_ble_eq_true rfl⟩ ⟨Nat.le_of_ble_eq_true rfl, Nat.le_of_ble_eq_true rfl⟩ hP hE rfl rfl rfl hl.1 rfl (Nat.le_of_ble_eq_true rfl) dX4_settleRows_23) hS (fun x h => h) (fun H1 locs1 hB hz hk hS => ?_)
        obtain ⟨c8, fn8, hP, hro⟩ := hB
        rw [stlI_s] at hP
        have hD : va_D (fun z => z ∈ fA ad) (wF g ad (stlI σ (i + 1)) (uRow τ9 i c8 fn8)) := wF_D hN
        have hrs2 : rowsOk (stlI σ (i + 1)) (uRow τ9 i c8 fn8) (i + 1) := rows_step hrs9 hro
        clear hk hz
        generalize H1 = H at hP hS ⊢
        generalize locs1 = locs at hS ⊢
        refine lv_iinc (v := nI (i + 1)) (lv' := [(3, .int (nI (i + 1))), (4, .ref (ad (15 + 2 * i))), (0, .ref (ad 0)), (1, .ref (ad 11)), (2, .int (nI (8)))]) hx hb dX4_settleRows_26 hl (k := 4) rfl (inc1 (i)) (by decide) rfl (fun ls hl => ?_)
        refine lv_goto (tgt := 10) hx hb dX4_settleRows_29 (by decide) ?_
        exact ih (i + 1) (uRow τ9 i c8 fn8) (by omega) (by omega) hrs2 htm9 H locs hP hD hS ls (lv_sub hl [2, 3, 4, 0] rfl)
  exact lp61 (_ + 1) 0 τ (Nat.lt_succ_self _) (by omega) (fun q h => absurd h (Nat.not_lt_zero q)) rfl _ _ hP hD hS ls (lv_sub hl [3, 2, 1, 0] rfl)
theorem mX4_offer_25 : Cond.fieldLink RX4 25 "Followrow" "ledger" "LFollowrow$Ledger;" ∈ wsX4_offer := by decide +kernel
theorem mX4_offer_38 : Cond.fieldLink RX4 38 "Followrow" "timeline" "LFollowrow$Timeline;" ∈ wsX4_offer := by decide +kernel
theorem iX4_offer_4 : ∀ w ∈ wsX40, w ∈ wsX4_offer := by decide +kernel
set_option maxHeartbeats 4000000 in
set_option maxRecDepth 100000 in
/-- offer(q, x) -/
theorem c_X4_offer (l : Launch) (g : GT) {ad : Nat → Nat} {σ : St} {τ : Sc} {q x : Nat} (hN : FN ad 31) (hI : Inv σ) (hq : q < 8) (h2 : x < sn σ) (h3 : tc τ < 150) : wrM l g yX4_offer wsX4_offer 3 66 [.ref (ad 0), .int (nI (q)), .int (nI (x))] (wF g ad (σ) (τ)) none (fun H1 => gP g (wF g ad σ (tAdd σ q τ x)) H1) (fA ad) := by
  refine wr_of (cc := cX4_offer) (maxL := 3) (ret := none) (by decide) rfl (Nat.le_of_ble_eq_true rfl) (fun p e s m below meth c ls hx hb hr hml hts hown hlocks hl hP hE hS => ?_)
  have hl : lv_has ls 3 [(0, .ref (ad 0)), (1, .int (nI (q))), (2, .int (nI (x)))] := hl
  have hown : s.vm.findClass RX4 = some m.cls := hown
  obtain ⟨hi1, hi2, hi3, hi4, hi5, hi6, hi7, hi8⟩ := id hI
  have hox := hi7 x h2
  refine lv_aload_n hx hb dX4_offer_0 rfl (lv_at hl 0 rfl) ?_
  refine lv_iload_n hx hb dX4_offer_1 rfl (lv_at hl 1 rfl) ?_
  refine lv_iload_n hx hb dX4_offer_2 rfl (lv_at hl 2 rfl) ?_
  refine rd_goS (rn_V ⟨hx, hb, hml, hown, hts⟩ (c_X4_isHidden l g hI (q := q) (x := x) (by omega) (by omega)) gX4_offer_X4_isHidden rfl pX4_isHidden ⟨Nat.le_of_ble_eq_true rfl, Nat.le_of_ble_eq_true rfl⟩ ⟨Nat.le_of_ble_eq_true rfl, Nat.le_of_ble_eq_true rfl⟩ (hP) hE rfl rfl rfl hl.1 rfl (Nat.le_of_ble_eq_true rfl) dX4_offer_3) ?_
  refine br_neB (tgt := 25) hx hb dX4_offer_6 (by decide) (fun h63 => ?_) (fun h63 => ?_)
  · have e9 : tAdd σ q τ x = τ := by simp only [tAdd, h63, Bool.true_or, if_true]
    exact wr_retv hx hb hr hlocks hS (by rw [e9]; exact hP) dX4_offer_25
  · refine lv_aload_n hx hb dX4_offer_9 rfl (lv_at hl 0 rfl) ?_
    refine gf (q0 := 0) (ci := 4) (k := 5) (v := .ref (ad 12)) hx hb hts iX4_offer_4 hown hE hP rfl rfl (by decide) mX4_offer_38 rfl dX4_offer_10 ?_
    refine lv_iload_n hx hb dX4_offer_13 rfl (lv_at hl 2 rfl) ?_
    refine lv_aload_n hx hb dX4_offer_14 rfl (lv_at hl 0 rfl) ?_
    refine gf (q0 := 0) (ci := 4) (k := 3) (v := .ref (ad 7)) hx hb hts iX4_offer_4 hown hE hP rfl rfl (by decide) mX4_offer_25 rfl dX4_offer_15 ?_
    refine lv_iload_n hx hb dX4_offer_18 rfl (lv_at hl 2 rfl) ?_
    refine rd_goS (rn_V ⟨hx, hb, hml, hown, hts⟩ (c_X0_origin l g (x := x) (by omega) (by omega)) gX4_offer_X0_origin rfl pX0_origin ⟨Nat.le_of_ble_eq_true rfl, Nat.le_of_ble_eq_true rfl⟩ ⟨Nat.le_of_ble_eq_true rfl, Nat.le_of_ble_eq_true rfl⟩ (hP.sub (ws' := wLed g (ad 7) (ad 8) (ad 9) (ad 10) (sa σ) (so σ) (sd σ) (sn σ)) [7, 8, 9, 10] rfl) hE rfl rfl rfl hl.1 rfl (Nat.le_of_ble_eq_true rfl) dX4_offer_19) ?_
    cases hT : tt τ (so σ x) with
    | true =>
      refine wr_goN (rn_V ⟨hx, hb, hml, hown, hts⟩ (c_X3_addBelow_t l g (x := x) (y := so σ x) (nd_of hN [12, 13, 14] (by decide) (by decide)) (by omega) (hi6 _) hT) gX4_offer_X3_addBelow rfl pX3_addBelow ⟨Nat.le_of_ble_eq_true rfl, Nat.le_of_ble_eq_true rfl⟩ ⟨Nat.le_of_ble_eq_true rfl, Nat.le_of_ble_eq_true rfl⟩ (hP.sub (ws' := wTim g (ad 12) (ad 13) (ad 14) (tn τ) (tt τ) (tc τ)) [12, 13, 14] rfl) hE rfl rfl rfl hl.1 rfl (Nat.le_of_ble_eq_true rfl) dX4_offer_22) hS (asL (ad := ad) (is := [12, 13, 14]) (by decide)) (fun H1 locs1 hB hz hk hS => ?_)
      have hP := wF_TU hN hP hk hB
      have e9 : tAdd σ q τ x = uTim τ (tn τ) (tt τ) (tc τ) := by simp only [tAdd, h63, hT, Bool.or_true, if_true]; rfl
      rw [← e9] at hP
      exact wr_retv hx hb hr hlocks hS hP dX4_offer_25
    | false =>
      refine wr_goN (rn_V ⟨hx, hb, hml, hown, hts⟩ (c_X3_addBelow_f l g (x := x) (y := so σ x) (nd_of hN [12, 13, 14] (by decide) (by decide)) (by omega) (hi6 _) hT) gX4_offer_X3_addBelow rfl pX3_addBelow ⟨Nat.le_of_ble_eq_true rfl, Nat.le_of_ble_eq_true rfl⟩ ⟨Nat.le_of_ble_eq_true rfl, Nat.le_of_ble_eq_true rfl⟩ (hP.sub (ws' := wTim g (ad 12) (ad 13) (ad 14) (tn τ) (tt τ) (tc τ)) [12, 13, 14] rfl) hE rfl rfl rfl hl.1 rfl (Nat.le_of_ble_eq_true rfl) dX4_offer_22) hS (asL (ad := ad) (is := [12, 13, 14]) (by decide)) (fun H1 locs1 hB hz hk hS => ?_)
      have hP := wF_TU hN hP hk hB
      have e9 : tAdd σ q τ x = uTim τ (upd (tn τ) (tc τ) (nI x)) (va_up (tt τ) (so σ x) true) (tc τ + 1) := by simp only [tAdd, h63, hT, Bool.or_false, Bool.false_eq_true, if_false]
      rw [← e9] at hP
      exact wr_retv hx hb hr hlocks hS hP dX4_offer_25
theorem due_off {σ : St} {q j : Nat} (h1 : el σ q j = false) (h2 : (sF σ (8 * q + sa σ j) && lg σ (sa σ j)) = false) : due σ q j = false := by
  cases hf : sF σ (8 * q + sa σ j) with
  | false => simp [due, hf]
  | true =>
    rw [hf] at h2
    have h3 : lg σ (sa σ j) = false := by simpa using h2
    have h4 : sd σ j = true := by
      cases hz : sd σ j with
      | true => rfl
      | false => simp [el, hz, hf, h3] at h1
    simp [due, hid, h4]
theorem due_off2 {σ : St} {q j : Nat} (hf : sF σ (8 * q + sa σ j) = false) : due σ q j = false := by simp [due, hf]
theorem mX4_readTimeline_25 : Cond.fieldLink RX4 25 "Followrow" "ledger" "LFollowrow$Ledger;" ∈ wsX4_readTimeline := by decide +kernel
theorem mX4_readTimeline_38 : Cond.fieldLink RX4 38 "Followrow" "timeline" "LFollowrow$Timeline;" ∈ wsX4_readTimeline := by decide +kernel
theorem iX4_readTimeline_4 : ∀ w ∈ wsX40, w ∈ wsX4_readTimeline := by decide +kernel
set_option maxHeartbeats 4000000 in
set_option maxRecDepth 100000 in
/-- readTimeline(row q) -/
theorem c_X4_readTimeline (l : Launch) (g : GT) {ad : Nat → Nat} {σ : St} {τ : Sc} {q : Nat} (hN : FN ad 31) (hI : Inv σ) (hq : q < 8) (hrow : rowOk (el σ q) (sf σ q) (sn σ) (rc τ q) (rn τ q)) (hcr : rc τ q ≤ 40) : wrM l g yX4_readTimeline wsX4_readTimeline 5 109 [.ref (ad 0), .ref (ad (15 + 2 * q))] (wF g ad (σ) (τ)) none (fun H1 => ∃ τ1 : Sc, gP g (wF g ad σ τ1) H1 ∧ rc τ1 = rc τ ∧ rn τ1 = rn τ ∧ TL σ q τ1 ∧ tc τ1 ≤ 150) (fA ad) := by
  refine wr_of (cc := cX4_readTimeline) (maxL := 5) (ret := none) (by decide) rfl (Nat.le_of_ble_eq_true rfl) (fun p e s m below meth c ls hx hb hr hml hts hown hlocks hl hP hE hS => ?_)
  have hl : lv_has ls 5 [(0, .ref (ad 0)), (1, .ref (ad (15 + 2 * q)))] := hl
  have hown : s.vm.findClass RX4 = some m.cls := hown
  obtain ⟨hi1, hi2, hi3, hi4, hi5, hi6, hi7, hi8⟩ := id hI
  have hfq := hi8 q hq
  refine lv_aload_n hx hb dX4_readTimeline_0 rfl (lv_at hl 0 rfl) ?_
  refine gf (q0 := 0) (ci := 4) (k := 5) (v := .ref (ad 12)) hx hb hts iX4_readTimeline_4 hown hE hP rfl rfl (by decide) mX4_readTimeline_38 rfl dX4_readTimeline_1 ?_
  refine wr_goN (rn_V ⟨hx, hb, hml, hown, hts⟩ (c_X3_empty l g (nd_of hN [12, 13, 14] (by decide) (by decide))) gX4_readTimeline_X3_empty rfl pX3_empty ⟨Nat.le_of_ble_eq_true rfl, Nat.le_of_ble_eq_true rfl⟩ ⟨Nat.le_of_ble_eq_true rfl, Nat.le_of_ble_eq_true rfl⟩ (hP.sub (ws' := wTim g (ad 12) (ad 13) (ad 14) (tn τ) (tt τ) (tc τ)) [12, 13, 14] rfl) hE rfl rfl rfl hl.1 rfl (Nat.le_of_ble_eq_true rfl) dX4_readTimeline_4) hS (asL (ad := ad) (is := [12, 13, 14]) (by decide)) (fun H1 locs1 hB hz hk hS => ?_)
  have hP := wF_TU hN hP hk hB
  have hD : va_D (fun z => z ∈ fA ad) (wF g ad (σ) (uTim τ (tn τ) (clr (tt τ) 150) 0)) := wF_D hN
  clear hk hB hz
  generalize H1 = H at hP hS ⊢
  generalize locs1 = locs at hS ⊢
  refine lv_iconst (v := nI (0)) hx hb dX4_readTimeline_7 (by decide) ?_
  refine lv_istore_n (lv' := [(2, .int (nI (0))), (0, .ref (ad 0)), (1, .ref (ad (15 + 2 * q)))]) hx hb dX4_readTimeline_8 rfl hl (by decide) rfl (fun ls hl => ?_)
  refine lv_aload_n hx hb dX4_readTimeline_9 rfl (lv_at hl 1 rfl) ?_
  refine gf (q0 := 0) (ci := 4) (k := 3) (v := .ref (ad 7)) hx hb hts iX4_readTimeline_4 hown hE hP rfl rfl (by decide) mX4_readTimeline_25 rfl dX4_readTimeline_10 ?_
  refine rd_goS (rn_V ⟨hx, hb, hml, hown, hts⟩ (c_X0_made l g) gX4_readTimeline_X0_made rfl pX0_made ⟨Nat.le_of_ble_eq_true rfl, Nat.le_of_ble_eq_true rfl⟩ ⟨Nat.le_of_ble_eq_true rfl, Nat.le_of_ble_eq_true rfl⟩ (hP.sub (ws' := wLed g (ad 7) (ad 8) (ad 9) (ad 10) (sa σ) (so σ) (sd σ) (sn σ)) [7, 8, 9, 10] rfl) hE rfl rfl rfl hl.1 rfl (Nat.le_of_ble_eq_true rfl) dX4_readTimeline_13) ?_
  refine lv_iconst (v := nI (1)) hx hb dX4_readTimeline_16 (by decide) ?_
  refine lv_isub hx hb dX4_readTimeline_17 ?_
  refine tp_i (sub1 (sn σ)) ?_
  refine lv_istore_n (lv' := [(3, .int (fI (sn σ))), (2, .int (nI (0))), (0, .ref (ad 0)), (1, .ref (ad (15 + 2 * q)))]) hx hb dX4_readTimeline_18 rfl hl (by decide) rfl (fun ls hl => ?_)
  have hl : lv_has ls 5 [(3, .int (fI (sn σ))), (2, .int (nI (cN (el σ q) (sn σ) - cN (el σ q) (sn σ)))), (0, .ref (ad 0)), (1, .ref (ad (15 + 2 * q)))] := by rw [show cN (el σ q) (sn σ) - cN (el σ q) (sn σ) = 0 by omega]; exact hl
  have lp64 : ∀ (n9 : Nat) (k : Nat) (τ9 : Sc), k < n9 → (sf σ q ≤ k) → (k ≤ sn σ) → (rc τ9 = rc τ) → (rn τ9 = rn τ) → (timOk σ q k τ9) → ∀ (H : Heap) (locs : List Loc), gP g (wF g ad (σ) (τ9)) H → va_D (fun q => q ∈ (fA ad)) (wF g ad (σ) (τ9)) → va_S (fun q => q ∈ (fA ad)) s.heap H locs → ∀ ls : Array Slot, lv_has ls 5 [(0, .ref (ad 0)), (1, .ref (ad (15 + 2 * q))), (2, .int (nI (cN (el σ q) (sn σ) - cN (el σ q) k))), (3, .int (fI (k)))] → W p l e ({ frames := 5, cells := 0, slots := 0, locals := 109 } : Room) s m ([.ref (ad 0), .ref (ad (15 + 2 * q))] : List Value).toArray below meth c H locs 0 0 (MQ below (wrQ none (fun H1 => ∃ τ1 : Sc, gP g (wF g ad σ τ1) H1 ∧ rc τ1 = rc τ ∧ rn τ1 = rn τ ∧ TL σ q τ1 ∧ tc τ1 ≤ 150) (fA ad)) ([.ref (ad 0), .ref (ad (15 + 2 * q))] : List Value).toArray s 0 0 (fun q => q ∈ (fA ad))) (F0 m 19 ls []) := by
    intro n9
    induction n9 with
    | zero => intro k τ9 h; omega
    | succ n9 ih =>
      intro k τ9 h9 hk1 hk2 hr1 hr2 ht9 H locs hP hD hS ls hl
      refine lv_iload_n hx hb dX4_readTimeline_19 rfl (lv_at hl 3 rfl) ?_
      refine lv_aload_n hx hb dX4_readTimeline_20 rfl (lv_at hl 1 rfl) ?_
      refine rd_goS (rn_V ⟨hx, hb, hml, hown, hts⟩ (c_X2_floor l g) gX4_readTimeline_X2_floor rfl pX2_floor ⟨Nat.le_of_ble_eq_true rfl, Nat.le_of_ble_eq_true rfl⟩ ⟨Nat.le_of_ble_eq_true rfl, Nat.le_of_ble_eq_true rfl⟩ ((wF_row hq hP)) hE rfl rfl rfl hl.1 rfl (Nat.le_of_ble_eq_true rfl) dX4_readTimeline_21) ?_
      refine br_leF (a := k) (b := sf σ q) (tgt := 83) hx hb (by omega) (by omega) dX4_readTimeline_24 (by decide) (fun h65 => ?_) (fun h65 => ?_)
      · have hkf : k = sf σ q := by omega
        subst hkf
        exact wr_retv hx hb hr hlocks hS ⟨τ9, hP, hr1, hr2, TL_of ht9, timOk_tc ht9 hi1⟩ dX4_readTimeline_83
      · obtain ⟨j, rfl⟩ : ∃ j, k = j + 1 := ⟨k - 1, by omega⟩
        have hl : lv_has ls 5 [(0, .ref (ad 0)), (1, .ref (ad (15 + 2 * q))), (2, .int (nI (cN (el σ q) (sn σ) - cN (el σ q) (j + 1)))), (3, .int (nI (j)))] := by rw [fI_succ] at hl; exact hl
        have hro : rowOk (el σ q) (sf σ q) (sn σ) (rc τ9 q) (rn τ9 q) := by rw [hr1, hr2]; exact hrow
        have hcn := cN_le (el σ q) (sn σ)
        have hrc40 : rc τ9 q ≤ 40 := by rw [hr1]; exact hcr
        have hroc := hro.1
        have hoj := hi6 j
        refine lv_aload_n hx hb dX4_readTimeline_27 rfl (lv_at hl 1 rfl) ?_
        refine lv_iload_n hx hb dX4_readTimeline_28 rfl (lv_at hl 2 rfl) ?_
        refine rd_goS (rn_V ⟨hx, hb, hml, hown, hts⟩ (c_X2_fromNewest l g (x := cN (el σ q) (sn σ) - cN (el σ q) (j + 1)) (by omega) (by omega)) gX4_readTimeline_X2_fromNewest rfl pX2_fromNewest ⟨Nat.le_of_ble_eq_true rfl, Nat.le_of_ble_eq_true rfl⟩ ⟨Nat.le_of_ble_eq_true rfl, Nat.le_of_ble_eq_true rfl⟩ ((wF_row hq hP)) hE rfl rfl rfl hl.1 rfl (Nat.le_of_ble_eq_true rfl) dX4_readTimeline_29) ?_
        refine lv_iload_n hx hb dX4_readTimeline_32 rfl (lv_at hl 3 rfl) ?_
        refine lv_icmp_ne (tgt := 40) hx hb dX4_readTimeline_33 (by decide) (fun h66 => ?_) (fun h66 => ?_)
        · have hel : el σ q j = false := by cases hz9 : el σ q j with | false => rfl | true => exact absurd ((rowOk_push hro (show sf σ q ≤ j by omega) (show j < sn σ by omega) (by omega)).mpr hz9) h66
          refine lv_iconst (v := bI (false)) hx hb dX4_readTimeline_40 (by decide) ?_
          refine lv_istore (lv' := [(4, .int (bI (false))), (0, .ref (ad 0)), (1, .ref (ad (15 + 2 * q))), (2, .int (nI (cN (el σ q) (sn σ) - cN (el σ q) (j + 1)))), (3, .int (nI (j)))]) hx hb dX4_readTimeline_41 hl (by decide) rfl (fun ls hl => ?_)
          refine lv_iload hx hb dX4_readTimeline_43 (lv_at hl 0 rfl) ?_
          refine br_eqB (tgt := 51) hx hb dX4_readTimeline_45 (by decide) (fun h67 => ?_) (fun h67 => ?_)
          · refine lv_iload hx hb dX4_readTimeline_51 (lv_at hl 0 rfl) ?_
            refine br_neB (tgt := 68) hx hb dX4_readTimeline_53 (by decide) (fun h68 => ?_) (fun h68 => ?_)
            · exact absurd h68 (by decide)
            · refine lv_aload_n hx hb dX4_readTimeline_56 rfl (lv_at hl 1 rfl) ?_
              refine lv_aload_n hx hb dX4_readTimeline_57 rfl (lv_at hl 2 rfl) ?_
              refine rd_goS (rn_V ⟨hx, hb, hml, hown, hts⟩ (c_X2_owner l g) gX4_readTimeline_X2_owner rfl pX2_owner ⟨Nat.le_of_ble_eq_true rfl, Nat.le_of_ble_eq_true rfl⟩ ⟨Nat.le_of_ble_eq_true rfl, Nat.le_of_ble_eq_true rfl⟩ ((wF_row hq hP)) hE rfl rfl rfl hl.1 rfl (Nat.le_of_ble_eq_true rfl) dX4_readTimeline_58) ?_
              refine lv_iload_n hx hb dX4_readTimeline_61 rfl (lv_at hl 4 rfl) ?_
              refine rd_goS (rn_V ⟨hx, hb, hml, hown, hts⟩ (c_X4_isFetched l g hI (q := q) (x := j) (by omega) (by omega)) gX4_readTimeline_X4_isFetched rfl pX4_isFetched ⟨Nat.le_of_ble_eq_true rfl, Nat.le_of_ble_eq_true rfl⟩ ⟨Nat.le_of_ble_eq_true rfl, Nat.le_of_ble_eq_true rfl⟩ (hP) hE rfl rfl rfl hl.1 rfl (Nat.le_of_ble_eq_true rfl) dX4_readTimeline_62) ?_
              refine br_eqB (tgt := 77) hx hb dX4_readTimeline_65 (by decide) (fun h69 => ?_) (fun h69 => ?_)
              · refine lv_iinc (v := fI (j)) (lv' := [(3, .int (fI (j))), (4, .int (bI (false))), (0, .ref (ad 0)), (1, .ref (ad (15 + 2 * q))), (2, .int (nI (cN (el σ q) (sn σ) - cN (el σ q) (j + 1))))]) hx hb dX4_readTimeline_77 hl (k := 4) rfl (decNF j) (by decide) rfl (fun ls hl => ?_)
                refine lv_goto (tgt := 19) hx hb dX4_readTimeline_80 (by decide) ?_
                have hpl : cN (el σ q) (sn σ) - cN (el σ q) (j + 1) = cN (el σ q) (sn σ) - cN (el σ q) j := by have := cN_f hel; omega
                rw [hpl] at hl
                exact ih j τ9 (by omega) (by omega) (by omega) hr1 hr2 (timOk_pass ht9 hoj (due_off hel h69)) H locs hP hD hS ls (lv_sub hl [2, 3, 4, 0] rfl)
              · refine lv_aload_n hx hb dX4_readTimeline_68 rfl (lv_at hl 1 rfl) ?_
                refine lv_aload_n hx hb dX4_readTimeline_69 rfl (lv_at hl 2 rfl) ?_
                refine rd_goS (rn_V ⟨hx, hb, hml, hown, hts⟩ (c_X2_owner l g) gX4_readTimeline_X2_owner rfl pX2_owner ⟨Nat.le_of_ble_eq_true rfl, Nat.le_of_ble_eq_true rfl⟩ ⟨Nat.le_of_ble_eq_true rfl, Nat.le_of_ble_eq_true rfl⟩ ((wF_row hq hP)) hE rfl rfl rfl hl.1 rfl (Nat.le_of_ble_eq_true rfl) dX4_readTimeline_70) ?_
                refine lv_iload_n hx hb dX4_readTimeline_73 rfl (lv_at hl 4 rfl) ?_
                refine wr_goN (rn_V ⟨hx, hb, hml, hown, hts⟩ (c_X4_offer l g (q := q) (x := j) (τ := τ9) hN hI hq (by omega) (timOk_tc2 ht9 (by omega) (by omega))) gX4_readTimeline_X4_offer rfl pX4_offer ⟨Nat.le_of_ble_eq_true rfl, Nat.le_of_ble_eq_true rfl⟩ ⟨Nat.le_of_ble_eq_true rfl, Nat.le_of_ble_eq_true rfl⟩ hP hE rfl rfl rfl hl.1 rfl (Nat.le_of_ble_eq_true rfl) dX4_readTimeline_74) hS (fun x h => h) (fun H1 locs1 hB hz hk hS => ?_)
                have hP : gP g (wF g ad σ (tAdd σ q τ9 j)) H1 := hB
                have hD : va_D (fun z => z ∈ fA ad) (wF g ad σ (tAdd σ q τ9 j)) := wF_D hN
                clear hk hB hz
                generalize H1 = H at hP hS ⊢
                generalize locs1 = locs at hS ⊢
                refine lv_iinc (v := fI (j)) (lv' := [(3, .int (fI (j))), (4, .int (bI (false))), (0, .ref (ad 0)), (1, .ref (ad (15 + 2 * q))), (2, .int (nI (cN (el σ q) (sn σ) - cN (el σ q) (j + 1))))]) hx hb dX4_readTimeline_77 hl (k := 4) rfl (decNF j) (by decide) rfl (fun ls hl => ?_)
                refine lv_goto (tgt := 19) hx hb dX4_readTimeline_80 (by decide) ?_
                have hpl : cN (el σ q) (sn σ) - cN (el σ q) (j + 1) = cN (el σ q) (sn σ) - cN (el σ q) j := by have := cN_f hel; omega
                rw [hpl] at hl
                exact ih j (tAdd σ q τ9 j) (by omega) (by omega) (by omega) (tAdd_rows.1.trans hr1) (tAdd_rows.2.trans hr2) (timOk_step ht9 (by omega) hoj (by omega) (by have := h69; simp only [Bool.and_eq_true] at this; exact this.1)) H locs hP hD hS ls (lv_sub hl [2, 3, 4, 0] rfl)
          · exact absurd h67 (by decide)
        · have hel : el σ q j = true := (rowOk_push hro (show sf σ q ≤ j by omega) (show j < sn σ by omega) (by omega)).mp h66
          refine lv_iconst (v := bI (true)) hx hb dX4_readTimeline_36 (by decide) ?_
          refine lv_goto (tgt := 41) hx hb dX4_readTimeline_37 (by decide) ?_
          refine lv_istore (lv' := [(4, .int (bI (true))), (0, .ref (ad 0)), (1, .ref (ad (15 + 2 * q))), (2, .int (nI (cN (el σ q) (sn σ) - cN (el σ q) (j + 1)))), (3, .int (nI (j)))]) hx hb dX4_readTimeline_41 hl (by decide) rfl (fun ls hl => ?_)
          refine lv_iload hx hb dX4_readTimeline_43 (lv_at hl 0 rfl) ?_
          refine br_eqB (tgt := 51) hx hb dX4_readTimeline_45 (by decide) (fun h70 => ?_) (fun h70 => ?_)
          · exact absurd h70 (by decide)
          · refine lv_iinc (v := nI (cN (el σ q) (sn σ) - cN (el σ q) (j + 1) + 1)) (lv' := [(2, .int (nI (cN (el σ q) (sn σ) - cN (el σ q) (j + 1) + 1))), (4, .int (bI (true))), (0, .ref (ad 0)), (1, .ref (ad (15 + 2 * q))), (3, .int (nI (j)))]) hx hb dX4_readTimeline_48 hl (k := 3) rfl (inc1 (cN (el σ q) (sn σ) - cN (el σ q) (j + 1))) (by decide) rfl (fun ls hl => ?_)
            refine lv_iload hx hb dX4_readTimeline_51 (lv_at hl 1 rfl) ?_
            refine br_neB (tgt := 68) hx hb dX4_readTimeline_53 (by decide) (fun h71 => ?_) (fun h71 => ?_)
            · refine lv_aload_n hx hb dX4_readTimeline_68 rfl (lv_at hl 2 rfl) ?_
              refine lv_aload_n hx hb dX4_readTimeline_69 rfl (lv_at hl 3 rfl) ?_
              refine rd_goS (rn_V ⟨hx, hb, hml, hown, hts⟩ (c_X2_owner l g) gX4_readTimeline_X2_owner rfl pX2_owner ⟨Nat.le_of_ble_eq_true rfl, Nat.le_of_ble_eq_true rfl⟩ ⟨Nat.le_of_ble_eq_true rfl, Nat.le_of_ble_eq_true rfl⟩ ((wF_row hq hP)) hE rfl rfl rfl hl.1 rfl (Nat.le_of_ble_eq_true rfl) dX4_readTimeline_70) ?_
              refine lv_iload_n hx hb dX4_readTimeline_73 rfl (lv_at hl 4 rfl) ?_
              refine wr_goN (rn_V ⟨hx, hb, hml, hown, hts⟩ (c_X4_offer l g (q := q) (x := j) (τ := τ9) hN hI hq (by omega) (timOk_tc2 ht9 (by omega) (by omega))) gX4_readTimeline_X4_offer rfl pX4_offer ⟨Nat.le_of_ble_eq_true rfl, Nat.le_of_ble_eq_true rfl⟩ ⟨Nat.le_of_ble_eq_true rfl, Nat.le_of_ble_eq_true rfl⟩ hP hE rfl rfl rfl hl.1 rfl (Nat.le_of_ble_eq_true rfl) dX4_readTimeline_74) hS (fun x h => h) (fun H1 locs1 hB hz hk hS => ?_)
              have hP : gP g (wF g ad σ (tAdd σ q τ9 j)) H1 := hB
              have hD : va_D (fun z => z ∈ fA ad) (wF g ad σ (tAdd σ q τ9 j)) := wF_D hN
              clear hk hB hz
              generalize H1 = H at hP hS ⊢
              generalize locs1 = locs at hS ⊢
              refine lv_iinc (v := fI (j)) (lv' := [(3, .int (fI (j))), (2, .int (nI (cN (el σ q) (sn σ) - cN (el σ q) (j + 1) + 1))), (4, .int (bI (true))), (0, .ref (ad 0)), (1, .ref (ad (15 + 2 * q)))]) hx hb dX4_readTimeline_77 hl (k := 4) rfl (decNF j) (by decide) rfl (fun ls hl => ?_)
              refine lv_goto (tgt := 19) hx hb dX4_readTimeline_80 (by decide) ?_
              have hpl : cN (el σ q) (sn σ) - cN (el σ q) (j + 1) + 1 = cN (el σ q) (sn σ) - cN (el σ q) j := by have := cN_t hel; have := cN_up _ (show j < sn σ by omega) hel; omega
              rw [hpl] at hl
              exact ih j (tAdd σ q τ9 j) (by omega) (by omega) (by omega) (tAdd_rows.1.trans hr1) (tAdd_rows.2.trans hr2) (timOk_step ht9 (by omega) hoj (by omega) (by have := hel; simp only [el, Bool.and_eq_true] at this; exact this.2.1)) H locs hP hD hS ls (lv_sub hl [3, 4, 1, 0] rfl)
            · exact absurd h71 (by decide)
  exact lp64 (_ + 1) (sn σ) (uTim τ (tn τ) (clr (tt τ) 150) 0) (Nat.lt_succ_self _) hfq (Nat.le_refl _) rfl rfl timOk_0 _ _ hP hD hS ls (lv_sub hl [2, 3, 1, 0] rfl)
theorem mX4_mergeTimeline_10 : Cond.fieldLink RX4 10 "Followrow" "following" "LFollowrow$Relation;" ∈ wsX4_mergeTimeline := by decide +kernel
theorem mX4_mergeTimeline_25 : Cond.fieldLink RX4 25 "Followrow" "ledger" "LFollowrow$Ledger;" ∈ wsX4_mergeTimeline := by decide +kernel
theorem mX4_mergeTimeline_38 : Cond.fieldLink RX4 38 "Followrow" "timeline" "LFollowrow$Timeline;" ∈ wsX4_mergeTimeline := by decide +kernel
theorem iX4_mergeTimeline_4 : ∀ w ∈ wsX40, w ∈ wsX4_mergeTimeline := by decide +kernel
set_option maxHeartbeats 4000000 in
set_option maxRecDepth 100000 in
/-- mergeTimeline(q, its floor) -/
theorem c_X4_mergeTimeline (l : Launch) (g : GT) {ad : Nat → Nat} {σ : St} {τ : Sc} {q : Nat} (hN : FN ad 31) (hI : Inv σ) (hq : q < 8) : wrM l g yX4_mergeTimeline wsX4_mergeTimeline 4 88 [.ref (ad 0), .int (nI (q)), .int (fI (sf σ q))] (wF g ad (σ) (τ)) none (fun H1 => ∃ τ1 : Sc, gP g (wF g ad σ τ1) H1 ∧ rc τ1 = rc τ ∧ rn τ1 = rn τ ∧ TL σ q τ1 ∧ tc τ1 ≤ 150) (fA ad) := by
  refine wr_of (cc := cX4_mergeTimeline) (maxL := 4) (ret := none) (by decide) rfl (Nat.le_of_ble_eq_true rfl) (fun p e s m below meth c ls hx hb hr hml hts hown hlocks hl hP hE hS => ?_)
  have hl : lv_has ls 4 [(0, .ref (ad 0)), (1, .int (nI (q))), (2, .int (fI (sf σ q)))] := hl
  have hown : s.vm.findClass RX4 = some m.cls := hown
  obtain ⟨hi1, hi2, hi3, hi4, hi5, hi6, hi7, hi8⟩ := id hI
  have hfq := hi8 q hq
  refine lv_aload_n hx hb dX4_mergeTimeline_0 rfl (lv_at hl 0 rfl) ?_
  refine gf (q0 := 0) (ci := 4) (k := 5) (v := .ref (ad 12)) hx hb hts iX4_mergeTimeline_4 hown hE hP rfl rfl (by decide) mX4_mergeTimeline_38 rfl dX4_mergeTimeline_1 ?_
  refine wr_goN (rn_V ⟨hx, hb, hml, hown, hts⟩ (c_X3_empty l g (nd_of hN [12, 13, 14] (by decide) (by decide))) gX4_mergeTimeline_X3_empty rfl pX3_empty ⟨Nat.le_of_ble_eq_true rfl, Nat.le_of_ble_eq_true rfl⟩ ⟨Nat.le_of_ble_eq_true rfl, Nat.le_of_ble_eq_true rfl⟩ (hP.sub (ws' := wTim g (ad 12) (ad 13) (ad 14) (tn τ) (tt τ) (tc τ)) [12, 13, 14] rfl) hE rfl rfl rfl hl.1 rfl (Nat.le_of_ble_eq_true rfl) dX4_mergeTimeline_4) hS (asL (ad := ad) (is := [12, 13, 14]) (by decide)) (fun H1 locs1 hB hz hk hS => ?_)
  have hP := wF_TU hN hP hk hB
  have hD : va_D (fun z => z ∈ fA ad) (wF g ad (σ) (uTim τ (tn τ) (clr (tt τ) 150) 0)) := wF_D hN
  clear hk hB hz
  generalize H1 = H at hP hS ⊢
  generalize locs1 = locs at hS ⊢
  refine lv_aload_n hx hb dX4_mergeTimeline_7 rfl (lv_at hl 0 rfl) ?_
  refine gf (q0 := 0) (ci := 4) (k := 3) (v := .ref (ad 7)) hx hb hts iX4_mergeTimeline_4 hown hE hP rfl rfl (by decide) mX4_mergeTimeline_25 rfl dX4_mergeTimeline_8 ?_
  refine rd_goS (rn_V ⟨hx, hb, hml, hown, hts⟩ (c_X0_made l g) gX4_mergeTimeline_X0_made rfl pX0_made ⟨Nat.le_of_ble_eq_true rfl, Nat.le_of_ble_eq_true rfl⟩ ⟨Nat.le_of_ble_eq_true rfl, Nat.le_of_ble_eq_true rfl⟩ (hP.sub (ws' := wLed g (ad 7) (ad 8) (ad 9) (ad 10) (sa σ) (so σ) (sd σ) (sn σ)) [7, 8, 9, 10] rfl) hE rfl rfl rfl hl.1 rfl (Nat.le_of_ble_eq_true rfl) dX4_mergeTimeline_11) ?_
  refine lv_iconst (v := nI (1)) hx hb dX4_mergeTimeline_14 (by decide) ?_
  refine lv_isub hx hb dX4_mergeTimeline_15 ?_
  refine tp_i (sub1 (sn σ)) ?_
  refine lv_istore_n (lv' := [(3, .int (fI (sn σ))), (0, .ref (ad 0)), (1, .int (nI (q))), (2, .int (fI (sf σ q)))]) hx hb dX4_mergeTimeline_16 rfl hl (by decide) rfl (fun ls hl => ?_)
  have lp72 : ∀ (n9 : Nat) (k : Nat) (τ9 : Sc), k < n9 → (sf σ q ≤ k) → (k ≤ sn σ) → (rc τ9 = rc τ) → (rn τ9 = rn τ) → (timOk σ q k τ9) → ∀ (H : Heap) (locs : List Loc), gP g (wF g ad (σ) (τ9)) H → va_D (fun q => q ∈ (fA ad)) (wF g ad (σ) (τ9)) → va_S (fun q => q ∈ (fA ad)) s.heap H locs → ∀ ls : Array Slot, lv_has ls 4 [(0, .ref (ad 0)), (1, .int (nI (q))), (2, .int (fI (sf σ q))), (3, .int (fI (k)))] → W p l e ({ frames := 4, cells := 0, slots := 0, locals := 88 } : Room) s m ([.ref (ad 0), .int (nI (q)), .int (fI (sf σ q))] : List Value).toArray below meth c H locs 0 0 (MQ below (wrQ none (fun H1 => ∃ τ1 : Sc, gP g (wF g ad σ τ1) H1 ∧ rc τ1 = rc τ ∧ rn τ1 = rn τ ∧ TL σ q τ1 ∧ tc τ1 ≤ 150) (fA ad)) ([.ref (ad 0), .int (nI (q)), .int (fI (sf σ q))] : List Value).toArray s 0 0 (fun q => q ∈ (fA ad))) (F0 m 17 ls []) := by
    intro n9
    induction n9 with
    | zero => intro k τ9 h; omega
    | succ n9 ih =>
      intro k τ9 h9 hk1 hk2 hr1 hr2 ht9 H locs hP hD hS ls hl
      refine lv_iload_n hx hb dX4_mergeTimeline_17 rfl (lv_at hl 3 rfl) ?_
      refine lv_iload_n hx hb dX4_mergeTimeline_18 rfl (lv_at hl 2 rfl) ?_
      refine br_leF (a := k) (b := sf σ q) (tgt := 53) hx hb (by omega) (by omega) dX4_mergeTimeline_19 (by decide) (fun h73 => ?_) (fun h73 => ?_)
      · have hkf : k = sf σ q := by omega
        subst hkf
        exact wr_retv hx hb hr hlocks hS ⟨τ9, hP, hr1, hr2, TL_of ht9, timOk_tc ht9 hi1⟩ dX4_mergeTimeline_53
      · obtain ⟨j, rfl⟩ : ∃ j, k = j + 1 := ⟨k - 1, by omega⟩
        have hl : lv_has ls 4 [(0, .ref (ad 0)), (1, .int (nI (q))), (2, .int (fI (sf σ q))), (3, .int (nI (j)))] := by rw [fI_succ] at hl; exact hl
        have hoj := hi6 j
        refine lv_aload_n hx hb dX4_mergeTimeline_22 rfl (lv_at hl 0 rfl) ?_
        refine gf (q0 := 0) (ci := 4) (k := 0) (v := .ref (ad 1)) hx hb hts iX4_mergeTimeline_4 hown hE hP rfl rfl (by decide) mX4_mergeTimeline_10 rfl dX4_mergeTimeline_23 ?_
        refine lv_iload_n hx hb dX4_mergeTimeline_26 rfl (lv_at hl 1 rfl) ?_
        refine lv_aload_n hx hb dX4_mergeTimeline_27 rfl (lv_at hl 0 rfl) ?_
        refine gf (q0 := 0) (ci := 4) (k := 3) (v := .ref (ad 7)) hx hb hts iX4_mergeTimeline_4 hown hE hP rfl rfl (by decide) mX4_mergeTimeline_25 rfl dX4_mergeTimeline_28 ?_
        refine lv_iload_n hx hb dX4_mergeTimeline_31 rfl (lv_at hl 3 rfl) ?_
        refine rd_goS (rn_V ⟨hx, hb, hml, hown, hts⟩ (c_X0_author l g (x := j) (by omega) (by omega)) gX4_mergeTimeline_X0_author rfl pX0_author ⟨Nat.le_of_ble_eq_true rfl, Nat.le_of_ble_eq_true rfl⟩ ⟨Nat.le_of_ble_eq_true rfl, Nat.le_of_ble_eq_true rfl⟩ (hP.sub (ws' := wLed g (ad 7) (ad 8) (ad 9) (ad 10) (sa σ) (so σ) (sd σ) (sn σ)) [7, 8, 9, 10] rfl) hE rfl rfl rfl hl.1 rfl (Nat.le_of_ble_eq_true rfl) dX4_mergeTimeline_32) ?_
        refine rd_goS (rn_V ⟨hx, hb, hml, hown, hts⟩ (c_X1_has l g (x := q) (y := sa σ j) (by first | omega | exact hi5 _ | exact hi6 _) (by first | omega | exact hi5 _ | exact hi6 _)) gX4_mergeTimeline_X1_has rfl pX1_has ⟨Nat.le_of_ble_eq_true rfl, Nat.le_of_ble_eq_true rfl⟩ ⟨Nat.le_of_ble_eq_true rfl, Nat.le_of_ble_eq_true rfl⟩ (hP.sub (ws' := wRel g (ad 1) (ad 2) (sF σ)) [1, 2] rfl) hE rfl rfl rfl hl.1 rfl (Nat.le_of_ble_eq_true rfl) dX4_mergeTimeline_35) ?_
        refine br_eqB (tgt := 47) hx hb dX4_mergeTimeline_38 (by decide) (fun h74 => ?_) (fun h74 => ?_)
        · refine lv_iinc (v := fI (j)) (lv' := [(3, .int (fI (j))), (0, .ref (ad 0)), (1, .int (nI (q))), (2, .int (fI (sf σ q)))]) hx hb dX4_mergeTimeline_47 hl (k := 3) rfl (decNF j) (by decide) rfl (fun ls hl => ?_)
          refine lv_goto (tgt := 17) hx hb dX4_mergeTimeline_50 (by decide) ?_
          exact ih j τ9 (by omega) (by omega) (by omega) hr1 hr2 (timOk_pass ht9 hoj (due_off2 h74)) H locs hP hD hS ls (lv_sub hl [1, 2, 3, 0] rfl)
        · refine lv_aload_n hx hb dX4_mergeTimeline_41 rfl (lv_at hl 0 rfl) ?_
          refine lv_iload_n hx hb dX4_mergeTimeline_42 rfl (lv_at hl 1 rfl) ?_
          refine lv_iload_n hx hb dX4_mergeTimeline_43 rfl (lv_at hl 3 rfl) ?_
          refine wr_goN (rn_V ⟨hx, hb, hml, hown, hts⟩ (c_X4_offer l g (q := q) (x := j) (τ := τ9) hN hI hq (by omega) (timOk_tc2 ht9 (by omega) (by omega))) gX4_mergeTimeline_X4_offer rfl pX4_offer ⟨Nat.le_of_ble_eq_true rfl, Nat.le_of_ble_eq_true rfl⟩ ⟨Nat.le_of_ble_eq_true rfl, Nat.le_of_ble_eq_true rfl⟩ hP hE rfl rfl rfl hl.1 rfl (Nat.le_of_ble_eq_true rfl) dX4_mergeTimeline_44) hS (fun x h => h) (fun H1 locs1 hB hz hk hS => ?_)
          have hP : gP g (wF g ad σ (tAdd σ q τ9 j)) H1 := hB
          have hD : va_D (fun z => z ∈ fA ad) (wF g ad σ (tAdd σ q τ9 j)) := wF_D hN
          clear hk hB hz
          generalize H1 = H at hP hS ⊢
          generalize locs1 = locs at hS ⊢
          refine lv_iinc (v := fI (j)) (lv' := [(3, .int (fI (j))), (0, .ref (ad 0)), (1, .int (nI (q))), (2, .int (fI (sf σ q)))]) hx hb dX4_mergeTimeline_47 hl (k := 3) rfl (decNF j) (by decide) rfl (fun ls hl => ?_)
          refine lv_goto (tgt := 17) hx hb dX4_mergeTimeline_50 (by decide) ?_
          exact ih j (tAdd σ q τ9 j) (by omega) (by omega) (by omega) (tAdd_rows.1.trans hr1) (tAdd_rows.2.trans hr2) (timOk_step ht9 (by omega) hoj (by omega) h74) H locs hP hD hS ls (lv_sub hl [1, 2, 3, 0] rfl)
  exact lp72 (_ + 1) (sn σ) (uTim τ (tn τ) (clr (tt τ) 150) 0) (Nat.lt_succ_self _) hfq (Nat.le_refl _) rfl rfl timOk_0 _ _ hP hD hS ls (lv_sub hl [1, 2, 3, 0] rfl)
