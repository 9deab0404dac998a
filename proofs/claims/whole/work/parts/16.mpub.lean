theorem sn_stl (σ : St) : sn (stl σ) = sn σ := rfl
theorem sr_stl (σ : St) : sr (stl σ) = sr σ := rfl
theorem el_stl (σ : St) : el (stl σ) = el σ := rfl
theorem sF_stl (σ : St) : sF (stl σ) = sF σ := rfl
theorem sn_uE (σ : St) (x y : Nat → Nat) (n : Nat) : sn (uE σ x y n) = n := rfl
theorem mX5_makes_19 : Cond.fieldLink RX5 19 "FollowrowModel" "author" "[I" ∈ wsX5_makes := by decide +kernel
theorem mX5_makes_23 : Cond.fieldLink RX5 23 "FollowrowModel" "origin" "[I" ∈ wsX5_makes := by decide +kernel
theorem mX5_makes_46 : Cond.fieldLink RX5 46 "FollowrowModel" "entries" "I" ∈ wsX5_makes := by decide +kernel
theorem iX5_makes_5 : ∀ w ∈ wsX50, w ∈ wsX5_makes := by decide +kernel
set_option maxHeartbeats 4000000 in
set_option maxRecDepth 100000 in
/-- makes(x, y) -/
theorem c_X5_makes (l : Launch) (g : GT) {am : Nat → Nat} {σ : St} {th : Nat} (hI : Inv σ) (hM : FN am 8) {x y : Nat} (h0 : sn σ < 150) (h1 : x < 8) (h2 : y ≤ sn σ) : wrM l g yX5_makes wsX5_makes 5 112 [.ref (am 0), .int (nI (x)), .int (nI (y))] (wM g am (σ) (th)) (some (.int (nI (sn σ)))) (fun H1 => gP g (wM g am (stl (uE σ (va_up (sa σ) (sn σ) x) (va_up (so σ) (sn σ) y) (sn σ + 1))) th) H1) (mA am) := by
  refine wr_of (cc := cX5_makes) (maxL := 3) (ret := (some .int)) (by decide) rfl (Nat.le_of_ble_eq_true rfl) (fun p e s m below meth c ls hx hb hr hml hts hown hlocks hl hP hE hS => ?_)
  have hl : lv_has ls 3 [(0, .ref (am 0)), (1, .int (nI (x))), (2, .int (nI (y)))] := hl
  have hown : s.vm.findClass RX5 = some m.cls := hown
  obtain ⟨hi1, hi2, hi3, hi4, hi5, hi6, hi7, hi8⟩ := id hI
  have hD : va_D (fun z => z ∈ mA am) (wM g am σ th) := wM_D hM
  refine lv_aload_n hx hb dX5_makes_0 rfl (lv_at hl 0 rfl) ?_
  refine gf (q0 := 0) (ci := 5) (k := 3) (v := .ref (am 4)) hx hb hts iX5_makes_5 hown hE hP rfl rfl (by decide) mX5_makes_19 rfl dX5_makes_1 ?_
  refine lv_aload_n hx hb dX5_makes_4 rfl (lv_at hl 0 rfl) ?_
  refine gf (q0 := 0) (ci := 5) (k := 6) (v := .int (nI (sn σ))) hx hb hts iX5_makes_5 hown hE hP rfl rfl (by decide) mX5_makes_46 rfl dX5_makes_5 ?_
  refine lv_iload_n hx hb dX5_makes_8 rfl (lv_at hl 1 rfl) ?_
  refine wa_i (q0 := 4) (i := sn σ) (ws' := wM g am (uE (σ) (va_up (sa σ) (sn σ) (x)) (so σ) (sn σ)) (th)) hx hb hE hP hD hS rfl (nc_up _ _ _) rfl (by omega) (by decide) dX5_makes_9 (fun H locs hP hD hS => ?_)
  refine lv_aload_n hx hb dX5_makes_10 rfl (lv_at hl 0 rfl) ?_
  refine gf (q0 := 0) (ci := 5) (k := 4) (v := .ref (am 5)) hx hb hts iX5_makes_5 hown hE hP rfl rfl (by decide) mX5_makes_23 rfl dX5_makes_11 ?_
  refine lv_aload_n hx hb dX5_makes_14 rfl (lv_at hl 0 rfl) ?_
  refine gf (q0 := 0) (ci := 5) (k := 6) (v := .int (nI (sn (uE (σ) (va_up (sa σ) (sn σ) (x)) (so σ) (sn σ))))) hx hb hts iX5_makes_5 hown hE hP rfl rfl (by decide) mX5_makes_46 rfl dX5_makes_15 ?_
  refine lv_iload_n hx hb dX5_makes_18 rfl (lv_at hl 2 rfl) ?_
  refine wa_i (q0 := 5) (i := sn (uE (σ) (va_up (sa σ) (sn σ) (x)) (so σ) (sn σ))) (ws' := wM g am (uE (uE (σ) (va_up (sa σ) (sn σ) (x)) (so σ) (sn σ)) (sa (uE (σ) (va_up (sa σ) (sn σ) (x)) (so σ) (sn σ))) (va_up (so (uE (σ) (va_up (sa σ) (sn σ) (x)) (so σ) (sn σ))) (sn (uE (σ) (va_up (sa σ) (sn σ) (x)) (so σ) (sn σ))) (y)) (sn (uE (σ) (va_up (sa σ) (sn σ) (x)) (so σ) (sn σ)))) (th)) hx hb hE hP hD hS rfl (nc_up _ _ _) rfl (by show sn σ < 150; omega) (by decide) dX5_makes_19 (fun H locs hP hD hS => ?_)
  refine lv_aload_n hx hb dX5_makes_20 rfl (lv_at hl 0 rfl) ?_
  refine lv_dup hx hb dX5_makes_21 rfl ?_
  refine gf (q0 := 0) (ci := 5) (k := 6) (v := .int (nI (sn (uE (uE (σ) (va_up (sa σ) (sn σ) (x)) (so σ) (sn σ)) (sa (uE (σ) (va_up (sa σ) (sn σ) (x)) (so σ) (sn σ))) (va_up (so (uE (σ) (va_up (sa σ) (sn σ) (x)) (so σ) (sn σ))) (sn (uE (σ) (va_up (sa σ) (sn σ) (x)) (so σ) (sn σ))) (y)) (sn (uE (σ) (va_up (sa σ) (sn σ) (x)) (so σ) (sn σ))))))) hx hb hts iX5_makes_5 hown hE hP rfl rfl (by decide) mX5_makes_46 rfl dX5_makes_22 ?_
  refine lv_iconst (v := nI (1)) hx hb dX5_makes_25 (by decide) ?_
  refine lv_iadd hx hb dX5_makes_26 ?_
  refine tp_i (nI_add _ _) ?_
  refine pf (q0 := 0) (ci := 5) (k := 6) (ws' := wM g am (uE (uE (uE (σ) (va_up (sa σ) (sn σ) (x)) (so σ) (sn σ)) (sa (uE (σ) (va_up (sa σ) (sn σ) (x)) (so σ) (sn σ))) (va_up (so (uE (σ) (va_up (sa σ) (sn σ) (x)) (so σ) (sn σ))) (sn (uE (σ) (va_up (sa σ) (sn σ) (x)) (so σ) (sn σ))) (y)) (sn (uE (σ) (va_up (sa σ) (sn σ) (x)) (so σ) (sn σ)))) (sa (uE (uE (σ) (va_up (sa σ) (sn σ) (x)) (so σ) (sn σ)) (sa (uE (σ) (va_up (sa σ) (sn σ) (x)) (so σ) (sn σ))) (va_up (so (uE (σ) (va_up (sa σ) (sn σ) (x)) (so σ) (sn σ))) (sn (uE (σ) (va_up (sa σ) (sn σ) (x)) (so σ) (sn σ))) (y)) (sn (uE (σ) (va_up (sa σ) (sn σ) (x)) (so σ) (sn σ))))) (so (uE (uE (σ) (va_up (sa σ) (sn σ) (x)) (so σ) (sn σ)) (sa (uE (σ) (va_up (sa σ) (sn σ) (x)) (so σ) (sn σ))) (va_up (so (uE (σ) (va_up (sa σ) (sn σ) (x)) (so σ) (sn σ))) (sn (uE (σ) (va_up (sa σ) (sn σ) (x)) (so σ) (sn σ))) (y)) (sn (uE (σ) (va_up (sa σ) (sn σ) (x)) (so σ) (sn σ))))) (sn (uE (uE (σ) (va_up (sa σ) (sn σ) (x)) (so σ) (sn σ)) (sa (uE (σ) (va_up (sa σ) (sn σ) (x)) (so σ) (sn σ))) (va_up (so (uE (σ) (va_up (sa σ) (sn σ) (x)) (so σ) (sn σ))) (sn (uE (σ) (va_up (sa σ) (sn σ) (x)) (so σ) (sn σ))) (y)) (sn (uE (σ) (va_up (sa σ) (sn σ) (x)) (so σ) (sn σ)))) + 1)) (th)) hx hb hts iX5_makes_5 hown hE hP hD hS rfl rfl (by decide) tyX5_ok nmX5 mX5_makes_46 rfl (by decide +kernel) (Nat.le_of_ble_eq_true rfl) rfl dX5_makes_27 (fun H locs hP hD hS => ?_)
  have hP : gP g (wM g am (uE (σ) (va_up (sa σ) (sn σ) (x)) (va_up (so σ) (sn σ) (y)) (sn σ + 1)) (th)) H := hP
  have hD : va_D (fun z => z ∈ mA am) (wM g am (uE (σ) (va_up (sa σ) (sn σ) (x)) (va_up (so σ) (sn σ) (y)) (sn σ + 1)) (th)) := hD
  refine lv_aload_n hx hb dX5_makes_30 rfl (lv_at hl 0 rfl) ?_
  refine wr_goN (rn_V ⟨hx, hb, hml, hown, hts⟩ (c_X5_cuts l g (σ := uE (σ) (va_up (sa σ) (sn σ) (x)) (va_up (so σ) (sn σ) (y)) (sn σ + 1)) (th := th) hM (Inv_uE hI h0 h1 h2)) gX5_makes_X5_cuts rfl pX5_cuts ⟨Nat.le_of_ble_eq_true rfl, Nat.le_of_ble_eq_true rfl⟩ ⟨Nat.le_of_ble_eq_true rfl, Nat.le_of_ble_eq_true rfl⟩ hP hE rfl rfl rfl hl.1 rfl (Nat.le_of_ble_eq_true rfl) dX5_makes_31) hS (fun x h => h) (fun H1 locs1 hB hz hk hS => ?_)
  have hP : gP g (wM g am (stl (uE (σ) (va_up (sa σ) (sn σ) (x)) (va_up (so σ) (sn σ) (y)) (sn σ + 1))) (th)) H1 := hB
  have hD : va_D (fun z => z ∈ mA am) (wM g am (stl (uE (σ) (va_up (sa σ) (sn σ) (x)) (va_up (so σ) (sn σ) (y)) (sn σ + 1))) (th)) := wM_D hM
  clear hk hB hz
  generalize H1 = H at hP hS ⊢
  generalize locs1 = locs at hS ⊢
  refine lv_aload_n hx hb dX5_makes_34 rfl (lv_at hl 0 rfl) ?_
  refine gf (q0 := 0) (ci := 5) (k := 6) (v := .int (nI (sn (stl (uE (σ) (va_up (sa σ) (sn σ) (x)) (va_up (so σ) (sn σ) (y)) (sn σ + 1)))))) hx hb hts iX5_makes_5 hown hE hP rfl rfl (by decide) mX5_makes_46 rfl dX5_makes_35 ?_
  refine lv_iconst (v := nI (1)) hx hb dX5_makes_38 (by decide) ?_
  refine lv_isub hx hb dX5_makes_39 ?_
  refine tp_i (sub1 (sn (stl (uE (σ) (va_up (sa σ) (sn σ) (x)) (va_up (so σ) (sn σ) (y)) (sn σ + 1))))) ?_
  exact wr_reti hx hb hr hlocks hS hP (by rw [sn_stl, sn_uE]; exact fI_succ _) dX5_makes_40
theorem mX5_follow_7 : Cond.fieldLink RX5 7 "FollowrowModel" "followed" "[Z" ∈ wsX5_follow := by decide +kernel
theorem mX5_follow_16 : Cond.fieldLink RX5 16 "FollowrowModel" "blocked" "[Z" ∈ wsX5_follow := by decide +kernel
theorem iX5_follow_5 : ∀ w ∈ wsX50, w ∈ wsX5_follow := by decide +kernel
set_option maxHeartbeats 4000000 in
set_option maxRecDepth 100000 in
/-- follow(x, y) -/
theorem c_X5_follow (l : Launch) (g : GT) {am : Nat → Nat} {σ : St} {th : Nat} (hI : Inv σ) (hM : FN am 8) {x y : Int32} : wrM l g yX5_follow wsX5_follow 5 112 [.ref (am 0), .int (x), .int (y)] (wM g am (σ) (th)) (some (.int (oI (eFol σ x y) (nI (rFol σ x y))))) (fun H1 => gP g (wM g am (oS (eFol σ x y) (nFol σ x y) σ) ( (eFol σ x y))) H1) (mA am) := by
  refine wr_of (cc := cX5_follow) (maxL := 4) (ret := (some .int)) (by decide) rfl (Nat.le_of_ble_eq_true rfl) (fun p e s m below meth c ls hx hb hr hml hts hown hlocks hl hP hE hS => ?_)
  have hl : lv_has ls 4 [(0, .ref (am 0)), (1, .int (x)), (2, .int (y))] := hl
  have hown : s.vm.findClass RX5 = some m.cls := hown
  obtain ⟨hi1, hi2, hi3, hi4, hi5, hi6, hi7, hi8⟩ := id hI
  have hD : va_D (fun z => z ∈ mA am) (wM g am σ th) := wM_D hM
  refine lv_iload_n hx hb dX5_follow_0 rfl (lv_at hl 1 rfl) ?_
  refine rd_goS (rn_S ⟨hx, hb, hml, hown, hts⟩ (c_X5_isOne l g (x := x)) gX5_follow_X5_isOne rfl qX5_isOne ⟨Nat.le_of_ble_eq_true rfl, Nat.le_of_ble_eq_true rfl⟩ ⟨Nat.le_of_ble_eq_true rfl, Nat.le_of_ble_eq_true rfl⟩ (gP_nil) hE rfl hl.1 rfl (Nat.le_of_ble_eq_true rfl) dX5_follow_1) ?_
  refine br_eqB (tgt := 14) hx hb dX5_follow_4 (by decide) (fun h186 => ?_) (fun h186 => ?_)
  · refine lv_iconst (v := nI (1)) hx hb dX5_follow_14 (by decide) ?_
    refine lv_goto (tgt := 28) hx hb dX5_follow_15 (by decide) ?_
    refine lv_istore_n (lv' := [(3, .int (nI (1))), (0, .ref (am 0)), (1, .int (x)), (2, .int (y))]) hx hb dX5_follow_28 rfl hl (by decide) rfl (fun ls hl => ?_)
    refine lv_iload_n hx hb dX5_follow_29 rfl (lv_at hl 0 rfl) ?_
    refine br_ne0 (a := 1) (tgt := 77) hx hb (by decide) dX5_follow_30 (by decide) (fun h187 => ?_) (fun h187 => ?_)
    · refine lv_aload_n hx hb dX5_follow_77 rfl (lv_at hl 1 rfl) ?_
      refine lv_iload_n hx hb dX5_follow_78 rfl (lv_at hl 0 rfl) ?_
      refine wr_goS (rn_V ⟨hx, hb, hml, hown, hts⟩ (c_X5_isFine l g (σ := σ) (th := th) (x := 1) hM (by omega)) gX5_follow_X5_isFine rfl pX5_isFine ⟨Nat.le_of_ble_eq_true rfl, Nat.le_of_ble_eq_true rfl⟩ ⟨Nat.le_of_ble_eq_true rfl, Nat.le_of_ble_eq_true rfl⟩ hP hE rfl rfl rfl hl.1 rfl (Nat.le_of_ble_eq_true rfl) dX5_follow_79) hS (fun x h => h) (fun H1 locs1 hB hz hk hS => ?_)
      have hP : gP g (wM g am (σ) (1)) H1 := hB
      have hD : va_D (fun z => z ∈ mA am) (wM g am (σ) (1)) := wM_D hM
      clear hk hB hz
      generalize H1 = H at hP hS ⊢
      generalize locs1 = locs at hS ⊢
      refine tp_i (z := bI (false)) rfl ?_
      refine br_neB (tgt := 87) hx hb dX5_follow_82 (by decide) (fun h188 => ?_) (fun h188 => ?_)
      · exact absurd h188 (by decide)
      · refine lv_iconst (v := nI (0)) hx hb dX5_follow_85 (by decide) ?_
        have he9 : eFol σ x y = 1 := (by simp [eFol, h186])
        exact wr_reti hx hb hr hlocks hS (by rw [he9]; exact hP) (by rw [he9]; rfl) dX5_follow_86
    · exact absurd h187 (by decide)
  · obtain ⟨xj, hjx, rfl, hix⟩ := isP_of h186
    have hpx : isP (nI xj) = true := h186
    refine lv_iload_n hx hb dX5_follow_7 rfl (lv_at hl 2 rfl) ?_
    refine rd_goS (rn_S ⟨hx, hb, hml, hown, hts⟩ (c_X5_isOne l g (x := y)) gX5_follow_X5_isOne rfl qX5_isOne ⟨Nat.le_of_ble_eq_true rfl, Nat.le_of_ble_eq_true rfl⟩ ⟨Nat.le_of_ble_eq_true rfl, Nat.le_of_ble_eq_true rfl⟩ (gP_nil) hE rfl hl.1 rfl (Nat.le_of_ble_eq_true rfl) dX5_follow_8) ?_
    refine br_neB (tgt := 18) hx hb dX5_follow_11 (by decide) (fun h189 => ?_) (fun h189 => ?_)
    · obtain ⟨yj, hjy, rfl, hiy⟩ := isP_of h189
      have hpy : isP (nI yj) = true := h189
      refine lv_iload_n hx hb dX5_follow_18 rfl (lv_at hl 1 rfl) ?_
      refine lv_iload_n hx hb dX5_follow_19 rfl (lv_at hl 2 rfl) ?_
      refine br_neN (a := xj) (b := yj) (tgt := 27) hx hb (by omega) (by omega) dX5_follow_20 (by decide) (fun h190 => ?_) (fun h190 => ?_)
      · have hne2 : ¬ nI xj = nI yj := fun z => h190 ((nI_eq (by omega) (by omega)).mp z)
        have hne3 : ¬ nI yj = nI xj := fun z => hne2 z.symm
        refine lv_iconst (v := nI (0)) hx hb dX5_follow_27 (by decide) ?_
        refine lv_istore_n (lv' := [(3, .int (nI (0))), (0, .ref (am 0)), (1, .int (nI (xj))), (2, .int (nI (yj)))]) hx hb dX5_follow_28 rfl hl (by decide) rfl (fun ls hl => ?_)
        refine lv_iload_n hx hb dX5_follow_29 rfl (lv_at hl 0 rfl) ?_
        refine br_ne0 (a := 0) (tgt := 77) hx hb (by decide) dX5_follow_30 (by decide) (fun h191 => ?_) (fun h191 => ?_)
        · exact absurd h191 (by decide)
        · refine lv_aload_n hx hb dX5_follow_33 rfl (lv_at hl 1 rfl) ?_
          refine gf (q0 := 0) (ci := 5) (k := 0) (v := .ref (am 1)) hx hb hts iX5_follow_5 hown hE hP rfl rfl (by decide) mX5_follow_7 rfl dX5_follow_34 ?_
          refine lv_bipush (v := nI (8)) hx hb dX5_follow_37 (by decide) ?_
          refine lv_iload_n hx hb dX5_follow_39 rfl (lv_at hl 2 rfl) ?_
          refine lv_imul hx hb dX5_follow_40 ?_
          refine tp_i (pk_mul _ _) ?_
          refine lv_iload_n hx hb dX5_follow_41 rfl (lv_at hl 3 rfl) ?_
          refine lv_iadd hx hb dX5_follow_42 ?_
          refine tp_i (nI_add _ _) ?_
          refine ra_z (q0 := 1) (i := 8 * xj + yj) hx hb hE hP rfl (by omega) (by decide) dX5_follow_43 ?_
          refine br_neB (tgt := 75) hx hb dX5_follow_44 (by decide) (fun h192 => ?_) (fun h192 => ?_)
          · refine lv_iconst (v := nI (3)) hx hb dX5_follow_75 (by decide) ?_
            refine lv_istore_n (lv' := [(3, .int (nI (3))), (0, .ref (am 0)), (1, .int (nI (xj))), (2, .int (nI (yj)))]) hx hb dX5_follow_76 rfl hl (by decide) rfl (fun ls hl => ?_)
            refine lv_aload_n hx hb dX5_follow_77 rfl (lv_at hl 1 rfl) ?_
            refine lv_iload_n hx hb dX5_follow_78 rfl (lv_at hl 0 rfl) ?_
            refine wr_goS (rn_V ⟨hx, hb, hml, hown, hts⟩ (c_X5_isFine l g (σ := σ) (th := th) (x := 3) hM (by omega)) gX5_follow_X5_isFine rfl pX5_isFine ⟨Nat.le_of_ble_eq_true rfl, Nat.le_of_ble_eq_true rfl⟩ ⟨Nat.le_of_ble_eq_true rfl, Nat.le_of_ble_eq_true rfl⟩ hP hE rfl rfl rfl hl.1 rfl (Nat.le_of_ble_eq_true rfl) dX5_follow_79) hS (fun x h => h) (fun H1 locs1 hB hz hk hS => ?_)
            have hP : gP g (wM g am (σ) (3)) H1 := hB
            have hD : va_D (fun z => z ∈ mA am) (wM g am (σ) (3)) := wM_D hM
            clear hk hB hz
            generalize H1 = H at hP hS ⊢
            generalize locs1 = locs at hS ⊢
            refine tp_i (z := bI (false)) rfl ?_
            refine br_neB (tgt := 87) hx hb dX5_follow_82 (by decide) (fun h193 => ?_) (fun h193 => ?_)
            · exact absurd h193 (by decide)
            · refine lv_iconst (v := nI (0)) hx hb dX5_follow_85 (by decide) ?_
              have he9 : eFol σ (nI xj) (nI yj) = 3 := (by simp [eFol, hpx, hix, hpy, hiy, hne2, hne3, h192])
              exact wr_reti hx hb hr hlocks hS (by rw [he9]; exact hP) (by rw [he9]; rfl) dX5_follow_86
          · refine lv_aload_n hx hb dX5_follow_47 rfl (lv_at hl 1 rfl) ?_
            refine gf (q0 := 0) (ci := 5) (k := 2) (v := .ref (am 3)) hx hb hts iX5_follow_5 hown hE hP rfl rfl (by decide) mX5_follow_16 rfl dX5_follow_48 ?_
            refine lv_bipush (v := nI (8)) hx hb dX5_follow_51 (by decide) ?_
            refine lv_iload_n hx hb dX5_follow_53 rfl (lv_at hl 2 rfl) ?_
            refine lv_imul hx hb dX5_follow_54 ?_
            refine tp_i (pk_mul _ _) ?_
            refine lv_iload_n hx hb dX5_follow_55 rfl (lv_at hl 3 rfl) ?_
            refine lv_iadd hx hb dX5_follow_56 ?_
            refine tp_i (nI_add _ _) ?_
            refine ra_z (q0 := 3) (i := 8 * xj + yj) hx hb hE hP rfl (by omega) (by decide) dX5_follow_57 ?_
            refine br_neB (tgt := 75) hx hb dX5_follow_58 (by decide) (fun h194 => ?_) (fun h194 => ?_)
            · refine lv_iconst (v := nI (3)) hx hb dX5_follow_75 (by decide) ?_
              refine lv_istore_n (lv' := [(3, .int (nI (3))), (0, .ref (am 0)), (1, .int (nI (xj))), (2, .int (nI (yj)))]) hx hb dX5_follow_76 rfl hl (by decide) rfl (fun ls hl => ?_)
              refine lv_aload_n hx hb dX5_follow_77 rfl (lv_at hl 1 rfl) ?_
              refine lv_iload_n hx hb dX5_follow_78 rfl (lv_at hl 0 rfl) ?_
              refine wr_goS (rn_V ⟨hx, hb, hml, hown, hts⟩ (c_X5_isFine l g (σ := σ) (th := th) (x := 3) hM (by omega)) gX5_follow_X5_isFine rfl pX5_isFine ⟨Nat.le_of_ble_eq_true rfl, Nat.le_of_ble_eq_true rfl⟩ ⟨Nat.le_of_ble_eq_true rfl, Nat.le_of_ble_eq_true rfl⟩ hP hE rfl rfl rfl hl.1 rfl (Nat.le_of_ble_eq_true rfl) dX5_follow_79) hS (fun x h => h) (fun H1 locs1 hB hz hk hS => ?_)
              have hP : gP g (wM g am (σ) (3)) H1 := hB
              have hD : va_D (fun z => z ∈ mA am) (wM g am (σ) (3)) := wM_D hM
              clear hk hB hz
              generalize H1 = H at hP hS ⊢
              generalize locs1 = locs at hS ⊢
              refine tp_i (z := bI (false)) rfl ?_
              refine br_neB (tgt := 87) hx hb dX5_follow_82 (by decide) (fun h195 => ?_) (fun h195 => ?_)
              · exact absurd h195 (by decide)
              · refine lv_iconst (v := nI (0)) hx hb dX5_follow_85 (by decide) ?_
                have he9 : eFol σ (nI xj) (nI yj) = 3 := (by simp [eFol, hpx, hix, hpy, hiy, hne2, hne3, h192, h194])
                exact wr_reti hx hb hr hlocks hS (by rw [he9]; exact hP) (by rw [he9]; rfl) dX5_follow_86
            · refine lv_aload_n hx hb dX5_follow_61 rfl (lv_at hl 1 rfl) ?_
              refine gf (q0 := 0) (ci := 5) (k := 2) (v := .ref (am 3)) hx hb hts iX5_follow_5 hown hE hP rfl rfl (by decide) mX5_follow_16 rfl dX5_follow_62 ?_
              refine lv_bipush (v := nI (8)) hx hb dX5_follow_65 (by decide) ?_
              refine lv_iload_n hx hb dX5_follow_67 rfl (lv_at hl 3 rfl) ?_
              refine lv_imul hx hb dX5_follow_68 ?_
              refine tp_i (pk_mul _ _) ?_
              refine lv_iload_n hx hb dX5_follow_69 rfl (lv_at hl 2 rfl) ?_
              refine lv_iadd hx hb dX5_follow_70 ?_
              refine tp_i (nI_add _ _) ?_
              refine ra_z (q0 := 3) (i := 8 * yj + xj) hx hb hE hP rfl (by omega) (by decide) dX5_follow_71 ?_
              refine br_eqB (tgt := 77) hx hb dX5_follow_72 (by decide) (fun h196 => ?_) (fun h196 => ?_)
              · refine lv_aload_n hx hb dX5_follow_77 rfl (lv_at hl 1 rfl) ?_
                refine lv_iload_n hx hb dX5_follow_78 rfl (lv_at hl 0 rfl) ?_
                refine wr_goS (rn_V ⟨hx, hb, hml, hown, hts⟩ (c_X5_isFine l g (σ := σ) (th := th) (x := 0) hM (by omega)) gX5_follow_X5_isFine rfl pX5_isFine ⟨Nat.le_of_ble_eq_true rfl, Nat.le_of_ble_eq_true rfl⟩ ⟨Nat.le_of_ble_eq_true rfl, Nat.le_of_ble_eq_true rfl⟩ hP hE rfl rfl rfl hl.1 rfl (Nat.le_of_ble_eq_true rfl) dX5_follow_79) hS (fun x h => h) (fun H1 locs1 hB hz hk hS => ?_)
                have hP : gP g (wM g am (σ) (0)) H1 := hB
                have hD : va_D (fun z => z ∈ mA am) (wM g am (σ) (0)) := wM_D hM
                clear hk hB hz
                generalize H1 = H at hP hS ⊢
                generalize locs1 = locs at hS ⊢
                refine tp_i (z := bI (true)) rfl ?_
                refine br_neB (tgt := 87) hx hb dX5_follow_82 (by decide) (fun h197 => ?_) (fun h197 => ?_)
                · refine lv_aload_n hx hb dX5_follow_87 rfl (lv_at hl 1 rfl) ?_
                  refine gf (q0 := 0) (ci := 5) (k := 0) (v := .ref (am 1)) hx hb hts iX5_follow_5 hown hE hP rfl rfl (by decide) mX5_follow_7 rfl dX5_follow_88 ?_
                  refine lv_bipush (v := nI (8)) hx hb dX5_follow_91 (by decide) ?_
                  refine lv_iload_n hx hb dX5_follow_93 rfl (lv_at hl 2 rfl) ?_
                  refine lv_imul hx hb dX5_follow_94 ?_
                  refine tp_i (pk_mul _ _) ?_
                  refine lv_iload_n hx hb dX5_follow_95 rfl (lv_at hl 3 rfl) ?_
                  refine lv_iadd hx hb dX5_follow_96 ?_
                  refine tp_i (nI_add _ _) ?_
                  refine lv_iconst (v := bI (true)) hx hb dX5_follow_97 (by decide) ?_
                  refine wa_z (q0 := 1) (i := 8 * xj + yj) (b := true) (ws' := wM g am (uF (σ) (va_up (sF σ) (8 * xj + yj) (true))) (0)) hx hb hE hP hD hS rfl rfl (by omega) (by decide) dX5_follow_98 (fun H locs hP hD hS => ?_)
                  refine lv_aload_n hx hb dX5_follow_99 rfl (lv_at hl 1 rfl) ?_
                  refine wr_goN (rn_V ⟨hx, hb, hml, hown, hts⟩ (c_X5_cuts l g (σ := uF (σ) (va_up (sF σ) (8 * xj + yj) (true))) (th := 0) hM (Inv_uF hI _)) gX5_follow_X5_cuts rfl pX5_cuts ⟨Nat.le_of_ble_eq_true rfl, Nat.le_of_ble_eq_true rfl⟩ ⟨Nat.le_of_ble_eq_true rfl, Nat.le_of_ble_eq_true rfl⟩ hP hE rfl rfl rfl hl.1 rfl (Nat.le_of_ble_eq_true rfl) dX5_follow_100) hS (fun x h => h) (fun H1 locs1 hB hz hk hS => ?_)
                  have hP : gP g (wM g am (stl (uF (σ) (va_up (sF σ) (8 * xj + yj) (true)))) (0)) H1 := hB
                  have hD : va_D (fun z => z ∈ mA am) (wM g am (stl (uF (σ) (va_up (sF σ) (8 * xj + yj) (true)))) (0)) := wM_D hM
                  clear hk hB hz
                  generalize H1 = H at hP hS ⊢
                  generalize locs1 = locs at hS ⊢
                  refine lv_aload_n hx hb dX5_follow_103 rfl (lv_at hl 1 rfl) ?_
                  refine lv_iload_n hx hb dX5_follow_104 rfl (lv_at hl 3 rfl) ?_
                  refine rd_goS (rn_V ⟨hx, hb, hml, hown, hts⟩ (c_X5_followersOf l g (σ := stl (uF (σ) (va_up (sF σ) (8 * xj + yj) (true)))) (th := 0) (Inv_stl (Inv_uF hI _)) (y := yj) (by first | omega | exact hi5 _)) gX5_follow_X5_followersOf rfl pX5_followersOf ⟨Nat.le_of_ble_eq_true rfl, Nat.le_of_ble_eq_true rfl⟩ ⟨Nat.le_of_ble_eq_true rfl, Nat.le_of_ble_eq_true rfl⟩ (hP) hE rfl rfl rfl hl.1 rfl (Nat.le_of_ble_eq_true rfl) dX5_follow_105) ?_
                  have he9 : eFol σ (nI xj) (nI yj) = 0 := (by simp [eFol, hpx, hix, hpy, hiy, hne2, hne3, h192, h194, h196])
                  have hnx : nFol σ (nI xj) (nI yj) = stl (uF (σ) (va_up (sF σ) (8 * xj + yj) (true))) := (by unfold nFol; rw [hix, hiy])
                  exact wr_reti hx hb hr hlocks hS (by rw [he9]; show gP g (wM g am (nFol σ (nI xj) (nI yj)) 0) H; rw [hnx]; exact hP) (by rw [he9]; show _ = nI (rFol σ (nI xj) (nI yj)); exact (by unfold rFol; rw [hix, hiy]; rfl)) dX5_follow_108
                · exact absurd h197 (by decide)
              · refine lv_iconst (v := nI (3)) hx hb dX5_follow_75 (by decide) ?_
                refine lv_istore_n (lv' := [(3, .int (nI (3))), (0, .ref (am 0)), (1, .int (nI (xj))), (2, .int (nI (yj)))]) hx hb dX5_follow_76 rfl hl (by decide) rfl (fun ls hl => ?_)
                refine lv_aload_n hx hb dX5_follow_77 rfl (lv_at hl 1 rfl) ?_
                refine lv_iload_n hx hb dX5_follow_78 rfl (lv_at hl 0 rfl) ?_
                refine wr_goS (rn_V ⟨hx, hb, hml, hown, hts⟩ (c_X5_isFine l g (σ := σ) (th := th) (x := 3) hM (by omega)) gX5_follow_X5_isFine rfl pX5_isFine ⟨Nat.le_of_ble_eq_true rfl, Nat.le_of_ble_eq_true rfl⟩ ⟨Nat.le_of_ble_eq_true rfl, Nat.le_of_ble_eq_true rfl⟩ hP hE rfl rfl rfl hl.1 rfl (Nat.le_of_ble_eq_true rfl) dX5_follow_79) hS (fun x h => h) (fun H1 locs1 hB hz hk hS => ?_)
                have hP : gP g (wM g am (σ) (3)) H1 := hB
                have hD : va_D (fun z => z ∈ mA am) (wM g am (σ) (3)) := wM_D hM
                clear hk hB hz
                generalize H1 = H at hP hS ⊢
                generalize locs1 = locs at hS ⊢
                refine tp_i (z := bI (false)) rfl ?_
                refine br_neB (tgt := 87) hx hb dX5_follow_82 (by decide) (fun h198 => ?_) (fun h198 => ?_)
                · exact absurd h198 (by decide)
                · refine lv_iconst (v := nI (0)) hx hb dX5_follow_85 (by decide) ?_
                  have he9 : eFol σ (nI xj) (nI yj) = 3 := (by simp [eFol, hpx, hix, hpy, hiy, hne2, hne3, h192, h194, h196])
                  exact wr_reti hx hb hr hlocks hS (by rw [he9]; exact hP) (by rw [he9]; rfl) dX5_follow_86
      · have heq2 : nI xj = nI yj := by rw [h190]
        have heq3 : nI yj = nI xj := by rw [h190]
        refine lv_iconst (v := nI (2)) hx hb dX5_follow_23 (by decide) ?_
        refine lv_goto (tgt := 28) hx hb dX5_follow_24 (by decide) ?_
        refine lv_istore_n (lv' := [(3, .int (nI (2))), (0, .ref (am 0)), (1, .int (nI (xj))), (2, .int (nI (yj)))]) hx hb dX5_follow_28 rfl hl (by decide) rfl (fun ls hl => ?_)
        refine lv_iload_n hx hb dX5_follow_29 rfl (lv_at hl 0 rfl) ?_
        refine br_ne0 (a := 2) (tgt := 77) hx hb (by decide) dX5_follow_30 (by decide) (fun h199 => ?_) (fun h199 => ?_)
        · refine lv_aload_n hx hb dX5_follow_77 rfl (lv_at hl 1 rfl) ?_
          refine lv_iload_n hx hb dX5_follow_78 rfl (lv_at hl 0 rfl) ?_
          refine wr_goS (rn_V ⟨hx, hb, hml, hown, hts⟩ (c_X5_isFine l g (σ := σ) (th := th) (x := 2) hM (by omega)) gX5_follow_X5_isFine rfl pX5_isFine ⟨Nat.le_of_ble_eq_true rfl, Nat.le_of_ble_eq_true rfl⟩ ⟨Nat.le_of_ble_eq_true rfl, Nat.le_of_ble_eq_true rfl⟩ hP hE rfl rfl rfl hl.1 rfl (Nat.le_of_ble_eq_true rfl) dX5_follow_79) hS (fun x h => h) (fun H1 locs1 hB hz hk hS => ?_)
          have hP : gP g (wM g am (σ) (2)) H1 := hB
          have hD : va_D (fun z => z ∈ mA am) (wM g am (σ) (2)) := wM_D hM
          clear hk hB hz
          generalize H1 = H at hP hS ⊢
          generalize locs1 = locs at hS ⊢
          refine tp_i (z := bI (false)) rfl ?_
          refine br_neB (tgt := 87) hx hb dX5_follow_82 (by decide) (fun h200 => ?_) (fun h200 => ?_)
          · exact absurd h200 (by decide)
          · refine lv_iconst (v := nI (0)) hx hb dX5_follow_85 (by decide) ?_
            have he9 : eFol σ (nI xj) (nI yj) = 2 := (by simp [eFol, hpx, hix, hpy, hiy, heq2])
            exact wr_reti hx hb hr hlocks hS (by rw [he9]; exact hP) (by rw [he9]; rfl) dX5_follow_86
        · exact absurd h199 (by decide)
    · refine lv_iconst (v := nI (1)) hx hb dX5_follow_14 (by decide) ?_
      refine lv_goto (tgt := 28) hx hb dX5_follow_15 (by decide) ?_
      refine lv_istore_n (lv' := [(3, .int (nI (1))), (0, .ref (am 0)), (1, .int (nI (xj))), (2, .int (y))]) hx hb dX5_follow_28 rfl hl (by decide) rfl (fun ls hl => ?_)
      refine lv_iload_n hx hb dX5_follow_29 rfl (lv_at hl 0 rfl) ?_
      refine br_ne0 (a := 1) (tgt := 77) hx hb (by decide) dX5_follow_30 (by decide) (fun h201 => ?_) (fun h201 => ?_)
      · refine lv_aload_n hx hb dX5_follow_77 rfl (lv_at hl 1 rfl) ?_
        refine lv_iload_n hx hb dX5_follow_78 rfl (lv_at hl 0 rfl) ?_
        refine wr_goS (rn_V ⟨hx, hb, hml, hown, hts⟩ (c_X5_isFine l g (σ := σ) (th := th) (x := 1) hM (by omega)) gX5_follow_X5_isFine rfl pX5_isFine ⟨Nat.le_of_ble_eq_true rfl, Nat.le_of_ble_eq_true rfl⟩ ⟨Nat.le_of_ble_eq_true rfl, Nat.le_of_ble_eq_true rfl⟩ hP hE rfl rfl rfl hl.1 rfl (Nat.le_of_ble_eq_true rfl) dX5_follow_79) hS (fun x h => h) (fun H1 locs1 hB hz hk hS => ?_)
        have hP : gP g (wM g am (σ) (1)) H1 := hB
        have hD : va_D (fun z => z ∈ mA am) (wM g am (σ) (1)) := wM_D hM
        clear hk hB hz
        generalize H1 = H at hP hS ⊢
        generalize locs1 = locs at hS ⊢
        refine tp_i (z := bI (false)) rfl ?_
        refine br_neB (tgt := 87) hx hb dX5_follow_82 (by decide) (fun h202 => ?_) (fun h202 => ?_)
        · exact absurd h202 (by decide)
        · refine lv_iconst (v := nI (0)) hx hb dX5_follow_85 (by decide) ?_
          have he9 : eFol σ (nI xj) y = 1 := (by simp [eFol, hpx, hix, h189])
          exact wr_reti hx hb hr hlocks hS (by rw [he9]; exact hP) (by rw [he9]; rfl) dX5_follow_86
      · exact absurd h201 (by decide)
theorem mX5_unfollow_7 : Cond.fieldLink RX5 7 "FollowrowModel" "followed" "[Z" ∈ wsX5_unfollow := by decide +kernel
theorem iX5_unfollow_5 : ∀ w ∈ wsX50, w ∈ wsX5_unfollow := by decide +kernel
set_option maxHeartbeats 4000000 in
set_option maxRecDepth 100000 in
/-- unfollow(x, y) -/
theorem c_X5_unfollow (l : Launch) (g : GT) {am : Nat → Nat} {σ : St} {th : Nat} (hI : Inv σ) (hM : FN am 8) {x y : Int32} : wrM l g yX5_unfollow wsX5_unfollow 5 112 [.ref (am 0), .int (x), .int (y)] (wM g am (σ) (th)) (some (.int (oI (eUnf σ x y) (nI (rUnf σ x y))))) (fun H1 => gP g (wM g am (oS (eUnf σ x y) (nUnf σ x y) σ) (pl2 (eUnf σ x y))) H1) (mA am) := by
  refine wr_of (cc := cX5_unfollow) (maxL := 4) (ret := (some .int)) (by decide) rfl (Nat.le_of_ble_eq_true rfl) (fun p e s m below meth c ls hx hb hr hml hts hown hlocks hl hP hE hS => ?_)
  have hl : lv_has ls 4 [(0, .ref (am 0)), (1, .int (x)), (2, .int (y))] := hl
  have hown : s.vm.findClass RX5 = some m.cls := hown
  obtain ⟨hi1, hi2, hi3, hi4, hi5, hi6, hi7, hi8⟩ := id hI
  have hD : va_D (fun z => z ∈ mA am) (wM g am σ th) := wM_D hM
  refine lv_iload_n hx hb dX5_unfollow_0 rfl (lv_at hl 1 rfl) ?_
  refine rd_goS (rn_S ⟨hx, hb, hml, hown, hts⟩ (c_X5_isOne l g (x := x)) gX5_unfollow_X5_isOne rfl qX5_isOne ⟨Nat.le_of_ble_eq_true rfl, Nat.le_of_ble_eq_true rfl⟩ ⟨Nat.le_of_ble_eq_true rfl, Nat.le_of_ble_eq_true rfl⟩ (gP_nil) hE rfl hl.1 rfl (Nat.le_of_ble_eq_true rfl) dX5_unfollow_1) ?_
  refine br_eqB (tgt := 14) hx hb dX5_unfollow_4 (by decide) (fun h203 => ?_) (fun h203 => ?_)
  · refine lv_iconst (v := nI (1)) hx hb dX5_unfollow_14 (by decide) ?_
    refine lv_goto (tgt := 37) hx hb dX5_unfollow_15 (by decide) ?_
    refine lv_istore_n (lv' := [(3, .int (nI (1))), (0, .ref (am 0)), (1, .int (x)), (2, .int (y))]) hx hb dX5_unfollow_37 rfl hl (by decide) rfl (fun ls hl => ?_)
    refine lv_aload_n hx hb dX5_unfollow_38 rfl (lv_at hl 1 rfl) ?_
    refine lv_iload_n hx hb dX5_unfollow_39 rfl (lv_at hl 0 rfl) ?_
    refine wr_goS (rn_V ⟨hx, hb, hml, hown, hts⟩ (c_X5_isFine l g (σ := σ) (th := th) (x := 1) hM (by omega)) gX5_unfollow_X5_isFine rfl pX5_isFine ⟨Nat.le_of_ble_eq_true rfl, Nat.le_of_ble_eq_true rfl⟩ ⟨Nat.le_of_ble_eq_true rfl, Nat.le_of_ble_eq_true rfl⟩ hP hE rfl rfl rfl hl.1 rfl (Nat.le_of_ble_eq_true rfl) dX5_unfollow_40) hS (fun x h => h) (fun H1 locs1 hB hz hk hS => ?_)
    have hP : gP g (wM g am (σ) (1)) H1 := hB
    have hD : va_D (fun z => z ∈ mA am) (wM g am (σ) (1)) := wM_D hM
    clear hk hB hz
    generalize H1 = H at hP hS ⊢
    generalize locs1 = locs at hS ⊢
    refine tp_i (z := bI (false)) rfl ?_
    refine br_neB (tgt := 48) hx hb dX5_unfollow_43 (by decide) (fun h204 => ?_) (fun h204 => ?_)
    · exact absurd h204 (by decide)
    · refine lv_iconst (v := nI (0)) hx hb dX5_unfollow_46 (by decide) ?_
      have he9 : eUnf σ x y = 1 := (by simp [eUnf, h203])
      exact wr_reti hx hb hr hlocks hS (by rw [he9]; exact hP) (by rw [he9]; rfl) dX5_unfollow_47
  · obtain ⟨xj, hjx, rfl, hix⟩ := isP_of h203
    have hpx : isP (nI xj) = true := h203
    refine lv_iload_n hx hb dX5_unfollow_7 rfl (lv_at hl 2 rfl) ?_
    refine rd_goS (rn_S ⟨hx, hb, hml, hown, hts⟩ (c_X5_isOne l g (x := y)) gX5_unfollow_X5_isOne rfl qX5_isOne ⟨Nat.le_of_ble_eq_true rfl, Nat.le_of_ble_eq_true rfl⟩ ⟨Nat.le_of_ble_eq_true rfl, Nat.le_of_ble_eq_true rfl⟩ (gP_nil) hE rfl hl.1 rfl (Nat.le_of_ble_eq_true rfl) dX5_unfollow_8) ?_
    refine br_neB (tgt := 18) hx hb dX5_unfollow_11 (by decide) (fun h205 => ?_) (fun h205 => ?_)
    · obtain ⟨yj, hjy, rfl, hiy⟩ := isP_of h205
      have hpy : isP (nI yj) = true := h205
      refine lv_aload_n hx hb dX5_unfollow_18 rfl (lv_at hl 0 rfl) ?_
      refine gf (q0 := 0) (ci := 5) (k := 0) (v := .ref (am 1)) hx hb hts iX5_unfollow_5 hown hE hP rfl rfl (by decide) mX5_unfollow_7 rfl dX5_unfollow_19 ?_
      refine lv_bipush (v := nI (8)) hx hb dX5_unfollow_22 (by decide) ?_
      refine lv_iload_n hx hb dX5_unfollow_24 rfl (lv_at hl 1 rfl) ?_
      refine lv_imul hx hb dX5_unfollow_25 ?_
      refine tp_i (pk_mul _ _) ?_
      refine lv_iload_n hx hb dX5_unfollow_26 rfl (lv_at hl 2 rfl) ?_
      refine lv_iadd hx hb dX5_unfollow_27 ?_
      refine tp_i (nI_add _ _) ?_
      refine ra_z (q0 := 1) (i := 8 * xj + yj) hx hb hE hP rfl (by omega) (by decide) dX5_unfollow_28 ?_
      refine br_neB (tgt := 36) hx hb dX5_unfollow_29 (by decide) (fun h206 => ?_) (fun h206 => ?_)
      · refine lv_iconst (v := nI (0)) hx hb dX5_unfollow_36 (by decide) ?_
        refine lv_istore_n (lv' := [(3, .int (nI (0))), (0, .ref (am 0)), (1, .int (nI (xj))), (2, .int (nI (yj)))]) hx hb dX5_unfollow_37 rfl hl (by decide) rfl (fun ls hl => ?_)
        refine lv_aload_n hx hb dX5_unfollow_38 rfl (lv_at hl 1 rfl) ?_
        refine lv_iload_n hx hb dX5_unfollow_39 rfl (lv_at hl 0 rfl) ?_
        refine wr_goS (rn_V ⟨hx, hb, hml, hown, hts⟩ (c_X5_isFine l g (σ := σ) (th := th) (x := 0) hM (by omega)) gX5_unfollow_X5_isFine rfl pX5_isFine ⟨Nat.le_of_ble_eq_true rfl, Nat.le_of_ble_eq_true rfl⟩ ⟨Nat.le_of_ble_eq_true rfl, Nat.le_of_ble_eq_true rfl⟩ hP hE rfl rfl rfl hl.1 rfl (Nat.le_of_ble_eq_true rfl) dX5_unfollow_40) hS (fun x h => h) (fun H1 locs1 hB hz hk hS => ?_)
        have hP : gP g (wM g am (σ) (0)) H1 := hB
        have hD : va_D (fun z => z ∈ mA am) (wM g am (σ) (0)) := wM_D hM
        clear hk hB hz
        generalize H1 = H at hP hS ⊢
        generalize locs1 = locs at hS ⊢
        refine tp_i (z := bI (true)) rfl ?_
        refine br_neB (tgt := 48) hx hb dX5_unfollow_43 (by decide) (fun h207 => ?_) (fun h207 => ?_)
        · refine lv_aload_n hx hb dX5_unfollow_48 rfl (lv_at hl 1 rfl) ?_
          refine gf (q0 := 0) (ci := 5) (k := 0) (v := .ref (am 1)) hx hb hts iX5_unfollow_5 hown hE hP rfl rfl (by decide) mX5_unfollow_7 rfl dX5_unfollow_49 ?_
          refine lv_bipush (v := nI (8)) hx hb dX5_unfollow_52 (by decide) ?_
          refine lv_iload_n hx hb dX5_unfollow_54 rfl (lv_at hl 2 rfl) ?_
          refine lv_imul hx hb dX5_unfollow_55 ?_
          refine tp_i (pk_mul _ _) ?_
          refine lv_iload_n hx hb dX5_unfollow_56 rfl (lv_at hl 3 rfl) ?_
          refine lv_iadd hx hb dX5_unfollow_57 ?_
          refine tp_i (nI_add _ _) ?_
          refine lv_iconst (v := bI (false)) hx hb dX5_unfollow_58 (by decide) ?_
          refine wa_z (q0 := 1) (i := 8 * xj + yj) (b := false) (ws' := wM g am (uF (σ) (va_up (sF σ) (8 * xj + yj) (false))) (0)) hx hb hE hP hD hS rfl rfl (by omega) (by decide) dX5_unfollow_59 (fun H locs hP hD hS => ?_)
          refine lv_aload_n hx hb dX5_unfollow_60 rfl (lv_at hl 1 rfl) ?_
          refine wr_goN (rn_V ⟨hx, hb, hml, hown, hts⟩ (c_X5_cuts l g (σ := uF (σ) (va_up (sF σ) (8 * xj + yj) (false))) (th := 0) hM (Inv_uF hI _)) gX5_unfollow_X5_cuts rfl pX5_cuts ⟨Nat.le_of_ble_eq_true rfl, Nat.le_of_ble_eq_true rfl⟩ ⟨Nat.le_of_ble_eq_true rfl, Nat.le_of_ble_eq_true rfl⟩ hP hE rfl rfl rfl hl.1 rfl (Nat.le_of_ble_eq_true rfl) dX5_unfollow_61) hS (fun x h => h) (fun H1 locs1 hB hz hk hS => ?_)
          have hP : gP g (wM g am (stl (uF (σ) (va_up (sF σ) (8 * xj + yj) (false)))) (0)) H1 := hB
          have hD : va_D (fun z => z ∈ mA am) (wM g am (stl (uF (σ) (va_up (sF σ) (8 * xj + yj) (false)))) (0)) := wM_D hM
          clear hk hB hz
          generalize H1 = H at hP hS ⊢
          generalize locs1 = locs at hS ⊢
          refine lv_aload_n hx hb dX5_unfollow_64 rfl (lv_at hl 1 rfl) ?_
          refine lv_iload_n hx hb dX5_unfollow_65 rfl (lv_at hl 3 rfl) ?_
          refine rd_goS (rn_V ⟨hx, hb, hml, hown, hts⟩ (c_X5_followersOf l g (σ := stl (uF (σ) (va_up (sF σ) (8 * xj + yj) (false)))) (th := 0) (Inv_stl (Inv_uF hI _)) (y := yj) (by first | omega | exact hi5 _)) gX5_unfollow_X5_followersOf rfl pX5_followersOf ⟨Nat.le_of_ble_eq_true rfl, Nat.le_of_ble_eq_true rfl⟩ ⟨Nat.le_of_ble_eq_true rfl, Nat.le_of_ble_eq_true rfl⟩ (hP) hE rfl rfl rfl hl.1 rfl (Nat.le_of_ble_eq_true rfl) dX5_unfollow_66) ?_
          have he9 : eUnf σ (nI xj) (nI yj) = 0 := (by simp [eUnf, hpx, hix, hpy, hiy, h206])
          have hnx : nUnf σ (nI xj) (nI yj) = stl (uF (σ) (va_up (sF σ) (8 * xj + yj) (false))) := (by unfold nUnf; rw [hix, hiy])
          exact wr_reti hx hb hr hlocks hS (by rw [he9]; show gP g (wM g am (nUnf σ (nI xj) (nI yj)) 0) H; rw [hnx]; exact hP) (by rw [he9]; show _ = nI (rUnf σ (nI xj) (nI yj)); exact (by unfold rUnf; rw [hix, hiy]; rfl)) dX5_unfollow_69
        · exact absurd h207 (by decide)
      · refine lv_iconst (v := nI (2)) hx hb dX5_unfollow_32 (by decide) ?_
        refine lv_goto (tgt := 37) hx hb dX5_unfollow_33 (by decide) ?_
        refine lv_istore_n (lv' := [(3, .int (nI (2))), (0, .ref (am 0)), (1, .int (nI (xj))), (2, .int (nI (yj)))]) hx hb dX5_unfollow_37 rfl hl (by decide) rfl (fun ls hl => ?_)
        refine lv_aload_n hx hb dX5_unfollow_38 rfl (lv_at hl 1 rfl) ?_
        refine lv_iload_n hx hb dX5_unfollow_39 rfl (lv_at hl 0 rfl) ?_
        refine wr_goS (rn_V ⟨hx, hb, hml, hown, hts⟩ (c_X5_isFine l g (σ := σ) (th := th) (x := 2) hM (by omega)) gX5_unfollow_X5_isFine rfl pX5_isFine ⟨Nat.le_of_ble_eq_true rfl, Nat.le_of_ble_eq_true rfl⟩ ⟨Nat.le_of_ble_eq_true rfl, Nat.le_of_ble_eq_true rfl⟩ hP hE rfl rfl rfl hl.1 rfl (Nat.le_of_ble_eq_true rfl) dX5_unfollow_40) hS (fun x h => h) (fun H1 locs1 hB hz hk hS => ?_)
        have hP : gP g (wM g am (σ) (2)) H1 := hB
        have hD : va_D (fun z => z ∈ mA am) (wM g am (σ) (2)) := wM_D hM
        clear hk hB hz
        generalize H1 = H at hP hS ⊢
        generalize locs1 = locs at hS ⊢
        refine tp_i (z := bI (false)) rfl ?_
        refine br_neB (tgt := 48) hx hb dX5_unfollow_43 (by decide) (fun h208 => ?_) (fun h208 => ?_)
        · exact absurd h208 (by decide)
        · refine lv_iconst (v := nI (0)) hx hb dX5_unfollow_46 (by decide) ?_
          have he9 : eUnf σ (nI xj) (nI yj) = 3 := (by simp [eUnf, hpx, hix, hpy, hiy, h206])
          exact wr_reti hx hb hr hlocks hS (by rw [he9]; exact hP) (by rw [he9]; rfl) dX5_unfollow_47
    · refine lv_iconst (v := nI (1)) hx hb dX5_unfollow_14 (by decide) ?_
      refine lv_goto (tgt := 37) hx hb dX5_unfollow_15 (by decide) ?_
      refine lv_istore_n (lv' := [(3, .int (nI (1))), (0, .ref (am 0)), (1, .int (nI (xj))), (2, .int (y))]) hx hb dX5_unfollow_37 rfl hl (by decide) rfl (fun ls hl => ?_)
      refine lv_aload_n hx hb dX5_unfollow_38 rfl (lv_at hl 1 rfl) ?_
      refine lv_iload_n hx hb dX5_unfollow_39 rfl (lv_at hl 0 rfl) ?_
      refine wr_goS (rn_V ⟨hx, hb, hml, hown, hts⟩ (c_X5_isFine l g (σ := σ) (th := th) (x := 1) hM (by omega)) gX5_unfollow_X5_isFine rfl pX5_isFine ⟨Nat.le_of_ble_eq_true rfl, Nat.le_of_ble_eq_true rfl⟩ ⟨Nat.le_of_ble_eq_true rfl, Nat.le_of_ble_eq_true rfl⟩ hP hE rfl rfl rfl hl.1 rfl (Nat.le_of_ble_eq_true rfl) dX5_unfollow_40) hS (fun x h => h) (fun H1 locs1 hB hz hk hS => ?_)
      have hP : gP g (wM g am (σ) (1)) H1 := hB
      have hD : va_D (fun z => z ∈ mA am) (wM g am (σ) (1)) := wM_D hM
      clear hk hB hz
      generalize H1 = H at hP hS ⊢
      generalize locs1 = locs at hS ⊢
      refine tp_i (z := bI (false)) rfl ?_
      refine br_neB (tgt := 48) hx hb dX5_unfollow_43 (by decide) (fun h209 => ?_) (fun h209 => ?_)
      · exact absurd h209 (by decide)
      · refine lv_iconst (v := nI (0)) hx hb dX5_unfollow_46 (by decide) ?_
        have he9 : eUnf σ (nI xj) y = 1 := (by simp [eUnf, hpx, hix, h205])
        exact wr_reti hx hb hr hlocks hS (by rw [he9]; exact hP) (by rw [he9]; rfl) dX5_unfollow_47
theorem mX5_mute_13 : Cond.fieldLink RX5 13 "FollowrowModel" "muted" "[Z" ∈ wsX5_mute := by decide +kernel
theorem iX5_mute_5 : ∀ w ∈ wsX50, w ∈ wsX5_mute := by decide +kernel
set_option maxHeartbeats 4000000 in
set_option maxRecDepth 100000 in
/-- mute(x, y, v) -/
theorem c_X5_mute (l : Launch) (g : GT) {am : Nat → Nat} {σ : St} {th : Nat} (hI : Inv σ) (hM : FN am 8) {x y : Int32} {v : Bool} : wrM l g yX5_mute wsX5_mute 2 42 [.ref (am 0), .int (x), .int (y), .int (bI (v))] (wM g am (σ) (th)) (some (.int (bI (oB (eMut x y) (sM σ (8 * ix x + ix y)))))) (fun H1 => gP g (wM g am (oS (eMut x y) (nMut σ x y v) σ) ( (eMut x y))) H1) (mA am) := by
  refine wr_of (cc := cX5_mute) (maxL := 5) (ret := (some .boolean)) (by decide) rfl (Nat.le_of_ble_eq_true rfl) (fun p e s m below meth c ls hx hb hr hml hts hown hlocks hl hP hE hS => ?_)
  have hl : lv_has ls 5 [(0, .ref (am 0)), (1, .int (x)), (2, .int (y)), (3, .int (bI (v)))] := hl
  have hown : s.vm.findClass RX5 = some m.cls := hown
  obtain ⟨hi1, hi2, hi3, hi4, hi5, hi6, hi7, hi8⟩ := id hI
  have hD : va_D (fun z => z ∈ mA am) (wM g am σ th) := wM_D hM
  refine lv_aload_n hx hb dX5_mute_0 rfl (lv_at hl 0 rfl) ?_
  refine lv_iload_n hx hb dX5_mute_1 rfl (lv_at hl 1 rfl) ?_
  refine rd_goS (rn_S ⟨hx, hb, hml, hown, hts⟩ (c_X5_isOne l g (x := x)) gX5_mute_X5_isOne rfl qX5_isOne ⟨Nat.le_of_ble_eq_true rfl, Nat.le_of_ble_eq_true rfl⟩ ⟨Nat.le_of_ble_eq_true rfl, Nat.le_of_ble_eq_true rfl⟩ (gP_nil) hE rfl hl.1 rfl (Nat.le_of_ble_eq_true rfl) dX5_mute_2) ?_
  refine br_eqB (tgt := 15) hx hb dX5_mute_5 (by decide) (fun h210 => ?_) (fun h210 => ?_)
  · refine lv_iconst (v := nI (1)) hx hb dX5_mute_15 (by decide) ?_
    refine lv_goto (tgt := 29) hx hb dX5_mute_16 (by decide) ?_
    refine wr_goS (rn_V ⟨hx, hb, hml, hown, hts⟩ (c_X5_isFine l g (σ := σ) (th := th) (x := 1) hM (by omega)) gX5_mute_X5_isFine rfl pX5_isFine ⟨Nat.le_of_ble_eq_true rfl, Nat.le_of_ble_eq_true rfl⟩ ⟨Nat.le_of_ble_eq_true rfl, Nat.le_of_ble_eq_true rfl⟩ hP hE rfl rfl rfl hl.1 rfl (Nat.le_of_ble_eq_true rfl) dX5_mute_29) hS (fun x h => h) (fun H1 locs1 hB hz hk hS => ?_)
    have hP : gP g (wM g am (σ) (1)) H1 := hB
    have hD : va_D (fun z => z ∈ mA am) (wM g am (σ) (1)) := wM_D hM
    clear hk hB hz
    generalize H1 = H at hP hS ⊢
    generalize locs1 = locs at hS ⊢
    refine tp_i (z := bI (false)) rfl ?_
    refine br_neB (tgt := 37) hx hb dX5_mute_32 (by decide) (fun h211 => ?_) (fun h211 => ?_)
    · exact absurd h211 (by decide)
    · refine lv_iconst (v := bI (false)) hx hb dX5_mute_35 (by decide) ?_
      have he9 : eMut x y = 1 := (by simp [eMut, h210])
      exact wr_retz hx hb hr hlocks hS (by rw [he9]; exact hP) (by rw [he9]; rfl) dX5_mute_36
  · obtain ⟨xj, hjx, rfl, hix⟩ := isP_of h210
    have hpx : isP (nI xj) = true := h210
    refine lv_iload_n hx hb dX5_mute_8 rfl (lv_at hl 2 rfl) ?_
    refine rd_goS (rn_S ⟨hx, hb, hml, hown, hts⟩ (c_X5_isOne l g (x := y)) gX5_mute_X5_isOne rfl qX5_isOne ⟨Nat.le_of_ble_eq_true rfl, Nat.le_of_ble_eq_true rfl⟩ ⟨Nat.le_of_ble_eq_true rfl, Nat.le_of_ble_eq_true rfl⟩ (gP_nil) hE rfl hl.1 rfl (Nat.le_of_ble_eq_true rfl) dX5_mute_9) ?_
    refine br_neB (tgt := 19) hx hb dX5_mute_12 (by decide) (fun h212 => ?_) (fun h212 => ?_)
    · obtain ⟨yj, hjy, rfl, hiy⟩ := isP_of h212
      have hpy : isP (nI yj) = true := h212
      refine lv_iload_n hx hb dX5_mute_19 rfl (lv_at hl 1 rfl) ?_
      refine lv_iload_n hx hb dX5_mute_20 rfl (lv_at hl 2 rfl) ?_
      refine br_neN (a := xj) (b := yj) (tgt := 28) hx hb (by omega) (by omega) dX5_mute_21 (by decide) (fun h213 => ?_) (fun h213 => ?_)
      · have hne2 : ¬ nI xj = nI yj := fun z => h213 ((nI_eq (by omega) (by omega)).mp z)
        have hne3 : ¬ nI yj = nI xj := fun z => hne2 z.symm
        refine lv_iconst (v := nI (0)) hx hb dX5_mute_28 (by decide) ?_
        refine wr_goS (rn_V ⟨hx, hb, hml, hown, hts⟩ (c_X5_isFine l g (σ := σ) (th := th) (x := 0) hM (by omega)) gX5_mute_X5_isFine rfl pX5_isFine ⟨Nat.le_of_ble_eq_true rfl, Nat.le_of_ble_eq_true rfl⟩ ⟨Nat.le_of_ble_eq_true rfl, Nat.le_of_ble_eq_true rfl⟩ hP hE rfl rfl rfl hl.1 rfl (Nat.le_of_ble_eq_true rfl) dX5_mute_29) hS (fun x h => h) (fun H1 locs1 hB hz hk hS => ?_)
        have hP : gP g (wM g am (σ) (0)) H1 := hB
        have hD : va_D (fun z => z ∈ mA am) (wM g am (σ) (0)) := wM_D hM
        clear hk hB hz
        generalize H1 = H at hP hS ⊢
        generalize locs1 = locs at hS ⊢
        refine tp_i (z := bI (true)) rfl ?_
        refine br_neB (tgt := 37) hx hb dX5_mute_32 (by decide) (fun h214 => ?_) (fun h214 => ?_)
        · refine lv_aload_n hx hb dX5_mute_37 rfl (lv_at hl 0 rfl) ?_
          refine gf (q0 := 0) (ci := 5) (k := 1) (v := .ref (am 2)) hx hb hts iX5_mute_5 hown hE hP rfl rfl (by decide) mX5_mute_13 rfl dX5_mute_38 ?_
          refine lv_bipush (v := nI (8)) hx hb dX5_mute_41 (by decide) ?_
          refine lv_iload_n hx hb dX5_mute_43 rfl (lv_at hl 1 rfl) ?_
          refine lv_imul hx hb dX5_mute_44 ?_
          refine tp_i (pk_mul _ _) ?_
          refine lv_iload_n hx hb dX5_mute_45 rfl (lv_at hl 2 rfl) ?_
          refine lv_iadd hx hb dX5_mute_46 ?_
          refine tp_i (nI_add _ _) ?_
          refine ra_z (q0 := 2) (i := 8 * xj + yj) hx hb hE hP rfl (by omega) (by decide) dX5_mute_47 ?_
          refine lv_istore (lv' := [(4, .int (bI (sM σ (8 * xj + yj)))), (0, .ref (am 0)), (1, .int (nI (xj))), (2, .int (nI (yj))), (3, .int (bI (v)))]) hx hb dX5_mute_48 hl (by decide) rfl (fun ls hl => ?_)
          refine lv_aload_n hx hb dX5_mute_50 rfl (lv_at hl 1 rfl) ?_
          refine gf (q0 := 0) (ci := 5) (k := 1) (v := .ref (am 2)) hx hb hts iX5_mute_5 hown hE hP rfl rfl (by decide) mX5_mute_13 rfl dX5_mute_51 ?_
          refine lv_bipush (v := nI (8)) hx hb dX5_mute_54 (by decide) ?_
          refine lv_iload_n hx hb dX5_mute_56 rfl (lv_at hl 2 rfl) ?_
          refine lv_imul hx hb dX5_mute_57 ?_
          refine tp_i (pk_mul _ _) ?_
          refine lv_iload_n hx hb dX5_mute_58 rfl (lv_at hl 3 rfl) ?_
          refine lv_iadd hx hb dX5_mute_59 ?_
          refine tp_i (nI_add _ _) ?_
          refine lv_iload_n hx hb dX5_mute_60 rfl (lv_at hl 4 rfl) ?_
          refine wa_z (q0 := 2) (i := 8 * xj + yj) (b := v) (ws' := wM g am (uM (σ) (va_up (sM σ) (8 * xj + yj) (v))) (0)) hx hb hE hP hD hS rfl rfl (by omega) (by decide) dX5_mute_61 (fun H locs hP hD hS => ?_)
          refine lv_iload hx hb dX5_mute_62 (lv_at hl 0 rfl) ?_
          have he9 : eMut (nI xj) (nI yj) = 0 := (by simp [eMut, hpx, hix, hpy, hiy, hne2, hne3])
          have hnx : nMut σ (nI xj) (nI yj) v = uM (σ) (va_up (sM σ) (8 * xj + yj) (v)) := (by unfold nMut; rw [hix, hiy])
          exact wr_retz hx hb hr hlocks hS (by rw [he9]; show gP g (wM g am (nMut σ (nI xj) (nI yj) v) 0) H; rw [hnx]; exact hP) (by rw [he9]; show _ = sM σ (8 * ix (nI xj) + ix (nI yj)); exact (by rw [hix, hiy])) dX5_mute_64
        · exact absurd h214 (by decide)
      · have heq2 : nI xj = nI yj := by rw [h213]
        have heq3 : nI yj = nI xj := by rw [h213]
        refine lv_iconst (v := nI (2)) hx hb dX5_mute_24 (by decide) ?_
        refine lv_goto (tgt := 29) hx hb dX5_mute_25 (by decide) ?_
        refine wr_goS (rn_V ⟨hx, hb, hml, hown, hts⟩ (c_X5_isFine l g (σ := σ) (th := th) (x := 2) hM (by omega)) gX5_mute_X5_isFine rfl pX5_isFine ⟨Nat.le_of_ble_eq_true rfl, Nat.le_of_ble_eq_true rfl⟩ ⟨Nat.le_of_ble_eq_true rfl, Nat.le_of_ble_eq_true rfl⟩ hP hE rfl rfl rfl hl.1 rfl (Nat.le_of_ble_eq_true rfl) dX5_mute_29) hS (fun x h => h) (fun H1 locs1 hB hz hk hS => ?_)
        have hP : gP g (wM g am (σ) (2)) H1 := hB
        have hD : va_D (fun z => z ∈ mA am) (wM g am (σ) (2)) := wM_D hM
        clear hk hB hz
        generalize H1 = H at hP hS ⊢
        generalize locs1 = locs at hS ⊢
        refine tp_i (z := bI (false)) rfl ?_
        refine br_neB (tgt := 37) hx hb dX5_mute_32 (by decide) (fun h215 => ?_) (fun h215 => ?_)
        · exact absurd h215 (by decide)
        · refine lv_iconst (v := bI (false)) hx hb dX5_mute_35 (by decide) ?_
          have he9 : eMut (nI xj) (nI yj) = 2 := (by simp [eMut, hpx, hix, hpy, hiy, heq2])
          exact wr_retz hx hb hr hlocks hS (by rw [he9]; exact hP) (by rw [he9]; rfl) dX5_mute_36
    · refine lv_iconst (v := nI (1)) hx hb dX5_mute_15 (by decide) ?_
      refine lv_goto (tgt := 29) hx hb dX5_mute_16 (by decide) ?_
      refine wr_goS (rn_V ⟨hx, hb, hml, hown, hts⟩ (c_X5_isFine l g (σ := σ) (th := th) (x := 1) hM (by omega)) gX5_mute_X5_isFine rfl pX5_isFine ⟨Nat.le_of_ble_eq_true rfl, Nat.le_of_ble_eq_true rfl⟩ ⟨Nat.le_of_ble_eq_true rfl, Nat.le_of_ble_eq_true rfl⟩ hP hE rfl rfl rfl hl.1 rfl (Nat.le_of_ble_eq_true rfl) dX5_mute_29) hS (fun x h => h) (fun H1 locs1 hB hz hk hS => ?_)
      have hP : gP g (wM g am (σ) (1)) H1 := hB
      have hD : va_D (fun z => z ∈ mA am) (wM g am (σ) (1)) := wM_D hM
      clear hk hB hz
      generalize H1 = H at hP hS ⊢
      generalize locs1 = locs at hS ⊢
      refine tp_i (z := bI (false)) rfl ?_
      refine br_neB (tgt := 37) hx hb dX5_mute_32 (by decide) (fun h216 => ?_) (fun h216 => ?_)
      · exact absurd h216 (by decide)
      · refine lv_iconst (v := bI (false)) hx hb dX5_mute_35 (by decide) ?_
        have he9 : eMut (nI xj) y = 1 := (by simp [eMut, hpx, hix, h212])
        exact wr_retz hx hb hr hlocks hS (by rw [he9]; exact hP) (by rw [he9]; rfl) dX5_mute_36
theorem mX5_block_7 : Cond.fieldLink RX5 7 "FollowrowModel" "followed" "[Z" ∈ wsX5_block := by decide +kernel
theorem mX5_block_16 : Cond.fieldLink RX5 16 "FollowrowModel" "blocked" "[Z" ∈ wsX5_block := by decide +kernel
theorem iX5_block_5 : ∀ w ∈ wsX50, w ∈ wsX5_block := by decide +kernel
set_option maxHeartbeats 4000000 in
set_option maxRecDepth 100000 in
/-- block(x, y, v) -/
theorem c_X5_block (l : Launch) (g : GT) {am : Nat → Nat} {σ : St} {th : Nat} (hI : Inv σ) (hM : FN am 8) {x y : Int32} {v : Bool} (hSd : Setd σ) : wrM l g yX5_block wsX5_block 5 112 [.ref (am 0), .int (x), .int (y), .int (bI (v))] (wM g am (σ) (th)) (some (.int (bI (oB (eMut x y) (sB σ (8 * ix x + ix y)))))) (fun H1 => gP g (wM g am (oS (eMut x y) (nBlk σ x y v) σ) ( (eMut x y))) H1) (mA am) := by
  refine wr_of (cc := cX5_block) (maxL := 5) (ret := (some .boolean)) (by decide) rfl (Nat.le_of_ble_eq_true rfl) (fun p e s m below meth c ls hx hb hr hml hts hown hlocks hl hP hE hS => ?_)
  have hl : lv_has ls 5 [(0, .ref (am 0)), (1, .int (x)), (2, .int (y)), (3, .int (bI (v)))] := hl
  have hown : s.vm.findClass RX5 = some m.cls := hown
  obtain ⟨hi1, hi2, hi3, hi4, hi5, hi6, hi7, hi8⟩ := id hI
  have hD : va_D (fun z => z ∈ mA am) (wM g am σ th) := wM_D hM
  refine lv_aload_n hx hb dX5_block_0 rfl (lv_at hl 0 rfl) ?_
  refine lv_iload_n hx hb dX5_block_1 rfl (lv_at hl 2 rfl) ?_
  refine rd_goS (rn_S ⟨hx, hb, hml, hown, hts⟩ (c_X5_isOne l g (x := y)) gX5_block_X5_isOne rfl qX5_isOne ⟨Nat.le_of_ble_eq_true rfl, Nat.le_of_ble_eq_true rfl⟩ ⟨Nat.le_of_ble_eq_true rfl, Nat.le_of_ble_eq_true rfl⟩ (gP_nil) hE rfl hl.1 rfl (Nat.le_of_ble_eq_true rfl) dX5_block_2) ?_
  refine br_eqB (tgt := 15) hx hb dX5_block_5 (by decide) (fun h217 => ?_) (fun h217 => ?_)
  · refine lv_iconst (v := nI (1)) hx hb dX5_block_15 (by decide) ?_
    refine lv_goto (tgt := 29) hx hb dX5_block_16 (by decide) ?_
    refine wr_goS (rn_V ⟨hx, hb, hml, hown, hts⟩ (c_X5_isFine l g (σ := σ) (th := th) (x := 1) hM (by omega)) gX5_block_X5_isFine rfl pX5_isFine ⟨Nat.le_of_ble_eq_true rfl, Nat.le_of_ble_eq_true rfl⟩ ⟨Nat.le_of_ble_eq_true rfl, Nat.le_of_ble_eq_true rfl⟩ hP hE rfl rfl rfl hl.1 rfl (Nat.le_of_ble_eq_true rfl) dX5_block_29) hS (fun x h => h) (fun H1 locs1 hB hz hk hS => ?_)
    have hP : gP g (wM g am (σ) (1)) H1 := hB
    have hD : va_D (fun z => z ∈ mA am) (wM g am (σ) (1)) := wM_D hM
    clear hk hB hz
    generalize H1 = H at hP hS ⊢
    generalize locs1 = locs at hS ⊢
    refine tp_i (z := bI (false)) rfl ?_
    refine br_neB (tgt := 37) hx hb dX5_block_32 (by decide) (fun h218 => ?_) (fun h218 => ?_)
    · exact absurd h218 (by decide)
    · refine lv_iconst (v := bI (false)) hx hb dX5_block_35 (by decide) ?_
      have he9 : eMut x y = 1 := (by simp [eMut, h217])
      exact wr_retz hx hb hr hlocks hS (by rw [he9]; exact hP) (by rw [he9]; rfl) dX5_block_36
  · obtain ⟨yj, hjy, rfl, hiy⟩ := isP_of h217
    have hpy : isP (nI yj) = true := h217
    refine lv_iload_n hx hb dX5_block_8 rfl (lv_at hl 1 rfl) ?_
    refine rd_goS (rn_S ⟨hx, hb, hml, hown, hts⟩ (c_X5_isOne l g (x := x)) gX5_block_X5_isOne rfl qX5_isOne ⟨Nat.le_of_ble_eq_true rfl, Nat.le_of_ble_eq_true rfl⟩ ⟨Nat.le_of_ble_eq_true rfl, Nat.le_of_ble_eq_true rfl⟩ (gP_nil) hE rfl hl.1 rfl (Nat.le_of_ble_eq_true rfl) dX5_block_9) ?_
    refine br_neB (tgt := 19) hx hb dX5_block_12 (by decide) (fun h219 => ?_) (fun h219 => ?_)
    · obtain ⟨xj, hjx, rfl, hix⟩ := isP_of h219
      have hpx : isP (nI xj) = true := h219
      refine lv_iload_n hx hb dX5_block_19 rfl (lv_at hl 2 rfl) ?_
      refine lv_iload_n hx hb dX5_block_20 rfl (lv_at hl 1 rfl) ?_
      refine br_neN (a := yj) (b := xj) (tgt := 28) hx hb (by omega) (by omega) dX5_block_21 (by decide) (fun h220 => ?_) (fun h220 => ?_)
      · have hne2 : ¬ nI yj = nI xj := fun z => h220 ((nI_eq (by omega) (by omega)).mp z)
        have hne3 : ¬ nI xj = nI yj := fun z => hne2 z.symm
        refine lv_iconst (v := nI (0)) hx hb dX5_block_28 (by decide) ?_
        refine wr_goS (rn_V ⟨hx, hb, hml, hown, hts⟩ (c_X5_isFine l g (σ := σ) (th := th) (x := 0) hM (by omega)) gX5_block_X5_isFine rfl pX5_isFine ⟨Nat.le_of_ble_eq_true rfl, Nat.le_of_ble_eq_true rfl⟩ ⟨Nat.le_of_ble_eq_true rfl, Nat.le_of_ble_eq_true rfl⟩ hP hE rfl rfl rfl hl.1 rfl (Nat.le_of_ble_eq_true rfl) dX5_block_29) hS (fun x h => h) (fun H1 locs1 hB hz hk hS => ?_)
        have hP : gP g (wM g am (σ) (0)) H1 := hB
        have hD : va_D (fun z => z ∈ mA am) (wM g am (σ) (0)) := wM_D hM
        clear hk hB hz
        generalize H1 = H at hP hS ⊢
        generalize locs1 = locs at hS ⊢
        refine tp_i (z := bI (true)) rfl ?_
        refine br_neB (tgt := 37) hx hb dX5_block_32 (by decide) (fun h221 => ?_) (fun h221 => ?_)
        · refine lv_aload_n hx hb dX5_block_37 rfl (lv_at hl 0 rfl) ?_
          refine gf (q0 := 0) (ci := 5) (k := 2) (v := .ref (am 3)) hx hb hts iX5_block_5 hown hE hP rfl rfl (by decide) mX5_block_16 rfl dX5_block_38 ?_
          refine lv_bipush (v := nI (8)) hx hb dX5_block_41 (by decide) ?_
          refine lv_iload_n hx hb dX5_block_43 rfl (lv_at hl 1 rfl) ?_
          refine lv_imul hx hb dX5_block_44 ?_
          refine tp_i (pk_mul _ _) ?_
          refine lv_iload_n hx hb dX5_block_45 rfl (lv_at hl 2 rfl) ?_
          refine lv_iadd hx hb dX5_block_46 ?_
          refine tp_i (nI_add _ _) ?_
          refine ra_z (q0 := 3) (i := 8 * xj + yj) hx hb hE hP rfl (by omega) (by decide) dX5_block_47 ?_
          refine lv_istore (lv' := [(4, .int (bI (sB σ (8 * xj + yj)))), (0, .ref (am 0)), (1, .int (nI (xj))), (2, .int (nI (yj))), (3, .int (bI (v)))]) hx hb dX5_block_48 hl (by decide) rfl (fun ls hl => ?_)
          refine lv_aload_n hx hb dX5_block_50 rfl (lv_at hl 1 rfl) ?_
          refine gf (q0 := 0) (ci := 5) (k := 2) (v := .ref (am 3)) hx hb hts iX5_block_5 hown hE hP rfl rfl (by decide) mX5_block_16 rfl dX5_block_51 ?_
          refine lv_bipush (v := nI (8)) hx hb dX5_block_54 (by decide) ?_
          refine lv_iload_n hx hb dX5_block_56 rfl (lv_at hl 2 rfl) ?_
          refine lv_imul hx hb dX5_block_57 ?_
          refine tp_i (pk_mul _ _) ?_
          refine lv_iload_n hx hb dX5_block_58 rfl (lv_at hl 3 rfl) ?_
          refine lv_iadd hx hb dX5_block_59 ?_
          refine tp_i (nI_add _ _) ?_
          refine lv_iload_n hx hb dX5_block_60 rfl (lv_at hl 4 rfl) ?_
          refine wa_z (q0 := 3) (i := 8 * xj + yj) (b := v) (ws' := wM g am (uB (σ) (va_up (sB σ) (8 * xj + yj) (v))) (0)) hx hb hE hP hD hS rfl rfl (by omega) (by decide) dX5_block_61 (fun H locs hP hD hS => ?_)
          refine lv_iload_n hx hb dX5_block_62 rfl (lv_at hl 4 rfl) ?_
          refine br_eqB (tgt := 90) hx hb dX5_block_63 (by decide) (fun h222 => ?_) (fun h222 => ?_)
          · subst h222
            refine lv_aload_n hx hb dX5_block_90 rfl (lv_at hl 1 rfl) ?_
            refine wr_goN (rn_V ⟨hx, hb, hml, hown, hts⟩ (c_X5_cuts l g (σ := uB (σ) (va_up (sB σ) (8 * xj + yj) (false))) (th := 0) hM (Inv_uB hI _)) gX5_block_X5_cuts rfl pX5_cuts ⟨Nat.le_of_ble_eq_true rfl, Nat.le_of_ble_eq_true rfl⟩ ⟨Nat.le_of_ble_eq_true rfl, Nat.le_of_ble_eq_true rfl⟩ hP hE rfl rfl rfl hl.1 rfl (Nat.le_of_ble_eq_true rfl) dX5_block_91) hS (fun x h => h) (fun H1 locs1 hB hz hk hS => ?_)
            have hP : gP g (wM g am (stl (uB (σ) (va_up (sB σ) (8 * xj + yj) (false)))) (0)) H1 := hB
            have hD : va_D (fun z => z ∈ mA am) (wM g am (stl (uB (σ) (va_up (sB σ) (8 * xj + yj) (false)))) (0)) := wM_D hM
            clear hk hB hz
            generalize H1 = H at hP hS ⊢
            generalize locs1 = locs at hS ⊢
            refine lv_iload hx hb dX5_block_94 (lv_at hl 0 rfl) ?_
            have he9 : eMut (nI xj) (nI yj) = 0 := (by simp [eMut, hpy, hiy, hpx, hix, hne2, hne3])
            have hnx : nBlk σ (nI xj) (nI yj) (false) = stl (uB (σ) (va_up (sB σ) (8 * xj + yj) (false))) := (by unfold nBlk; rw [if_neg (by decide), hix, hiy, stl_id (σ := uB σ (va_up (sB σ) (8 * xj + yj) false)) (Inv_uB hI _) hSd])
            exact wr_retz hx hb hr hlocks hS (by rw [he9]; show gP g (wM g am (nBlk σ (nI xj) (nI yj) (false)) 0) H; rw [hnx]; exact hP) (by rw [he9]; show _ = sB σ (8 * ix (nI xj) + ix (nI yj)); exact (by rw [hix, hiy])) dX5_block_96
          · subst h222
            refine lv_aload_n hx hb dX5_block_66 rfl (lv_at hl 1 rfl) ?_
            refine gf (q0 := 0) (ci := 5) (k := 0) (v := .ref (am 1)) hx hb hts iX5_block_5 hown hE hP rfl rfl (by decide) mX5_block_7 rfl dX5_block_67 ?_
            refine lv_bipush (v := nI (8)) hx hb dX5_block_70 (by decide) ?_
            refine lv_iload_n hx hb dX5_block_72 rfl (lv_at hl 2 rfl) ?_
            refine lv_imul hx hb dX5_block_73 ?_
            refine tp_i (pk_mul _ _) ?_
            refine lv_iload_n hx hb dX5_block_74 rfl (lv_at hl 3 rfl) ?_
            refine lv_iadd hx hb dX5_block_75 ?_
            refine tp_i (nI_add _ _) ?_
            refine lv_iconst (v := bI (false)) hx hb dX5_block_76 (by decide) ?_
            refine wa_z (q0 := 1) (i := 8 * xj + yj) (b := false) (ws' := wM g am (uF (uB (σ) (va_up (sB σ) (8 * xj + yj) (true))) (va_up (sF (uB (σ) (va_up (sB σ) (8 * xj + yj) (true)))) (8 * xj + yj) (false))) (0)) hx hb hE hP hD hS rfl rfl (by omega) (by decide) dX5_block_77 (fun H locs hP hD hS => ?_)
            refine lv_aload_n hx hb dX5_block_78 rfl (lv_at hl 1 rfl) ?_
            refine gf (q0 := 0) (ci := 5) (k := 0) (v := .ref (am 1)) hx hb hts iX5_block_5 hown hE hP rfl rfl (by decide) mX5_block_7 rfl dX5_block_79 ?_
            refine lv_bipush (v := nI (8)) hx hb dX5_block_82 (by decide) ?_
            refine lv_iload_n hx hb dX5_block_84 rfl (lv_at hl 3 rfl) ?_
            refine lv_imul hx hb dX5_block_85 ?_
            refine tp_i (pk_mul _ _) ?_
            refine lv_iload_n hx hb dX5_block_86 rfl (lv_at hl 2 rfl) ?_
            refine lv_iadd hx hb dX5_block_87 ?_
            refine tp_i (nI_add _ _) ?_
            refine lv_iconst (v := bI (false)) hx hb dX5_block_88 (by decide) ?_
            refine wa_z (q0 := 1) (i := 8 * yj + xj) (b := false) (ws' := wM g am (uF (uF (uB (σ) (va_up (sB σ) (8 * xj + yj) (true))) (va_up (sF (uB (σ) (va_up (sB σ) (8 * xj + yj) (true)))) (8 * xj + yj) (false))) (va_up (sF (uF (uB (σ) (va_up (sB σ) (8 * xj + yj) (true))) (va_up (sF (uB (σ) (va_up (sB σ) (8 * xj + yj) (true)))) (8 * xj + yj) (false)))) (8 * yj + xj) (false))) (0)) hx hb hE hP hD hS rfl rfl (by omega) (by decide) dX5_block_89 (fun H locs hP hD hS => ?_)
            refine lv_aload_n hx hb dX5_block_90 rfl (lv_at hl 1 rfl) ?_
            refine wr_goN (rn_V ⟨hx, hb, hml, hown, hts⟩ (c_X5_cuts l g (σ := uF (uF (uB (σ) (va_up (sB σ) (8 * xj + yj) (true))) (va_up (sF (uB (σ) (va_up (sB σ) (8 * xj + yj) (true)))) (8 * xj + yj) (false))) (va_up (sF (uF (uB (σ) (va_up (sB σ) (8 * xj + yj) (true))) (va_up (sF (uB (σ) (va_up (sB σ) (8 * xj + yj) (true)))) (8 * xj + yj) (false)))) (8 * yj + xj) (false))) (th := 0) hM (Inv_uF (Inv_uF (Inv_uB hI _) _) _)) gX5_block_X5_cuts rfl pX5_cuts ⟨Nat.le_of_ble_eq_true rfl, Nat.le_of_ble_eq_true rfl⟩ ⟨Nat.le_of_ble_eq_true rfl, Nat.le_of_ble_eq_true rfl⟩ hP hE rfl rfl rfl hl.1 rfl (Nat.le_of_ble_eq_true rfl) dX5_block_91) hS (fun x h => h) (fun H1 locs1 hB hz hk hS => ?_)
            have hP : gP g (wM g am (stl (uF (uF (uB (σ) (va_up (sB σ) (8 * xj + yj) (true))) (va_up (sF (uB (σ) (va_up (sB σ) (8 * xj + yj) (true)))) (8 * xj + yj) (false))) (va_up (sF (uF (uB (σ) (va_up (sB σ) (8 * xj + yj) (true))) (va_up (sF (uB (σ) (va_up (sB σ) (8 * xj + yj) (true)))) (8 * xj + yj) (false)))) (8 * yj + xj) (false)))) (0)) H1 := hB
            have hD : va_D (fun z => z ∈ mA am) (wM g am (stl (uF (uF (uB (σ) (va_up (sB σ) (8 * xj + yj) (true))) (va_up (sF (uB (σ) (va_up (sB σ) (8 * xj + yj) (true)))) (8 * xj + yj) (false))) (va_up (sF (uF (uB (σ) (va_up (sB σ) (8 * xj + yj) (true))) (va_up (sF (uB (σ) (va_up (sB σ) (8 * xj + yj) (true)))) (8 * xj + yj) (false)))) (8 * yj + xj) (false)))) (0)) := wM_D hM
            clear hk hB hz
            generalize H1 = H at hP hS ⊢
            generalize locs1 = locs at hS ⊢
            refine lv_iload hx hb dX5_block_94 (lv_at hl 0 rfl) ?_
            have he9 : eMut (nI xj) (nI yj) = 0 := (by simp [eMut, hpy, hiy, hpx, hix, hne2, hne3])
            have hnx : nBlk σ (nI xj) (nI yj) (true) = stl (uF (uF (uB (σ) (va_up (sB σ) (8 * xj + yj) (true))) (va_up (sF (uB (σ) (va_up (sB σ) (8 * xj + yj) (true)))) (8 * xj + yj) (false))) (va_up (sF (uF (uB (σ) (va_up (sB σ) (8 * xj + yj) (true))) (va_up (sF (uB (σ) (va_up (sB σ) (8 * xj + yj) (true)))) (8 * xj + yj) (false)))) (8 * yj + xj) (false))) := (by unfold nBlk; rw [if_pos rfl, hix, hiy]; rfl)
            exact wr_retz hx hb hr hlocks hS (by rw [he9]; show gP g (wM g am (nBlk σ (nI xj) (nI yj) (true)) 0) H; rw [hnx]; exact hP) (by rw [he9]; show _ = sB σ (8 * ix (nI xj) + ix (nI yj)); exact (by rw [hix, hiy])) dX5_block_96
        · exact absurd h221 (by decide)
      · have heq2 : nI yj = nI xj := by rw [h220]
        have heq3 : nI xj = nI yj := by rw [h220]
        refine lv_iconst (v := nI (2)) hx hb dX5_block_24 (by decide) ?_
        refine lv_goto (tgt := 29) hx hb dX5_block_25 (by decide) ?_
        refine wr_goS (rn_V ⟨hx, hb, hml, hown, hts⟩ (c_X5_isFine l g (σ := σ) (th := th) (x := 2) hM (by omega)) gX5_block_X5_isFine rfl pX5_isFine ⟨Nat.le_of_ble_eq_true rfl, Nat.le_of_ble_eq_true rfl⟩ ⟨Nat.le_of_ble_eq_true rfl, Nat.le_of_ble_eq_true rfl⟩ hP hE rfl rfl rfl hl.1 rfl (Nat.le_of_ble_eq_true rfl) dX5_block_29) hS (fun x h => h) (fun H1 locs1 hB hz hk hS => ?_)
        have hP : gP g (wM g am (σ) (2)) H1 := hB
        have hD : va_D (fun z => z ∈ mA am) (wM g am (σ) (2)) := wM_D hM
        clear hk hB hz
        generalize H1 = H at hP hS ⊢
        generalize locs1 = locs at hS ⊢
        refine tp_i (z := bI (false)) rfl ?_
        refine br_neB (tgt := 37) hx hb dX5_block_32 (by decide) (fun h223 => ?_) (fun h223 => ?_)
        · exact absurd h223 (by decide)
        · refine lv_iconst (v := bI (false)) hx hb dX5_block_35 (by decide) ?_
          have he9 : eMut (nI xj) (nI yj) = 2 := (by simp [eMut, hpy, hiy, hpx, hix, heq2])
          exact wr_retz hx hb hr hlocks hS (by rw [he9]; exact hP) (by rw [he9]; rfl) dX5_block_36
    · refine lv_iconst (v := nI (1)) hx hb dX5_block_15 (by decide) ?_
      refine lv_goto (tgt := 29) hx hb dX5_block_16 (by decide) ?_
      refine wr_goS (rn_V ⟨hx, hb, hml, hown, hts⟩ (c_X5_isFine l g (σ := σ) (th := th) (x := 1) hM (by omega)) gX5_block_X5_isFine rfl pX5_isFine ⟨Nat.le_of_ble_eq_true rfl, Nat.le_of_ble_eq_true rfl⟩ ⟨Nat.le_of_ble_eq_true rfl, Nat.le_of_ble_eq_true rfl⟩ hP hE rfl rfl rfl hl.1 rfl (Nat.le_of_ble_eq_true rfl) dX5_block_29) hS (fun x h => h) (fun H1 locs1 hB hz hk hS => ?_)
      have hP : gP g (wM g am (σ) (1)) H1 := hB
      have hD : va_D (fun z => z ∈ mA am) (wM g am (σ) (1)) := wM_D hM
      clear hk hB hz
      generalize H1 = H at hP hS ⊢
      generalize locs1 = locs at hS ⊢
      refine tp_i (z := bI (false)) rfl ?_
      refine br_neB (tgt := 37) hx hb dX5_block_32 (by decide) (fun h224 => ?_) (fun h224 => ?_)
      · exact absurd h224 (by decide)
      · refine lv_iconst (v := bI (false)) hx hb dX5_block_35 (by decide) ?_
        have he9 : eMut x (nI yj) = 1 := (by simp [eMut, hpy, hiy, h219])
        exact wr_retz hx hb hr hlocks hS (by rw [he9]; exact hP) (by rw [he9]; rfl) dX5_block_36
theorem mX5_post_46 : Cond.fieldLink RX5 46 "FollowrowModel" "entries" "I" ∈ wsX5_post := by decide +kernel
theorem iX5_post_5 : ∀ w ∈ wsX50, w ∈ wsX5_post := by decide +kernel
set_option maxHeartbeats 4000000 in
set_option maxRecDepth 100000 in
/-- post(x) -/
theorem c_X5_post (l : Launch) (g : GT) {am : Nat → Nat} {σ : St} {th : Nat} (hI : Inv σ) (hM : FN am 8) {x : Int32} : wrM l g yX5_post wsX5_post 6 134 [.ref (am 0), .int (x)] (wM g am (σ) (th)) (some (.int (oI (ePst σ x) (nI (sn σ))))) (fun H1 => gP g (wM g am (oS (ePst σ x) (nPst σ x) σ) (pl2 (ePst σ x))) H1) (mA am) := by
  refine wr_of (cc := cX5_post) (maxL := 2) (ret := (some .int)) (by decide) rfl (Nat.le_of_ble_eq_true rfl) (fun p e s m below meth c ls hx hb hr hml hts hown hlocks hl hP hE hS => ?_)
  have hl : lv_has ls 2 [(0, .ref (am 0)), (1, .int (x))] := hl
  have hown : s.vm.findClass RX5 = some m.cls := hown
  obtain ⟨hi1, hi2, hi3, hi4, hi5, hi6, hi7, hi8⟩ := id hI
  have hD : va_D (fun z => z ∈ mA am) (wM g am σ th) := wM_D hM
  refine lv_aload_n hx hb dX5_post_0 rfl (lv_at hl 0 rfl) ?_
  refine lv_iload_n hx hb dX5_post_1 rfl (lv_at hl 1 rfl) ?_
  refine rd_goS (rn_S ⟨hx, hb, hml, hown, hts⟩ (c_X5_isOne l g (x := x)) gX5_post_X5_isOne rfl qX5_isOne ⟨Nat.le_of_ble_eq_true rfl, Nat.le_of_ble_eq_true rfl⟩ ⟨Nat.le_of_ble_eq_true rfl, Nat.le_of_ble_eq_true rfl⟩ (gP_nil) hE rfl hl.1 rfl (Nat.le_of_ble_eq_true rfl) dX5_post_2) ?_
  refine br_neB (tgt := 12) hx hb dX5_post_5 (by decide) (fun h225 => ?_) (fun h225 => ?_)
  · obtain ⟨xj, hjx, rfl, hix⟩ := isP_of h225
    have hpx : isP (nI xj) = true := h225
    refine lv_aload_n hx hb dX5_post_12 rfl (lv_at hl 0 rfl) ?_
    refine gf (q0 := 0) (ci := 5) (k := 6) (v := .int (nI (sn σ))) hx hb hts iX5_post_5 hown hE hP rfl rfl (by decide) mX5_post_46 rfl dX5_post_13 ?_
    refine lv_sipush (v := nI (150)) hx hb dX5_post_16 (by decide) ?_
    refine br_neN (a := sn σ) (b := 150) (tgt := 26) hx hb (by omega) (by omega) dX5_post_19 (by decide) (fun h226 => ?_) (fun h226 => ?_)
    · have hlt : sn σ < 150 := by omega
      refine lv_iconst (v := nI (0)) hx hb dX5_post_26 (by decide) ?_
      refine wr_goS (rn_V ⟨hx, hb, hml, hown, hts⟩ (c_X5_isFine l g (σ := σ) (th := th) (x := 0) hM (by omega)) gX5_post_X5_isFine rfl pX5_isFine ⟨Nat.le_of_ble_eq_true rfl, Nat.le_of_ble_eq_true rfl⟩ ⟨Nat.le_of_ble_eq_true rfl, Nat.le_of_ble_eq_true rfl⟩ hP hE rfl rfl rfl hl.1 rfl (Nat.le_of_ble_eq_true rfl) dX5_post_27) hS (fun x h => h) (fun H1 locs1 hB hz hk hS => ?_)
      have hP : gP g (wM g am (σ) (0)) H1 := hB
      have hD : va_D (fun z => z ∈ mA am) (wM g am (σ) (0)) := wM_D hM
      clear hk hB hz
      generalize H1 = H at hP hS ⊢
      generalize locs1 = locs at hS ⊢
      refine tp_i (z := bI (true)) rfl ?_
      refine br_neB (tgt := 35) hx hb dX5_post_30 (by decide) (fun h227 => ?_) (fun h227 => ?_)
      · refine lv_aload_n hx hb dX5_post_35 rfl (lv_at hl 0 rfl) ?_
        refine lv_iload_n hx hb dX5_post_36 rfl (lv_at hl 1 rfl) ?_
        refine lv_aload_n hx hb dX5_post_37 rfl (lv_at hl 0 rfl) ?_
        refine gf (q0 := 0) (ci := 5) (k := 6) (v := .int (nI (sn σ))) hx hb hts iX5_post_5 hown hE hP rfl rfl (by decide) mX5_post_46 rfl dX5_post_38 ?_
        refine wr_goS (rn_V ⟨hx, hb, hml, hown, hts⟩ (c_X5_makes l g (σ := σ) (th := 0) (x := xj) (y := sn σ) hI hM hlt (by omega) (by omega)) gX5_post_X5_makes rfl pX5_makes ⟨Nat.le_of_ble_eq_true rfl, Nat.le_of_ble_eq_true rfl⟩ ⟨Nat.le_of_ble_eq_true rfl, Nat.le_of_ble_eq_true rfl⟩ hP hE rfl rfl rfl hl.1 rfl (Nat.le_of_ble_eq_true rfl) dX5_post_41) hS (fun x h => h) (fun H1 locs1 hB hz hk hS => ?_)
        have hP : gP g (wM g am (stl (uE (σ) (va_up (sa σ) (sn σ) (xj)) (va_up (so σ) (sn σ) (sn σ)) (sn σ + 1))) (0)) H1 := hB
        have hD : va_D (fun z => z ∈ mA am) (wM g am (stl (uE (σ) (va_up (sa σ) (sn σ) (xj)) (va_up (so σ) (sn σ) (sn σ)) (sn σ + 1))) (0)) := wM_D hM
        clear hk hB hz
        generalize H1 = H at hP hS ⊢
        generalize locs1 = locs at hS ⊢
        have he9 : ePst σ (nI xj) = 0 := (by simp [ePst, hpx, hix, hlt])
        have hnx : nPst σ (nI xj) = stl (uE (σ) (va_up (sa σ) (sn σ) (xj)) (va_up (so σ) (sn σ) (sn σ)) (sn σ + 1)) := (by unfold nPst; rw [hix])
        exact wr_reti hx hb hr hlocks hS (by rw [he9]; show gP g (wM g am (nPst σ (nI xj)) 0) H; rw [hnx]; exact hP) (by rw [he9]; show _ = nI (sn σ); exact rfl) dX5_post_44
      · exact absurd h227 (by decide)
    · have hlt : ¬ sn σ < 150 := by omega
      refine lv_iconst (v := nI (2)) hx hb dX5_post_22 (by decide) ?_
      refine lv_goto (tgt := 27) hx hb dX5_post_23 (by decide) ?_
      refine wr_goS (rn_V ⟨hx, hb, hml, hown, hts⟩ (c_X5_isFine l g (σ := σ) (th := th) (x := 2) hM (by omega)) gX5_post_X5_isFine rfl pX5_isFine ⟨Nat.le_of_ble_eq_true rfl, Nat.le_of_ble_eq_true rfl⟩ ⟨Nat.le_of_ble_eq_true rfl, Nat.le_of_ble_eq_true rfl⟩ hP hE rfl rfl rfl hl.1 rfl (Nat.le_of_ble_eq_true rfl) dX5_post_27) hS (fun x h => h) (fun H1 locs1 hB hz hk hS => ?_)
      have hP : gP g (wM g am (σ) (2)) H1 := hB
      have hD : va_D (fun z => z ∈ mA am) (wM g am (σ) (2)) := wM_D hM
      clear hk hB hz
      generalize H1 = H at hP hS ⊢
      generalize locs1 = locs at hS ⊢
      refine tp_i (z := bI (false)) rfl ?_
      refine br_neB (tgt := 35) hx hb dX5_post_30 (by decide) (fun h228 => ?_) (fun h228 => ?_)
      · exact absurd h228 (by decide)
      · refine lv_iconst (v := nI (0)) hx hb dX5_post_33 (by decide) ?_
        have he9 : ePst σ (nI xj) = 3 := (by simp [ePst, hpx, hix, hlt])
        exact wr_reti hx hb hr hlocks hS (by rw [he9]; exact hP) (by rw [he9]; rfl) dX5_post_34
  · refine lv_iconst (v := nI (1)) hx hb dX5_post_8 (by decide) ?_
    refine lv_goto (tgt := 27) hx hb dX5_post_9 (by decide) ?_
    refine wr_goS (rn_V ⟨hx, hb, hml, hown, hts⟩ (c_X5_isFine l g (σ := σ) (th := th) (x := 1) hM (by omega)) gX5_post_X5_isFine rfl pX5_isFine ⟨Nat.le_of_ble_eq_true rfl, Nat.le_of_ble_eq_true rfl⟩ ⟨Nat.le_of_ble_eq_true rfl, Nat.le_of_ble_eq_true rfl⟩ hP hE rfl rfl rfl hl.1 rfl (Nat.le_of_ble_eq_true rfl) dX5_post_27) hS (fun x h => h) (fun H1 locs1 hB hz hk hS => ?_)
    have hP : gP g (wM g am (σ) (1)) H1 := hB
    have hD : va_D (fun z => z ∈ mA am) (wM g am (σ) (1)) := wM_D hM
    clear hk hB hz
    generalize H1 = H at hP hS ⊢
    generalize locs1 = locs at hS ⊢
    refine tp_i (z := bI (false)) rfl ?_
    refine br_neB (tgt := 35) hx hb dX5_post_30 (by decide) (fun h229 => ?_) (fun h229 => ?_)
    · exact absurd h229 (by decide)
    · refine lv_iconst (v := nI (0)) hx hb dX5_post_33 (by decide) ?_
      have he9 : ePst σ x = 1 := (by simp [ePst, h225])
      exact wr_reti hx hb hr hlocks hS (by rw [he9]; exact hP) (by rw [he9]; rfl) dX5_post_34
theorem mX5_repost_16 : Cond.fieldLink RX5 16 "FollowrowModel" "blocked" "[Z" ∈ wsX5_repost := by decide +kernel
theorem mX5_repost_19 : Cond.fieldLink RX5 19 "FollowrowModel" "author" "[I" ∈ wsX5_repost := by decide +kernel
theorem mX5_repost_23 : Cond.fieldLink RX5 23 "FollowrowModel" "origin" "[I" ∈ wsX5_repost := by decide +kernel
theorem mX5_repost_26 : Cond.fieldLink RX5 26 "FollowrowModel" "isGone" "[Z" ∈ wsX5_repost := by decide +kernel
theorem mX5_repost_46 : Cond.fieldLink RX5 46 "FollowrowModel" "entries" "I" ∈ wsX5_repost := by decide +kernel
theorem iX5_repost_5 : ∀ w ∈ wsX50, w ∈ wsX5_repost := by decide +kernel
set_option maxHeartbeats 4000000 in
set_option maxRecDepth 100000 in
/-- repost(x, y) -/
theorem c_X5_repost (l : Launch) (g : GT) {am : Nat → Nat} {σ : St} {th : Nat} (hI : Inv σ) (hM : FN am 8) {x y : Int32} : wrM l g yX5_repost wsX5_repost 6 134 [.ref (am 0), .int (x), .int (y)] (wM g am (σ) (th)) (some (.int (oI (eRep σ x y) (nI (sn σ))))) (fun H1 => gP g (wM g am (oS (eRep σ x y) (nRep σ x y) σ) (pl2 (eRep σ x y))) H1) (mA am) := by
  refine wr_of (cc := cX5_repost) (maxL := 4) (ret := (some .int)) (by decide) rfl (Nat.le_of_ble_eq_true rfl) (fun p e s m below meth c ls hx hb hr hml hts hown hlocks hl hP hE hS => ?_)
  have hl : lv_has ls 4 [(0, .ref (am 0)), (1, .int (x)), (2, .int (y))] := hl
  have hown : s.vm.findClass RX5 = some m.cls := hown
  obtain ⟨hi1, hi2, hi3, hi4, hi5, hi6, hi7, hi8⟩ := id hI
  have hD : va_D (fun z => z ∈ mA am) (wM g am σ th) := wM_D hM
  refine lv_iload_n hx hb dX5_repost_0 rfl (lv_at hl 1 rfl) ?_
  refine rd_goS (rn_S ⟨hx, hb, hml, hown, hts⟩ (c_X5_isOne l g (x := x)) gX5_repost_X5_isOne rfl qX5_isOne ⟨Nat.le_of_ble_eq_true rfl, Nat.le_of_ble_eq_true rfl⟩ ⟨Nat.le_of_ble_eq_true rfl, Nat.le_of_ble_eq_true rfl⟩ (gP_nil) hE rfl hl.1 rfl (Nat.le_of_ble_eq_true rfl) dX5_repost_1) ?_
  refine br_eqB (tgt := 15) hx hb dX5_repost_4 (by decide) (fun h230 => ?_) (fun h230 => ?_)
  · refine lv_iconst (v := nI (1)) hx hb dX5_repost_15 (by decide) ?_
    refine lv_goto (tgt := 57) hx hb dX5_repost_16 (by decide) ?_
    refine lv_istore_n (lv' := [(3, .int (nI (1))), (0, .ref (am 0)), (1, .int (x)), (2, .int (y))]) hx hb dX5_repost_57 rfl hl (by decide) rfl (fun ls hl => ?_)
    refine lv_iload_n hx hb dX5_repost_58 rfl (lv_at hl 0 rfl) ?_
    refine br_ne0 (a := 1) (tgt := 88) hx hb (by decide) dX5_repost_59 (by decide) (fun h231 => ?_) (fun h231 => ?_)
    · refine lv_aload_n hx hb dX5_repost_88 rfl (lv_at hl 1 rfl) ?_
      refine lv_iload_n hx hb dX5_repost_89 rfl (lv_at hl 0 rfl) ?_
      refine wr_goS (rn_V ⟨hx, hb, hml, hown, hts⟩ (c_X5_isFine l g (σ := σ) (th := th) (x := 1) hM (by omega)) gX5_repost_X5_isFine rfl pX5_isFine ⟨Nat.le_of_ble_eq_true rfl, Nat.le_of_ble_eq_true rfl⟩ ⟨Nat.le_of_ble_eq_true rfl, Nat.le_of_ble_eq_true rfl⟩ hP hE rfl rfl rfl hl.1 rfl (Nat.le_of_ble_eq_true rfl) dX5_repost_90) hS (fun x h => h) (fun H1 locs1 hB hz hk hS => ?_)
      have hP : gP g (wM g am (σ) (1)) H1 := hB
      have hD : va_D (fun z => z ∈ mA am) (wM g am (σ) (1)) := wM_D hM
      clear hk hB hz
      generalize H1 = H at hP hS ⊢
      generalize locs1 = locs at hS ⊢
      refine tp_i (z := bI (false)) rfl ?_
      refine br_eqB (tgt := 110) hx hb dX5_repost_93 (by decide) (fun h232 => ?_) (fun h232 => ?_)
      · refine lv_iconst (v := nI (0)) hx hb dX5_repost_110 (by decide) ?_
        have he9 : eRep σ x y = 1 := (by simp [eRep, h230])
        exact wr_reti hx hb hr hlocks hS (by rw [he9]; exact hP) (by rw [he9]; rfl) dX5_repost_111
      · exact absurd h232 (by decide)
    · exact absurd h231 (by decide)
  · obtain ⟨xj, hjx, rfl, hix⟩ := isP_of h230
    have hpx : isP (nI xj) = true := h230
    refine lv_aload_n hx hb dX5_repost_7 rfl (lv_at hl 0 rfl) ?_
    refine lv_iload_n hx hb dX5_repost_8 rfl (lv_at hl 2 rfl) ?_
    refine rd_goS (rn_V ⟨hx, hb, hml, hown, hts⟩ (c_X5_isEntry l g hI (x := y)) gX5_repost_X5_isEntry rfl pX5_isEntry ⟨Nat.le_of_ble_eq_true rfl, Nat.le_of_ble_eq_true rfl⟩ ⟨Nat.le_of_ble_eq_true rfl, Nat.le_of_ble_eq_true rfl⟩ (hP) hE rfl rfl rfl hl.1 rfl (Nat.le_of_ble_eq_true rfl) dX5_repost_9) ?_
    refine br_neB (tgt := 19) hx hb dX5_repost_12 (by decide) (fun h233 => ?_) (fun h233 => ?_)
    · obtain ⟨yj, hjy, rfl, hiy⟩ := isB_of h233 (by omega)
      have hpy : isB (nI yj) (sn σ) = true := h233
      have hox := hi7 yj hjy
      refine lv_aload_n hx hb dX5_repost_19 rfl (lv_at hl 0 rfl) ?_
      refine gf (q0 := 0) (ci := 5) (k := 6) (v := .int (nI (sn σ))) hx hb hts iX5_repost_5 hown hE hP rfl rfl (by decide) mX5_repost_46 rfl dX5_repost_20 ?_
      refine lv_sipush (v := nI (150)) hx hb dX5_repost_23 (by decide) ?_
      refine br_eqN (a := sn σ) (b := 150) (tgt := 52) hx hb (by omega) (by omega) dX5_repost_26 (by decide) (fun h234 => ?_) (fun h234 => ?_)
      · have hlt : ¬ sn σ < 150 := by omega
        refine lv_iconst (v := nI (2)) hx hb dX5_repost_52 (by decide) ?_
        refine lv_goto (tgt := 57) hx hb dX5_repost_53 (by decide) ?_
        refine lv_istore_n (lv' := [(3, .int (nI (2))), (0, .ref (am 0)), (1, .int (nI (xj))), (2, .int (nI (yj)))]) hx hb dX5_repost_57 rfl hl (by decide) rfl (fun ls hl => ?_)
        refine lv_iload_n hx hb dX5_repost_58 rfl (lv_at hl 0 rfl) ?_
        refine br_ne0 (a := 2) (tgt := 88) hx hb (by decide) dX5_repost_59 (by decide) (fun h235 => ?_) (fun h235 => ?_)
        · refine lv_aload_n hx hb dX5_repost_88 rfl (lv_at hl 1 rfl) ?_
          refine lv_iload_n hx hb dX5_repost_89 rfl (lv_at hl 0 rfl) ?_
          refine wr_goS (rn_V ⟨hx, hb, hml, hown, hts⟩ (c_X5_isFine l g (σ := σ) (th := th) (x := 2) hM (by omega)) gX5_repost_X5_isFine rfl pX5_isFine ⟨Nat.le_of_ble_eq_true rfl, Nat.le_of_ble_eq_true rfl⟩ ⟨Nat.le_of_ble_eq_true rfl, Nat.le_of_ble_eq_true rfl⟩ hP hE rfl rfl rfl hl.1 rfl (Nat.le_of_ble_eq_true rfl) dX5_repost_90) hS (fun x h => h) (fun H1 locs1 hB hz hk hS => ?_)
          have hP : gP g (wM g am (σ) (2)) H1 := hB
          have hD : va_D (fun z => z ∈ mA am) (wM g am (σ) (2)) := wM_D hM
          clear hk hB hz
          generalize H1 = H at hP hS ⊢
          generalize locs1 = locs at hS ⊢
          refine tp_i (z := bI (false)) rfl ?_
          refine br_eqB (tgt := 110) hx hb dX5_repost_93 (by decide) (fun h236 => ?_) (fun h236 => ?_)
          · refine lv_iconst (v := nI (0)) hx hb dX5_repost_110 (by decide) ?_
            have he9 : eRep σ (nI xj) (nI yj) = 3 := (by simp [eRep, hpx, hix, hpy, hiy, hlt])
            exact wr_reti hx hb hr hlocks hS (by rw [he9]; exact hP) (by rw [he9]; rfl) dX5_repost_111
          · exact absurd h236 (by decide)
        · exact absurd h235 (by decide)
      · have hlt : sn σ < 150 := by omega
        refine lv_aload_n hx hb dX5_repost_29 rfl (lv_at hl 0 rfl) ?_
        refine gf (q0 := 0) (ci := 5) (k := 5) (v := .ref (am 6)) hx hb hts iX5_repost_5 hown hE hP rfl rfl (by decide) mX5_repost_26 rfl dX5_repost_30 ?_
        refine lv_iload_n hx hb dX5_repost_33 rfl (lv_at hl 2 rfl) ?_
        refine ra_z (q0 := 6) (i := yj) hx hb hE hP rfl (by omega) (by decide) dX5_repost_34 ?_
        refine br_neB (tgt := 52) hx hb dX5_repost_35 (by decide) (fun h237 => ?_) (fun h237 => ?_)
        · refine lv_iconst (v := nI (2)) hx hb dX5_repost_52 (by decide) ?_
          refine lv_goto (tgt := 57) hx hb dX5_repost_53 (by decide) ?_
          refine lv_istore_n (lv' := [(3, .int (nI (2))), (0, .ref (am 0)), (1, .int (nI (xj))), (2, .int (nI (yj)))]) hx hb dX5_repost_57 rfl hl (by decide) rfl (fun ls hl => ?_)
          refine lv_iload_n hx hb dX5_repost_58 rfl (lv_at hl 0 rfl) ?_
          refine br_ne0 (a := 2) (tgt := 88) hx hb (by decide) dX5_repost_59 (by decide) (fun h238 => ?_) (fun h238 => ?_)
          · refine lv_aload_n hx hb dX5_repost_88 rfl (lv_at hl 1 rfl) ?_
            refine lv_iload_n hx hb dX5_repost_89 rfl (lv_at hl 0 rfl) ?_
            refine wr_goS (rn_V ⟨hx, hb, hml, hown, hts⟩ (c_X5_isFine l g (σ := σ) (th := th) (x := 2) hM (by omega)) gX5_repost_X5_isFine rfl pX5_isFine ⟨Nat.le_of_ble_eq_true rfl, Nat.le_of_ble_eq_true rfl⟩ ⟨Nat.le_of_ble_eq_true rfl, Nat.le_of_ble_eq_true rfl⟩ hP hE rfl rfl rfl hl.1 rfl (Nat.le_of_ble_eq_true rfl) dX5_repost_90) hS (fun x h => h) (fun H1 locs1 hB hz hk hS => ?_)
            have hP : gP g (wM g am (σ) (2)) H1 := hB
            have hD : va_D (fun z => z ∈ mA am) (wM g am (σ) (2)) := wM_D hM
            clear hk hB hz
            generalize H1 = H at hP hS ⊢
            generalize locs1 = locs at hS ⊢
            refine tp_i (z := bI (false)) rfl ?_
            refine br_eqB (tgt := 110) hx hb dX5_repost_93 (by decide) (fun h239 => ?_) (fun h239 => ?_)
            · refine lv_iconst (v := nI (0)) hx hb dX5_repost_110 (by decide) ?_
              have he9 : eRep σ (nI xj) (nI yj) = 3 := (by simp [eRep, hpx, hix, hpy, hiy, hlt, h237])
              exact wr_reti hx hb hr hlocks hS (by rw [he9]; exact hP) (by rw [he9]; rfl) dX5_repost_111
            · exact absurd h239 (by decide)
          · exact absurd h238 (by decide)
        · refine lv_aload_n hx hb dX5_repost_38 rfl (lv_at hl 0 rfl) ?_
          refine gf (q0 := 0) (ci := 5) (k := 5) (v := .ref (am 6)) hx hb hts iX5_repost_5 hown hE hP rfl rfl (by decide) mX5_repost_26 rfl dX5_repost_39 ?_
          refine lv_aload_n hx hb dX5_repost_42 rfl (lv_at hl 0 rfl) ?_
          refine gf (q0 := 0) (ci := 5) (k := 4) (v := .ref (am 5)) hx hb hts iX5_repost_5 hown hE hP rfl rfl (by decide) mX5_repost_23 rfl dX5_repost_43 ?_
          refine lv_iload_n hx hb dX5_repost_46 rfl (lv_at hl 2 rfl) ?_
          refine ra_i (q0 := 5) (i := yj) hx hb hE hP rfl (by omega) (by decide) dX5_repost_47 ?_
          refine ra_z (q0 := 6) (i := so σ (yj)) hx hb hE hP rfl (hi6 yj) (by decide) dX5_repost_48 ?_
          refine br_eqB (tgt := 56) hx hb dX5_repost_49 (by decide) (fun h240 => ?_) (fun h240 => ?_)
          · refine lv_iconst (v := nI (0)) hx hb dX5_repost_56 (by decide) ?_
            refine lv_istore_n (lv' := [(3, .int (nI (0))), (0, .ref (am 0)), (1, .int (nI (xj))), (2, .int (nI (yj)))]) hx hb dX5_repost_57 rfl hl (by decide) rfl (fun ls hl => ?_)
            refine lv_iload_n hx hb dX5_repost_58 rfl (lv_at hl 0 rfl) ?_
            refine br_ne0 (a := 0) (tgt := 88) hx hb (by decide) dX5_repost_59 (by decide) (fun h241 => ?_) (fun h241 => ?_)
            · exact absurd h241 (by decide)
            · refine lv_aload_n hx hb dX5_repost_62 rfl (lv_at hl 1 rfl) ?_
              refine gf (q0 := 0) (ci := 5) (k := 2) (v := .ref (am 3)) hx hb hts iX5_repost_5 hown hE hP rfl rfl (by decide) mX5_repost_16 rfl dX5_repost_63 ?_
              refine lv_bipush (v := nI (8)) hx hb dX5_repost_66 (by decide) ?_
              refine lv_aload_n hx hb dX5_repost_68 rfl (lv_at hl 1 rfl) ?_
              refine gf (q0 := 0) (ci := 5) (k := 3) (v := .ref (am 4)) hx hb hts iX5_repost_5 hown hE hP rfl rfl (by decide) mX5_repost_19 rfl dX5_repost_69 ?_
              refine lv_aload_n hx hb dX5_repost_72 rfl (lv_at hl 1 rfl) ?_
              refine gf (q0 := 0) (ci := 5) (k := 4) (v := .ref (am 5)) hx hb hts iX5_repost_5 hown hE hP rfl rfl (by decide) mX5_repost_23 rfl dX5_repost_73 ?_
              refine lv_iload_n hx hb dX5_repost_76 rfl (lv_at hl 3 rfl) ?_
              refine ra_i (q0 := 5) (i := yj) hx hb hE hP rfl (by omega) (by decide) dX5_repost_77 ?_
              refine ra_i (q0 := 4) (i := so σ (yj)) hx hb hE hP rfl (hi6 yj) (by decide) dX5_repost_78 ?_
              refine lv_imul hx hb dX5_repost_79 ?_
              refine tp_i (pk_mul _ _) ?_
              refine lv_iload_n hx hb dX5_repost_80 rfl (lv_at hl 2 rfl) ?_
              refine lv_iadd hx hb dX5_repost_81 ?_
              refine tp_i (nI_add _ _) ?_
              refine ra_z (q0 := 3) (i := 8 * (sa σ (so σ (yj))) + xj) hx hb hE hP rfl (by have := hi5 (so σ yj); omega) (by decide) dX5_repost_82 ?_
              refine br_eqB (tgt := 88) hx hb dX5_repost_83 (by decide) (fun h242 => ?_) (fun h242 => ?_)
              · refine lv_aload_n hx hb dX5_repost_88 rfl (lv_at hl 1 rfl) ?_
                refine lv_iload_n hx hb dX5_repost_89 rfl (lv_at hl 0 rfl) ?_
                refine wr_goS (rn_V ⟨hx, hb, hml, hown, hts⟩ (c_X5_isFine l g (σ := σ) (th := th) (x := 0) hM (by omega)) gX5_repost_X5_isFine rfl pX5_isFine ⟨Nat.le_of_ble_eq_true rfl, Nat.le_of_ble_eq_true rfl⟩ ⟨Nat.le_of_ble_eq_true rfl, Nat.le_of_ble_eq_true rfl⟩ hP hE rfl rfl rfl hl.1 rfl (Nat.le_of_ble_eq_true rfl) dX5_repost_90) hS (fun x h => h) (fun H1 locs1 hB hz hk hS => ?_)
                have hP : gP g (wM g am (σ) (0)) H1 := hB
                have hD : va_D (fun z => z ∈ mA am) (wM g am (σ) (0)) := wM_D hM
                clear hk hB hz
                generalize H1 = H at hP hS ⊢
                generalize locs1 = locs at hS ⊢
                refine tp_i (z := bI (true)) rfl ?_
                refine br_eqB (tgt := 110) hx hb dX5_repost_93 (by decide) (fun h243 => ?_) (fun h243 => ?_)
                · exact absurd h243 (by decide)
                · refine lv_aload_n hx hb dX5_repost_96 rfl (lv_at hl 1 rfl) ?_
                  refine lv_iload_n hx hb dX5_repost_97 rfl (lv_at hl 2 rfl) ?_
                  refine lv_aload_n hx hb dX5_repost_98 rfl (lv_at hl 1 rfl) ?_
                  refine gf (q0 := 0) (ci := 5) (k := 4) (v := .ref (am 5)) hx hb hts iX5_repost_5 hown hE hP rfl rfl (by decide) mX5_repost_23 rfl dX5_repost_99 ?_
                  refine lv_iload_n hx hb dX5_repost_102 rfl (lv_at hl 3 rfl) ?_
                  refine ra_i (q0 := 5) (i := yj) hx hb hE hP rfl (by omega) (by decide) dX5_repost_103 ?_
                  refine wr_goS (rn_V ⟨hx, hb, hml, hown, hts⟩ (c_X5_makes l g (σ := σ) (th := 0) (x := xj) (y := so σ (yj)) hI hM hlt (by omega) (by omega)) gX5_repost_X5_makes rfl pX5_makes ⟨Nat.le_of_ble_eq_true rfl, Nat.le_of_ble_eq_true rfl⟩ ⟨Nat.le_of_ble_eq_true rfl, Nat.le_of_ble_eq_true rfl⟩ hP hE rfl rfl rfl hl.1 rfl (Nat.le_of_ble_eq_true rfl) dX5_repost_104) hS (fun x h => h) (fun H1 locs1 hB hz hk hS => ?_)
                  have hP : gP g (wM g am (stl (uE (σ) (va_up (sa σ) (sn σ) (xj)) (va_up (so σ) (sn σ) (so σ (yj))) (sn σ + 1))) (0)) H1 := hB
                  have hD : va_D (fun z => z ∈ mA am) (wM g am (stl (uE (σ) (va_up (sa σ) (sn σ) (xj)) (va_up (so σ) (sn σ) (so σ (yj))) (sn σ + 1))) (0)) := wM_D hM
                  clear hk hB hz
                  generalize H1 = H at hP hS ⊢
                  generalize locs1 = locs at hS ⊢
                  refine lv_goto (tgt := 111) hx hb dX5_repost_107 (by decide) ?_
                  have he9 : eRep σ (nI xj) (nI yj) = 0 := (by simp [eRep, hpx, hix, hpy, hiy, hlt, h237, h240, h242])
                  have hnx : nRep σ (nI xj) (nI yj) = stl (uE (σ) (va_up (sa σ) (sn σ) (xj)) (va_up (so σ) (sn σ) (so σ (yj))) (sn σ + 1)) := (by unfold nRep; rw [hix, hiy])
                  exact wr_reti hx hb hr hlocks hS (by rw [he9]; show gP g (wM g am (nRep σ (nI xj) (nI yj)) 0) H; rw [hnx]; exact hP) (by rw [he9]; show _ = nI (sn σ); exact rfl) dX5_repost_111
              · refine lv_iconst (v := nI (2)) hx hb dX5_repost_86 (by decide) ?_
                refine lv_istore_n (lv' := [(3, .int (nI (2))), (0, .ref (am 0)), (1, .int (nI (xj))), (2, .int (nI (yj)))]) hx hb dX5_repost_87 rfl hl (by decide) rfl (fun ls hl => ?_)
                refine lv_aload_n hx hb dX5_repost_88 rfl (lv_at hl 1 rfl) ?_
                refine lv_iload_n hx hb dX5_repost_89 rfl (lv_at hl 0 rfl) ?_
                refine wr_goS (rn_V ⟨hx, hb, hml, hown, hts⟩ (c_X5_isFine l g (σ := σ) (th := th) (x := 2) hM (by omega)) gX5_repost_X5_isFine rfl pX5_isFine ⟨Nat.le_of_ble_eq_true rfl, Nat.le_of_ble_eq_true rfl⟩ ⟨Nat.le_of_ble_eq_true rfl, Nat.le_of_ble_eq_true rfl⟩ hP hE rfl rfl rfl hl.1 rfl (Nat.le_of_ble_eq_true rfl) dX5_repost_90) hS (fun x h => h) (fun H1 locs1 hB hz hk hS => ?_)
                have hP : gP g (wM g am (σ) (2)) H1 := hB
                have hD : va_D (fun z => z ∈ mA am) (wM g am (σ) (2)) := wM_D hM
                clear hk hB hz
                generalize H1 = H at hP hS ⊢
                generalize locs1 = locs at hS ⊢
                refine tp_i (z := bI (false)) rfl ?_
                refine br_eqB (tgt := 110) hx hb dX5_repost_93 (by decide) (fun h244 => ?_) (fun h244 => ?_)
                · refine lv_iconst (v := nI (0)) hx hb dX5_repost_110 (by decide) ?_
                  have he9 : eRep σ (nI xj) (nI yj) = 3 := (by simp [eRep, hpx, hix, hpy, hiy, hlt, h237, h240, h242])
                  exact wr_reti hx hb hr hlocks hS (by rw [he9]; exact hP) (by rw [he9]; rfl) dX5_repost_111
                · exact absurd h244 (by decide)
          · refine lv_iconst (v := nI (2)) hx hb dX5_repost_52 (by decide) ?_
            refine lv_goto (tgt := 57) hx hb dX5_repost_53 (by decide) ?_
            refine lv_istore_n (lv' := [(3, .int (nI (2))), (0, .ref (am 0)), (1, .int (nI (xj))), (2, .int (nI (yj)))]) hx hb dX5_repost_57 rfl hl (by decide) rfl (fun ls hl => ?_)
            refine lv_iload_n hx hb dX5_repost_58 rfl (lv_at hl 0 rfl) ?_
            refine br_ne0 (a := 2) (tgt := 88) hx hb (by decide) dX5_repost_59 (by decide) (fun h245 => ?_) (fun h245 => ?_)
            · refine lv_aload_n hx hb dX5_repost_88 rfl (lv_at hl 1 rfl) ?_
              refine lv_iload_n hx hb dX5_repost_89 rfl (lv_at hl 0 rfl) ?_
              refine wr_goS (rn_V ⟨hx, hb, hml, hown, hts⟩ (c_X5_isFine l g (σ := σ) (th := th) (x := 2) hM (by omega)) gX5_repost_X5_isFine rfl pX5_isFine ⟨Nat.le_of_ble_eq_true rfl, Nat.le_of_ble_eq_true rfl⟩ ⟨Nat.le_of_ble_eq_true rfl, Nat.le_of_ble_eq_true rfl⟩ hP hE rfl rfl rfl hl.1 rfl (Nat.le_of_ble_eq_true rfl) dX5_repost_90) hS (fun x h => h) (fun H1 locs1 hB hz hk hS => ?_)
              have hP : gP g (wM g am (σ) (2)) H1 := hB
              have hD : va_D (fun z => z ∈ mA am) (wM g am (σ) (2)) := wM_D hM
              clear hk hB hz
              generalize H1 = H at hP hS ⊢
              generalize locs1 = locs at hS ⊢
              refine tp_i (z := bI (false)) rfl ?_
              refine br_eqB (tgt := 110) hx hb dX5_repost_93 (by decide) (fun h246 => ?_) (fun h246 => ?_)
              · refine lv_iconst (v := nI (0)) hx hb dX5_repost_110 (by decide) ?_
                have he9 : eRep σ (nI xj) (nI yj) = 3 := (by simp [eRep, hpx, hix, hpy, hiy, hlt, h237, h240])
                exact wr_reti hx hb hr hlocks hS (by rw [he9]; exact hP) (by rw [he9]; rfl) dX5_repost_111
              · exact absurd h246 (by decide)
            · exact absurd h245 (by decide)
    · refine lv_iconst (v := nI (1)) hx hb dX5_repost_15 (by decide) ?_
      refine lv_goto (tgt := 57) hx hb dX5_repost_16 (by decide) ?_
      refine lv_istore_n (lv' := [(3, .int (nI (1))), (0, .ref (am 0)), (1, .int (nI (xj))), (2, .int (y))]) hx hb dX5_repost_57 rfl hl (by decide) rfl (fun ls hl => ?_)
      refine lv_iload_n hx hb dX5_repost_58 rfl (lv_at hl 0 rfl) ?_
      refine br_ne0 (a := 1) (tgt := 88) hx hb (by decide) dX5_repost_59 (by decide) (fun h247 => ?_) (fun h247 => ?_)
      · refine lv_aload_n hx hb dX5_repost_88 rfl (lv_at hl 1 rfl) ?_
        refine lv_iload_n hx hb dX5_repost_89 rfl (lv_at hl 0 rfl) ?_
        refine wr_goS (rn_V ⟨hx, hb, hml, hown, hts⟩ (c_X5_isFine l g (σ := σ) (th := th) (x := 1) hM (by omega)) gX5_repost_X5_isFine rfl pX5_isFine ⟨Nat.le_of_ble_eq_true rfl, Nat.le_of_ble_eq_true rfl⟩ ⟨Nat.le_of_ble_eq_true rfl, Nat.le_of_ble_eq_true rfl⟩ hP hE rfl rfl rfl hl.1 rfl (Nat.le_of_ble_eq_true rfl) dX5_repost_90) hS (fun x h => h) (fun H1 locs1 hB hz hk hS => ?_)
        have hP : gP g (wM g am (σ) (1)) H1 := hB
        have hD : va_D (fun z => z ∈ mA am) (wM g am (σ) (1)) := wM_D hM
        clear hk hB hz
        generalize H1 = H at hP hS ⊢
        generalize locs1 = locs at hS ⊢
        refine tp_i (z := bI (false)) rfl ?_
        refine br_eqB (tgt := 110) hx hb dX5_repost_93 (by decide) (fun h248 => ?_) (fun h248 => ?_)
        · refine lv_iconst (v := nI (0)) hx hb dX5_repost_110 (by decide) ?_
          have he9 : eRep σ (nI xj) y = 1 := (by simp [eRep, hpx, hix, h233])
          exact wr_reti hx hb hr hlocks hS (by rw [he9]; exact hP) (by rw [he9]; rfl) dX5_repost_111
        · exact absurd h248 (by decide)
      · exact absurd h247 (by decide)
theorem mX5_delete_23 : Cond.fieldLink RX5 23 "FollowrowModel" "origin" "[I" ∈ wsX5_delete := by decide +kernel
theorem mX5_delete_26 : Cond.fieldLink RX5 26 "FollowrowModel" "isGone" "[Z" ∈ wsX5_delete := by decide +kernel
theorem mX5_delete_46 : Cond.fieldLink RX5 46 "FollowrowModel" "entries" "I" ∈ wsX5_delete := by decide +kernel
theorem iX5_delete_5 : ∀ w ∈ wsX50, w ∈ wsX5_delete := by decide +kernel
set_option maxHeartbeats 4000000 in
set_option maxRecDepth 100000 in
/-- delete(x) -/
theorem c_X5_delete (l : Launch) (g : GT) {am : Nat → Nat} {σ : St} {th : Nat} (hI : Inv σ) (hM : FN am 8) {x : Int32} : wrM l g yX5_delete wsX5_delete 5 112 [.ref (am 0), .int (x)] (wM g am (σ) (th)) (some (.int (oI (eDel σ x) (nI (rDel σ x))))) (fun H1 => gP g (wM g am (oS (eDel σ x) (nDel σ x) σ) (pl2 (eDel σ x))) H1) (mA am) := by
  refine wr_of (cc := cX5_delete) (maxL := 4) (ret := (some .int)) (by decide) rfl (Nat.le_of_ble_eq_true rfl) (fun p e s m below meth c ls hx hb hr hml hts hown hlocks hl hP hE hS => ?_)
  have hl : lv_has ls 4 [(0, .ref (am 0)), (1, .int (x))] := hl
  have hown : s.vm.findClass RX5 = some m.cls := hown
  obtain ⟨hi1, hi2, hi3, hi4, hi5, hi6, hi7, hi8⟩ := id hI
  have hD : va_D (fun z => z ∈ mA am) (wM g am σ th) := wM_D hM
  refine lv_aload_n hx hb dX5_delete_0 rfl (lv_at hl 0 rfl) ?_
  refine lv_aload_n hx hb dX5_delete_1 rfl (lv_at hl 0 rfl) ?_
  refine lv_iload_n hx hb dX5_delete_2 rfl (lv_at hl 1 rfl) ?_
  refine rd_goS (rn_V ⟨hx, hb, hml, hown, hts⟩ (c_X5_isEntry l g hI (x := x)) gX5_delete_X5_isEntry rfl pX5_isEntry ⟨Nat.le_of_ble_eq_true rfl, Nat.le_of_ble_eq_true rfl⟩ ⟨Nat.le_of_ble_eq_true rfl, Nat.le_of_ble_eq_true rfl⟩ (hP) hE rfl rfl rfl hl.1 rfl (Nat.le_of_ble_eq_true rfl) dX5_delete_3) ?_
  refine br_neB (tgt := 13) hx hb dX5_delete_6 (by decide) (fun h249 => ?_) (fun h249 => ?_)
  · obtain ⟨xj, hjx, rfl, hix⟩ := isB_of h249 (by omega)
    have hpx : isB (nI xj) (sn σ) = true := h249
    refine lv_aload_n hx hb dX5_delete_13 rfl (lv_at hl 0 rfl) ?_
    refine gf (q0 := 0) (ci := 5) (k := 5) (v := .ref (am 6)) hx hb hts iX5_delete_5 hown hE hP rfl rfl (by decide) mX5_delete_26 rfl dX5_delete_14 ?_
    refine lv_iload_n hx hb dX5_delete_17 rfl (lv_at hl 1 rfl) ?_
    refine ra_z (q0 := 6) (i := xj) hx hb hE hP rfl (by omega) (by decide) dX5_delete_18 ?_
    refine br_eqB (tgt := 26) hx hb dX5_delete_19 (by decide) (fun h250 => ?_) (fun h250 => ?_)
    · refine lv_iconst (v := nI (0)) hx hb dX5_delete_26 (by decide) ?_
      refine wr_goS (rn_V ⟨hx, hb, hml, hown, hts⟩ (c_X5_isFine l g (σ := σ) (th := th) (x := 0) hM (by omega)) gX5_delete_X5_isFine rfl pX5_isFine ⟨Nat.le_of_ble_eq_true rfl, Nat.le_of_ble_eq_true rfl⟩ ⟨Nat.le_of_ble_eq_true rfl, Nat.le_of_ble_eq_true rfl⟩ hP hE rfl rfl rfl hl.1 rfl (Nat.le_of_ble_eq_true rfl) dX5_delete_27) hS (fun x h => h) (fun H1 locs1 hB hz hk hS => ?_)
      have hP : gP g (wM g am (σ) (0)) H1 := hB
      have hD : va_D (fun z => z ∈ mA am) (wM g am (σ) (0)) := wM_D hM
      clear hk hB hz
      generalize H1 = H at hP hS ⊢
      generalize locs1 = locs at hS ⊢
      refine tp_i (z := bI (true)) rfl ?_
      refine br_neB (tgt := 35) hx hb dX5_delete_30 (by decide) (fun h251 => ?_) (fun h251 => ?_)
      · refine lv_aload_n hx hb dX5_delete_35 rfl (lv_at hl 0 rfl) ?_
        refine gf (q0 := 0) (ci := 5) (k := 5) (v := .ref (am 6)) hx hb hts iX5_delete_5 hown hE hP rfl rfl (by decide) mX5_delete_26 rfl dX5_delete_36 ?_
        refine lv_iload_n hx hb dX5_delete_39 rfl (lv_at hl 1 rfl) ?_
        refine lv_iconst (v := bI (true)) hx hb dX5_delete_40 (by decide) ?_
        refine wa_z (q0 := 6) (i := xj) (b := true) (ws' := wM g am (uD (σ) (va_up (sd σ) (xj) (true))) (0)) hx hb hE hP hD hS rfl rfl (by omega) (by decide) dX5_delete_41 (fun H locs hP hD hS => ?_)
        refine lv_iconst (v := nI (0)) hx hb dX5_delete_42 (by decide) ?_
        refine lv_istore_n (lv' := [(2, .int (nI (0))), (0, .ref (am 0)), (1, .int (nI (xj)))]) hx hb dX5_delete_43 rfl hl (by decide) rfl (fun ls hl => ?_)
        refine lv_iconst (v := nI (0)) hx hb dX5_delete_44 (by decide) ?_
        refine lv_istore_n (lv' := [(3, .int (nI (0))), (2, .int (nI (0))), (0, .ref (am 0)), (1, .int (nI (xj)))]) hx hb dX5_delete_45 rfl hl (by decide) rfl (fun ls hl => ?_)
        have lp252 : ∀ (n9 i : Nat), sn σ - i < n9 → (i ≤ sn σ) → ∀ (H : Heap) (locs : List Loc), gP g (wM g am (uD (σ) (va_up (sd σ) (xj) true)) (0)) H → va_D (fun q => q ∈ (mA am)) (wM g am (uD (σ) (va_up (sd σ) (xj) true)) (0)) → va_S (fun q => q ∈ (mA am)) s.heap H locs → ∀ ls : Array Slot, lv_has ls 4 [(0, .ref (am 0)), (1, .int (nI (xj))), (2, .int (nI (cN (fun k => decide (so σ k = xj) && !va_up (sd σ) xj true k) i))), (3, .int (nI (i)))] → W p l e ({ frames := 5, cells := 0, slots := 0, locals := 112 } : Room) s m ([.ref (am 0), .int ((nI xj))] : List Value).toArray below meth c H locs 0 0 (MQ below (wrQ (some (.int (oI (eDel σ (nI xj)) (nI (rDel σ (nI xj)))))) (fun H1 => gP g (wM g am (oS (eDel σ (nI xj)) (nDel σ (nI xj)) σ) (pl2 (eDel σ (nI xj)))) H1) (mA am)) ([.ref (am 0), .int ((nI xj))] : List Value).toArray s 0 0 (fun q => q ∈ (mA am))) (F0 m 46 ls []) := by
          intro n9
          induction n9 with
          | zero => intro i h; omega
          | succ n9 ihlp252 =>
            intro i h9 hi H locs hP hD hS ls hl
            refine lv_iload_n hx hb dX5_delete_46 rfl (lv_at hl 3 rfl) ?_
            refine lv_aload_n hx hb dX5_delete_47 rfl (lv_at hl 0 rfl) ?_
            refine gf (q0 := 0) (ci := 5) (k := 6) (v := .int (nI (sn (uD (σ) (va_up (sd σ) (xj) true))))) hx hb hts iX5_delete_5 hown hE hP rfl rfl (by decide) mX5_delete_46 rfl dX5_delete_48 ?_
            refine br_geN (a := i) (b := sn (uD (σ) (va_up (sd σ) (xj) true))) (tgt := 87) hx hb (by omega) (by show sn σ < 2 ^ 31; omega) dX5_delete_51 (by decide) (fun h253 => ?_) (fun h253 => ?_)
            · have h26 : sn σ ≤ i := h253
              refine lv_aload_n hx hb dX5_delete_87 rfl (lv_at hl 0 rfl) ?_
              refine wr_goN (rn_V ⟨hx, hb, hml, hown, hts⟩ (c_X5_cuts l g (σ := uD (σ) (va_up (sd σ) (xj) true)) (th := 0) hM (Inv_uD hI _)) gX5_delete_X5_cuts rfl pX5_cuts ⟨Nat.le_of_ble_eq_true rfl, Nat.le_of_ble_eq_true rfl⟩ ⟨Nat.le_of_ble_eq_true rfl, Nat.le_of_ble_eq_true rfl⟩ hP hE rfl rfl rfl hl.1 rfl (Nat.le_of_ble_eq_true rfl) dX5_delete_88) hS (fun x h => h) (fun H1 locs1 hB hz hk hS => ?_)
              have hP : gP g (wM g am (stl (uD (σ) (va_up (sd σ) (xj) true))) (0)) H1 := hB
              have hD : va_D (fun z => z ∈ mA am) (wM g am (stl (uD (σ) (va_up (sd σ) (xj) true))) (0)) := wM_D hM
              clear hk hB hz
              generalize H1 = H at hP hS ⊢
              generalize locs1 = locs at hS ⊢
              refine lv_iload_n hx hb dX5_delete_91 rfl (lv_at hl 2 rfl) ?_
              have he9 : eDel σ (nI xj) = 0 := (by simp [eDel, hpx, hix, h250])
              have hnx : nDel σ (nI xj) = stl (uD (σ) (va_up (sd σ) (xj) true)) := (by unfold nDel; rw [hix])
              exact wr_reti hx hb hr hlocks hS (by rw [he9]; show gP g (wM g am (nDel σ (nI xj)) 0) H; rw [hnx]; exact hP) (by rw [he9]; show _ = nI (rDel σ (nI xj)); exact (by unfold rDel; rw [hix, show i = sn σ by omega])) dX5_delete_92
            · have h26 : i < sn σ := h253
              refine lv_iload_n hx hb dX5_delete_54 rfl (lv_at hl 2 rfl) ?_
              refine lv_aload_n hx hb dX5_delete_55 rfl (lv_at hl 0 rfl) ?_
              refine gf (q0 := 0) (ci := 5) (k := 4) (v := .ref (am 5)) hx hb hts iX5_delete_5 hown hE hP rfl rfl (by decide) mX5_delete_23 rfl dX5_delete_56 ?_
              refine lv_iload_n hx hb dX5_delete_59 rfl (lv_at hl 3 rfl) ?_
              refine ra_i (q0 := 5) (i := i) hx hb hE hP rfl (by omega) (by decide) dX5_delete_60 ?_
              refine lv_iload_n hx hb dX5_delete_61 rfl (lv_at hl 1 rfl) ?_
              refine br_neN (a := (so (uD (σ) (va_up (sd σ) (xj) true))) (i)) (b := xj) (tgt := 78) hx hb (by have := hi6 i; show so σ i < 2 ^ 31; omega) (by omega) dX5_delete_62 (by decide) (fun h254 => ?_) (fun h254 => ?_)
              · refine lv_iconst (v := nI (0)) hx hb dX5_delete_78 (by decide) ?_
                refine lv_iadd hx hb dX5_delete_79 ?_
                refine tp_i (nI_add _ _) ?_
                refine lv_istore_n (lv' := [(2, .int (nI (cN (fun k => decide (so σ k = xj) && !va_up (sd σ) xj true k) i + 0))), (0, .ref (am 0)), (1, .int (nI (xj))), (3, .int (nI (i)))]) hx hb dX5_delete_80 rfl hl (by decide) rfl (fun ls hl => ?_)
                refine lv_iinc (v := nI (i + 1)) (lv' := [(3, .int (nI (i + 1))), (2, .int (nI (cN (fun k => decide (so σ k = xj) && !va_up (sd σ) xj true k) i + 0))), (0, .ref (am 0)), (1, .int (nI (xj)))]) hx hb dX5_delete_81 hl (k := 3) rfl (inc1 (i)) (by decide) rfl (fun ls hl => ?_)
                refine lv_goto (tgt := 46) hx hb dX5_delete_84 (by decide) ?_
                rw [← cN_f (P := fun k => decide (so σ k = xj) && !va_up (sd σ) xj true k) (k := i) (by have z1 : ¬ so σ i = xj := h254; simp [z1])] at hl
                exact ihlp252 (i + 1) (by omega) (by omega) H locs hP hD hS ls (lv_sub hl [2, 3, 1, 0] rfl)
              · refine lv_aload_n hx hb dX5_delete_65 rfl (lv_at hl 0 rfl) ?_
                refine gf (q0 := 0) (ci := 5) (k := 5) (v := .ref (am 6)) hx hb hts iX5_delete_5 hown hE hP rfl rfl (by decide) mX5_delete_26 rfl dX5_delete_66 ?_
                refine lv_iload_n hx hb dX5_delete_69 rfl (lv_at hl 3 rfl) ?_
                refine ra_z (q0 := 6) (i := i) hx hb hE hP rfl (by omega) (by decide) dX5_delete_70 ?_
                refine br_neB (tgt := 78) hx hb dX5_delete_71 (by decide) (fun h255 => ?_) (fun h255 => ?_)
                · refine lv_iconst (v := nI (0)) hx hb dX5_delete_78 (by decide) ?_
                  refine lv_iadd hx hb dX5_delete_79 ?_
                  refine tp_i (nI_add _ _) ?_
                  refine lv_istore_n (lv' := [(2, .int (nI (cN (fun k => decide (so σ k = xj) && !va_up (sd σ) xj true k) i + 0))), (0, .ref (am 0)), (1, .int (nI (xj))), (3, .int (nI (i)))]) hx hb dX5_delete_80 rfl hl (by decide) rfl (fun ls hl => ?_)
                  refine lv_iinc (v := nI (i + 1)) (lv' := [(3, .int (nI (i + 1))), (2, .int (nI (cN (fun k => decide (so σ k = xj) && !va_up (sd σ) xj true k) i + 0))), (0, .ref (am 0)), (1, .int (nI (xj)))]) hx hb dX5_delete_81 hl (k := 3) rfl (inc1 (i)) (by decide) rfl (fun ls hl => ?_)
                  refine lv_goto (tgt := 46) hx hb dX5_delete_84 (by decide) ?_
                  rw [← cN_f (P := fun k => decide (so σ k = xj) && !va_up (sd σ) xj true k) (k := i) (by have z2 : va_up (sd σ) xj true i = true := h255; simp [z2])] at hl
                  exact ihlp252 (i + 1) (by omega) (by omega) H locs hP hD hS ls (lv_sub hl [2, 3, 1, 0] rfl)
                · refine lv_iconst (v := nI (1)) hx hb dX5_delete_74 (by decide) ?_
                  refine lv_goto (tgt := 79) hx hb dX5_delete_75 (by decide) ?_
                  refine lv_iadd hx hb dX5_delete_79 ?_
                  refine tp_i (nI_add _ _) ?_
                  refine lv_istore_n (lv' := [(2, .int (nI (cN (fun k => decide (so σ k = xj) && !va_up (sd σ) xj true k) i + 1))), (0, .ref (am 0)), (1, .int (nI (xj))), (3, .int (nI (i)))]) hx hb dX5_delete_80 rfl hl (by decide) rfl (fun ls hl => ?_)
                  refine lv_iinc (v := nI (i + 1)) (lv' := [(3, .int (nI (i + 1))), (2, .int (nI (cN (fun k => decide (so σ k = xj) && !va_up (sd σ) xj true k) i + 1))), (0, .ref (am 0)), (1, .int (nI (xj)))]) hx hb dX5_delete_81 hl (k := 3) rfl (inc1 (i)) (by decide) rfl (fun ls hl => ?_)
                  refine lv_goto (tgt := 46) hx hb dX5_delete_84 (by decide) ?_
                  rw [← cN_t (P := fun k => decide (so σ k = xj) && !va_up (sd σ) xj true k) (k := i) (by have z1 : so σ i = xj := h254; have z2 : va_up (sd σ) xj true i = false := h255; simp [z1, z2])] at hl
                  exact ihlp252 (i + 1) (by omega) (by omega) H locs hP hD hS ls (lv_sub hl [2, 3, 1, 0] rfl)
        exact lp252 (sn σ + 1) (0) (by omega) (by omega) _ _ hP hD hS ls (lv_sub hl [2, 3, 1, 0] rfl)
      · exact absurd h251 (by decide)
    · refine lv_iconst (v := nI (2)) hx hb dX5_delete_22 (by decide) ?_
      refine lv_goto (tgt := 27) hx hb dX5_delete_23 (by decide) ?_
      refine wr_goS (rn_V ⟨hx, hb, hml, hown, hts⟩ (c_X5_isFine l g (σ := σ) (th := th) (x := 2) hM (by omega)) gX5_delete_X5_isFine rfl pX5_isFine ⟨Nat.le_of_ble_eq_true rfl, Nat.le_of_ble_eq_true rfl⟩ ⟨Nat.le_of_ble_eq_true rfl, Nat.le_of_ble_eq_true rfl⟩ hP hE rfl rfl rfl hl.1 rfl (Nat.le_of_ble_eq_true rfl) dX5_delete_27) hS (fun x h => h) (fun H1 locs1 hB hz hk hS => ?_)
      have hP : gP g (wM g am (σ) (2)) H1 := hB
      have hD : va_D (fun z => z ∈ mA am) (wM g am (σ) (2)) := wM_D hM
      clear hk hB hz
      generalize H1 = H at hP hS ⊢
      generalize locs1 = locs at hS ⊢
      refine tp_i (z := bI (false)) rfl ?_
      refine br_neB (tgt := 35) hx hb dX5_delete_30 (by decide) (fun h256 => ?_) (fun h256 => ?_)
      · exact absurd h256 (by decide)
      · refine lv_iconst (v := nI (0)) hx hb dX5_delete_33 (by decide) ?_
        have he9 : eDel σ (nI xj) = 3 := (by simp [eDel, hpx, hix, h250])
        exact wr_reti hx hb hr hlocks hS (by rw [he9]; exact hP) (by rw [he9]; rfl) dX5_delete_34
  · refine lv_iconst (v := nI (1)) hx hb dX5_delete_9 (by decide) ?_
    refine lv_goto (tgt := 27) hx hb dX5_delete_10 (by decide) ?_
    refine wr_goS (rn_V ⟨hx, hb, hml, hown, hts⟩ (c_X5_isFine l g (σ := σ) (th := th) (x := 1) hM (by omega)) gX5_delete_X5_isFine rfl pX5_isFine ⟨Nat.le_of_ble_eq_true rfl, Nat.le_of_ble_eq_true rfl⟩ ⟨Nat.le_of_ble_eq_true rfl, Nat.le_of_ble_eq_true rfl⟩ hP hE rfl rfl rfl hl.1 rfl (Nat.le_of_ble_eq_true rfl) dX5_delete_27) hS (fun x h => h) (fun H1 locs1 hB hz hk hS => ?_)
    have hP : gP g (wM g am (σ) (1)) H1 := hB
    have hD : va_D (fun z => z ∈ mA am) (wM g am (σ) (1)) := wM_D hM
    clear hk hB hz
    generalize H1 = H at hP hS ⊢
    generalize locs1 = locs at hS ⊢
    refine tp_i (z := bI (false)) rfl ?_
    refine br_neB (tgt := 35) hx hb dX5_delete_30 (by decide) (fun h257 => ?_) (fun h257 => ?_)
    · exact absurd h257 (by decide)
    · refine lv_iconst (v := nI (0)) hx hb dX5_delete_33 (by decide) ?_
      have he9 : eDel σ x = 1 := (by simp [eDel, h249])
      exact wr_reti hx hb hr hlocks hS (by rw [he9]; exact hP) (by rw [he9]; rfl) dX5_delete_34
theorem mX5_setMark_29 : Cond.fieldLink RX5 29 "FollowrowModel" "mark" "I" ∈ wsX5_setMark := by decide +kernel
theorem iX5_setMark_5 : ∀ w ∈ wsX50, w ∈ wsX5_setMark := by decide +kernel
set_option maxHeartbeats 4000000 in
set_option maxRecDepth 100000 in
/-- setMark(x) -/
theorem c_X5_setMark (l : Launch) (g : GT) {am : Nat → Nat} {σ : St} {th : Nat} (hI : Inv σ) (hM : FN am 8) {x : Int32} : wrM l g yX5_setMark wsX5_setMark 5 112 [.ref (am 0), .int (x)] (wM g am (σ) (th)) (some (.int (oI (eR 0 8 x) (nI (rMrk σ x))))) (fun H1 => gP g (wM g am (oS (eR 0 8 x) (nMrk σ x) σ) (pl1 (eR 0 8 x))) H1) (mA am) := by
  refine wr_of (cc := cX5_setMark) (maxL := 4) (ret := (some .int)) (by decide) rfl (Nat.le_of_ble_eq_true rfl) (fun p e s m below meth c ls hx hb hr hml hts hown hlocks hl hP hE hS => ?_)
  have hl : lv_has ls 4 [(0, .ref (am 0)), (1, .int (x))] := hl
  have hown : s.vm.findClass RX5 = some m.cls := hown
  obtain ⟨hi1, hi2, hi3, hi4, hi5, hi6, hi7, hi8⟩ := id hI
  have hD : va_D (fun z => z ∈ mA am) (wM g am σ th) := wM_D hM
  refine lv_aload_n hx hb dX5_setMark_0 rfl (lv_at hl 0 rfl) ?_
  refine lv_iload_n hx hb dX5_setMark_1 rfl (lv_at hl 1 rfl) ?_
  refine lv_iconst (v := nI (0)) hx hb dX5_setMark_2 (by decide) ?_
  refine lv_bipush (v := nI (8)) hx hb dX5_setMark_3 (by decide) ?_
  refine rd_goS (rn_S ⟨hx, hb, hml, hown, hts⟩ (c_X5_in l g (x := x) (lo := nI (0)) (hi := nI (8))) gX5_setMark_X5_in rfl qX5_in ⟨Nat.le_of_ble_eq_true rfl, Nat.le_of_ble_eq_true rfl⟩ ⟨Nat.le_of_ble_eq_true rfl, Nat.le_of_ble_eq_true rfl⟩ (gP_nil) hE rfl hl.1 rfl (Nat.le_of_ble_eq_true rfl) dX5_setMark_5) ?_
  refine br_eqB (tgt := 15) hx hb dX5_setMark_8 (by decide) (fun h258 => ?_) (fun h258 => ?_)
  · refine lv_iconst (v := nI (1)) hx hb dX5_setMark_15 (by decide) ?_
    refine wr_goS (rn_V ⟨hx, hb, hml, hown, hts⟩ (c_X5_isFine l g (σ := σ) (th := th) (x := 1) hM (by omega)) gX5_setMark_X5_isFine rfl pX5_isFine ⟨Nat.le_of_ble_eq_true rfl, Nat.le_of_ble_eq_true rfl⟩ ⟨Nat.le_of_ble_eq_true rfl, Nat.le_of_ble_eq_true rfl⟩ hP hE rfl rfl rfl hl.1 rfl (Nat.le_of_ble_eq_true rfl) dX5_setMark_16) hS (fun x h => h) (fun H1 locs1 hB hz hk hS => ?_)
    have hP : gP g (wM g am (σ) (1)) H1 := hB
    have hD : va_D (fun z => z ∈ mA am) (wM g am (σ) (1)) := wM_D hM
    clear hk hB hz
    generalize H1 = H at hP hS ⊢
    generalize locs1 = locs at hS ⊢
    refine tp_i (z := bI (false)) rfl ?_
    refine br_neB (tgt := 24) hx hb dX5_setMark_19 (by decide) (fun h259 => ?_) (fun h259 => ?_)
    · exact absurd h259 (by decide)
    · refine lv_iconst (v := nI (0)) hx hb dX5_setMark_22 (by decide) ?_
      have he9 : eR 0 8 x = 2 := (by simp [eR_inB, h258])
      exact wr_reti hx hb hr hlocks hS (by rw [he9]; exact hP) (by rw [he9]; rfl) dX5_setMark_23
  · obtain ⟨xj, hlx, hhx, rfl, hix⟩ := eR_0 (lo := 0) (hi := 8) (by decide) (by decide) (by rw [eR_inB, if_pos h258])
    refine lv_iconst (v := nI (0)) hx hb dX5_setMark_11 (by decide) ?_
    refine lv_goto (tgt := 16) hx hb dX5_setMark_12 (by decide) ?_
    refine wr_goS (rn_V ⟨hx, hb, hml, hown, hts⟩ (c_X5_isFine l g (σ := σ) (th := th) (x := 0) hM (by omega)) gX5_setMark_X5_isFine rfl pX5_isFine ⟨Nat.le_of_ble_eq_true rfl, Nat.le_of_ble_eq_true rfl⟩ ⟨Nat.le_of_ble_eq_true rfl, Nat.le_of_ble_eq_true rfl⟩ hP hE rfl rfl rfl hl.1 rfl (Nat.le_of_ble_eq_true rfl) dX5_setMark_16) hS (fun x h => h) (fun H1 locs1 hB hz hk hS => ?_)
    have hP : gP g (wM g am (σ) (0)) H1 := hB
    have hD : va_D (fun z => z ∈ mA am) (wM g am (σ) (0)) := wM_D hM
    clear hk hB hz
    generalize H1 = H at hP hS ⊢
    generalize locs1 = locs at hS ⊢
    refine tp_i (z := bI (true)) rfl ?_
    refine br_neB (tgt := 24) hx hb dX5_setMark_19 (by decide) (fun h260 => ?_) (fun h260 => ?_)
    · refine lv_aload_n hx hb dX5_setMark_24 rfl (lv_at hl 0 rfl) ?_
      refine lv_iload_n hx hb dX5_setMark_25 rfl (lv_at hl 1 rfl) ?_
      refine pf (q0 := 0) (ci := 5) (k := 7) (ws' := wM g am (uK (σ) (xj)) (0)) hx hb hts iX5_setMark_5 hown hE hP hD hS rfl rfl (by decide) tyX5_ok nmX5 mX5_setMark_29 rfl (by decide +kernel) (Nat.le_of_ble_eq_true rfl) rfl dX5_setMark_26 (fun H locs hP hD hS => ?_)
      have hI9 : Inv (uK σ xj) := Inv_uK hI (by omega)
      refine lv_aload_n hx hb dX5_setMark_29 rfl (lv_at hl 0 rfl) ?_
      refine wr_goN (rn_V ⟨hx, hb, hml, hown, hts⟩ (c_X5_cuts l g (σ := uK (σ) (xj)) (th := 0) hM hI9) gX5_setMark_X5_cuts rfl pX5_cuts ⟨Nat.le_of_ble_eq_true rfl, Nat.le_of_ble_eq_true rfl⟩ ⟨Nat.le_of_ble_eq_true rfl, Nat.le_of_ble_eq_true rfl⟩ hP hE rfl rfl rfl hl.1 rfl (Nat.le_of_ble_eq_true rfl) dX5_setMark_30) hS (fun x h => h) (fun H1 locs1 hB hz hk hS => ?_)
      have hP : gP g (wM g am (stl (uK (σ) (xj))) (0)) H1 := hB
      have hD : va_D (fun z => z ∈ mA am) (wM g am (stl (uK (σ) (xj))) (0)) := wM_D hM
      clear hk hB hz
      generalize H1 = H at hP hS ⊢
      generalize locs1 = locs at hS ⊢
      have hI8 : Inv (stl (uK σ xj)) := Inv_stl hI9
      refine lv_iconst (v := nI (0)) hx hb dX5_setMark_33 (by decide) ?_
      refine lv_istore_n (lv' := [(2, .int (nI (0))), (0, .ref (am 0)), (1, .int (nI (xj)))]) hx hb dX5_setMark_34 rfl hl (by decide) rfl (fun ls hl => ?_)
      refine lv_iconst (v := nI (0)) hx hb dX5_setMark_35 (by decide) ?_
      refine lv_istore_n (lv' := [(3, .int (nI (0))), (2, .int (nI (0))), (0, .ref (am 0)), (1, .int (nI (xj)))]) hx hb dX5_setMark_36 rfl hl (by decide) rfl (fun ls hl => ?_)
      have lp261 : ∀ (n9 i : Nat), 8 - i < n9 → (i ≤ 8) → ∀ (H : Heap) (locs : List Loc), gP g (wM g am (stl (uK (σ) (xj))) (0)) H → va_D (fun q => q ∈ (mA am)) (wM g am (stl (uK (σ) (xj))) (0)) → va_S (fun q => q ∈ (mA am)) s.heap H locs → ∀ ls : Array Slot, lv_has ls 4 [(0, .ref (am 0)), (1, .int (nI (xj))), (2, .int (nI (cN (lg (stl (uK σ xj))) i))), (3, .int (nI (i)))] → W p l e ({ frames := 5, cells := 0, slots := 0, locals := 112 } : Room) s m ([.ref (am 0), .int ((nI xj))] : List Value).toArray below meth c H locs 0 0 (MQ below (wrQ (some (.int (oI (eR 0 8 (nI xj)) (nI (rMrk σ (nI xj)))))) (fun H1 => gP g (wM g am (oS (eR 0 8 (nI xj)) (nMrk σ (nI xj)) σ) (pl1 (eR 0 8 (nI xj)))) H1) (mA am)) ([.ref (am 0), .int ((nI xj))] : List Value).toArray s 0 0 (fun q => q ∈ (mA am))) (F0 m 37 ls []) := by
        intro n9
        induction n9 with
        | zero => intro i h; omega
        | succ n9 ihlp261 =>
          intro i h9 hi H locs hP hD hS ls hl
          refine lv_iload_n hx hb dX5_setMark_37 rfl (lv_at hl 3 rfl) ?_
          refine lv_bipush (v := nI (8)) hx hb dX5_setMark_38 (by decide) ?_
          refine br_geN (a := i) (b := 8) (tgt := 65) hx hb (by omega) (by omega) dX5_setMark_40 (by decide) (fun h262 => ?_) (fun h262 => ?_)
          · refine lv_iload_n hx hb dX5_setMark_65 rfl (lv_at hl 2 rfl) ?_
            have he9 : eR 0 8 (nI xj) = 0 := (by simp [eR_inB, h258, hix])
            have hnx : nMrk σ (nI xj) = stl (uK (σ) (xj)) := (by unfold nMrk; rw [hix])
            exact wr_reti hx hb hr hlocks hS (by rw [he9]; show gP g (wM g am (nMrk σ (nI xj)) 0) H; rw [hnx]; exact hP) (by rw [he9]; show _ = nI (rMrk σ (nI xj)); exact (by unfold rMrk; rw [hix, show i = 8 by omega]; rfl)) dX5_setMark_66
          · refine lv_iload_n hx hb dX5_setMark_43 rfl (lv_at hl 2 rfl) ?_
            refine lv_aload_n hx hb dX5_setMark_44 rfl (lv_at hl 0 rfl) ?_
            refine lv_iload_n hx hb dX5_setMark_45 rfl (lv_at hl 3 rfl) ?_
            refine rd_goS (rn_V ⟨hx, hb, hml, hown, hts⟩ (c_X5_large l g (σ := stl (uK (σ) (xj))) (th := 0) hI8 (y := i) (by first | omega | exact hi5 _)) gX5_setMark_X5_large rfl pX5_large ⟨Nat.le_of_ble_eq_true rfl, Nat.le_of_ble_eq_true rfl⟩ ⟨Nat.le_of_ble_eq_true rfl, Nat.le_of_ble_eq_true rfl⟩ (hP) hE rfl rfl rfl hl.1 rfl (Nat.le_of_ble_eq_true rfl) dX5_setMark_46) ?_
            refine br_eqB (tgt := 56) hx hb dX5_setMark_49 (by decide) (fun h263 => ?_) (fun h263 => ?_)
            · refine lv_iconst (v := nI (0)) hx hb dX5_setMark_56 (by decide) ?_
              refine lv_iadd hx hb dX5_setMark_57 ?_
              refine tp_i (nI_add _ _) ?_
              refine lv_istore_n (lv' := [(2, .int (nI (cN (lg (stl (uK σ xj))) i + 0))), (0, .ref (am 0)), (1, .int (nI (xj))), (3, .int (nI (i)))]) hx hb dX5_setMark_58 rfl hl (by decide) rfl (fun ls hl => ?_)
              refine lv_iinc (v := nI (i + 1)) (lv' := [(3, .int (nI (i + 1))), (2, .int (nI (cN (lg (stl (uK σ xj))) i + 0))), (0, .ref (am 0)), (1, .int (nI (xj)))]) hx hb dX5_setMark_59 hl (k := 3) rfl (inc1 (i)) (by decide) rfl (fun ls hl => ?_)
              refine lv_goto (tgt := 37) hx hb dX5_setMark_62 (by decide) ?_
              rw [← cN_f (P := lg (stl (uK σ xj))) (k := i) h263] at hl
              exact ihlp261 (i + 1) (by omega) (by omega) H locs hP hD hS ls (lv_sub hl [2, 3, 1, 0] rfl)
            · refine lv_iconst (v := nI (1)) hx hb dX5_setMark_52 (by decide) ?_
              refine lv_goto (tgt := 57) hx hb dX5_setMark_53 (by decide) ?_
              refine lv_iadd hx hb dX5_setMark_57 ?_
              refine tp_i (nI_add _ _) ?_
              refine lv_istore_n (lv' := [(2, .int (nI (cN (lg (stl (uK σ xj))) i + 1))), (0, .ref (am 0)), (1, .int (nI (xj))), (3, .int (nI (i)))]) hx hb dX5_setMark_58 rfl hl (by decide) rfl (fun ls hl => ?_)
              refine lv_iinc (v := nI (i + 1)) (lv' := [(3, .int (nI (i + 1))), (2, .int (nI (cN (lg (stl (uK σ xj))) i + 1))), (0, .ref (am 0)), (1, .int (nI (xj)))]) hx hb dX5_setMark_59 hl (k := 3) rfl (inc1 (i)) (by decide) rfl (fun ls hl => ?_)
              refine lv_goto (tgt := 37) hx hb dX5_setMark_62 (by decide) ?_
              rw [← cN_t (P := lg (stl (uK σ xj))) (k := i) h263] at hl
              exact ihlp261 (i + 1) (by omega) (by omega) H locs hP hD hS ls (lv_sub hl [2, 3, 1, 0] rfl)
      exact lp261 (8 + 1) (0) (by omega) (by omega) _ _ hP hD hS ls (lv_sub hl [2, 3, 1, 0] rfl)
    · exact absurd h260 (by decide)
theorem mX5_setRoom_33 : Cond.fieldLink RX5 33 "FollowrowModel" "room" "I" ∈ wsX5_setRoom := by decide +kernel
theorem iX5_setRoom_5 : ∀ w ∈ wsX50, w ∈ wsX5_setRoom := by decide +kernel
set_option maxHeartbeats 4000000 in
set_option maxRecDepth 100000 in
/-- setRoom(x) -/
theorem c_X5_setRoom (l : Launch) (g : GT) {am : Nat → Nat} {σ : St} {th : Nat} (hI : Inv σ) (hM : FN am 8) {x : Int32} : wrM l g yX5_setRoom wsX5_setRoom 5 112 [.ref (am 0), .int (x)] (wM g am (σ) (th)) (some (.int (oI (eR 1 40 x) (nI (sr σ))))) (fun H1 => gP g (wM g am (oS (eR 1 40 x) (nRom σ x) σ) (pl1 (eR 1 40 x))) H1) (mA am) := by
  refine wr_of (cc := cX5_setRoom) (maxL := 3) (ret := (some .int)) (by decide) rfl (Nat.le_of_ble_eq_true rfl) (fun p e s m below meth c ls hx hb hr hml hts hown hlocks hl hP hE hS => ?_)
  have hl : lv_has ls 3 [(0, .ref (am 0)), (1, .int (x))] := hl
  have hown : s.vm.findClass RX5 = some m.cls := hown
  obtain ⟨hi1, hi2, hi3, hi4, hi5, hi6, hi7, hi8⟩ := id hI
  have hD : va_D (fun z => z ∈ mA am) (wM g am σ th) := wM_D hM
  refine lv_aload_n hx hb dX5_setRoom_0 rfl (lv_at hl 0 rfl) ?_
  refine lv_iload_n hx hb dX5_setRoom_1 rfl (lv_at hl 1 rfl) ?_
  refine lv_iconst (v := nI (1)) hx hb dX5_setRoom_2 (by decide) ?_
  refine lv_bipush (v := nI (40)) hx hb dX5_setRoom_3 (by decide) ?_
  refine rd_goS (rn_S ⟨hx, hb, hml, hown, hts⟩ (c_X5_in l g (x := x) (lo := nI (1)) (hi := nI (40))) gX5_setRoom_X5_in rfl qX5_in ⟨Nat.le_of_ble_eq_true rfl, Nat.le_of_ble_eq_true rfl⟩ ⟨Nat.le_of_ble_eq_true rfl, Nat.le_of_ble_eq_true rfl⟩ (gP_nil) hE rfl hl.1 rfl (Nat.le_of_ble_eq_true rfl) dX5_setRoom_5) ?_
  refine br_eqB (tgt := 15) hx hb dX5_setRoom_8 (by decide) (fun h264 => ?_) (fun h264 => ?_)
  · refine lv_iconst (v := nI (1)) hx hb dX5_setRoom_15 (by decide) ?_
    refine wr_goS (rn_V ⟨hx, hb, hml, hown, hts⟩ (c_X5_isFine l g (σ := σ) (th := th) (x := 1) hM (by omega)) gX5_setRoom_X5_isFine rfl pX5_isFine ⟨Nat.le_of_ble_eq_true rfl, Nat.le_of_ble_eq_true rfl⟩ ⟨Nat.le_of_ble_eq_true rfl, Nat.le_of_ble_eq_true rfl⟩ hP hE rfl rfl rfl hl.1 rfl (Nat.le_of_ble_eq_true rfl) dX5_setRoom_16) hS (fun x h => h) (fun H1 locs1 hB hz hk hS => ?_)
    have hP : gP g (wM g am (σ) (1)) H1 := hB
    have hD : va_D (fun z => z ∈ mA am) (wM g am (σ) (1)) := wM_D hM
    clear hk hB hz
    generalize H1 = H at hP hS ⊢
    generalize locs1 = locs at hS ⊢
    refine tp_i (z := bI (false)) rfl ?_
    refine br_neB (tgt := 24) hx hb dX5_setRoom_19 (by decide) (fun h265 => ?_) (fun h265 => ?_)
    · exact absurd h265 (by decide)
    · refine lv_iconst (v := nI (0)) hx hb dX5_setRoom_22 (by decide) ?_
      have he9 : eR 1 40 x = 2 := (by simp [eR_inB, h264])
      exact wr_reti hx hb hr hlocks hS (by rw [he9]; exact hP) (by rw [he9]; rfl) dX5_setRoom_23
  · obtain ⟨xj, hlx, hhx, rfl, hix⟩ := eR_0 (lo := 1) (hi := 40) (by decide) (by decide) (by rw [eR_inB, if_pos h264])
    refine lv_iconst (v := nI (0)) hx hb dX5_setRoom_11 (by decide) ?_
    refine lv_goto (tgt := 16) hx hb dX5_setRoom_12 (by decide) ?_
    refine wr_goS (rn_V ⟨hx, hb, hml, hown, hts⟩ (c_X5_isFine l g (σ := σ) (th := th) (x := 0) hM (by omega)) gX5_setRoom_X5_isFine rfl pX5_isFine ⟨Nat.le_of_ble_eq_true rfl, Nat.le_of_ble_eq_true rfl⟩ ⟨Nat.le_of_ble_eq_true rfl, Nat.le_of_ble_eq_true rfl⟩ hP hE rfl rfl rfl hl.1 rfl (Nat.le_of_ble_eq_true rfl) dX5_setRoom_16) hS (fun x h => h) (fun H1 locs1 hB hz hk hS => ?_)
    have hP : gP g (wM g am (σ) (0)) H1 := hB
    have hD : va_D (fun z => z ∈ mA am) (wM g am (σ) (0)) := wM_D hM
    clear hk hB hz
    generalize H1 = H at hP hS ⊢
    generalize locs1 = locs at hS ⊢
    refine tp_i (z := bI (true)) rfl ?_
    refine br_neB (tgt := 24) hx hb dX5_setRoom_19 (by decide) (fun h266 => ?_) (fun h266 => ?_)
    · refine lv_aload_n hx hb dX5_setRoom_24 rfl (lv_at hl 0 rfl) ?_
      refine gf (q0 := 0) (ci := 5) (k := 8) (v := .int (nI (sr σ))) hx hb hts iX5_setRoom_5 hown hE hP rfl rfl (by decide) mX5_setRoom_33 rfl dX5_setRoom_25 ?_
      refine lv_istore_n (lv' := [(2, .int (nI (sr σ))), (0, .ref (am 0)), (1, .int (nI (xj)))]) hx hb dX5_setRoom_28 rfl hl (by decide) rfl (fun ls hl => ?_)
      refine lv_aload_n hx hb dX5_setRoom_29 rfl (lv_at hl 1 rfl) ?_
      refine lv_iload_n hx hb dX5_setRoom_30 rfl (lv_at hl 2 rfl) ?_
      refine pf (q0 := 0) (ci := 5) (k := 8) (ws' := wM g am (uR (σ) (xj)) (0)) hx hb hts iX5_setRoom_5 hown hE hP hD hS rfl rfl (by decide) tyX5_ok nmX5 mX5_setRoom_33 rfl (by decide +kernel) (Nat.le_of_ble_eq_true rfl) rfl dX5_setRoom_31 (fun H locs hP hD hS => ?_)
      refine lv_aload_n hx hb dX5_setRoom_34 rfl (lv_at hl 1 rfl) ?_
      refine wr_goN (rn_V ⟨hx, hb, hml, hown, hts⟩ (c_X5_cuts l g (σ := uR (σ) (xj)) (th := 0) hM (Inv_uR hI (by omega) (by omega))) gX5_setRoom_X5_cuts rfl pX5_cuts ⟨Nat.le_of_ble_eq_true rfl, Nat.le_of_ble_eq_true rfl⟩ ⟨Nat.le_of_ble_eq_true rfl, Nat.le_of_ble_eq_true rfl⟩ hP hE rfl rfl rfl hl.1 rfl (Nat.le_of_ble_eq_true rfl) dX5_setRoom_35) hS (fun x h => h) (fun H1 locs1 hB hz hk hS => ?_)
      have hP : gP g (wM g am (stl (uR (σ) (xj))) (0)) H1 := hB
      have hD : va_D (fun z => z ∈ mA am) (wM g am (stl (uR (σ) (xj))) (0)) := wM_D hM
      clear hk hB hz
      generalize H1 = H at hP hS ⊢
      generalize locs1 = locs at hS ⊢
      refine lv_iload_n hx hb dX5_setRoom_38 rfl (lv_at hl 0 rfl) ?_
      have he9 : eR 1 40 (nI xj) = 0 := (by simp [eR_inB, h264, hix])
      have hnx : nRom σ (nI xj) = stl (uR (σ) (xj)) := (by unfold nRom; rw [hix])
      exact wr_reti hx hb hr hlocks hS (by rw [he9]; show gP g (wM g am (nRom σ (nI xj)) 0) H; rw [hnx]; exact hP) (by rw [he9]; show _ = nI (sr σ); exact rfl) dX5_setRoom_39
    · exact absurd h266 (by decide)
theorem mX5_entries_39 : Cond.fieldLink RX5 39 "FollowrowModel" "thrown" "I" ∈ wsX5_entries := by decide +kernel
theorem mX5_entries_46 : Cond.fieldLink RX5 46 "FollowrowModel" "entries" "I" ∈ wsX5_entries := by decide +kernel
theorem iX5_entries_5 : ∀ w ∈ wsX50, w ∈ wsX5_entries := by decide +kernel
set_option maxHeartbeats 4000000 in
set_option maxRecDepth 100000 in
/-- entries() -/
theorem c_X5_entries (l : Launch) (g : GT) {am : Nat → Nat} {σ : St} {th : Nat} (hI : Inv σ) (hM : FN am 8) : wrM l g yX5_entries wsX5_entries 0 0 [.ref (am 0)] (wM g am (σ) (th)) (some (.int (nI (sn σ)))) (fun H1 => gP g (wM g am σ 0) H1) (mA am) := by
  refine wr_of (cc := cX5_entries) (maxL := 1) (ret := (some .int)) (by decide) rfl (Nat.le_of_ble_eq_true rfl) (fun p e s m below meth c ls hx hb hr hml hts hown hlocks hl hP hE hS => ?_)
  have hl : lv_has ls 1 [(0, .ref (am 0))] := hl
  have hown : s.vm.findClass RX5 = some m.cls := hown
  obtain ⟨hi1, hi2, hi3, hi4, hi5, hi6, hi7, hi8⟩ := id hI
  have hD : va_D (fun z => z ∈ mA am) (wM g am σ th) := wM_D hM
  refine lv_aload_n hx hb dX5_entries_0 rfl (lv_at hl 0 rfl) ?_
  refine lv_iconst (v := nI (0)) hx hb dX5_entries_1 (by decide) ?_
  refine pf (q0 := 0) (ci := 5) (k := 10) (ws' := wM g am (σ) (0)) hx hb hts iX5_entries_5 hown hE hP hD hS rfl rfl (by decide) tyX5_ok nmX5 mX5_entries_39 rfl (by decide +kernel) (Nat.le_of_ble_eq_true rfl) rfl dX5_entries_2 (fun H locs hP hD hS => ?_)
  refine lv_aload_n hx hb dX5_entries_5 rfl (lv_at hl 0 rfl) ?_
  refine gf (q0 := 0) (ci := 5) (k := 6) (v := .int (nI (sn σ))) hx hb hts iX5_entries_5 hown hE hP rfl rfl (by decide) mX5_entries_46 rfl dX5_entries_6 ?_
  exact wr_reti hx hb hr hlocks hS hP rfl dX5_entries_9
theorem mX5_authorOf_19 : Cond.fieldLink RX5 19 "FollowrowModel" "author" "[I" ∈ wsX5_authorOf := by decide +kernel
theorem iX5_authorOf_5 : ∀ w ∈ wsX50, w ∈ wsX5_authorOf := by decide +kernel
set_option maxHeartbeats 4000000 in
set_option maxRecDepth 100000 in
/-- authorOf(x) -/
theorem c_X5_authorOf (l : Launch) (g : GT) {am : Nat → Nat} {σ : St} {th : Nat} (hI : Inv σ) (hM : FN am 8) {x : Int32} : wrM l g yX5_authorOf wsX5_authorOf 2 43 [.ref (am 0), .int (x)] (wM g am (σ) (th)) (some (.int (oI (eE (sn σ) x) (nI (sa σ (ix x)))))) (fun H1 => gP g (wM g am (oS (eE (sn σ) x) (σ) σ) ( (eE (sn σ) x))) H1) (mA am) := by
  refine wr_of (cc := cX5_authorOf) (maxL := 2) (ret := (some .int)) (by decide) rfl (Nat.le_of_ble_eq_true rfl) (fun p e s m below meth c ls hx hb hr hml hts hown hlocks hl hP hE hS => ?_)
  have hl : lv_has ls 2 [(0, .ref (am 0)), (1, .int (x))] := hl
  have hown : s.vm.findClass RX5 = some m.cls := hown
  obtain ⟨hi1, hi2, hi3, hi4, hi5, hi6, hi7, hi8⟩ := id hI
  have hD : va_D (fun z => z ∈ mA am) (wM g am σ th) := wM_D hM
  refine lv_aload_n hx hb dX5_authorOf_0 rfl (lv_at hl 0 rfl) ?_
  refine lv_aload_n hx hb dX5_authorOf_1 rfl (lv_at hl 0 rfl) ?_
  refine lv_iload_n hx hb dX5_authorOf_2 rfl (lv_at hl 1 rfl) ?_
  refine rd_goS (rn_V ⟨hx, hb, hml, hown, hts⟩ (c_X5_isEntry l g hI (x := x)) gX5_authorOf_X5_isEntry rfl pX5_isEntry ⟨Nat.le_of_ble_eq_true rfl, Nat.le_of_ble_eq_true rfl⟩ ⟨Nat.le_of_ble_eq_true rfl, Nat.le_of_ble_eq_true rfl⟩ (hP) hE rfl rfl rfl hl.1 rfl (Nat.le_of_ble_eq_true rfl) dX5_authorOf_3) ?_
  refine br_eqB (tgt := 13) hx hb dX5_authorOf_6 (by decide) (fun h267 => ?_) (fun h267 => ?_)
  · refine lv_iconst (v := nI (1)) hx hb dX5_authorOf_13 (by decide) ?_
    refine wr_goS (rn_V ⟨hx, hb, hml, hown, hts⟩ (c_X5_isFine l g (σ := σ) (th := th) (x := 1) hM (by omega)) gX5_authorOf_X5_isFine rfl pX5_isFine ⟨Nat.le_of_ble_eq_true rfl, Nat.le_of_ble_eq_true rfl⟩ ⟨Nat.le_of_ble_eq_true rfl, Nat.le_of_ble_eq_true rfl⟩ hP hE rfl rfl rfl hl.1 rfl (Nat.le_of_ble_eq_true rfl) dX5_authorOf_14) hS (fun x h => h) (fun H1 locs1 hB hz hk hS => ?_)
    have hP : gP g (wM g am (σ) (1)) H1 := hB
    have hD : va_D (fun z => z ∈ mA am) (wM g am (σ) (1)) := wM_D hM
    clear hk hB hz
    generalize H1 = H at hP hS ⊢
    generalize locs1 = locs at hS ⊢
    refine tp_i (z := bI (false)) rfl ?_
    refine br_eqB (tgt := 29) hx hb dX5_authorOf_17 (by decide) (fun h268 => ?_) (fun h268 => ?_)
    · refine lv_iconst (v := nI (0)) hx hb dX5_authorOf_29 (by decide) ?_
      have he9 : eE (sn σ) x = 1 := (by simp [eE, h267])
      exact wr_reti hx hb hr hlocks hS (by rw [he9]; exact hP) (by rw [he9]; rfl) dX5_authorOf_30
    · exact absurd h268 (by decide)
  · obtain ⟨xj, hjx, rfl, hix⟩ := isB_of h267 (by omega)
    have hpx : isB (nI xj) (sn σ) = true := h267
    refine lv_iconst (v := nI (0)) hx hb dX5_authorOf_9 (by decide) ?_
    refine lv_goto (tgt := 14) hx hb dX5_authorOf_10 (by decide) ?_
    refine wr_goS (rn_V ⟨hx, hb, hml, hown, hts⟩ (c_X5_isFine l g (σ := σ) (th := th) (x := 0) hM (by omega)) gX5_authorOf_X5_isFine rfl pX5_isFine ⟨Nat.le_of_ble_eq_true rfl, Nat.le_of_ble_eq_true rfl⟩ ⟨Nat.le_of_ble_eq_true rfl, Nat.le_of_ble_eq_true rfl⟩ hP hE rfl rfl rfl hl.1 rfl (Nat.le_of_ble_eq_true rfl) dX5_authorOf_14) hS (fun x h => h) (fun H1 locs1 hB hz hk hS => ?_)
    have hP : gP g (wM g am (σ) (0)) H1 := hB
    have hD : va_D (fun z => z ∈ mA am) (wM g am (σ) (0)) := wM_D hM
    clear hk hB hz
    generalize H1 = H at hP hS ⊢
    generalize locs1 = locs at hS ⊢
    refine tp_i (z := bI (true)) rfl ?_
    refine br_eqB (tgt := 29) hx hb dX5_authorOf_17 (by decide) (fun h269 => ?_) (fun h269 => ?_)
    · exact absurd h269 (by decide)
    · refine lv_aload_n hx hb dX5_authorOf_20 rfl (lv_at hl 0 rfl) ?_
      refine gf (q0 := 0) (ci := 5) (k := 3) (v := .ref (am 4)) hx hb hts iX5_authorOf_5 hown hE hP rfl rfl (by decide) mX5_authorOf_19 rfl dX5_authorOf_21 ?_
      refine lv_iload_n hx hb dX5_authorOf_24 rfl (lv_at hl 1 rfl) ?_
      refine ra_i (q0 := 4) (i := xj) hx hb hE hP rfl (by omega) (by decide) dX5_authorOf_25 ?_
      refine lv_goto (tgt := 30) hx hb dX5_authorOf_26 (by decide) ?_
      have he9 : eE (sn σ) (nI xj) = 0 := (by simp [eE, hpx, hix])
      have hnx : σ = σ := (rfl)
      exact wr_reti hx hb hr hlocks hS (by rw [he9]; show gP g (wM g am (σ) 0) H; rw [hnx]; exact hP) (by rw [he9]; show _ = nI (sa σ (ix (nI xj))); exact (by rw [hix]; rfl)) dX5_authorOf_30
theorem mX5_originOf_23 : Cond.fieldLink RX5 23 "FollowrowModel" "origin" "[I" ∈ wsX5_originOf := by decide +kernel
theorem iX5_originOf_5 : ∀ w ∈ wsX50, w ∈ wsX5_originOf := by decide +kernel
set_option maxHeartbeats 4000000 in
set_option maxRecDepth 100000 in
/-- originOf(x) -/
theorem c_X5_originOf (l : Launch) (g : GT) {am : Nat → Nat} {σ : St} {th : Nat} (hI : Inv σ) (hM : FN am 8) {x : Int32} : wrM l g yX5_originOf wsX5_originOf 2 43 [.ref (am 0), .int (x)] (wM g am (σ) (th)) (some (.int (oI (eE (sn σ) x) (nI (so σ (ix x)))))) (fun H1 => gP g (wM g am (oS (eE (sn σ) x) (σ) σ) ( (eE (sn σ) x))) H1) (mA am) := by
  refine wr_of (cc := cX5_originOf) (maxL := 2) (ret := (some .int)) (by decide) rfl (Nat.le_of_ble_eq_true rfl) (fun p e s m below meth c ls hx hb hr hml hts hown hlocks hl hP hE hS => ?_)
  have hl : lv_has ls 2 [(0, .ref (am 0)), (1, .int (x))] := hl
  have hown : s.vm.findClass RX5 = some m.cls := hown
  obtain ⟨hi1, hi2, hi3, hi4, hi5, hi6, hi7, hi8⟩ := id hI
  have hD : va_D (fun z => z ∈ mA am) (wM g am σ th) := wM_D hM
  refine lv_aload_n hx hb dX5_originOf_0 rfl (lv_at hl 0 rfl) ?_
  refine lv_aload_n hx hb dX5_originOf_1 rfl (lv_at hl 0 rfl) ?_
  refine lv_iload_n hx hb dX5_originOf_2 rfl (lv_at hl 1 rfl) ?_
  refine rd_goS (rn_V ⟨hx, hb, hml, hown, hts⟩ (c_X5_isEntry l g hI (x := x)) gX5_originOf_X5_isEntry rfl pX5_isEntry ⟨Nat.le_of_ble_eq_true rfl, Nat.le_of_ble_eq_true rfl⟩ ⟨Nat.le_of_ble_eq_true rfl, Nat.le_of_ble_eq_true rfl⟩ (hP) hE rfl rfl rfl hl.1 rfl (Nat.le_of_ble_eq_true rfl) dX5_originOf_3) ?_
  refine br_eqB (tgt := 13) hx hb dX5_originOf_6 (by decide) (fun h270 => ?_) (fun h270 => ?_)
  · refine lv_iconst (v := nI (1)) hx hb dX5_originOf_13 (by decide) ?_
    refine wr_goS (rn_V ⟨hx, hb, hml, hown, hts⟩ (c_X5_isFine l g (σ := σ) (th := th) (x := 1) hM (by omega)) gX5_originOf_X5_isFine rfl pX5_isFine ⟨Nat.le_of_ble_eq_true rfl, Nat.le_of_ble_eq_true rfl⟩ ⟨Nat.le_of_ble_eq_true rfl, Nat.le_of_ble_eq_true rfl⟩ hP hE rfl rfl rfl hl.1 rfl (Nat.le_of_ble_eq_true rfl) dX5_originOf_14) hS (fun x h => h) (fun H1 locs1 hB hz hk hS => ?_)
    have hP : gP g (wM g am (σ) (1)) H1 := hB
    have hD : va_D (fun z => z ∈ mA am) (wM g am (σ) (1)) := wM_D hM
    clear hk hB hz
    generalize H1 = H at hP hS ⊢
    generalize locs1 = locs at hS ⊢
    refine tp_i (z := bI (false)) rfl ?_
    refine br_eqB (tgt := 29) hx hb dX5_originOf_17 (by decide) (fun h271 => ?_) (fun h271 => ?_)
    · refine lv_iconst (v := nI (0)) hx hb dX5_originOf_29 (by decide) ?_
      have he9 : eE (sn σ) x = 1 := (by simp [eE, h270])
      exact wr_reti hx hb hr hlocks hS (by rw [he9]; exact hP) (by rw [he9]; rfl) dX5_originOf_30
    · exact absurd h271 (by decide)
  · obtain ⟨xj, hjx, rfl, hix⟩ := isB_of h270 (by omega)
    have hpx : isB (nI xj) (sn σ) = true := h270
    refine lv_iconst (v := nI (0)) hx hb dX5_originOf_9 (by decide) ?_
    refine lv_goto (tgt := 14) hx hb dX5_originOf_10 (by decide) ?_
    refine wr_goS (rn_V ⟨hx, hb, hml, hown, hts⟩ (c_X5_isFine l g (σ := σ) (th := th) (x := 0) hM (by omega)) gX5_originOf_X5_isFine rfl pX5_isFine ⟨Nat.le_of_ble_eq_true rfl, Nat.le_of_ble_eq_true rfl⟩ ⟨Nat.le_of_ble_eq_true rfl, Nat.le_of_ble_eq_true rfl⟩ hP hE rfl rfl rfl hl.1 rfl (Nat.le_of_ble_eq_true rfl) dX5_originOf_14) hS (fun x h => h) (fun H1 locs1 hB hz hk hS => ?_)
    have hP : gP g (wM g am (σ) (0)) H1 := hB
    have hD : va_D (fun z => z ∈ mA am) (wM g am (σ) (0)) := wM_D hM
    clear hk hB hz
    generalize H1 = H at hP hS ⊢
    generalize locs1 = locs at hS ⊢
    refine tp_i (z := bI (true)) rfl ?_
    refine br_eqB (tgt := 29) hx hb dX5_originOf_17 (by decide) (fun h272 => ?_) (fun h272 => ?_)
    · exact absurd h272 (by decide)
    · refine lv_aload_n hx hb dX5_originOf_20 rfl (lv_at hl 0 rfl) ?_
      refine gf (q0 := 0) (ci := 5) (k := 4) (v := .ref (am 5)) hx hb hts iX5_originOf_5 hown hE hP rfl rfl (by decide) mX5_originOf_23 rfl dX5_originOf_21 ?_
      refine lv_iload_n hx hb dX5_originOf_24 rfl (lv_at hl 1 rfl) ?_
      refine ra_i (q0 := 5) (i := xj) hx hb hE hP rfl (by omega) (by decide) dX5_originOf_25 ?_
      refine lv_goto (tgt := 30) hx hb dX5_originOf_26 (by decide) ?_
      have he9 : eE (sn σ) (nI xj) = 0 := (by simp [eE, hpx, hix])
      have hnx : σ = σ := (rfl)
      exact wr_reti hx hb hr hlocks hS (by rw [he9]; show gP g (wM g am (σ) 0) H; rw [hnx]; exact hP) (by rw [he9]; show _ = nI (so σ (ix (nI xj))); exact (by rw [hix]; rfl)) dX5_originOf_30
theorem mX5_follows_7 : Cond.fieldLink RX5 7 "FollowrowModel" "followed" "[Z" ∈ wsX5_follows := by decide +kernel
theorem iX5_follows_5 : ∀ w ∈ wsX50, w ∈ wsX5_follows := by decide +kernel
set_option maxHeartbeats 4000000 in
set_option maxRecDepth 100000 in
/-- follows(x, y) -/
theorem c_X5_follows (l : Launch) (g : GT) {am : Nat → Nat} {σ : St} {th : Nat} (hI : Inv σ) (hM : FN am 8) {x y : Int32} : wrM l g yX5_follows wsX5_follows 2 42 [.ref (am 0), .int (x), .int (y)] (wM g am (σ) (th)) (some (.int (bI (oB (eFls x y) (sF σ (8 * ix x + ix y)))))) (fun H1 => gP g (wM g am (oS (eFls x y) (σ) σ) ( (eFls x y))) H1) (mA am) := by
  refine wr_of (cc := cX5_follows) (maxL := 3) (ret := (some .boolean)) (by decide) rfl (Nat.le_of_ble_eq_true rfl) (fun p e s m below meth c ls hx hb hr hml hts hown hlocks hl hP hE hS => ?_)
  have hl : lv_has ls 3 [(0, .ref (am 0)), (1, .int (x)), (2, .int (y))] := hl
  have hown : s.vm.findClass RX5 = some m.cls := hown
  obtain ⟨hi1, hi2, hi3, hi4, hi5, hi6, hi7, hi8⟩ := id hI
  have hD : va_D (fun z => z ∈ mA am) (wM g am σ th) := wM_D hM
  refine lv_aload_n hx hb dX5_follows_0 rfl (lv_at hl 0 rfl) ?_
  refine lv_iload_n hx hb dX5_follows_1 rfl (lv_at hl 1 rfl) ?_
  refine rd_goS (rn_S ⟨hx, hb, hml, hown, hts⟩ (c_X5_isOne l g (x := x)) gX5_follows_X5_isOne rfl qX5_isOne ⟨Nat.le_of_ble_eq_true rfl, Nat.le_of_ble_eq_true rfl⟩ ⟨Nat.le_of_ble_eq_true rfl, Nat.le_of_ble_eq_true rfl⟩ (gP_nil) hE rfl hl.1 rfl (Nat.le_of_ble_eq_true rfl) dX5_follows_2) ?_
  refine br_eqB (tgt := 19) hx hb dX5_follows_5 (by decide) (fun h273 => ?_) (fun h273 => ?_)
  · refine lv_iconst (v := nI (1)) hx hb dX5_follows_19 (by decide) ?_
    refine wr_goS (rn_V ⟨hx, hb, hml, hown, hts⟩ (c_X5_isFine l g (σ := σ) (th := th) (x := 1) hM (by omega)) gX5_follows_X5_isFine rfl pX5_isFine ⟨Nat.le_of_ble_eq_true rfl, Nat.le_of_ble_eq_true rfl⟩ ⟨Nat.le_of_ble_eq_true rfl, Nat.le_of_ble_eq_true rfl⟩ hP hE rfl rfl rfl hl.1 rfl (Nat.le_of_ble_eq_true rfl) dX5_follows_20) hS (fun x h => h) (fun H1 locs1 hB hz hk hS => ?_)
    have hP : gP g (wM g am (σ) (1)) H1 := hB
    have hD : va_D (fun z => z ∈ mA am) (wM g am (σ) (1)) := wM_D hM
    clear hk hB hz
    generalize H1 = H at hP hS ⊢
    generalize locs1 = locs at hS ⊢
    refine tp_i (z := bI (false)) rfl ?_
    refine br_eqB (tgt := 44) hx hb dX5_follows_23 (by decide) (fun h274 => ?_) (fun h274 => ?_)
    · refine lv_iconst (v := bI (false)) hx hb dX5_follows_44 (by decide) ?_
      have he9 : eFls x y = 1 := (by simp [eFls, h273])
      exact wr_retz hx hb hr hlocks hS (by rw [he9]; exact hP) (by rw [he9]; rfl) dX5_follows_45
    · exact absurd h274 (by decide)
  · obtain ⟨xj, hjx, rfl, hix⟩ := isP_of h273
    have hpx : isP (nI xj) = true := h273
    refine lv_iload_n hx hb dX5_follows_8 rfl (lv_at hl 2 rfl) ?_
    refine rd_goS (rn_S ⟨hx, hb, hml, hown, hts⟩ (c_X5_isOne l g (x := y)) gX5_follows_X5_isOne rfl qX5_isOne ⟨Nat.le_of_ble_eq_true rfl, Nat.le_of_ble_eq_true rfl⟩ ⟨Nat.le_of_ble_eq_true rfl, Nat.le_of_ble_eq_true rfl⟩ (gP_nil) hE rfl hl.1 rfl (Nat.le_of_ble_eq_true rfl) dX5_follows_9) ?_
    refine br_eqB (tgt := 19) hx hb dX5_follows_12 (by decide) (fun h275 => ?_) (fun h275 => ?_)
    · refine lv_iconst (v := nI (1)) hx hb dX5_follows_19 (by decide) ?_
      refine wr_goS (rn_V ⟨hx, hb, hml, hown, hts⟩ (c_X5_isFine l g (σ := σ) (th := th) (x := 1) hM (by omega)) gX5_follows_X5_isFine rfl pX5_isFine ⟨Nat.le_of_ble_eq_true rfl, Nat.le_of_ble_eq_true rfl⟩ ⟨Nat.le_of_ble_eq_true rfl, Nat.le_of_ble_eq_true rfl⟩ hP hE rfl rfl rfl hl.1 rfl (Nat.le_of_ble_eq_true rfl) dX5_follows_20) hS (fun x h => h) (fun H1 locs1 hB hz hk hS => ?_)
      have hP : gP g (wM g am (σ) (1)) H1 := hB
      have hD : va_D (fun z => z ∈ mA am) (wM g am (σ) (1)) := wM_D hM
      clear hk hB hz
      generalize H1 = H at hP hS ⊢
      generalize locs1 = locs at hS ⊢
      refine tp_i (z := bI (false)) rfl ?_
      refine br_eqB (tgt := 44) hx hb dX5_follows_23 (by decide) (fun h276 => ?_) (fun h276 => ?_)
      · refine lv_iconst (v := bI (false)) hx hb dX5_follows_44 (by decide) ?_
        have he9 : eFls (nI xj) y = 1 := (by simp [eFls, hpx, hix, h275])
        exact wr_retz hx hb hr hlocks hS (by rw [he9]; exact hP) (by rw [he9]; rfl) dX5_follows_45
      · exact absurd h276 (by decide)
    · obtain ⟨yj, hjy, rfl, hiy⟩ := isP_of h275
      have hpy : isP (nI yj) = true := h275
      refine lv_iconst (v := nI (0)) hx hb dX5_follows_15 (by decide) ?_
      refine lv_goto (tgt := 20) hx hb dX5_follows_16 (by decide) ?_
      refine wr_goS (rn_V ⟨hx, hb, hml, hown, hts⟩ (c_X5_isFine l g (σ := σ) (th := th) (x := 0) hM (by omega)) gX5_follows_X5_isFine rfl pX5_isFine ⟨Nat.le_of_ble_eq_true rfl, Nat.le_of_ble_eq_true rfl⟩ ⟨Nat.le_of_ble_eq_true rfl, Nat.le_of_ble_eq_true rfl⟩ hP hE rfl rfl rfl hl.1 rfl (Nat.le_of_ble_eq_true rfl) dX5_follows_20) hS (fun x h => h) (fun H1 locs1 hB hz hk hS => ?_)
      have hP : gP g (wM g am (σ) (0)) H1 := hB
      have hD : va_D (fun z => z ∈ mA am) (wM g am (σ) (0)) := wM_D hM
      clear hk hB hz
      generalize H1 = H at hP hS ⊢
      generalize locs1 = locs at hS ⊢
      refine tp_i (z := bI (true)) rfl ?_
      refine br_eqB (tgt := 44) hx hb dX5_follows_23 (by decide) (fun h277 => ?_) (fun h277 => ?_)
      · exact absurd h277 (by decide)
      · refine lv_aload_n hx hb dX5_follows_26 rfl (lv_at hl 0 rfl) ?_
        refine gf (q0 := 0) (ci := 5) (k := 0) (v := .ref (am 1)) hx hb hts iX5_follows_5 hown hE hP rfl rfl (by decide) mX5_follows_7 rfl dX5_follows_27 ?_
        refine lv_bipush (v := nI (8)) hx hb dX5_follows_30 (by decide) ?_
        refine lv_iload_n hx hb dX5_follows_32 rfl (lv_at hl 1 rfl) ?_
        refine lv_imul hx hb dX5_follows_33 ?_
        refine tp_i (pk_mul _ _) ?_
        refine lv_iload_n hx hb dX5_follows_34 rfl (lv_at hl 2 rfl) ?_
        refine lv_iadd hx hb dX5_follows_35 ?_
        refine tp_i (nI_add _ _) ?_
        refine ra_z (q0 := 1) (i := 8 * xj + yj) hx hb hE hP rfl (by omega) (by decide) dX5_follows_36 ?_
        refine br_eqB (tgt := 44) hx hb dX5_follows_37 (by decide) (fun h278 => ?_) (fun h278 => ?_)
        · refine lv_iconst (v := bI (false)) hx hb dX5_follows_44 (by decide) ?_
          have he9 : eFls (nI xj) (nI yj) = 0 := (by simp [eFls, hpx, hix, hpy, hiy, h278])
          have hnx : σ = σ := (rfl)
          exact wr_retz hx hb hr hlocks hS (by rw [he9]; show gP g (wM g am (σ) 0) H; rw [hnx]; exact hP) (by rw [he9]; show _ = sF σ (8 * ix (nI xj) + ix (nI yj)); exact (by rw [hix, hiy]; exact h278.symm)) dX5_follows_45
        · refine lv_iconst (v := bI (true)) hx hb dX5_follows_40 (by decide) ?_
          refine lv_goto (tgt := 45) hx hb dX5_follows_41 (by decide) ?_
          have he9 : eFls (nI xj) (nI yj) = 0 := (by simp [eFls, hpx, hix, hpy, hiy, h278])
          have hnx : σ = σ := (rfl)
          exact wr_retz hx hb hr hlocks hS (by rw [he9]; show gP g (wM g am (σ) 0) H; rw [hnx]; exact hP) (by rw [he9]; show _ = sF σ (8 * ix (nI xj) + ix (nI yj)); exact (by rw [hix, hiy]; exact h278.symm)) dX5_follows_45
set_option maxHeartbeats 4000000 in
set_option maxRecDepth 100000 in
/-- followers(x) -/
theorem c_X5_followers (l : Launch) (g : GT) {am : Nat → Nat} {σ : St} {th : Nat} (hI : Inv σ) (hM : FN am 8) {x : Int32} : wrM l g yX5_followers wsX5_followers 2 42 [.ref (am 0), .int (x)] (wM g am (σ) (th)) (some (.int (oI (eP x) (nI (fcnt (sF σ) (ix x)))))) (fun H1 => gP g (wM g am (oS (eP x) (σ) σ) ( (eP x))) H1) (mA am) := by
  refine wr_of (cc := cX5_followers) (maxL := 2) (ret := (some .int)) (by decide) rfl (Nat.le_of_ble_eq_true rfl) (fun p e s m below meth c ls hx hb hr hml hts hown hlocks hl hP hE hS => ?_)
  have hl : lv_has ls 2 [(0, .ref (am 0)), (1, .int (x))] := hl
  have hown : s.vm.findClass RX5 = some m.cls := hown
  obtain ⟨hi1, hi2, hi3, hi4, hi5, hi6, hi7, hi8⟩ := id hI
  have hD : va_D (fun z => z ∈ mA am) (wM g am σ th) := wM_D hM
  refine lv_aload_n hx hb dX5_followers_0 rfl (lv_at hl 0 rfl) ?_
  refine lv_iload_n hx hb dX5_followers_1 rfl (lv_at hl 1 rfl) ?_
  refine rd_goS (rn_S ⟨hx, hb, hml, hown, hts⟩ (c_X5_isOne l g (x := x)) gX5_followers_X5_isOne rfl qX5_isOne ⟨Nat.le_of_ble_eq_true rfl, Nat.le_of_ble_eq_true rfl⟩ ⟨Nat.le_of_ble_eq_true rfl, Nat.le_of_ble_eq_true rfl⟩ (gP_nil) hE rfl hl.1 rfl (Nat.le_of_ble_eq_true rfl) dX5_followers_2) ?_
  refine br_eqB (tgt := 12) hx hb dX5_followers_5 (by decide) (fun h279 => ?_) (fun h279 => ?_)
  · refine lv_iconst (v := nI (1)) hx hb dX5_followers_12 (by decide) ?_
    refine wr_goS (rn_V ⟨hx, hb, hml, hown, hts⟩ (c_X5_isFine l g (σ := σ) (th := th) (x := 1) hM (by omega)) gX5_followers_X5_isFine rfl pX5_isFine ⟨Nat.le_of_ble_eq_true rfl, Nat.le_of_ble_eq_true rfl⟩ ⟨Nat.le_of_ble_eq_true rfl, Nat.le_of_ble_eq_true rfl⟩ hP hE rfl rfl rfl hl.1 rfl (Nat.le_of_ble_eq_true rfl) dX5_followers_13) hS (fun x h => h) (fun H1 locs1 hB hz hk hS => ?_)
    have hP : gP g (wM g am (σ) (1)) H1 := hB
    have hD : va_D (fun z => z ∈ mA am) (wM g am (σ) (1)) := wM_D hM
    clear hk hB hz
    generalize H1 = H at hP hS ⊢
    generalize locs1 = locs at hS ⊢
    refine tp_i (z := bI (false)) rfl ?_
    refine br_eqB (tgt := 27) hx hb dX5_followers_16 (by decide) (fun h280 => ?_) (fun h280 => ?_)
    · refine lv_iconst (v := nI (0)) hx hb dX5_followers_27 (by decide) ?_
      have he9 : eP x = 1 := (by simp [eP, h279])
      exact wr_reti hx hb hr hlocks hS (by rw [he9]; exact hP) (by rw [he9]; rfl) dX5_followers_28
    · exact absurd h280 (by decide)
  · obtain ⟨xj, hjx, rfl, hix⟩ := isP_of h279
    have hpx : isP (nI xj) = true := h279
    refine lv_iconst (v := nI (0)) hx hb dX5_followers_8 (by decide) ?_
    refine lv_goto (tgt := 13) hx hb dX5_followers_9 (by decide) ?_
    refine wr_goS (rn_V ⟨hx, hb, hml, hown, hts⟩ (c_X5_isFine l g (σ := σ) (th := th) (x := 0) hM (by omega)) gX5_followers_X5_isFine rfl pX5_isFine ⟨Nat.le_of_ble_eq_true rfl, Nat.le_of_ble_eq_true rfl⟩ ⟨Nat.le_of_ble_eq_true rfl, Nat.le_of_ble_eq_true rfl⟩ hP hE rfl rfl rfl hl.1 rfl (Nat.le_of_ble_eq_true rfl) dX5_followers_13) hS (fun x h => h) (fun H1 locs1 hB hz hk hS => ?_)
    have hP : gP g (wM g am (σ) (0)) H1 := hB
    have hD : va_D (fun z => z ∈ mA am) (wM g am (σ) (0)) := wM_D hM
    clear hk hB hz
    generalize H1 = H at hP hS ⊢
    generalize locs1 = locs at hS ⊢
    refine tp_i (z := bI (true)) rfl ?_
    refine br_eqB (tgt := 27) hx hb dX5_followers_16 (by decide) (fun h281 => ?_) (fun h281 => ?_)
    · exact absurd h281 (by decide)
    · refine lv_aload_n hx hb dX5_followers_19 rfl (lv_at hl 0 rfl) ?_
      refine lv_iload_n hx hb dX5_followers_20 rfl (lv_at hl 1 rfl) ?_
      refine rd_goS (rn_V ⟨hx, hb, hml, hown, hts⟩ (c_X5_followersOf l g (σ := σ) (th := 0) hI (y := xj) (by first | omega | exact hi5 _)) gX5_followers_X5_followersOf rfl pX5_followersOf ⟨Nat.le_of_ble_eq_true rfl, Nat.le_of_ble_eq_true rfl⟩ ⟨Nat.le_of_ble_eq_true rfl, Nat.le_of_ble_eq_true rfl⟩ (hP) hE rfl rfl rfl hl.1 rfl (Nat.le_of_ble_eq_true rfl) dX5_followers_21) ?_
      refine lv_goto (tgt := 28) hx hb dX5_followers_24 (by decide) ?_
      have he9 : eP (nI xj) = 0 := (by simp [eP, hpx, hix])
      have hnx : σ = σ := (rfl)
      exact wr_reti hx hb hr hlocks hS (by rw [he9]; show gP g (wM g am (σ) 0) H; rw [hnx]; exact hP) (by rw [he9]; show _ = nI (fcnt (sF σ) (ix (nI xj))); exact (by rw [hix])) dX5_followers_28
set_option maxHeartbeats 4000000 in
set_option maxRecDepth 100000 in
/-- isLarge(x) -/
theorem c_X5_isLarge (l : Launch) (g : GT) {am : Nat → Nat} {σ : St} {th : Nat} (hI : Inv σ) (hM : FN am 8) {x : Int32} : wrM l g yX5_isLarge wsX5_isLarge 2 44 [.ref (am 0), .int (x)] (wM g am (σ) (th)) (some (.int (bI (oB (eP x) (lg σ (ix x)))))) (fun H1 => gP g (wM g am (oS (eP x) (σ) σ) ( (eP x))) H1) (mA am) := by
  refine wr_of (cc := cX5_isLarge) (maxL := 2) (ret := (some .boolean)) (by decide) rfl (Nat.le_of_ble_eq_true rfl) (fun p e s m below meth c ls hx hb hr hml hts hown hlocks hl hP hE hS => ?_)
  have hl : lv_has ls 2 [(0, .ref (am 0)), (1, .int (x))] := hl
  have hown : s.vm.findClass RX5 = some m.cls := hown
  obtain ⟨hi1, hi2, hi3, hi4, hi5, hi6, hi7, hi8⟩ := id hI
  have hD : va_D (fun z => z ∈ mA am) (wM g am σ th) := wM_D hM
  refine lv_aload_n hx hb dX5_isLarge_0 rfl (lv_at hl 0 rfl) ?_
  refine lv_iload_n hx hb dX5_isLarge_1 rfl (lv_at hl 1 rfl) ?_
  refine rd_goS (rn_S ⟨hx, hb, hml, hown, hts⟩ (c_X5_isOne l g (x := x)) gX5_isLarge_X5_isOne rfl qX5_isOne ⟨Nat.le_of_ble_eq_true rfl, Nat.le_of_ble_eq_true rfl⟩ ⟨Nat.le_of_ble_eq_true rfl, Nat.le_of_ble_eq_true rfl⟩ (gP_nil) hE rfl hl.1 rfl (Nat.le_of_ble_eq_true rfl) dX5_isLarge_2) ?_
  refine br_eqB (tgt := 12) hx hb dX5_isLarge_5 (by decide) (fun h282 => ?_) (fun h282 => ?_)
  · refine lv_iconst (v := nI (1)) hx hb dX5_isLarge_12 (by decide) ?_
    refine wr_goS (rn_V ⟨hx, hb, hml, hown, hts⟩ (c_X5_isFine l g (σ := σ) (th := th) (x := 1) hM (by omega)) gX5_isLarge_X5_isFine rfl pX5_isFine ⟨Nat.le_of_ble_eq_true rfl, Nat.le_of_ble_eq_true rfl⟩ ⟨Nat.le_of_ble_eq_true rfl, Nat.le_of_ble_eq_true rfl⟩ hP hE rfl rfl rfl hl.1 rfl (Nat.le_of_ble_eq_true rfl) dX5_isLarge_13) hS (fun x h => h) (fun H1 locs1 hB hz hk hS => ?_)
    have hP : gP g (wM g am (σ) (1)) H1 := hB
    have hD : va_D (fun z => z ∈ mA am) (wM g am (σ) (1)) := wM_D hM
    clear hk hB hz
    generalize H1 = H at hP hS ⊢
    generalize locs1 = locs at hS ⊢
    refine tp_i (z := bI (false)) rfl ?_
    refine br_eqB (tgt := 31) hx hb dX5_isLarge_16 (by decide) (fun h283 => ?_) (fun h283 => ?_)
    · refine lv_iconst (v := bI (false)) hx hb dX5_isLarge_31 (by decide) ?_
      have he9 : eP x = 1 := (by simp [eP, h282])
      exact wr_retz hx hb hr hlocks hS (by rw [he9]; exact hP) (by rw [he9]; rfl) dX5_isLarge_32
    · exact absurd h283 (by decide)
  · obtain ⟨xj, hjx, rfl, hix⟩ := isP_of h282
    have hpx : isP (nI xj) = true := h282
    refine lv_iconst (v := nI (0)) hx hb dX5_isLarge_8 (by decide) ?_
    refine lv_goto (tgt := 13) hx hb dX5_isLarge_9 (by decide) ?_
    refine wr_goS (rn_V ⟨hx, hb, hml, hown, hts⟩ (c_X5_isFine l g (σ := σ) (th := th) (x := 0) hM (by omega)) gX5_isLarge_X5_isFine rfl pX5_isFine ⟨Nat.le_of_ble_eq_true rfl, Nat.le_of_ble_eq_true rfl⟩ ⟨Nat.le_of_ble_eq_true rfl, Nat.le_of_ble_eq_true rfl⟩ hP hE rfl rfl rfl hl.1 rfl (Nat.le_of_ble_eq_true rfl) dX5_isLarge_13) hS (fun x h => h) (fun H1 locs1 hB hz hk hS => ?_)
    have hP : gP g (wM g am (σ) (0)) H1 := hB
    have hD : va_D (fun z => z ∈ mA am) (wM g am (σ) (0)) := wM_D hM
    clear hk hB hz
    generalize H1 = H at hP hS ⊢
    generalize locs1 = locs at hS ⊢
    refine tp_i (z := bI (true)) rfl ?_
    refine br_eqB (tgt := 31) hx hb dX5_isLarge_16 (by decide) (fun h284 => ?_) (fun h284 => ?_)
    · exact absurd h284 (by decide)
    · refine lv_aload_n hx hb dX5_isLarge_19 rfl (lv_at hl 0 rfl) ?_
      refine lv_iload_n hx hb dX5_isLarge_20 rfl (lv_at hl 1 rfl) ?_
      refine rd_goS (rn_V ⟨hx, hb, hml, hown, hts⟩ (c_X5_large l g (σ := σ) (th := 0) hI (y := xj) (by first | omega | exact hi5 _)) gX5_isLarge_X5_large rfl pX5_large ⟨Nat.le_of_ble_eq_true rfl, Nat.le_of_ble_eq_true rfl⟩ ⟨Nat.le_of_ble_eq_true rfl, Nat.le_of_ble_eq_true rfl⟩ (hP) hE rfl rfl rfl hl.1 rfl (Nat.le_of_ble_eq_true rfl) dX5_isLarge_21) ?_
      refine br_eqB (tgt := 31) hx hb dX5_isLarge_24 (by decide) (fun h285 => ?_) (fun h285 => ?_)
      · refine lv_iconst (v := bI (false)) hx hb dX5_isLarge_31 (by decide) ?_
        have he9 : eP (nI xj) = 0 := (by simp [eP, hpx, hix, h285])
        have hnx : σ = σ := (rfl)
        exact wr_retz hx hb hr hlocks hS (by rw [he9]; show gP g (wM g am (σ) 0) H; rw [hnx]; exact hP) (by rw [he9]; show _ = lg σ (ix (nI xj)); exact (by rw [hix]; exact h285.symm)) dX5_isLarge_32
      · refine lv_iconst (v := bI (true)) hx hb dX5_isLarge_27 (by decide) ?_
        refine lv_goto (tgt := 32) hx hb dX5_isLarge_28 (by decide) ?_
        have he9 : eP (nI xj) = 0 := (by simp [eP, hpx, hix, h285])
        have hnx : σ = σ := (rfl)
        exact wr_retz hx hb hr hlocks hS (by rw [he9]; show gP g (wM g am (σ) 0) H; rw [hnx]; exact hP) (by rw [he9]; show _ = lg σ (ix (nI xj)); exact (by rw [hix]; exact h285.symm)) dX5_isLarge_32
set_option maxHeartbeats 4000000 in
set_option maxRecDepth 100000 in
/-- inRow(x) -/
theorem c_X5_inRow (l : Launch) (g : GT) {am : Nat → Nat} {σ : St} {th : Nat} (hI : Inv σ) (hM : FN am 8) {x : Int32} : wrM l g yX5_inRow wsX5_inRow 4 89 [.ref (am 0), .int (x)] (wM g am (σ) (th)) (some (.int (oI (eP x) (nI (rcn σ (ix x)))))) (fun H1 => gP g (wM g am (oS (eP x) (σ) σ) ( (eP x))) H1) (mA am) := by
  refine wr_of (cc := cX5_inRow) (maxL := 2) (ret := (some .int)) (by decide) rfl (Nat.le_of_ble_eq_true rfl) (fun p e s m below meth c ls hx hb hr hml hts hown hlocks hl hP hE hS => ?_)
  have hl : lv_has ls 2 [(0, .ref (am 0)), (1, .int (x))] := hl
  have hown : s.vm.findClass RX5 = some m.cls := hown
  obtain ⟨hi1, hi2, hi3, hi4, hi5, hi6, hi7, hi8⟩ := id hI
  have hD : va_D (fun z => z ∈ mA am) (wM g am σ th) := wM_D hM
  refine lv_aload_n hx hb dX5_inRow_0 rfl (lv_at hl 0 rfl) ?_
  refine lv_iload_n hx hb dX5_inRow_1 rfl (lv_at hl 1 rfl) ?_
  refine rd_goS (rn_S ⟨hx, hb, hml, hown, hts⟩ (c_X5_isOne l g (x := x)) gX5_inRow_X5_isOne rfl qX5_isOne ⟨Nat.le_of_ble_eq_true rfl, Nat.le_of_ble_eq_true rfl⟩ ⟨Nat.le_of_ble_eq_true rfl, Nat.le_of_ble_eq_true rfl⟩ (gP_nil) hE rfl hl.1 rfl (Nat.le_of_ble_eq_true rfl) dX5_inRow_2) ?_
  refine br_eqB (tgt := 12) hx hb dX5_inRow_5 (by decide) (fun h286 => ?_) (fun h286 => ?_)
  · refine lv_iconst (v := nI (1)) hx hb dX5_inRow_12 (by decide) ?_
    refine wr_goS (rn_V ⟨hx, hb, hml, hown, hts⟩ (c_X5_isFine l g (σ := σ) (th := th) (x := 1) hM (by omega)) gX5_inRow_X5_isFine rfl pX5_isFine ⟨Nat.le_of_ble_eq_true rfl, Nat.le_of_ble_eq_true rfl⟩ ⟨Nat.le_of_ble_eq_true rfl, Nat.le_of_ble_eq_true rfl⟩ hP hE rfl rfl rfl hl.1 rfl (Nat.le_of_ble_eq_true rfl) dX5_inRow_13) hS (fun x h => h) (fun H1 locs1 hB hz hk hS => ?_)
    have hP : gP g (wM g am (σ) (1)) H1 := hB
    have hD : va_D (fun z => z ∈ mA am) (wM g am (σ) (1)) := wM_D hM
    clear hk hB hz
    generalize H1 = H at hP hS ⊢
    generalize locs1 = locs at hS ⊢
    refine tp_i (z := bI (false)) rfl ?_
    refine br_eqB (tgt := 27) hx hb dX5_inRow_16 (by decide) (fun h287 => ?_) (fun h287 => ?_)
    · refine lv_iconst (v := nI (0)) hx hb dX5_inRow_27 (by decide) ?_
      have he9 : eP x = 1 := (by simp [eP, h286])
      exact wr_reti hx hb hr hlocks hS (by rw [he9]; exact hP) (by rw [he9]; rfl) dX5_inRow_28
    · exact absurd h287 (by decide)
  · obtain ⟨xj, hjx, rfl, hix⟩ := isP_of h286
    have hpx : isP (nI xj) = true := h286
    refine lv_iconst (v := nI (0)) hx hb dX5_inRow_8 (by decide) ?_
    refine lv_goto (tgt := 13) hx hb dX5_inRow_9 (by decide) ?_
    refine wr_goS (rn_V ⟨hx, hb, hml, hown, hts⟩ (c_X5_isFine l g (σ := σ) (th := th) (x := 0) hM (by omega)) gX5_inRow_X5_isFine rfl pX5_isFine ⟨Nat.le_of_ble_eq_true rfl, Nat.le_of_ble_eq_true rfl⟩ ⟨Nat.le_of_ble_eq_true rfl, Nat.le_of_ble_eq_true rfl⟩ hP hE rfl rfl rfl hl.1 rfl (Nat.le_of_ble_eq_true rfl) dX5_inRow_13) hS (fun x h => h) (fun H1 locs1 hB hz hk hS => ?_)
    have hP : gP g (wM g am (σ) (0)) H1 := hB
    have hD : va_D (fun z => z ∈ mA am) (wM g am (σ) (0)) := wM_D hM
    clear hk hB hz
    generalize H1 = H at hP hS ⊢
    generalize locs1 = locs at hS ⊢
    refine tp_i (z := bI (true)) rfl ?_
    refine br_eqB (tgt := 27) hx hb dX5_inRow_16 (by decide) (fun h288 => ?_) (fun h288 => ?_)
    · exact absurd h288 (by decide)
    · refine lv_aload_n hx hb dX5_inRow_19 rfl (lv_at hl 0 rfl) ?_
      refine lv_iload_n hx hb dX5_inRow_20 rfl (lv_at hl 1 rfl) ?_
      refine rd_goS (rn_V ⟨hx, hb, hml, hown, hts⟩ (c_X5_rowLength l g (σ := σ) (th := 0) hI (q := xj) (by omega)) gX5_inRow_X5_rowLength rfl pX5_rowLength ⟨Nat.le_of_ble_eq_true rfl, Nat.le_of_ble_eq_true rfl⟩ ⟨Nat.le_of_ble_eq_true rfl, Nat.le_of_ble_eq_true rfl⟩ (hP) hE rfl rfl rfl hl.1 rfl (Nat.le_of_ble_eq_true rfl) dX5_inRow_21) ?_
      refine lv_goto (tgt := 28) hx hb dX5_inRow_24 (by decide) ?_
      have he9 : eP (nI xj) = 0 := (by simp [eP, hpx, hix])
      have hnx : σ = σ := (rfl)
      exact wr_reti hx hb hr hlocks hS (by rw [he9]; show gP g (wM g am (σ) 0) H; rw [hnx]; exact hP) (by rw [he9]; show _ = nI (rcn σ (ix (nI xj))); exact (by rw [hix])) dX5_inRow_28
theorem mX5_floorOf_36 : Cond.fieldLink RX5 36 "FollowrowModel" "floor" "[I" ∈ wsX5_floorOf := by decide +kernel
theorem iX5_floorOf_5 : ∀ w ∈ wsX50, w ∈ wsX5_floorOf := by decide +kernel
set_option maxHeartbeats 4000000 in
set_option maxRecDepth 100000 in
/-- floorOf(x) -/
theorem c_X5_floorOf (l : Launch) (g : GT) {am : Nat → Nat} {σ : St} {th : Nat} (hI : Inv σ) (hM : FN am 8) {x : Int32} : wrM l g yX5_floorOf wsX5_floorOf 2 42 [.ref (am 0), .int (x)] (wM g am (σ) (th)) (some (.int (oI (eP x) (fI (sf σ (ix x)))))) (fun H1 => gP g (wM g am (oS (eP x) (σ) σ) ( (eP x))) H1) (mA am) := by
  refine wr_of (cc := cX5_floorOf) (maxL := 2) (ret := (some .int)) (by decide) rfl (Nat.le_of_ble_eq_true rfl) (fun p e s m below meth c ls hx hb hr hml hts hown hlocks hl hP hE hS => ?_)
  have hl : lv_has ls 2 [(0, .ref (am 0)), (1, .int (x))] := hl
  have hown : s.vm.findClass RX5 = some m.cls := hown
  obtain ⟨hi1, hi2, hi3, hi4, hi5, hi6, hi7, hi8⟩ := id hI
  have hD : va_D (fun z => z ∈ mA am) (wM g am σ th) := wM_D hM
  refine lv_aload_n hx hb dX5_floorOf_0 rfl (lv_at hl 0 rfl) ?_
  refine lv_iload_n hx hb dX5_floorOf_1 rfl (lv_at hl 1 rfl) ?_
  refine rd_goS (rn_S ⟨hx, hb, hml, hown, hts⟩ (c_X5_isOne l g (x := x)) gX5_floorOf_X5_isOne rfl qX5_isOne ⟨Nat.le_of_ble_eq_true rfl, Nat.le_of_ble_eq_true rfl⟩ ⟨Nat.le_of_ble_eq_true rfl, Nat.le_of_ble_eq_true rfl⟩ (gP_nil) hE rfl hl.1 rfl (Nat.le_of_ble_eq_true rfl) dX5_floorOf_2) ?_
  refine br_eqB (tgt := 12) hx hb dX5_floorOf_5 (by decide) (fun h289 => ?_) (fun h289 => ?_)
  · refine lv_iconst (v := nI (1)) hx hb dX5_floorOf_12 (by decide) ?_
    refine wr_goS (rn_V ⟨hx, hb, hml, hown, hts⟩ (c_X5_isFine l g (σ := σ) (th := th) (x := 1) hM (by omega)) gX5_floorOf_X5_isFine rfl pX5_isFine ⟨Nat.le_of_ble_eq_true rfl, Nat.le_of_ble_eq_true rfl⟩ ⟨Nat.le_of_ble_eq_true rfl, Nat.le_of_ble_eq_true rfl⟩ hP hE rfl rfl rfl hl.1 rfl (Nat.le_of_ble_eq_true rfl) dX5_floorOf_13) hS (fun x h => h) (fun H1 locs1 hB hz hk hS => ?_)
    have hP : gP g (wM g am (σ) (1)) H1 := hB
    have hD : va_D (fun z => z ∈ mA am) (wM g am (σ) (1)) := wM_D hM
    clear hk hB hz
    generalize H1 = H at hP hS ⊢
    generalize locs1 = locs at hS ⊢
    refine tp_i (z := bI (false)) rfl ?_
    refine br_eqB (tgt := 28) hx hb dX5_floorOf_16 (by decide) (fun h290 => ?_) (fun h290 => ?_)
    · refine lv_iconst (v := nI (0)) hx hb dX5_floorOf_28 (by decide) ?_
      have he9 : eP x = 1 := (by simp [eP, h289])
      exact wr_reti hx hb hr hlocks hS (by rw [he9]; exact hP) (by rw [he9]; rfl) dX5_floorOf_29
    · exact absurd h290 (by decide)
  · obtain ⟨xj, hjx, rfl, hix⟩ := isP_of h289
    have hpx : isP (nI xj) = true := h289
    refine lv_iconst (v := nI (0)) hx hb dX5_floorOf_8 (by decide) ?_
    refine lv_goto (tgt := 13) hx hb dX5_floorOf_9 (by decide) ?_
    refine wr_goS (rn_V ⟨hx, hb, hml, hown, hts⟩ (c_X5_isFine l g (σ := σ) (th := th) (x := 0) hM (by omega)) gX5_floorOf_X5_isFine rfl pX5_isFine ⟨Nat.le_of_ble_eq_true rfl, Nat.le_of_ble_eq_true rfl⟩ ⟨Nat.le_of_ble_eq_true rfl, Nat.le_of_ble_eq_true rfl⟩ hP hE rfl rfl rfl hl.1 rfl (Nat.le_of_ble_eq_true rfl) dX5_floorOf_13) hS (fun x h => h) (fun H1 locs1 hB hz hk hS => ?_)
    have hP : gP g (wM g am (σ) (0)) H1 := hB
    have hD : va_D (fun z => z ∈ mA am) (wM g am (σ) (0)) := wM_D hM
    clear hk hB hz
    generalize H1 = H at hP hS ⊢
    generalize locs1 = locs at hS ⊢
    refine tp_i (z := bI (true)) rfl ?_
    refine br_eqB (tgt := 28) hx hb dX5_floorOf_16 (by decide) (fun h291 => ?_) (fun h291 => ?_)
    · exact absurd h291 (by decide)
    · refine lv_aload_n hx hb dX5_floorOf_19 rfl (lv_at hl 0 rfl) ?_
      refine gf (q0 := 0) (ci := 5) (k := 9) (v := .ref (am 7)) hx hb hts iX5_floorOf_5 hown hE hP rfl rfl (by decide) mX5_floorOf_36 rfl dX5_floorOf_20 ?_
      refine lv_iload_n hx hb dX5_floorOf_23 rfl (lv_at hl 1 rfl) ?_
      refine ra_i (q0 := 7) (i := xj) hx hb hE hP rfl (by omega) (by decide) dX5_floorOf_24 ?_
      refine lv_goto (tgt := 29) hx hb dX5_floorOf_25 (by decide) ?_
      have he9 : eP (nI xj) = 0 := (by simp [eP, hpx, hix])
      have hnx : σ = σ := (rfl)
      exact wr_reti hx hb hr hlocks hS (by rw [he9]; show gP g (wM g am (σ) 0) H; rw [hnx]; exact hP) (by rw [he9]; show _ = fI (sf σ (ix (nI xj))); exact (by rw [hix]; rfl)) dX5_floorOf_29
set_option maxHeartbeats 4000000 in
set_option maxRecDepth 100000 in
/-- shows(x, y) -/
theorem c_X5_shows (l : Launch) (g : GT) {am : Nat → Nat} {σ : St} {th : Nat} (hI : Inv σ) (hM : FN am 8) {x y : Int32} : wrM l g yX5_shows wsX5_shows 2 49 [.ref (am 0), .int (x), .int (y)] (wM g am (σ) (th)) (some (.int (bI (oB (eShw σ x y) (shw σ (ix x) (ix y)))))) (fun H1 => gP g (wM g am (oS (eShw σ x y) (σ) σ) ( (eShw σ x y))) H1) (mA am) := by
  refine wr_of (cc := cX5_shows) (maxL := 3) (ret := (some .boolean)) (by decide) rfl (Nat.le_of_ble_eq_true rfl) (fun p e s m below meth c ls hx hb hr hml hts hown hlocks hl hP hE hS => ?_)
  have hl : lv_has ls 3 [(0, .ref (am 0)), (1, .int (x)), (2, .int (y))] := hl
  have hown : s.vm.findClass RX5 = some m.cls := hown
  obtain ⟨hi1, hi2, hi3, hi4, hi5, hi6, hi7, hi8⟩ := id hI
  have hD : va_D (fun z => z ∈ mA am) (wM g am σ th) := wM_D hM
  refine lv_aload_n hx hb dX5_shows_0 rfl (lv_at hl 0 rfl) ?_
  refine lv_iload_n hx hb dX5_shows_1 rfl (lv_at hl 1 rfl) ?_
  refine rd_goS (rn_S ⟨hx, hb, hml, hown, hts⟩ (c_X5_isOne l g (x := x)) gX5_shows_X5_isOne rfl qX5_isOne ⟨Nat.le_of_ble_eq_true rfl, Nat.le_of_ble_eq_true rfl⟩ ⟨Nat.le_of_ble_eq_true rfl, Nat.le_of_ble_eq_true rfl⟩ (gP_nil) hE rfl hl.1 rfl (Nat.le_of_ble_eq_true rfl) dX5_shows_2) ?_
  refine br_eqB (tgt := 20) hx hb dX5_shows_5 (by decide) (fun h292 => ?_) (fun h292 => ?_)
  · refine lv_iconst (v := nI (1)) hx hb dX5_shows_20 (by decide) ?_
    refine wr_goS (rn_V ⟨hx, hb, hml, hown, hts⟩ (c_X5_isFine l g (σ := σ) (th := th) (x := 1) hM (by omega)) gX5_shows_X5_isFine rfl pX5_isFine ⟨Nat.le_of_ble_eq_true rfl, Nat.le_of_ble_eq_true rfl⟩ ⟨Nat.le_of_ble_eq_true rfl, Nat.le_of_ble_eq_true rfl⟩ hP hE rfl rfl rfl hl.1 rfl (Nat.le_of_ble_eq_true rfl) dX5_shows_21) hS (fun x h => h) (fun H1 locs1 hB hz hk hS => ?_)
    have hP : gP g (wM g am (σ) (1)) H1 := hB
    have hD : va_D (fun z => z ∈ mA am) (wM g am (σ) (1)) := wM_D hM
    clear hk hB hz
    generalize H1 = H at hP hS ⊢
    generalize locs1 = locs at hS ⊢
    refine tp_i (z := bI (false)) rfl ?_
    refine br_eqB (tgt := 40) hx hb dX5_shows_24 (by decide) (fun h293 => ?_) (fun h293 => ?_)
    · refine lv_iconst (v := bI (false)) hx hb dX5_shows_40 (by decide) ?_
      have he9 : eShw σ x y = 1 := (by simp [eShw, h292])
      exact wr_retz hx hb hr hlocks hS (by rw [he9]; exact hP) (by rw [he9]; rfl) dX5_shows_41
    · exact absurd h293 (by decide)
  · obtain ⟨xj, hjx, rfl, hix⟩ := isP_of h292
    have hpx : isP (nI xj) = true := h292
    refine lv_aload_n hx hb dX5_shows_8 rfl (lv_at hl 0 rfl) ?_
    refine lv_iload_n hx hb dX5_shows_9 rfl (lv_at hl 2 rfl) ?_
    refine rd_goS (rn_V ⟨hx, hb, hml, hown, hts⟩ (c_X5_isEntry l g hI (x := y)) gX5_shows_X5_isEntry rfl pX5_isEntry ⟨Nat.le_of_ble_eq_true rfl, Nat.le_of_ble_eq_true rfl⟩ ⟨Nat.le_of_ble_eq_true rfl, Nat.le_of_ble_eq_true rfl⟩ (hP) hE rfl rfl rfl hl.1 rfl (Nat.le_of_ble_eq_true rfl) dX5_shows_10) ?_
    refine br_eqB (tgt := 20) hx hb dX5_shows_13 (by decide) (fun h294 => ?_) (fun h294 => ?_)
    · refine lv_iconst (v := nI (1)) hx hb dX5_shows_20 (by decide) ?_
      refine wr_goS (rn_V ⟨hx, hb, hml, hown, hts⟩ (c_X5_isFine l g (σ := σ) (th := th) (x := 1) hM (by omega)) gX5_shows_X5_isFine rfl pX5_isFine ⟨Nat.le_of_ble_eq_true rfl, Nat.le_of_ble_eq_true rfl⟩ ⟨Nat.le_of_ble_eq_true rfl, Nat.le_of_ble_eq_true rfl⟩ hP hE rfl rfl rfl hl.1 rfl (Nat.le_of_ble_eq_true rfl) dX5_shows_21) hS (fun x h => h) (fun H1 locs1 hB hz hk hS => ?_)
      have hP : gP g (wM g am (σ) (1)) H1 := hB
      have hD : va_D (fun z => z ∈ mA am) (wM g am (σ) (1)) := wM_D hM
      clear hk hB hz
      generalize H1 = H at hP hS ⊢
      generalize locs1 = locs at hS ⊢
      refine tp_i (z := bI (false)) rfl ?_
      refine br_eqB (tgt := 40) hx hb dX5_shows_24 (by decide) (fun h295 => ?_) (fun h295 => ?_)
      · refine lv_iconst (v := bI (false)) hx hb dX5_shows_40 (by decide) ?_
        have he9 : eShw σ (nI xj) y = 1 := (by simp [eShw, hpx, hix, h294])
        exact wr_retz hx hb hr hlocks hS (by rw [he9]; exact hP) (by rw [he9]; rfl) dX5_shows_41
      · exact absurd h295 (by decide)
    · obtain ⟨yj, hjy, rfl, hiy⟩ := isB_of h294 (by omega)
      have hpy : isB (nI yj) (sn σ) = true := h294
      refine lv_iconst (v := nI (0)) hx hb dX5_shows_16 (by decide) ?_
      refine lv_goto (tgt := 21) hx hb dX5_shows_17 (by decide) ?_
      refine wr_goS (rn_V ⟨hx, hb, hml, hown, hts⟩ (c_X5_isFine l g (σ := σ) (th := th) (x := 0) hM (by omega)) gX5_shows_X5_isFine rfl pX5_isFine ⟨Nat.le_of_ble_eq_true rfl, Nat.le_of_ble_eq_true rfl⟩ ⟨Nat.le_of_ble_eq_true rfl, Nat.le_of_ble_eq_true rfl⟩ hP hE rfl rfl rfl hl.1 rfl (Nat.le_of_ble_eq_true rfl) dX5_shows_21) hS (fun x h => h) (fun H1 locs1 hB hz hk hS => ?_)
      have hP : gP g (wM g am (σ) (0)) H1 := hB
      have hD : va_D (fun z => z ∈ mA am) (wM g am (σ) (0)) := wM_D hM
      clear hk hB hz
      generalize H1 = H at hP hS ⊢
      generalize locs1 = locs at hS ⊢
      refine tp_i (z := bI (true)) rfl ?_
      refine br_eqB (tgt := 40) hx hb dX5_shows_24 (by decide) (fun h296 => ?_) (fun h296 => ?_)
      · exact absurd h296 (by decide)
      · refine lv_aload_n hx hb dX5_shows_27 rfl (lv_at hl 0 rfl) ?_
        refine lv_iload_n hx hb dX5_shows_28 rfl (lv_at hl 1 rfl) ?_
        refine lv_iload_n hx hb dX5_shows_29 rfl (lv_at hl 2 rfl) ?_
        refine rd_goS (rn_V ⟨hx, hb, hml, hown, hts⟩ (c_X5_isShown l g (σ := σ) (th := 0) hI (q := xj) (x := yj) (by omega) (by omega)) gX5_shows_X5_isShown rfl pX5_isShown ⟨Nat.le_of_ble_eq_true rfl, Nat.le_of_ble_eq_true rfl⟩ ⟨Nat.le_of_ble_eq_true rfl, Nat.le_of_ble_eq_true rfl⟩ (hP) hE rfl rfl rfl hl.1 rfl (Nat.le_of_ble_eq_true rfl) dX5_shows_30) ?_
        refine br_eqB (tgt := 40) hx hb dX5_shows_33 (by decide) (fun h297 => ?_) (fun h297 => ?_)
        · refine lv_iconst (v := bI (false)) hx hb dX5_shows_40 (by decide) ?_
          have he9 : eShw σ (nI xj) (nI yj) = 0 := (by simp [eShw, hpx, hix, hpy, hiy, h297])
          have hnx : σ = σ := (rfl)
          exact wr_retz hx hb hr hlocks hS (by rw [he9]; show gP g (wM g am (σ) 0) H; rw [hnx]; exact hP) (by rw [he9]; show _ = shw σ (ix (nI xj)) (ix (nI yj)); exact (by rw [hix, hiy]; exact h297.symm)) dX5_shows_41
        · refine lv_iconst (v := bI (true)) hx hb dX5_shows_36 (by decide) ?_
          refine lv_goto (tgt := 41) hx hb dX5_shows_37 (by decide) ?_
          have he9 : eShw σ (nI xj) (nI yj) = 0 := (by simp [eShw, hpx, hix, hpy, hiy, h297])
          have hnx : σ = σ := (rfl)
          exact wr_retz hx hb hr hlocks hS (by rw [he9]; show gP g (wM g am (σ) 0) H; rw [hnx]; exact hP) (by rw [he9]; show _ = shw σ (ix (nI xj)) (ix (nI yj)); exact (by rw [hix, hiy]; exact h297.symm)) dX5_shows_41
set_option maxHeartbeats 4000000 in
set_option maxRecDepth 100000 in
/-- next(x, y) -/
theorem c_X5_next (l : Launch) (g : GT) {am : Nat → Nat} {σ : St} {th : Nat} (hI : Inv σ) (hM : FN am 8) {x y : Int32} : wrM l g yX5_next wsX5_next 3 72 [.ref (am 0), .int (x), .int (y)] (wM g am (σ) (th)) (some (.int (oI (eNxt x y) (fI (rNxt σ (ix x) (ix y)))))) (fun H1 => gP g (wM g am (oS (eNxt x y) (σ) σ) ( (eNxt x y))) H1) (mA am) := by
  refine wr_of (cc := cX5_next) (maxL := 3) (ret := (some .int)) (by decide) rfl (Nat.le_of_ble_eq_true rfl) (fun p e s m below meth c ls hx hb hr hml hts hown hlocks hl hP hE hS => ?_)
  have hl : lv_has ls 3 [(0, .ref (am 0)), (1, .int (x)), (2, .int (y))] := hl
  have hown : s.vm.findClass RX5 = some m.cls := hown
  obtain ⟨hi1, hi2, hi3, hi4, hi5, hi6, hi7, hi8⟩ := id hI
  have hD : va_D (fun z => z ∈ mA am) (wM g am σ th) := wM_D hM
  refine lv_aload_n hx hb dX5_next_0 rfl (lv_at hl 0 rfl) ?_
  refine lv_iload_n hx hb dX5_next_1 rfl (lv_at hl 1 rfl) ?_
  refine rd_goS (rn_S ⟨hx, hb, hml, hown, hts⟩ (c_X5_isOne l g (x := x)) gX5_next_X5_isOne rfl qX5_isOne ⟨Nat.le_of_ble_eq_true rfl, Nat.le_of_ble_eq_true rfl⟩ ⟨Nat.le_of_ble_eq_true rfl, Nat.le_of_ble_eq_true rfl⟩ (gP_nil) hE rfl hl.1 rfl (Nat.le_of_ble_eq_true rfl) dX5_next_2) ?_
  refine br_neB (tgt := 12) hx hb dX5_next_5 (by decide) (fun h298 => ?_) (fun h298 => ?_)
  · obtain ⟨xj, hjx, rfl, hix⟩ := isP_of h298
    have hpx : isP (nI xj) = true := h298
    refine lv_iload_n hx hb dX5_next_12 rfl (lv_at hl 2 rfl) ?_
    refine lv_iconst (v := nI (0)) hx hb dX5_next_13 (by decide) ?_
    refine lv_sipush (v := nI (150)) hx hb dX5_next_14 (by decide) ?_
    refine rd_goS (rn_S ⟨hx, hb, hml, hown, hts⟩ (c_X5_in l g (x := y) (lo := nI (0)) (hi := nI (150))) gX5_next_X5_in rfl qX5_in ⟨Nat.le_of_ble_eq_true rfl, Nat.le_of_ble_eq_true rfl⟩ ⟨Nat.le_of_ble_eq_true rfl, Nat.le_of_ble_eq_true rfl⟩ (gP_nil) hE rfl hl.1 rfl (Nat.le_of_ble_eq_true rfl) dX5_next_17) ?_
    refine br_neB (tgt := 27) hx hb dX5_next_20 (by decide) (fun h299 => ?_) (fun h299 => ?_)
    · obtain ⟨yj, hly, hhy, rfl, hiy⟩ := eR_0 (lo := 0) (hi := 150) (by decide) (by decide) (by rw [eR_inB, if_pos h299])
      refine lv_iconst (v := nI (0)) hx hb dX5_next_27 (by decide) ?_
      refine wr_goS (rn_V ⟨hx, hb, hml, hown, hts⟩ (c_X5_isFine l g (σ := σ) (th := th) (x := 0) hM (by omega)) gX5_next_X5_isFine rfl pX5_isFine ⟨Nat.le_of_ble_eq_true rfl, Nat.le_of_ble_eq_true rfl⟩ ⟨Nat.le_of_ble_eq_true rfl, Nat.le_of_ble_eq_true rfl⟩ hP hE rfl rfl rfl hl.1 rfl (Nat.le_of_ble_eq_true rfl) dX5_next_28) hS (fun x h => h) (fun H1 locs1 hB hz hk hS => ?_)
      have hP : gP g (wM g am (σ) (0)) H1 := hB
      have hD : va_D (fun z => z ∈ mA am) (wM g am (σ) (0)) := wM_D hM
      clear hk hB hz
      generalize H1 = H at hP hS ⊢
      generalize locs1 = locs at hS ⊢
      refine tp_i (z := bI (true)) rfl ?_
      refine br_eqB (tgt := 43) hx hb dX5_next_31 (by decide) (fun h300 => ?_) (fun h300 => ?_)
      · exact absurd h300 (by decide)
      · refine lv_aload_n hx hb dX5_next_34 rfl (lv_at hl 0 rfl) ?_
        refine lv_iload_n hx hb dX5_next_35 rfl (lv_at hl 1 rfl) ?_
        refine lv_iload_n hx hb dX5_next_36 rfl (lv_at hl 2 rfl) ?_
        refine rd_goS (rn_V ⟨hx, hb, hml, hown, hts⟩ (c_X5_nextBelow l g (σ := σ) (th := 0) hI (q := xj) (y := yj) (by omega) (by omega)) gX5_next_X5_nextBelow rfl pX5_nextBelow ⟨Nat.le_of_ble_eq_true rfl, Nat.le_of_ble_eq_true rfl⟩ ⟨Nat.le_of_ble_eq_true rfl, Nat.le_of_ble_eq_true rfl⟩ (hP) hE rfl rfl rfl hl.1 rfl (Nat.le_of_ble_eq_true rfl) dX5_next_37) ?_
        refine lv_goto (tgt := 44) hx hb dX5_next_40 (by decide) ?_
        have he9 : eNxt (nI xj) (nI yj) = 0 := (by simp [eNxt, eR_inB, hpx, hix, h299, hiy])
        have hnx : σ = σ := (rfl)
        exact wr_reti hx hb hr hlocks hS (by rw [he9]; show gP g (wM g am (σ) 0) H; rw [hnx]; exact hP) (by rw [he9]; show _ = fI (rNxt σ (ix (nI xj)) (ix (nI yj))); exact (by rw [hix, hiy]; rfl)) dX5_next_44
    · refine lv_iconst (v := nI (2)) hx hb dX5_next_23 (by decide) ?_
      refine lv_goto (tgt := 28) hx hb dX5_next_24 (by decide) ?_
      refine wr_goS (rn_V ⟨hx, hb, hml, hown, hts⟩ (c_X5_isFine l g (σ := σ) (th := th) (x := 2) hM (by omega)) gX5_next_X5_isFine rfl pX5_isFine ⟨Nat.le_of_ble_eq_true rfl, Nat.le_of_ble_eq_true rfl⟩ ⟨Nat.le_of_ble_eq_true rfl, Nat.le_of_ble_eq_true rfl⟩ hP hE rfl rfl rfl hl.1 rfl (Nat.le_of_ble_eq_true rfl) dX5_next_28) hS (fun x h => h) (fun H1 locs1 hB hz hk hS => ?_)
      have hP : gP g (wM g am (σ) (2)) H1 := hB
      have hD : va_D (fun z => z ∈ mA am) (wM g am (σ) (2)) := wM_D hM
      clear hk hB hz
      generalize H1 = H at hP hS ⊢
      generalize locs1 = locs at hS ⊢
      refine tp_i (z := bI (false)) rfl ?_
      refine br_eqB (tgt := 43) hx hb dX5_next_31 (by decide) (fun h301 => ?_) (fun h301 => ?_)
      · refine lv_iconst (v := nI (0)) hx hb dX5_next_43 (by decide) ?_
        have he9 : eNxt (nI xj) y = 2 := (by simp [eNxt, eR_inB, hpx, hix, h299])
        exact wr_reti hx hb hr hlocks hS (by rw [he9]; exact hP) (by rw [he9]; rfl) dX5_next_44
      · exact absurd h301 (by decide)
  · refine lv_iconst (v := nI (1)) hx hb dX5_next_8 (by decide) ?_
    refine lv_goto (tgt := 28) hx hb dX5_next_9 (by decide) ?_
    refine wr_goS (rn_V ⟨hx, hb, hml, hown, hts⟩ (c_X5_isFine l g (σ := σ) (th := th) (x := 1) hM (by omega)) gX5_next_X5_isFine rfl pX5_isFine ⟨Nat.le_of_ble_eq_true rfl, Nat.le_of_ble_eq_true rfl⟩ ⟨Nat.le_of_ble_eq_true rfl, Nat.le_of_ble_eq_true rfl⟩ hP hE rfl rfl rfl hl.1 rfl (Nat.le_of_ble_eq_true rfl) dX5_next_28) hS (fun x h => h) (fun H1 locs1 hB hz hk hS => ?_)
    have hP : gP g (wM g am (σ) (1)) H1 := hB
    have hD : va_D (fun z => z ∈ mA am) (wM g am (σ) (1)) := wM_D hM
    clear hk hB hz
    generalize H1 = H at hP hS ⊢
    generalize locs1 = locs at hS ⊢
    refine tp_i (z := bI (false)) rfl ?_
    refine br_eqB (tgt := 43) hx hb dX5_next_31 (by decide) (fun h302 => ?_) (fun h302 => ?_)
    · refine lv_iconst (v := nI (0)) hx hb dX5_next_43 (by decide) ?_
      have he9 : eNxt x y = 1 := (by simp [eNxt, eR_inB, h298])
      exact wr_reti hx hb hr hlocks hS (by rw [he9]; exact hP) (by rw [he9]; rfl) dX5_next_44
    · exact absurd h302 (by decide)
theorem mX5_length_46 : Cond.fieldLink RX5 46 "FollowrowModel" "entries" "I" ∈ wsX5_length := by decide +kernel
theorem iX5_length_5 : ∀ w ∈ wsX50, w ∈ wsX5_length := by decide +kernel
set_option maxHeartbeats 4000000 in
set_option maxRecDepth 100000 in
/-- length(x) -/
theorem c_X5_length (l : Launch) (g : GT) {am : Nat → Nat} {σ : St} {th : Nat} (hI : Inv σ) (hM : FN am 8) {x : Int32} : wrM l g yX5_length wsX5_length 2 49 [.ref (am 0), .int (x)] (wM g am (σ) (th)) (some (.int (oI (eP x) (nI (cN (shw σ (ix x)) (sn σ)))))) (fun H1 => gP g (wM g am (oS (eP x) (σ) σ) ( (eP x))) H1) (mA am) := by
  refine wr_of (cc := cX5_length) (maxL := 4) (ret := (some .int)) (by decide) rfl (Nat.le_of_ble_eq_true rfl) (fun p e s m below meth c ls hx hb hr hml hts hown hlocks hl hP hE hS => ?_)
  have hl : lv_has ls 4 [(0, .ref (am 0)), (1, .int (x))] := hl
  have hown : s.vm.findClass RX5 = some m.cls := hown
  obtain ⟨hi1, hi2, hi3, hi4, hi5, hi6, hi7, hi8⟩ := id hI
  have hD : va_D (fun z => z ∈ mA am) (wM g am σ th) := wM_D hM
  refine lv_iconst (v := nI (0)) hx hb dX5_length_0 (by decide) ?_
  refine lv_istore_n (lv' := [(2, .int (nI (0))), (0, .ref (am 0)), (1, .int (x))]) hx hb dX5_length_1 rfl hl (by decide) rfl (fun ls hl => ?_)
  refine lv_aload_n hx hb dX5_length_2 rfl (lv_at hl 1 rfl) ?_
  refine lv_iload_n hx hb dX5_length_3 rfl (lv_at hl 2 rfl) ?_
  refine rd_goS (rn_S ⟨hx, hb, hml, hown, hts⟩ (c_X5_isOne l g (x := x)) gX5_length_X5_isOne rfl qX5_isOne ⟨Nat.le_of_ble_eq_true rfl, Nat.le_of_ble_eq_true rfl⟩ ⟨Nat.le_of_ble_eq_true rfl, Nat.le_of_ble_eq_true rfl⟩ (gP_nil) hE rfl hl.1 rfl (Nat.le_of_ble_eq_true rfl) dX5_length_4) ?_
  refine br_eqB (tgt := 14) hx hb dX5_length_7 (by decide) (fun h303 => ?_) (fun h303 => ?_)
  · refine lv_iconst (v := nI (1)) hx hb dX5_length_14 (by decide) ?_
    refine wr_goS (rn_V ⟨hx, hb, hml, hown, hts⟩ (c_X5_isFine l g (σ := σ) (th := th) (x := 1) hM (by omega)) gX5_length_X5_isFine rfl pX5_isFine ⟨Nat.le_of_ble_eq_true rfl, Nat.le_of_ble_eq_true rfl⟩ ⟨Nat.le_of_ble_eq_true rfl, Nat.le_of_ble_eq_true rfl⟩ hP hE rfl rfl rfl hl.1 rfl (Nat.le_of_ble_eq_true rfl) dX5_length_15) hS (fun x h => h) (fun H1 locs1 hB hz hk hS => ?_)
    have hP : gP g (wM g am (σ) (1)) H1 := hB
    have hD : va_D (fun z => z ∈ mA am) (wM g am (σ) (1)) := wM_D hM
    clear hk hB hz
    generalize H1 = H at hP hS ⊢
    generalize locs1 = locs at hS ⊢
    refine tp_i (z := bI (false)) rfl ?_
    refine br_eqB (tgt := 54) hx hb dX5_length_18 (by decide) (fun h304 => ?_) (fun h304 => ?_)
    · refine lv_iload_n hx hb dX5_length_54 rfl (lv_at hl 0 rfl) ?_
      have he9 : eP x = 1 := (by simp [eP, h303])
      exact wr_reti hx hb hr hlocks hS (by rw [he9]; exact hP) (by rw [he9]; rfl) dX5_length_55
    · exact absurd h304 (by decide)
  · obtain ⟨xj, hjx, rfl, hix⟩ := isP_of h303
    have hpx : isP (nI xj) = true := h303
    refine lv_iconst (v := nI (0)) hx hb dX5_length_10 (by decide) ?_
    refine lv_goto (tgt := 15) hx hb dX5_length_11 (by decide) ?_
    refine wr_goS (rn_V ⟨hx, hb, hml, hown, hts⟩ (c_X5_isFine l g (σ := σ) (th := th) (x := 0) hM (by omega)) gX5_length_X5_isFine rfl pX5_isFine ⟨Nat.le_of_ble_eq_true rfl, Nat.le_of_ble_eq_true rfl⟩ ⟨Nat.le_of_ble_eq_true rfl, Nat.le_of_ble_eq_true rfl⟩ hP hE rfl rfl rfl hl.1 rfl (Nat.le_of_ble_eq_true rfl) dX5_length_15) hS (fun x h => h) (fun H1 locs1 hB hz hk hS => ?_)
    have hP : gP g (wM g am (σ) (0)) H1 := hB
    have hD : va_D (fun z => z ∈ mA am) (wM g am (σ) (0)) := wM_D hM
    clear hk hB hz
    generalize H1 = H at hP hS ⊢
    generalize locs1 = locs at hS ⊢
    refine tp_i (z := bI (true)) rfl ?_
    refine br_eqB (tgt := 54) hx hb dX5_length_18 (by decide) (fun h305 => ?_) (fun h305 => ?_)
    · exact absurd h305 (by decide)
    · refine lv_iconst (v := nI (0)) hx hb dX5_length_21 (by decide) ?_
      refine lv_istore_n (lv' := [(3, .int (nI (0))), (2, .int (nI (0))), (0, .ref (am 0)), (1, .int (nI (xj)))]) hx hb dX5_length_22 rfl hl (by decide) rfl (fun ls hl => ?_)
      have lp306 : ∀ (n9 i : Nat), sn σ - i < n9 → (i ≤ sn σ) → ∀ (H : Heap) (locs : List Loc), gP g (wM g am (σ) (0)) H → va_D (fun q => q ∈ (mA am)) (wM g am (σ) (0)) → va_S (fun q => q ∈ (mA am)) s.heap H locs → ∀ ls : Array Slot, lv_has ls 4 [(0, .ref (am 0)), (1, .int (nI (xj))), (2, .int (nI (cN (shw σ xj) i))), (3, .int (nI (i)))] → W p l e ({ frames := 2, cells := 0, slots := 0, locals := 49 } : Room) s m ([.ref (am 0), .int ((nI xj))] : List Value).toArray below meth c H locs 0 0 (MQ below (wrQ (some (.int (oI (eP (nI xj)) (nI (cN (shw σ (ix (nI xj))) (sn σ)))))) (fun H1 => gP g (wM g am (oS (eP (nI xj)) (σ) σ) ( (eP (nI xj)))) H1) (mA am)) ([.ref (am 0), .int ((nI xj))] : List Value).toArray s 0 0 (fun q => q ∈ (mA am))) (F0 m 23 ls []) := by
        intro n9
        induction n9 with
        | zero => intro i h; omega
        | succ n9 ihlp306 =>
          intro i h9 hi H locs hP hD hS ls hl
          refine lv_iload_n hx hb dX5_length_23 rfl (lv_at hl 3 rfl) ?_
          refine lv_aload_n hx hb dX5_length_24 rfl (lv_at hl 0 rfl) ?_
          refine gf (q0 := 0) (ci := 5) (k := 6) (v := .int (nI (sn σ))) hx hb hts iX5_length_5 hown hE hP rfl rfl (by decide) mX5_length_46 rfl dX5_length_25 ?_
          refine br_geN (a := i) (b := sn σ) (tgt := 54) hx hb (by omega) (by omega) dX5_length_28 (by decide) (fun h307 => ?_) (fun h307 => ?_)
          · refine lv_iload_n hx hb dX5_length_54 rfl (lv_at hl 2 rfl) ?_
            have he9 : eP (nI xj) = 0 := (by simp [eP, hpx, hix])
            have hnx : σ = σ := (rfl)
            exact wr_reti hx hb hr hlocks hS (by rw [he9]; show gP g (wM g am (σ) 0) H; rw [hnx]; exact hP) (by rw [he9]; show _ = nI (cN (shw σ (ix (nI xj))) (sn σ)); exact (by rw [hix, show i = sn σ by omega])) dX5_length_55
          · refine lv_iload_n hx hb dX5_length_31 rfl (lv_at hl 2 rfl) ?_
            refine lv_aload_n hx hb dX5_length_32 rfl (lv_at hl 0 rfl) ?_
            refine lv_iload_n hx hb dX5_length_33 rfl (lv_at hl 1 rfl) ?_
            refine lv_iload_n hx hb dX5_length_34 rfl (lv_at hl 3 rfl) ?_
            refine rd_goS (rn_V ⟨hx, hb, hml, hown, hts⟩ (c_X5_isShown l g (σ := σ) (th := 0) hI (q := xj) (x := i) (by omega) (by omega)) gX5_length_X5_isShown rfl pX5_isShown ⟨Nat.le_of_ble_eq_true rfl, Nat.le_of_ble_eq_true rfl⟩ ⟨Nat.le_of_ble_eq_true rfl, Nat.le_of_ble_eq_true rfl⟩ (hP) hE rfl rfl rfl hl.1 rfl (Nat.le_of_ble_eq_true rfl) dX5_length_35) ?_
            refine br_eqB (tgt := 45) hx hb dX5_length_38 (by decide) (fun h308 => ?_) (fun h308 => ?_)
            · refine lv_iconst (v := nI (0)) hx hb dX5_length_45 (by decide) ?_
              refine lv_iadd hx hb dX5_length_46 ?_
              refine tp_i (nI_add _ _) ?_
              refine lv_istore_n (lv' := [(2, .int (nI (cN (shw σ xj) i + 0))), (0, .ref (am 0)), (1, .int (nI (xj))), (3, .int (nI (i)))]) hx hb dX5_length_47 rfl hl (by decide) rfl (fun ls hl => ?_)
              refine lv_iinc (v := nI (i + 1)) (lv' := [(3, .int (nI (i + 1))), (2, .int (nI (cN (shw σ xj) i + 0))), (0, .ref (am 0)), (1, .int (nI (xj)))]) hx hb dX5_length_48 hl (k := 3) rfl (inc1 (i)) (by decide) rfl (fun ls hl => ?_)
              refine lv_goto (tgt := 23) hx hb dX5_length_51 (by decide) ?_
              rw [← cN_f (P := shw σ xj) (k := i) h308] at hl
              exact ihlp306 (i + 1) (by omega) (by omega) H locs hP hD hS ls (lv_sub hl [2, 3, 1, 0] rfl)
            · refine lv_iconst (v := nI (1)) hx hb dX5_length_41 (by decide) ?_
              refine lv_goto (tgt := 46) hx hb dX5_length_42 (by decide) ?_
              refine lv_iadd hx hb dX5_length_46 ?_
              refine tp_i (nI_add _ _) ?_
              refine lv_istore_n (lv' := [(2, .int (nI (cN (shw σ xj) i + 1))), (0, .ref (am 0)), (1, .int (nI (xj))), (3, .int (nI (i)))]) hx hb dX5_length_47 rfl hl (by decide) rfl (fun ls hl => ?_)
              refine lv_iinc (v := nI (i + 1)) (lv' := [(3, .int (nI (i + 1))), (2, .int (nI (cN (shw σ xj) i + 1))), (0, .ref (am 0)), (1, .int (nI (xj)))]) hx hb dX5_length_48 hl (k := 3) rfl (inc1 (i)) (by decide) rfl (fun ls hl => ?_)
              refine lv_goto (tgt := 23) hx hb dX5_length_51 (by decide) ?_
              rw [← cN_t (P := shw σ xj) (k := i) h308] at hl
              exact ihlp306 (i + 1) (by omega) (by omega) H locs hP hD hS ls (lv_sub hl [2, 3, 1, 0] rfl)
      exact lp306 (sn σ + 1) (0) (by omega) (by omega) _ _ hP hD hS ls (lv_sub hl [2, 3, 1, 0] rfl)
theorem gap_out {σ : St} {q : Nat} (h : sf σ q ≤ sn σ) : exB (fun e => !sd σ e && sF σ (8 * q + sa σ e)) (sf σ q) = rGap σ q := by
  unfold rGap
  cases hz : exB (fun e => !sd σ e && sF σ (8 * q + sa σ e)) (sf σ q) with
  | true =>
    obtain ⟨k, hk, hp⟩ := (exB_iff _ _).mp hz
    exact ((exB_iff _ _).mpr ⟨k, by omega, by simp only [decide_eq_true hk, Bool.true_and]; exact hp⟩).symm
  | false =>
    refine (exB_false.mpr (fun k hk => ?_)).symm
    by_cases hkf : k < sf σ q
    · simp only [decide_eq_true hkf, Bool.true_and]
      exact exB_false.mp hz k hkf
    · simp only [decide_eq_false hkf, Bool.false_and]
theorem mX5_hasGap_7 : Cond.fieldLink RX5 7 "FollowrowModel" "followed" "[Z" ∈ wsX5_hasGap := by decide +kernel
theorem mX5_hasGap_19 : Cond.fieldLink RX5 19 "FollowrowModel" "author" "[I" ∈ wsX5_hasGap := by decide +kernel
theorem mX5_hasGap_26 : Cond.fieldLink RX5 26 "FollowrowModel" "isGone" "[Z" ∈ wsX5_hasGap := by decide +kernel
theorem mX5_hasGap_36 : Cond.fieldLink RX5 36 "FollowrowModel" "floor" "[I" ∈ wsX5_hasGap := by decide +kernel
theorem mX5_hasGap_46 : Cond.fieldLink RX5 46 "FollowrowModel" "entries" "I" ∈ wsX5_hasGap := by decide +kernel
theorem iX5_hasGap_5 : ∀ w ∈ wsX50, w ∈ wsX5_hasGap := by decide +kernel
set_option maxHeartbeats 4000000 in
set_option maxRecDepth 100000 in
/-- hasGap(x) -/
theorem c_X5_hasGap (l : Launch) (g : GT) {am : Nat → Nat} {σ : St} {th : Nat} (hI : Inv σ) (hM : FN am 8) {x : Int32} : wrM l g yX5_hasGap wsX5_hasGap 2 42 [.ref (am 0), .int (x)] (wM g am (σ) (th)) (some (.int (bI (oB (eP x) (rGap σ (ix x)))))) (fun H1 => gP g (wM g am (oS (eP x) (σ) σ) ( (eP x))) H1) (mA am) := by
  refine wr_of (cc := cX5_hasGap) (maxL := 4) (ret := (some .boolean)) (by decide) rfl (Nat.le_of_ble_eq_true rfl) (fun p e s m below meth c ls hx hb hr hml hts hown hlocks hl hP hE hS => ?_)
  have hl : lv_has ls 4 [(0, .ref (am 0)), (1, .int (x))] := hl
  have hown : s.vm.findClass RX5 = some m.cls := hown
  obtain ⟨hi1, hi2, hi3, hi4, hi5, hi6, hi7, hi8⟩ := id hI
  have hD : va_D (fun z => z ∈ mA am) (wM g am σ th) := wM_D hM
  refine lv_iconst (v := bI (false)) hx hb dX5_hasGap_0 (by decide) ?_
  refine lv_istore_n (lv' := [(2, .int (bI (false))), (0, .ref (am 0)), (1, .int (x))]) hx hb dX5_hasGap_1 rfl hl (by decide) rfl (fun ls hl => ?_)
  refine lv_aload_n hx hb dX5_hasGap_2 rfl (lv_at hl 1 rfl) ?_
  refine lv_iload_n hx hb dX5_hasGap_3 rfl (lv_at hl 2 rfl) ?_
  refine rd_goS (rn_S ⟨hx, hb, hml, hown, hts⟩ (c_X5_isOne l g (x := x)) gX5_hasGap_X5_isOne rfl qX5_isOne ⟨Nat.le_of_ble_eq_true rfl, Nat.le_of_ble_eq_true rfl⟩ ⟨Nat.le_of_ble_eq_true rfl, Nat.le_of_ble_eq_true rfl⟩ (gP_nil) hE rfl hl.1 rfl (Nat.le_of_ble_eq_true rfl) dX5_hasGap_4) ?_
  refine br_eqB (tgt := 14) hx hb dX5_hasGap_7 (by decide) (fun h309 => ?_) (fun h309 => ?_)
  · refine lv_iconst (v := nI (1)) hx hb dX5_hasGap_14 (by decide) ?_
    refine wr_goS (rn_V ⟨hx, hb, hml, hown, hts⟩ (c_X5_isFine l g (σ := σ) (th := th) (x := 1) hM (by omega)) gX5_hasGap_X5_isFine rfl pX5_isFine ⟨Nat.le_of_ble_eq_true rfl, Nat.le_of_ble_eq_true rfl⟩ ⟨Nat.le_of_ble_eq_true rfl, Nat.le_of_ble_eq_true rfl⟩ hP hE rfl rfl rfl hl.1 rfl (Nat.le_of_ble_eq_true rfl) dX5_hasGap_15) hS (fun x h => h) (fun H1 locs1 hB hz hk hS => ?_)
    have hP : gP g (wM g am (σ) (1)) H1 := hB
    have hD : va_D (fun z => z ∈ mA am) (wM g am (σ) (1)) := wM_D hM
    clear hk hB hz
    generalize H1 = H at hP hS ⊢
    generalize locs1 = locs at hS ⊢
    refine tp_i (z := bI (false)) rfl ?_
    refine br_eqB (tgt := 85) hx hb dX5_hasGap_18 (by decide) (fun h310 => ?_) (fun h310 => ?_)
    · refine lv_iload_n hx hb dX5_hasGap_85 rfl (lv_at hl 0 rfl) ?_
      have he9 : eP x = 1 := (by simp [eP, h309])
      exact wr_retz hx hb hr hlocks hS (by rw [he9]; exact hP) (by rw [he9]; rfl) dX5_hasGap_86
    · exact absurd h310 (by decide)
  · obtain ⟨xj, hjx, rfl, hix⟩ := isP_of h309
    have hpx : isP (nI xj) = true := h309
    refine lv_iconst (v := nI (0)) hx hb dX5_hasGap_10 (by decide) ?_
    refine lv_goto (tgt := 15) hx hb dX5_hasGap_11 (by decide) ?_
    refine wr_goS (rn_V ⟨hx, hb, hml, hown, hts⟩ (c_X5_isFine l g (σ := σ) (th := th) (x := 0) hM (by omega)) gX5_hasGap_X5_isFine rfl pX5_isFine ⟨Nat.le_of_ble_eq_true rfl, Nat.le_of_ble_eq_true rfl⟩ ⟨Nat.le_of_ble_eq_true rfl, Nat.le_of_ble_eq_true rfl⟩ hP hE rfl rfl rfl hl.1 rfl (Nat.le_of_ble_eq_true rfl) dX5_hasGap_15) hS (fun x h => h) (fun H1 locs1 hB hz hk hS => ?_)
    have hP : gP g (wM g am (σ) (0)) H1 := hB
    have hD : va_D (fun z => z ∈ mA am) (wM g am (σ) (0)) := wM_D hM
    clear hk hB hz
    generalize H1 = H at hP hS ⊢
    generalize locs1 = locs at hS ⊢
    refine tp_i (z := bI (true)) rfl ?_
    refine br_eqB (tgt := 85) hx hb dX5_hasGap_18 (by decide) (fun h311 => ?_) (fun h311 => ?_)
    · exact absurd h311 (by decide)
    · refine lv_iconst (v := nI (0)) hx hb dX5_hasGap_21 (by decide) ?_
      refine lv_istore_n (lv' := [(3, .int (nI (0))), (2, .int (bI (false))), (0, .ref (am 0)), (1, .int (nI (xj)))]) hx hb dX5_hasGap_22 rfl hl (by decide) rfl (fun ls hl => ?_)
      have hfx := hi8 xj hjx
      have lp312 : ∀ (n9 : Nat) (i : Nat) (b9 : Bool), sn σ - i < n9 → (i ≤ sf σ xj) → (b9 = exB (fun e => !sd σ e && sF σ (8 * xj + sa σ e)) i) → ∀ (H : Heap) (locs : List Loc), gP g (wM g am (σ) (0)) H → va_D (fun q => q ∈ (mA am)) (wM g am (σ) (0)) → va_S (fun q => q ∈ (mA am)) s.heap H locs → ∀ ls : Array Slot, lv_has ls 4 [(0, .ref (am 0)), (1, .int (nI (xj))), (2, .int (bI (b9))), (3, .int (nI (i)))] → W p l e ({ frames := 2, cells := 0, slots := 0, locals := 42 } : Room) s m ([.ref (am 0), .int ((nI xj))] : List Value).toArray below meth c H locs 0 0 (MQ below (wrQ (some (.int (bI (oB (eP (nI xj)) (rGap σ (ix (nI xj))))))) (fun H1 => gP g (wM g am (oS (eP (nI xj)) (σ) σ) ( (eP (nI xj)))) H1) (mA am)) ([.ref (am 0), .int ((nI xj))] : List Value).toArray s 0 0 (fun q => q ∈ (mA am))) (F0 m 23 ls []) := by
        intro n9
        induction n9 with
        | zero => intro i b9 h; omega
        | succ n9 ihlp312 =>
          intro i b9 h9 hi hb9 H locs hP hD hS ls hl
          refine lv_iload_n hx hb dX5_hasGap_23 rfl (lv_at hl 3 rfl) ?_
          refine lv_aload_n hx hb dX5_hasGap_24 rfl (lv_at hl 0 rfl) ?_
          refine gf (q0 := 0) (ci := 5) (k := 6) (v := .int (nI (sn σ))) hx hb hts iX5_hasGap_5 hown hE hP rfl rfl (by decide) mX5_hasGap_46 rfl dX5_hasGap_25 ?_
          refine br_geN (a := i) (b := sn σ) (tgt := 85) hx hb (by omega) (by omega) dX5_hasGap_28 (by decide) (fun h313 => ?_) (fun h313 => ?_)
          · refine lv_iload_n hx hb dX5_hasGap_85 rfl (lv_at hl 2 rfl) ?_
            have he9 : eP (nI xj) = 0 := (by simp [eP, hpx, hix])
            have hnx : σ = σ := (rfl)
            exact wr_retz hx hb hr hlocks hS (by rw [he9]; show gP g (wM g am (σ) 0) H; rw [hnx]; exact hP) (by rw [he9]; show _ = rGap σ (ix (nI xj)); exact (by rw [hix, hb9, show i = sf σ xj by omega]; exact gap_out hfx)) dX5_hasGap_86
          · refine lv_iload_n hx hb dX5_hasGap_31 rfl (lv_at hl 3 rfl) ?_
            refine lv_aload_n hx hb dX5_hasGap_32 rfl (lv_at hl 0 rfl) ?_
            refine gf (q0 := 0) (ci := 5) (k := 9) (v := .ref (am 7)) hx hb hts iX5_hasGap_5 hown hE hP rfl rfl (by decide) mX5_hasGap_36 rfl dX5_hasGap_33 ?_
            refine lv_iload_n hx hb dX5_hasGap_36 rfl (lv_at hl 1 rfl) ?_
            refine ra_i (q0 := 7) (i := xj) hx hb hE hP rfl (by omega) (by decide) dX5_hasGap_37 ?_
            refine tp_i2 nI_fI ?_
            refine br_gtF (a := i + 1) (b := sf σ (xj)) (tgt := 85) hx hb (by omega) (by omega) dX5_hasGap_38 (by decide) (fun h314 => ?_) (fun h314 => ?_)
            · refine lv_iload_n hx hb dX5_hasGap_85 rfl (lv_at hl 2 rfl) ?_
              have he9 : eP (nI xj) = 0 := (by simp [eP, hpx, hix])
              have hnx : σ = σ := (rfl)
              exact wr_retz hx hb hr hlocks hS (by rw [he9]; show gP g (wM g am (σ) 0) H; rw [hnx]; exact hP) (by rw [he9]; show _ = rGap σ (ix (nI xj)); exact (by rw [hix, hb9, show i = sf σ xj by omega]; exact gap_out hfx)) dX5_hasGap_86
            · refine lv_iload_n hx hb dX5_hasGap_41 rfl (lv_at hl 2 rfl) ?_
              refine br_neB (tgt := 73) hx hb dX5_hasGap_42 (by decide) (fun h315 => ?_) (fun h315 => ?_)
              · refine lv_iconst (v := bI (true)) hx hb dX5_hasGap_73 (by decide) ?_
                refine lv_goto (tgt := 78) hx hb dX5_hasGap_74 (by decide) ?_
                refine lv_istore_n (lv' := [(2, .int (bI (true))), (0, .ref (am 0)), (1, .int (nI (xj))), (3, .int (nI (i)))]) hx hb dX5_hasGap_78 rfl hl (by decide) rfl (fun ls hl => ?_)
                refine lv_iinc (v := nI (i + 1)) (lv' := [(3, .int (nI (i + 1))), (2, .int (bI (true))), (0, .ref (am 0)), (1, .int (nI (xj)))]) hx hb dX5_hasGap_79 hl (k := 3) rfl (inc1 (i)) (by decide) rfl (fun ls hl => ?_)
                refine lv_goto (tgt := 23) hx hb dX5_hasGap_82 (by decide) ?_
                exact ihlp312 (i + 1) true (by omega) (by omega) (by rw [exB_s, ← hb9]; simp [h315]) H locs hP hD hS ls (lv_sub hl [2, 3, 1, 0] rfl)
              · refine lv_aload_n hx hb dX5_hasGap_45 rfl (lv_at hl 0 rfl) ?_
                refine gf (q0 := 0) (ci := 5) (k := 5) (v := .ref (am 6)) hx hb hts iX5_hasGap_5 hown hE hP rfl rfl (by decide) mX5_hasGap_26 rfl dX5_hasGap_46 ?_
                refine lv_iload_n hx hb dX5_hasGap_49 rfl (lv_at hl 3 rfl) ?_
                refine ra_z (q0 := 6) (i := i) hx hb hE hP rfl (by omega) (by decide) dX5_hasGap_50 ?_
                refine br_neB (tgt := 77) hx hb dX5_hasGap_51 (by decide) (fun h316 => ?_) (fun h316 => ?_)
                · refine lv_iconst (v := bI (false)) hx hb dX5_hasGap_77 (by decide) ?_
                  refine lv_istore_n (lv' := [(2, .int (bI (false))), (0, .ref (am 0)), (1, .int (nI (xj))), (3, .int (nI (i)))]) hx hb dX5_hasGap_78 rfl hl (by decide) rfl (fun ls hl => ?_)
                  refine lv_iinc (v := nI (i + 1)) (lv' := [(3, .int (nI (i + 1))), (2, .int (bI (false))), (0, .ref (am 0)), (1, .int (nI (xj)))]) hx hb dX5_hasGap_79 hl (k := 3) rfl (inc1 (i)) (by decide) rfl (fun ls hl => ?_)
                  refine lv_goto (tgt := 23) hx hb dX5_hasGap_82 (by decide) ?_
                  exact ihlp312 (i + 1) false (by omega) (by omega) (by rw [exB_s, ← hb9]; simp [h315, h316]) H locs hP hD hS ls (lv_sub hl [2, 3, 1, 0] rfl)
                · refine lv_aload_n hx hb dX5_hasGap_54 rfl (lv_at hl 0 rfl) ?_
                  refine gf (q0 := 0) (ci := 5) (k := 0) (v := .ref (am 1)) hx hb hts iX5_hasGap_5 hown hE hP rfl rfl (by decide) mX5_hasGap_7 rfl dX5_hasGap_55 ?_
                  refine lv_bipush (v := nI (8)) hx hb dX5_hasGap_58 (by decide) ?_
                  refine lv_iload_n hx hb dX5_hasGap_60 rfl (lv_at hl 1 rfl) ?_
                  refine lv_imul hx hb dX5_hasGap_61 ?_
                  refine tp_i (pk_mul _ _) ?_
                  refine lv_aload_n hx hb dX5_hasGap_62 rfl (lv_at hl 0 rfl) ?_
                  refine gf (q0 := 0) (ci := 5) (k := 3) (v := .ref (am 4)) hx hb hts iX5_hasGap_5 hown hE hP rfl rfl (by decide) mX5_hasGap_19 rfl dX5_hasGap_63 ?_
                  refine lv_iload_n hx hb dX5_hasGap_66 rfl (lv_at hl 3 rfl) ?_
                  refine ra_i (q0 := 4) (i := i) hx hb hE hP rfl (by omega) (by decide) dX5_hasGap_67 ?_
                  refine lv_iadd hx hb dX5_hasGap_68 ?_
                  refine tp_i (nI_add _ _) ?_
                  refine ra_z (q0 := 1) (i := 8 * xj + (sa σ (i))) hx hb hE hP rfl (by have := hi5 i; omega) (by decide) dX5_hasGap_69 ?_
                  refine br_eqB (tgt := 77) hx hb dX5_hasGap_70 (by decide) (fun h317 => ?_) (fun h317 => ?_)
                  · refine lv_iconst (v := bI (false)) hx hb dX5_hasGap_77 (by decide) ?_
                    refine lv_istore_n (lv' := [(2, .int (bI (false))), (0, .ref (am 0)), (1, .int (nI (xj))), (3, .int (nI (i)))]) hx hb dX5_hasGap_78 rfl hl (by decide) rfl (fun ls hl => ?_)
                    refine lv_iinc (v := nI (i + 1)) (lv' := [(3, .int (nI (i + 1))), (2, .int (bI (false))), (0, .ref (am 0)), (1, .int (nI (xj)))]) hx hb dX5_hasGap_79 hl (k := 3) rfl (inc1 (i)) (by decide) rfl (fun ls hl => ?_)
                    refine lv_goto (tgt := 23) hx hb dX5_hasGap_82 (by decide) ?_
                    exact ihlp312 (i + 1) false (by omega) (by omega) (by rw [exB_s, ← hb9]; simp [h315, h316, h317]) H locs hP hD hS ls (lv_sub hl [2, 3, 1, 0] rfl)
                  · refine lv_iconst (v := bI (true)) hx hb dX5_hasGap_73 (by decide) ?_
                    refine lv_goto (tgt := 78) hx hb dX5_hasGap_74 (by decide) ?_
                    refine lv_istore_n (lv' := [(2, .int (bI (true))), (0, .ref (am 0)), (1, .int (nI (xj))), (3, .int (nI (i)))]) hx hb dX5_hasGap_78 rfl hl (by decide) rfl (fun ls hl => ?_)
                    refine lv_iinc (v := nI (i + 1)) (lv' := [(3, .int (nI (i + 1))), (2, .int (bI (true))), (0, .ref (am 0)), (1, .int (nI (xj)))]) hx hb dX5_hasGap_79 hl (k := 3) rfl (inc1 (i)) (by decide) rfl (fun ls hl => ?_)
                    refine lv_goto (tgt := 23) hx hb dX5_hasGap_82 (by decide) ?_
                    exact ihlp312 (i + 1) true (by omega) (by omega) (by rw [exB_s, ← hb9]; simp [h315, h316, h317]) H locs hP hD hS ls (lv_sub hl [2, 3, 1, 0] rfl)
      exact lp312 (_ + 1) 0 false (Nat.lt_succ_self _) (Nat.zero_le _) rfl _ _ hP hD hS ls (lv_sub hl [2, 3, 1, 0] rfl)
