theorem mX4_length_38 : Cond.fieldLink RX4 38 "Followrow" "timeline" "LFollowrow$Timeline;" ∈ wsX4_length := by decide +kernel
theorem iX4_length_4 : ∀ w ∈ wsX40, w ∈ wsX4_length := by decide +kernel
set_option maxHeartbeats 4000000 in
set_option maxRecDepth 100000 in
/-- length(x) -/
theorem c_X4_length (l : Launch) (hlf : l.stackTraces = false) (g : GT) {ad : Nat → Nat} {σ : St} {τ : Sc} (hI : Inv σ) (hN : FN ad 31) (hR : rowsOk σ τ 8) (hSd : Setd σ) (hT : tc τ ≤ 150) {x : Int32} : xwM l g yX4_length wsX4_length 8 133 1 6 [.ref (ad 0), .int (x)] (wF g ad (σ) (τ)) (eP x) (some (.int (nI (cN (shw σ (ix x)) (sn σ))))) (fun H1 => FWq g ad (σ) H1) (fA ad) := by
  refine xw_of (cc := cX4_length) (maxL := 2) (ret := (some .int)) (by decide) rfl (Nat.le_of_ble_eq_true rfl) (fun p e s m below meth c ls hx hb hr hml hts hown hlocks hl hP hE hxv hout hS => ?_)
  have hl : lv_has ls 2 [(0, .ref (ad 0)), (1, .int (x))] := hl
  have hown : s.vm.findClass RX4 = some m.cls := hown
  obtain ⟨hi1, hi2, hi3, hi4, hi5, hi6, hi7, hi8⟩ := id hI
  refine lv_aload_n hx hb dX4_length_0 rfl (lv_at hl 0 rfl) ?_
  refine lv_aload_n hx hb dX4_length_1 rfl (lv_at hl 0 rfl) ?_
  refine lv_iload_n hx hb dX4_length_2 rfl (lv_at hl 1 rfl) ?_
  refine xr_goS (xn_V ⟨hx, hb, hml, hown, hts⟩ (c_X4_rowOf l hlf g (x := x)) gX4_length_X4_rowOf rfl pX4_rowOf ⟨Nat.le_of_ble_eq_true rfl, Nat.le_of_ble_eq_true rfl⟩ ⟨Nat.le_of_ble_eq_true rfl, Nat.le_of_ble_eq_true rfl⟩ (hP) hE hxv rfl rfl rfl hl.1 rfl (Nat.le_of_ble_eq_true rfl) dX4_length_3) hout hlocks (fun h => by cases hz : isP x <;> simp [eP, eP, hz] at h ⊢) (Nat.le_of_ble_eq_true rfl) (Nat.le_of_ble_eq_true rfl) (fun hx98 => ?_)
  obtain ⟨xj, hjx, rfl, hix⟩ := isP_of (eP_0 hx98)
  have hpx : isP (nI xj) = true := isP_nI hjx
  refine tp_r (congrArg (fun z => ad (15 + 2 * z)) hix) ?_
  refine wr_goN (rn_V ⟨hx, hb, hml, hown, hts⟩ (c_X4_readTimeline l g (σ := σ) (τ := τ) (q := xj) hN hI hjx (hR xj hjx) (by have h1 := (hR xj hjx).1; have h2 := hSd xj hjx; omega)) gX4_length_X4_readTimeline rfl pX4_readTimeline ⟨Nat.le_of_ble_eq_true rfl, Nat.le_of_ble_eq_true rfl⟩ ⟨Nat.le_of_ble_eq_true rfl, Nat.le_of_ble_eq_true rfl⟩ (hP) hE rfl rfl rfl hl.1 rfl (Nat.le_of_ble_eq_true rfl) dX4_length_6) hS (fun x h => h) (fun H1 locs1 hB hz hk hS => ?_)
  obtain ⟨τ1, hP, hr1, hr2, htl, htc⟩ := hB
  have hro : rowsOk σ τ1 8 := fun q hq => by rw [hr1, hr2]; exact hR q hq
  have hD : va_D (fun z => z ∈ fA ad) (wF g ad (σ) (τ1)) := wF_D hN
  clear hk hz
  generalize H1 = H at hP hS ⊢
  generalize locs1 = locs at hS ⊢
  refine lv_aload_n hx hb dX4_length_9 rfl (lv_at hl 0 rfl) ?_
  refine gf (q0 := 0) (ci := 4) (k := 5) (v := .ref (ad 12)) hx hb hts iX4_length_4 hown hE hP rfl rfl (by decide) mX4_length_38 rfl dX4_length_10 ?_
  refine rd_goS (rn_V ⟨hx, hb, hml, hown, hts⟩ (c_X3_count l g) gX4_length_X3_count rfl pX3_count ⟨Nat.le_of_ble_eq_true rfl, Nat.le_of_ble_eq_true rfl⟩ ⟨Nat.le_of_ble_eq_true rfl, Nat.le_of_ble_eq_true rfl⟩ (hP.sub (ws' := wTim g (ad 12) (ad 13) (ad 14) (tn τ1) (tt τ1) (tc τ1)) [12, 13, 14] rfl) hE rfl rfl rfl hl.1 rfl (Nat.le_of_ble_eq_true rfl) dX4_length_13) ?_
  have hfin : FWq g ad (σ) H := ⟨τ1, hP, hro, htc⟩
  exact xw_reti hx hb hr hlocks hS hfin (by simp [eP, hpx, hix]) (by rw [hix, htl.1]) (Nat.le_of_ble_eq_true rfl) (Nat.le_of_ble_eq_true rfl) dX4_length_16
theorem mX4_lengthByMerging_38 : Cond.fieldLink RX4 38 "Followrow" "timeline" "LFollowrow$Timeline;" ∈ wsX4_lengthByMerging := by decide +kernel
theorem iX4_lengthByMerging_4 : ∀ w ∈ wsX40, w ∈ wsX4_lengthByMerging := by decide +kernel
set_option maxHeartbeats 4000000 in
set_option maxRecDepth 100000 in
/-- lengthByMerging(x) -/
theorem c_X4_lengthByMerging (l : Launch) (hlf : l.stackTraces = false) (g : GT) {ad : Nat → Nat} {σ : St} {τ : Sc} (hI : Inv σ) (hN : FN ad 31) (hR : rowsOk σ τ 8) (hSd : Setd σ) (hT : tc τ ≤ 150) {x : Int32} : xwM l g yX4_lengthByMerging wsX4_lengthByMerging 8 131 1 6 [.ref (ad 0), .int (x)] (wF g ad (σ) (τ)) (eP x) (some (.int (nI (cN (shw σ (ix x)) (sn σ))))) (fun H1 => FWq g ad (σ) H1) (fA ad) := by
  refine xw_of (cc := cX4_lengthByMerging) (maxL := 2) (ret := (some .int)) (by decide) rfl (Nat.le_of_ble_eq_true rfl) (fun p e s m below meth c ls hx hb hr hml hts hown hlocks hl hP hE hxv hout hS => ?_)
  have hl : lv_has ls 2 [(0, .ref (ad 0)), (1, .int (x))] := hl
  have hown : s.vm.findClass RX4 = some m.cls := hown
  obtain ⟨hi1, hi2, hi3, hi4, hi5, hi6, hi7, hi8⟩ := id hI
  refine lv_aload_n hx hb dX4_lengthByMerging_0 rfl (lv_at hl 0 rfl) ?_
  refine lv_iload_n hx hb dX4_lengthByMerging_1 rfl (lv_at hl 1 rfl) ?_
  refine lv_aload_n hx hb dX4_lengthByMerging_2 rfl (lv_at hl 0 rfl) ?_
  refine lv_iload_n hx hb dX4_lengthByMerging_3 rfl (lv_at hl 1 rfl) ?_
  refine xr_goS (xn_V ⟨hx, hb, hml, hown, hts⟩ (c_X4_rowOf l hlf g (x := x)) gX4_lengthByMerging_X4_rowOf rfl pX4_rowOf ⟨Nat.le_of_ble_eq_true rfl, Nat.le_of_ble_eq_true rfl⟩ ⟨Nat.le_of_ble_eq_true rfl, Nat.le_of_ble_eq_true rfl⟩ (hP) hE hxv rfl rfl rfl hl.1 rfl (Nat.le_of_ble_eq_true rfl) dX4_lengthByMerging_4) hout hlocks (fun h => by cases hz : isP x <;> simp [eP, eP, hz] at h ⊢) (Nat.le_of_ble_eq_true rfl) (Nat.le_of_ble_eq_true rfl) (fun hx99 => ?_)
  obtain ⟨xj, hjx, rfl, hix⟩ := isP_of (eP_0 hx99)
  have hpx : isP (nI xj) = true := isP_nI hjx
  refine tp_r (congrArg (fun z => ad (15 + 2 * z)) hix) ?_
  refine rd_goS (rn_V ⟨hx, hb, hml, hown, hts⟩ (c_X2_floor l g) gX4_lengthByMerging_X2_floor rfl pX2_floor ⟨Nat.le_of_ble_eq_true rfl, Nat.le_of_ble_eq_true rfl⟩ ⟨Nat.le_of_ble_eq_true rfl, Nat.le_of_ble_eq_true rfl⟩ ((wF_row (q := xj) (by omega) hP)) hE rfl rfl rfl hl.1 rfl (Nat.le_of_ble_eq_true rfl) dX4_lengthByMerging_7) ?_
  refine wr_goN (rn_V ⟨hx, hb, hml, hown, hts⟩ (c_X4_mergeTimeline l g (σ := σ) (τ := τ) (q := xj) hN hI hjx) gX4_lengthByMerging_X4_mergeTimeline rfl pX4_mergeTimeline ⟨Nat.le_of_ble_eq_true rfl, Nat.le_of_ble_eq_true rfl⟩ ⟨Nat.le_of_ble_eq_true rfl, Nat.le_of_ble_eq_true rfl⟩ (hP) hE rfl rfl rfl hl.1 rfl (Nat.le_of_ble_eq_true rfl) dX4_lengthByMerging_10) hS (fun x h => h) (fun H1 locs1 hB hz hk hS => ?_)
  obtain ⟨τ1, hP, hr1, hr2, htl, htc⟩ := hB
  have hro : rowsOk σ τ1 8 := fun q hq => by rw [hr1, hr2]; exact hR q hq
  have hD : va_D (fun z => z ∈ fA ad) (wF g ad (σ) (τ1)) := wF_D hN
  clear hk hz
  generalize H1 = H at hP hS ⊢
  generalize locs1 = locs at hS ⊢
  refine lv_aload_n hx hb dX4_lengthByMerging_13 rfl (lv_at hl 0 rfl) ?_
  refine gf (q0 := 0) (ci := 4) (k := 5) (v := .ref (ad 12)) hx hb hts iX4_lengthByMerging_4 hown hE hP rfl rfl (by decide) mX4_lengthByMerging_38 rfl dX4_lengthByMerging_14 ?_
  refine rd_goS (rn_V ⟨hx, hb, hml, hown, hts⟩ (c_X3_count l g) gX4_lengthByMerging_X3_count rfl pX3_count ⟨Nat.le_of_ble_eq_true rfl, Nat.le_of_ble_eq_true rfl⟩ ⟨Nat.le_of_ble_eq_true rfl, Nat.le_of_ble_eq_true rfl⟩ (hP.sub (ws' := wTim g (ad 12) (ad 13) (ad 14) (tn τ1) (tt τ1) (tc τ1)) [12, 13, 14] rfl) hE rfl rfl rfl hl.1 rfl (Nat.le_of_ble_eq_true rfl) dX4_lengthByMerging_17) ?_
  have hfin : FWq g ad (σ) H := ⟨τ1, hP, hro, htc⟩
  exact xw_reti hx hb hr hlocks hS hfin (by simp [eP, hpx, hix]) (by rw [hix, htl.1]) (Nat.le_of_ble_eq_true rfl) (Nat.le_of_ble_eq_true rfl) dX4_lengthByMerging_20
theorem mX4_next_38 : Cond.fieldLink RX4 38 "Followrow" "timeline" "LFollowrow$Timeline;" ∈ wsX4_next := by decide +kernel
theorem iX4_next_4 : ∀ w ∈ wsX40, w ∈ wsX4_next := by decide +kernel
set_option maxHeartbeats 4000000 in
set_option maxRecDepth 100000 in
/-- next(x, y) -/
theorem c_X4_next (l : Launch) (hlf : l.stackTraces = false) (g : GT) {ad : Nat → Nat} {σ : St} {τ : Sc} (hI : Inv σ) (hN : FN ad 31) (hR : rowsOk σ τ 8) (hSd : Setd σ) (hT : tc τ ≤ 150) {x y : Int32} : xwM l g yX4_next wsX4_next 8 133 2 12 [.ref (ad 0), .int (x), .int (y)] (wF g ad (σ) (τ)) (eNxt x y) (some (.int (fI (rNxt σ (ix x) (ix y))))) (fun H1 => FWq g ad (σ) H1) (fA ad) := by
  refine xw_of (cc := cX4_next) (maxL := 4) (ret := (some .int)) (by decide) rfl (Nat.le_of_ble_eq_true rfl) (fun p e s m below meth c ls hx hb hr hml hts hown hlocks hl hP hE hxv hout hS => ?_)
  have hl : lv_has ls 4 [(0, .ref (ad 0)), (1, .int (x)), (2, .int (y))] := hl
  have hown : s.vm.findClass RX4 = some m.cls := hown
  obtain ⟨hi1, hi2, hi3, hi4, hi5, hi6, hi7, hi8⟩ := id hI
  refine lv_aload_n hx hb dX4_next_0 rfl (lv_at hl 0 rfl) ?_
  refine lv_iload_n hx hb dX4_next_1 rfl (lv_at hl 1 rfl) ?_
  refine xr_goS (xn_V ⟨hx, hb, hml, hown, hts⟩ (c_X4_rowOf l hlf g (x := x)) gX4_next_X4_rowOf rfl pX4_rowOf ⟨Nat.le_of_ble_eq_true rfl, Nat.le_of_ble_eq_true rfl⟩ ⟨Nat.le_of_ble_eq_true rfl, Nat.le_of_ble_eq_true rfl⟩ (hP) hE hxv rfl rfl rfl hl.1 rfl (Nat.le_of_ble_eq_true rfl) dX4_next_2) hout hlocks (fun h => by cases hz : isP x <;> simp [eP, eNxt, hz] at h ⊢) (Nat.le_of_ble_eq_true rfl) (Nat.le_of_ble_eq_true rfl) (fun hx100 => ?_)
  obtain ⟨xj, hjx, rfl, hix⟩ := isP_of (eP_0 hx100)
  have hpx : isP (nI xj) = true := isP_nI hjx
  refine tp_r (congrArg (fun z => ad (15 + 2 * z)) hix) ?_
  refine lv_astore_n (lv' := [(3, .ref (ad (15 + 2 * xj))), (0, .ref (ad 0)), (1, .int (nI (xj))), (2, .int (y))]) hx hb dX4_next_5 rfl hl (by decide) rfl (fun ls hl => ?_)
  refine lv_iload_n hx hb dX4_next_6 rfl (lv_at hl 3 rfl) ?_
  refine lv_iconst (v := nI (0)) hx hb dX4_next_7 (by decide) ?_
  refine lv_sipush (v := nI (150)) hx hb dX4_next_8 (by decide) ?_
  refine xr_goN (xn_S ⟨hx, hb, hml, hown, hts⟩ (c_X4_checkRange l hlf g (x := y) (lo := 0) (hi := 150)) gX4_next_X4_checkRange rfl qX4_checkRange ⟨Nat.le_of_ble_eq_true rfl, Nat.le_of_ble_eq_true rfl⟩ ⟨Nat.le_of_ble_eq_true rfl, Nat.le_of_ble_eq_true rfl⟩ (gP_nil) hE hxv rfl hl.1 rfl (Nat.le_of_ble_eq_true rfl) dX4_next_11) hout hlocks (fun h => by cases hz : (decide (nI 0 ≤ y) && decide (y ≤ nI 150)) <;> simp [eR, eNxt, hz, hpx, hix] at h ⊢) (Nat.le_of_ble_eq_true rfl) (Nat.le_of_ble_eq_true rfl) (fun hx101 => ?_)
  obtain ⟨yj, hly, hhy, rfl, hiy⟩ := eR_0 (by decide) (by decide) hx101
  have hpy : eR 0 150 (nI yj) = 0 := eR_nI (by decide) (by decide) hly hhy
  refine lv_aload_n hx hb dX4_next_14 rfl (lv_at hl 1 rfl) ?_
  refine lv_aload_n hx hb dX4_next_15 rfl (lv_at hl 0 rfl) ?_
  refine wr_goN (rn_V ⟨hx, hb, hml, hown, hts⟩ (c_X4_readTimeline l g (σ := σ) (τ := τ) (q := xj) hN hI hjx (hR xj hjx) (by have h1 := (hR xj hjx).1; have h2 := hSd xj hjx; omega)) gX4_next_X4_readTimeline rfl pX4_readTimeline ⟨Nat.le_of_ble_eq_true rfl, Nat.le_of_ble_eq_true rfl⟩ ⟨Nat.le_of_ble_eq_true rfl, Nat.le_of_ble_eq_true rfl⟩ (hP) hE rfl rfl rfl hl.1 rfl (Nat.le_of_ble_eq_true rfl) dX4_next_16) hS (fun x h => h) (fun H1 locs1 hB hz hk hS => ?_)
  obtain ⟨τ1, hP, hr1, hr2, htl, htc⟩ := hB
  have hro : rowsOk σ τ1 8 := fun q hq => by rw [hr1, hr2]; exact hR q hq
  have hD : va_D (fun z => z ∈ fA ad) (wF g ad (σ) (τ1)) := wF_D hN
  clear hk hz
  generalize H1 = H at hP hS ⊢
  generalize locs1 = locs at hS ⊢
  refine lv_aload_n hx hb dX4_next_19 rfl (lv_at hl 1 rfl) ?_
  refine gf (q0 := 0) (ci := 4) (k := 5) (v := .ref (ad 12)) hx hb hts iX4_next_4 hown hE hP rfl rfl (by decide) mX4_next_38 rfl dX4_next_20 ?_
  refine lv_aload_n hx hb dX4_next_23 rfl (lv_at hl 1 rfl) ?_
  refine gf (q0 := 0) (ci := 4) (k := 5) (v := .ref (ad 12)) hx hb hts iX4_next_4 hown hE hP rfl rfl (by decide) mX4_next_38 rfl dX4_next_24 ?_
  refine lv_iload_n hx hb dX4_next_27 rfl (lv_at hl 3 rfl) ?_
  refine rd_goS (rn_V ⟨hx, hb, hml, hown, hts⟩ (c_X3_placeBelow l g (x := cN (shw σ xj) (sn σ) - cN (shw σ xj) (cmin (yj) (sn σ))) (y := yj) htc (TL_place htl hi1 (by omega)).1 (TL_place htl hi1 (by omega)).2.1 (TL_place htl hi1 (by omega)).2.2) gX4_next_X3_placeBelow rfl pX3_placeBelow ⟨Nat.le_of_ble_eq_true rfl, Nat.le_of_ble_eq_true rfl⟩ ⟨Nat.le_of_ble_eq_true rfl, Nat.le_of_ble_eq_true rfl⟩ (hP.sub (ws' := wTim g (ad 12) (ad 13) (ad 14) (tn τ1) (tt τ1) (tc τ1)) [12, 13, 14] rfl) hE rfl rfl rfl hl.1 rfl (Nat.le_of_ble_eq_true rfl) dX4_next_28) ?_
  refine rd_goS (rn_V ⟨hx, hb, hml, hown, hts⟩ (c_X3_at l g (x := cN (shw σ xj) (sn σ) - cN (shw σ xj) (cmin (yj) (sn σ))) htc (by first | omega | exact Nat.le_trans (TL_place htl hi1 (by omega)).1 htc)) gX4_next_X3_at rfl pX3_at ⟨Nat.le_of_ble_eq_true rfl, Nat.le_of_ble_eq_true rfl⟩ ⟨Nat.le_of_ble_eq_true rfl, Nat.le_of_ble_eq_true rfl⟩ (hP.sub (ws' := wTim g (ad 12) (ad 13) (ad 14) (tn τ1) (tt τ1) (tc τ1)) [12, 13, 14] rfl) hE rfl rfl rfl hl.1 rfl (Nat.le_of_ble_eq_true rfl) dX4_next_31) ?_
  have hfin : FWq g ad (σ) H := ⟨τ1, hP, hro, htc⟩
  exact xw_reti hx hb hr hlocks hS hfin (by simp [eNxt, hpx, hix, hpy, hiy]) (by rw [hix, hiy]; exact TL_at htl hi1) (Nat.le_of_ble_eq_true rfl) (Nat.le_of_ble_eq_true rfl) dX4_next_34
theorem shows_iff {σ : St} {q x : Nat} {τ : Sc} (h : TL σ q τ) (hn : sn σ ≤ 150) (hx : x < sn σ) : (if cN (shw σ q) (sn σ) - cN (shw σ q) (cmin (x + 1) (sn σ)) < tc τ then tn τ (cN (shw σ q) (sn σ) - cN (shw σ q) (cmin (x + 1) (sn σ))) else (-1)) = nI x ↔ shw σ q x = true := by
  rw [TL_at h hn, nI_fI]
  have e1 : rNxt σ q (x + 1) = laB (shw σ q) (x + 1) := by
    unfold rNxt cmin
    split
    · rfl
    · rw [show sn σ = x + 1 by omega]
  have h2 := laB_le (shw σ q) (x + 1)
  rw [e1, ← laB_s]
  constructor
  · intro h3
    have := (fI_le (a := x + 1) (b := laB (shw σ q) (x + 1)) (by omega) (by omega)).mp (by rw [h3]; exact Int32.le_refl _)
    omega
  · intro h3
    rw [h3]
theorem shows_t {σ : St} {q x : Nat} {τ : Sc} (h : TL σ q τ) (hn : sn σ ≤ 150) (hx : x < sn σ) (h1 : (if cN (shw σ q) (sn σ) - cN (shw σ q) (cmin (x + 1) (sn σ)) < tc τ then tn τ (cN (shw σ q) (sn σ) - cN (shw σ q) (cmin (x + 1) (sn σ))) else (-1)) = nI x) : true = shw σ q x := ((shows_iff h hn hx).mp h1).symm
theorem shows_f {σ : St} {q x : Nat} {τ : Sc} (h : TL σ q τ) (hn : sn σ ≤ 150) (hx : x < sn σ) (h1 : ¬ (if cN (shw σ q) (sn σ) - cN (shw σ q) (cmin (x + 1) (sn σ)) < tc τ then tn τ (cN (shw σ q) (sn σ) - cN (shw σ q) (cmin (x + 1) (sn σ))) else (-1)) = nI x) : false = shw σ q x := by
  cases hz : shw σ q x with
  | false => rfl
  | true => exact absurd ((shows_iff h hn hx).mpr hz) h1
theorem mX4_shows_38 : Cond.fieldLink RX4 38 "Followrow" "timeline" "LFollowrow$Timeline;" ∈ wsX4_shows := by decide +kernel
theorem iX4_shows_4 : ∀ w ∈ wsX40, w ∈ wsX4_shows := by decide +kernel
set_option maxHeartbeats 4000000 in
set_option maxRecDepth 100000 in
/-- shows(x, y) -/
theorem c_X4_shows (l : Launch) (hlf : l.stackTraces = false) (g : GT) {ad : Nat → Nat} {σ : St} {τ : Sc} (hI : Inv σ) (hN : FN ad 31) (hR : rowsOk σ τ 8) (hSd : Setd σ) (hT : tc τ ≤ 150) {x y : Int32} : xwM l g yX4_shows wsX4_shows 8 133 2 12 [.ref (ad 0), .int (x), .int (y)] (wF g ad (σ) (τ)) (eShw σ x y) (some (.int (bI (shw σ (ix x) (ix y))))) (fun H1 => FWq g ad (σ) H1) (fA ad) := by
  refine xw_of (cc := cX4_shows) (maxL := 4) (ret := (some .boolean)) (by decide) rfl (Nat.le_of_ble_eq_true rfl) (fun p e s m below meth c ls hx hb hr hml hts hown hlocks hl hP hE hxv hout hS => ?_)
  have hl : lv_has ls 4 [(0, .ref (ad 0)), (1, .int (x)), (2, .int (y))] := hl
  have hown : s.vm.findClass RX4 = some m.cls := hown
  obtain ⟨hi1, hi2, hi3, hi4, hi5, hi6, hi7, hi8⟩ := id hI
  refine lv_aload_n hx hb dX4_shows_0 rfl (lv_at hl 0 rfl) ?_
  refine lv_iload_n hx hb dX4_shows_1 rfl (lv_at hl 1 rfl) ?_
  refine xr_goS (xn_V ⟨hx, hb, hml, hown, hts⟩ (c_X4_rowOf l hlf g (x := x)) gX4_shows_X4_rowOf rfl pX4_rowOf ⟨Nat.le_of_ble_eq_true rfl, Nat.le_of_ble_eq_true rfl⟩ ⟨Nat.le_of_ble_eq_true rfl, Nat.le_of_ble_eq_true rfl⟩ (hP) hE hxv rfl rfl rfl hl.1 rfl (Nat.le_of_ble_eq_true rfl) dX4_shows_2) hout hlocks (fun h => by cases hz : isP x <;> simp [eP, eShw, hz] at h ⊢) (Nat.le_of_ble_eq_true rfl) (Nat.le_of_ble_eq_true rfl) (fun hx102 => ?_)
  obtain ⟨xj, hjx, rfl, hix⟩ := isP_of (eP_0 hx102)
  have hpx : isP (nI xj) = true := isP_nI hjx
  refine tp_r (congrArg (fun z => ad (15 + 2 * z)) hix) ?_
  refine lv_astore_n (lv' := [(3, .ref (ad (15 + 2 * xj))), (0, .ref (ad 0)), (1, .int (nI (xj))), (2, .int (y))]) hx hb dX4_shows_5 rfl hl (by decide) rfl (fun ls hl => ?_)
  refine lv_aload_n hx hb dX4_shows_6 rfl (lv_at hl 1 rfl) ?_
  refine lv_iload_n hx hb dX4_shows_7 rfl (lv_at hl 3 rfl) ?_
  refine xr_goN (xn_V ⟨hx, hb, hml, hown, hts⟩ (c_X4_checkEntry l hlf g hI (x := y)) gX4_shows_X4_checkEntry rfl pX4_checkEntry ⟨Nat.le_of_ble_eq_true rfl, Nat.le_of_ble_eq_true rfl⟩ ⟨Nat.le_of_ble_eq_true rfl, Nat.le_of_ble_eq_true rfl⟩ (hP) hE hxv rfl rfl rfl hl.1 rfl (Nat.le_of_ble_eq_true rfl) dX4_shows_8) hout hlocks (fun h => by cases hz : isB y (sn σ) <;> simp [eE, eShw, hz, hpx, hix] at h ⊢) (Nat.le_of_ble_eq_true rfl) (Nat.le_of_ble_eq_true rfl) (fun hx103 => ?_)
  obtain ⟨yj, hjy, rfl, hiy⟩ := isB_of (eE_0 hx103) (by omega)
  have hpy : isB (nI yj) (sn σ) = true := isB_lt (by omega) hjy
  refine lv_aload_n hx hb dX4_shows_11 rfl (lv_at hl 1 rfl) ?_
  refine lv_aload_n hx hb dX4_shows_12 rfl (lv_at hl 0 rfl) ?_
  refine wr_goN (rn_V ⟨hx, hb, hml, hown, hts⟩ (c_X4_readTimeline l g (σ := σ) (τ := τ) (q := xj) hN hI hjx (hR xj hjx) (by have h1 := (hR xj hjx).1; have h2 := hSd xj hjx; omega)) gX4_shows_X4_readTimeline rfl pX4_readTimeline ⟨Nat.le_of_ble_eq_true rfl, Nat.le_of_ble_eq_true rfl⟩ ⟨Nat.le_of_ble_eq_true rfl, Nat.le_of_ble_eq_true rfl⟩ (hP) hE rfl rfl rfl hl.1 rfl (Nat.le_of_ble_eq_true rfl) dX4_shows_13) hS (fun x h => h) (fun H1 locs1 hB hz hk hS => ?_)
  obtain ⟨τ1, hP, hr1, hr2, htl, htc⟩ := hB
  have hro : rowsOk σ τ1 8 := fun q hq => by rw [hr1, hr2]; exact hR q hq
  have hD : va_D (fun z => z ∈ fA ad) (wF g ad (σ) (τ1)) := wF_D hN
  clear hk hz
  generalize H1 = H at hP hS ⊢
  generalize locs1 = locs at hS ⊢
  refine lv_aload_n hx hb dX4_shows_16 rfl (lv_at hl 1 rfl) ?_
  refine gf (q0 := 0) (ci := 4) (k := 5) (v := .ref (ad 12)) hx hb hts iX4_shows_4 hown hE hP rfl rfl (by decide) mX4_shows_38 rfl dX4_shows_17 ?_
  refine lv_aload_n hx hb dX4_shows_20 rfl (lv_at hl 1 rfl) ?_
  refine gf (q0 := 0) (ci := 4) (k := 5) (v := .ref (ad 12)) hx hb hts iX4_shows_4 hown hE hP rfl rfl (by decide) mX4_shows_38 rfl dX4_shows_21 ?_
  refine lv_iload_n hx hb dX4_shows_24 rfl (lv_at hl 3 rfl) ?_
  refine lv_iconst (v := nI (1)) hx hb dX4_shows_25 (by decide) ?_
  refine lv_iadd hx hb dX4_shows_26 ?_
  refine tp_i (nI_add _ _) ?_
  refine rd_goS (rn_V ⟨hx, hb, hml, hown, hts⟩ (c_X3_placeBelow l g (x := cN (shw σ xj) (sn σ) - cN (shw σ xj) (cmin (yj + 1) (sn σ))) (y := yj + 1) htc (TL_place htl hi1 (by omega)).1 (TL_place htl hi1 (by omega)).2.1 (TL_place htl hi1 (by omega)).2.2) gX4_shows_X3_placeBelow rfl pX3_placeBelow ⟨Nat.le_of_ble_eq_true rfl, Nat.le_of_ble_eq_true rfl⟩ ⟨Nat.le_of_ble_eq_true rfl, Nat.le_of_ble_eq_true rfl⟩ (hP.sub (ws' := wTim g (ad 12) (ad 13) (ad 14) (tn τ1) (tt τ1) (tc τ1)) [12, 13, 14] rfl) hE rfl rfl rfl hl.1 rfl (Nat.le_of_ble_eq_true rfl) dX4_shows_27) ?_
  refine rd_goS (rn_V ⟨hx, hb, hml, hown, hts⟩ (c_X3_at l g (x := cN (shw σ xj) (sn σ) - cN (shw σ xj) (cmin (yj + 1) (sn σ))) htc (by first | omega | exact Nat.le_trans (TL_place htl hi1 (by omega)).1 htc)) gX4_shows_X3_at rfl pX3_at ⟨Nat.le_of_ble_eq_true rfl, Nat.le_of_ble_eq_true rfl⟩ ⟨Nat.le_of_ble_eq_true rfl, Nat.le_of_ble_eq_true rfl⟩ (hP.sub (ws' := wTim g (ad 12) (ad 13) (ad 14) (tn τ1) (tt τ1) (tc τ1)) [12, 13, 14] rfl) hE rfl rfl rfl hl.1 rfl (Nat.le_of_ble_eq_true rfl) dX4_shows_30) ?_
  refine lv_iload_n hx hb dX4_shows_33 rfl (lv_at hl 3 rfl) ?_
  refine lv_icmp_ne (tgt := 41) hx hb dX4_shows_34 (by decide) (fun h104 => ?_) (fun h104 => ?_)
  · refine lv_iconst (v := bI (false)) hx hb dX4_shows_41 (by decide) ?_
    have hfin : FWq g ad (σ) H := ⟨τ1, hP, hro, htc⟩
    exact xw_retz hx hb hr hlocks hS hfin (by simp [eShw, hpx, hix, hpy, hiy]) (by rw [hix, hiy]; exact shows_f htl hi1 (by omega) h104) (Nat.le_of_ble_eq_true rfl) (Nat.le_of_ble_eq_true rfl) dX4_shows_42
  · refine lv_iconst (v := bI (true)) hx hb dX4_shows_37 (by decide) ?_
    refine lv_goto (tgt := 42) hx hb dX4_shows_38 (by decide) ?_
    have hfin : FWq g ad (σ) H := ⟨τ1, hP, hro, htc⟩
    exact xw_retz hx hb hr hlocks hS hfin (by simp [eShw, hpx, hix, hpy, hiy]) (by rw [hix, hiy]; exact shows_t htl hi1 (by omega) h104) (Nat.le_of_ble_eq_true rfl) (Nat.le_of_ble_eq_true rfl) dX4_shows_42
theorem mX4_follow_10 : Cond.fieldLink RX4 10 "Followrow" "following" "LFollowrow$Relation;" ∈ wsX4_follow := by decide +kernel
theorem mX4_follow_19 : Cond.fieldLink RX4 19 "Followrow" "blocking" "LFollowrow$Relation;" ∈ wsX4_follow := by decide +kernel
theorem iX4_follow_4 : ∀ w ∈ wsX40, w ∈ wsX4_follow := by decide +kernel
theorem tkX4_follow_exS : Cond.classLink RX4 63 exS ∈ wsX4_follow := by decide +kernel
theorem tiX4_follow_exS : Cond.initialized exS ∈ wsX4_follow := by decide +kernel
theorem taX4_follow_exS : ∀ w ∈ (vx_atS RX4 icS exS exU).filter goodWord, w ∈ wsX4_follow := by decide +kernel
theorem tgX4_follow_exS : ∀ w ∈ Cond.classLink RX4 63 exS :: Cond.initialized exS :: vx_atS RX4 icS exS exU, vx_ot w = true := by decide +kernel
set_option maxHeartbeats 4000000 in
set_option maxRecDepth 100000 in
/-- follow(x, y) -/
theorem c_X4_follow (l : Launch) (hlf : l.stackTraces = false) (g : GT) {ad : Nat → Nat} {σ : St} {τ : Sc} (hI : Inv σ) (hN : FN ad 31) (hR : rowsOk σ τ 8) (hSd : Setd σ) (hT : tc τ ≤ 150) {x y : Int32} : xwM l g yX4_follow wsX4_follow 7 156 4 24 [.ref (ad 0), .int (x), .int (y)] (wF g ad (σ) (τ)) (eFol σ x y) (some (.int (nI (rFol σ x y)))) (fun H1 => FWq g ad (nFol σ x y) H1) (fA ad) := by
  refine xw_of (cc := cX4_follow) (maxL := 3) (ret := (some .int)) (by decide) rfl (Nat.le_of_ble_eq_true rfl) (fun p e s m below meth c ls hx hb hr hml hts hown hlocks hl hP hE hxv hout hS => ?_)
  have hl : lv_has ls 3 [(0, .ref (ad 0)), (1, .int (x)), (2, .int (y))] := hl
  have hown : s.vm.findClass RX4 = some m.cls := hown
  obtain ⟨hi1, hi2, hi3, hi4, hi5, hi6, hi7, hi8⟩ := id hI
  refine lv_iload_n hx hb dX4_follow_0 rfl (lv_at hl 1 rfl) ?_
  refine xr_goN (xn_S ⟨hx, hb, hml, hown, hts⟩ (c_X4_checkPerson l hlf g (x := x)) gX4_follow_X4_checkPerson rfl qX4_checkPerson ⟨Nat.le_of_ble_eq_true rfl, Nat.le_of_ble_eq_true rfl⟩ ⟨Nat.le_of_ble_eq_true rfl, Nat.le_of_ble_eq_true rfl⟩ (gP_nil) hE hxv rfl hl.1 rfl (Nat.le_of_ble_eq_true rfl) dX4_follow_1) hout hlocks (fun h => by cases hz : isP x <;> simp [eP, eFol, hz] at h ⊢) (Nat.le_of_ble_eq_true rfl) (Nat.le_of_ble_eq_true rfl) (fun hx105 => ?_)
  obtain ⟨xj, hjx, rfl, hix⟩ := isP_of (eP_0 hx105)
  have hpx : isP (nI xj) = true := isP_nI hjx
  refine lv_iload_n hx hb dX4_follow_4 rfl (lv_at hl 2 rfl) ?_
  refine xr_goN (xn_S ⟨hx, hb, hml, hown, hts⟩ (c_X4_checkPerson l hlf g (x := y)) gX4_follow_X4_checkPerson rfl qX4_checkPerson ⟨Nat.le_of_ble_eq_true rfl, Nat.le_of_ble_eq_true rfl⟩ ⟨Nat.le_of_ble_eq_true rfl, Nat.le_of_ble_eq_true rfl⟩ (gP_nil) hE hxv rfl hl.1 rfl (Nat.le_of_ble_eq_true rfl) dX4_follow_5) hout hlocks (fun h => by cases hz : isP y <;> simp [eP, eFol, hz, hpx, hix] at h ⊢) (Nat.le_of_ble_eq_true rfl) (Nat.le_of_ble_eq_true rfl) (fun hx106 => ?_)
  obtain ⟨yj, hjy, rfl, hiy⟩ := isP_of (eP_0 hx106)
  have hpy : isP (nI yj) = true := isP_nI hjy
  refine lv_iload_n hx hb dX4_follow_8 rfl (lv_at hl 1 rfl) ?_
  refine lv_iload_n hx hb dX4_follow_9 rfl (lv_at hl 2 rfl) ?_
  refine xr_goN (xn_S ⟨hx, hb, hml, hown, hts⟩ (c_X4_checkDifferent l hlf g (x := xj) (y := yj) (by omega) (by omega)) gX4_follow_X4_checkDifferent rfl qX4_checkDifferent ⟨Nat.le_of_ble_eq_true rfl, Nat.le_of_ble_eq_true rfl⟩ ⟨Nat.le_of_ble_eq_true rfl, Nat.le_of_ble_eq_true rfl⟩ (gP_nil) hE hxv rfl hl.1 rfl (Nat.le_of_ble_eq_true rfl) dX4_follow_10) hout hlocks (fun h => by by_cases hz : xj = yj <;> simp [eFol, hz, hpx, hix, hpy, hiy] at h ⊢) (Nat.le_of_ble_eq_true rfl) (Nat.le_of_ble_eq_true rfl) (fun hx107 => ?_)
  have hne : ¬ xj = yj := fun z => by simp [z] at hx107
  have hne2 : ¬ nI xj = nI yj := fun z => hne ((nI_eq (by omega) (by omega)).mp z)
  refine lv_aload_n hx hb dX4_follow_13 rfl (lv_at hl 0 rfl) ?_
  refine gf (q0 := 0) (ci := 4) (k := 0) (v := .ref (ad 1)) hx hb hts iX4_follow_4 hown hE hP rfl rfl (by decide) mX4_follow_10 rfl dX4_follow_14 ?_
  refine lv_iload_n hx hb dX4_follow_17 rfl (lv_at hl 1 rfl) ?_
  refine lv_iload_n hx hb dX4_follow_18 rfl (lv_at hl 2 rfl) ?_
  refine rd_goS (rn_V ⟨hx, hb, hml, hown, hts⟩ (c_X1_has l g (x := xj) (y := yj) (by first | omega | exact hi5 _ | exact hi6 _) (by first | omega | exact hi5 _ | exact hi6 _)) gX4_follow_X1_has rfl pX1_has ⟨Nat.le_of_ble_eq_true rfl, Nat.le_of_ble_eq_true rfl⟩ ⟨Nat.le_of_ble_eq_true rfl, Nat.le_of_ble_eq_true rfl⟩ (hP.sub (ws' := wRel g (ad 1) (ad 2) (sF σ)) [1, 2] rfl) hE rfl rfl rfl hl.1 rfl (Nat.le_of_ble_eq_true rfl) dX4_follow_19) ?_
  refine br_eqB (tgt := 35) hx hb dX4_follow_22 (by decide) (fun h108 => ?_) (fun h108 => ?_)
  · refine lv_aload_n hx hb dX4_follow_35 rfl (lv_at hl 0 rfl) ?_
    refine gf (q0 := 0) (ci := 4) (k := 2) (v := .ref (ad 5)) hx hb hts iX4_follow_4 hown hE hP rfl rfl (by decide) mX4_follow_19 rfl dX4_follow_36 ?_
    refine lv_iload_n hx hb dX4_follow_39 rfl (lv_at hl 2 rfl) ?_
    refine lv_iload_n hx hb dX4_follow_40 rfl (lv_at hl 1 rfl) ?_
    refine rd_goS (rn_V ⟨hx, hb, hml, hown, hts⟩ (c_X1_has l g (x := yj) (y := xj) (by first | omega | exact hi5 _ | exact hi6 _) (by first | omega | exact hi5 _ | exact hi6 _)) gX4_follow_X1_has rfl pX1_has ⟨Nat.le_of_ble_eq_true rfl, Nat.le_of_ble_eq_true rfl⟩ ⟨Nat.le_of_ble_eq_true rfl, Nat.le_of_ble_eq_true rfl⟩ (hP.sub (ws' := wRel g (ad 5) (ad 6) (sB σ)) [5, 6] rfl) hE rfl rfl rfl hl.1 rfl (Nat.le_of_ble_eq_true rfl) dX4_follow_41) ?_
    refine br_neB (tgt := 59) hx hb dX4_follow_44 (by decide) (fun h109 => ?_) (fun h109 => ?_)
    · exact x_throw (text := "one of both has blocked the other one") (cls := exS) (ic := icS) hx hb hlf hown hts hE hxv (by decide +kernel) tkX4_follow_exS tiX4_follow_exS taX4_follow_exS txexS tgX4_follow_exS (by decide +kernel) (hl.1.trans hml.symm) dX4_follow_59 dX4_follow_62 dX4_follow_63 dX4_follow_65 dX4_follow_68 hout (by decide) (Nat.le_of_ble_eq_true rfl) (Nat.le_of_ble_eq_true rfl) (Nat.le_of_ble_eq_true rfl) hlocks (by have he9 : eFol σ (nI xj) (nI yj) = 3 := (by simp [eFol, hpx, hix, hpy, hiy, hne, hne2, h108, h109]); exact ⟨by rw [he9]; decide, by rw [he9]; rfl⟩) (Nat.le_of_ble_eq_true rfl) (Nat.le_of_ble_eq_true rfl)
    · refine lv_aload_n hx hb dX4_follow_47 rfl (lv_at hl 0 rfl) ?_
      refine gf (q0 := 0) (ci := 4) (k := 2) (v := .ref (ad 5)) hx hb hts iX4_follow_4 hown hE hP rfl rfl (by decide) mX4_follow_19 rfl dX4_follow_48 ?_
      refine lv_iload_n hx hb dX4_follow_51 rfl (lv_at hl 1 rfl) ?_
      refine lv_iload_n hx hb dX4_follow_52 rfl (lv_at hl 2 rfl) ?_
      refine rd_goS (rn_V ⟨hx, hb, hml, hown, hts⟩ (c_X1_has l g (x := xj) (y := yj) (by first | omega | exact hi5 _ | exact hi6 _) (by first | omega | exact hi5 _ | exact hi6 _)) gX4_follow_X1_has rfl pX1_has ⟨Nat.le_of_ble_eq_true rfl, Nat.le_of_ble_eq_true rfl⟩ ⟨Nat.le_of_ble_eq_true rfl, Nat.le_of_ble_eq_true rfl⟩ (hP.sub (ws' := wRel g (ad 5) (ad 6) (sB σ)) [5, 6] rfl) hE rfl rfl rfl hl.1 rfl (Nat.le_of_ble_eq_true rfl) dX4_follow_53) ?_
      refine br_eqB (tgt := 69) hx hb dX4_follow_56 (by decide) (fun h110 => ?_) (fun h110 => ?_)
      · refine lv_aload_n hx hb dX4_follow_69 rfl (lv_at hl 0 rfl) ?_
        refine gf (q0 := 0) (ci := 4) (k := 0) (v := .ref (ad 1)) hx hb hts iX4_follow_4 hown hE hP rfl rfl (by decide) mX4_follow_10 rfl dX4_follow_70 ?_
        refine lv_iload_n hx hb dX4_follow_73 rfl (lv_at hl 1 rfl) ?_
        refine lv_iload_n hx hb dX4_follow_74 rfl (lv_at hl 2 rfl) ?_
        refine lv_iconst (v := bI (true)) hx hb dX4_follow_75 (by decide) ?_
        refine wr_goN (rn_V ⟨hx, hb, hml, hown, hts⟩ (c_X1_put l g (x := xj) (y := yj) (v := true) (nd_of hN [1, 2] (by decide) (by decide)) (by omega) (by omega)) gX4_follow_X1_put rfl pX1_put ⟨Nat.le_of_ble_eq_true rfl, Nat.le_of_ble_eq_true rfl⟩ ⟨Nat.le_of_ble_eq_true rfl, Nat.le_of_ble_eq_true rfl⟩ (hP.sub (ws' := wRel g (ad 1) (ad 2) (sF σ)) [1, 2] rfl) hE rfl rfl rfl hl.1 rfl (Nat.le_of_ble_eq_true rfl) dX4_follow_76) hS (asL (ad := ad) (is := [1, 2]) (by decide)) (fun H1 locs1 hB hz hk hS => ?_)
        have hP := wF_FU hN hP hk hB
        have hD : va_D (fun z => z ∈ fA ad) (wF g ad (uF (σ) (va_up (sF σ) (8 * xj + yj) (true))) (τ)) := wF_D hN
        clear hk hB hz
        generalize H1 = H at hP hS ⊢
        generalize locs1 = locs at hS ⊢
        refine lv_aload_n hx hb dX4_follow_79 rfl (lv_at hl 0 rfl) ?_
        refine wr_goN (rn_V ⟨hx, hb, hml, hown, hts⟩ (c_X4_settleRows l g (σ := uF (σ) (va_up (sF σ) (8 * xj + yj) (true))) (τ := τ) hN (Inv_uF hI _)) gX4_follow_X4_settleRows rfl pX4_settleRows ⟨Nat.le_of_ble_eq_true rfl, Nat.le_of_ble_eq_true rfl⟩ ⟨Nat.le_of_ble_eq_true rfl, Nat.le_of_ble_eq_true rfl⟩ (hP) hE rfl rfl rfl hl.1 rfl (Nat.le_of_ble_eq_true rfl) dX4_follow_80) hS (fun x h => h) (fun H1 locs1 hB hz hk hS => ?_)
        obtain ⟨τ1, hP, hro, htc⟩ := hB
        have hD : va_D (fun z => z ∈ fA ad) (wF g ad (stl (uF (σ) (va_up (sF σ) (8 * xj + yj) (true)))) (τ1)) := wF_D hN
        clear hk hz
        generalize H1 = H at hP hS ⊢
        generalize locs1 = locs at hS ⊢
        refine lv_aload_n hx hb dX4_follow_83 rfl (lv_at hl 0 rfl) ?_
        refine gf (q0 := 0) (ci := 4) (k := 0) (v := .ref (ad 1)) hx hb hts iX4_follow_4 hown hE hP rfl rfl (by decide) mX4_follow_10 rfl dX4_follow_84 ?_
        refine lv_iload_n hx hb dX4_follow_87 rfl (lv_at hl 2 rfl) ?_
        refine rd_goS (rn_V ⟨hx, hb, hml, hown, hts⟩ (c_X1_countTo l g (y := yj) (by omega)) gX4_follow_X1_countTo rfl pX1_countTo ⟨Nat.le_of_ble_eq_true rfl, Nat.le_of_ble_eq_true rfl⟩ ⟨Nat.le_of_ble_eq_true rfl, Nat.le_of_ble_eq_true rfl⟩ (hP.sub (ws' := wRel g (ad 1) (ad 2) (sF (stl (uF (σ) (va_up (sF σ) (8 * xj + yj) (true)))))) [1, 2] rfl) hE rfl rfl rfl hl.1 rfl (Nat.le_of_ble_eq_true rfl) dX4_follow_88) ?_
        have hfin : FWq g ad (nFol σ (nI xj) (nI yj)) H := (by have hnx : nFol σ (nI xj) (nI yj) = stl (uF (σ) (va_up (sF σ) (8 * xj + yj) (true))) := (by unfold nFol; rw [hix, hiy]); rw [hnx]; exact ⟨τ1, hP, hro, by rw [htc]; exact hT⟩)
        exact xw_reti hx hb hr hlocks hS hfin (by simp [eFol, hpx, hix, hpy, hiy, hne, hne2, h108, h109, h110]) (by unfold rFol; rw [hix, hiy]; rfl) (Nat.le_of_ble_eq_true rfl) (Nat.le_of_ble_eq_true rfl) dX4_follow_91
      · exact x_throw (text := "one of both has blocked the other one") (cls := exS) (ic := icS) hx hb hlf hown hts hE hxv (by decide +kernel) tkX4_follow_exS tiX4_follow_exS taX4_follow_exS txexS tgX4_follow_exS (by decide +kernel) (hl.1.trans hml.symm) dX4_follow_59 dX4_follow_62 dX4_follow_63 dX4_follow_65 dX4_follow_68 hout (by decide) (Nat.le_of_ble_eq_true rfl) (Nat.le_of_ble_eq_true rfl) (Nat.le_of_ble_eq_true rfl) hlocks (by have he9 : eFol σ (nI xj) (nI yj) = 3 := (by simp [eFol, hpx, hix, hpy, hiy, hne, hne2, h108, h109, h110]); exact ⟨by rw [he9]; decide, by rw [he9]; rfl⟩) (Nat.le_of_ble_eq_true rfl) (Nat.le_of_ble_eq_true rfl)
  · exact x_throw (text := "the person follows the author already") (cls := exS) (ic := icS) hx hb hlf hown hts hE hxv (by decide +kernel) tkX4_follow_exS tiX4_follow_exS taX4_follow_exS txexS tgX4_follow_exS (by decide +kernel) (hl.1.trans hml.symm) dX4_follow_25 dX4_follow_28 dX4_follow_29 dX4_follow_31 dX4_follow_34 hout (by decide) (Nat.le_of_ble_eq_true rfl) (Nat.le_of_ble_eq_true rfl) (Nat.le_of_ble_eq_true rfl) hlocks (by have he9 : eFol σ (nI xj) (nI yj) = 3 := (by simp [eFol, hpx, hix, hpy, hiy, hne, hne2, h108]); exact ⟨by rw [he9]; decide, by rw [he9]; rfl⟩) (Nat.le_of_ble_eq_true rfl) (Nat.le_of_ble_eq_true rfl)
theorem mX4_unfollow_10 : Cond.fieldLink RX4 10 "Followrow" "following" "LFollowrow$Relation;" ∈ wsX4_unfollow := by decide +kernel
theorem iX4_unfollow_4 : ∀ w ∈ wsX40, w ∈ wsX4_unfollow := by decide +kernel
theorem tkX4_unfollow_exS : Cond.classLink RX4 63 exS ∈ wsX4_unfollow := by decide +kernel
theorem tiX4_unfollow_exS : Cond.initialized exS ∈ wsX4_unfollow := by decide +kernel
theorem taX4_unfollow_exS : ∀ w ∈ (vx_atS RX4 icS exS exU).filter goodWord, w ∈ wsX4_unfollow := by decide +kernel
theorem tgX4_unfollow_exS : ∀ w ∈ Cond.classLink RX4 63 exS :: Cond.initialized exS :: vx_atS RX4 icS exS exU, vx_ot w = true := by decide +kernel
set_option maxHeartbeats 4000000 in
set_option maxRecDepth 100000 in
/-- unfollow(x, y) -/
theorem c_X4_unfollow (l : Launch) (hlf : l.stackTraces = false) (g : GT) {ad : Nat → Nat} {σ : St} {τ : Sc} (hI : Inv σ) (hN : FN ad 31) (hR : rowsOk σ τ 8) (hSd : Setd σ) (hT : tc τ ≤ 150) {x y : Int32} : xwM l g yX4_unfollow wsX4_unfollow 7 156 3 18 [.ref (ad 0), .int (x), .int (y)] (wF g ad (σ) (τ)) (eUnf σ x y) (some (.int (nI (rUnf σ x y)))) (fun H1 => FWq g ad (nUnf σ x y) H1) (fA ad) := by
  refine xw_of (cc := cX4_unfollow) (maxL := 3) (ret := (some .int)) (by decide) rfl (Nat.le_of_ble_eq_true rfl) (fun p e s m below meth c ls hx hb hr hml hts hown hlocks hl hP hE hxv hout hS => ?_)
  have hl : lv_has ls 3 [(0, .ref (ad 0)), (1, .int (x)), (2, .int (y))] := hl
  have hown : s.vm.findClass RX4 = some m.cls := hown
  obtain ⟨hi1, hi2, hi3, hi4, hi5, hi6, hi7, hi8⟩ := id hI
  refine lv_iload_n hx hb dX4_unfollow_0 rfl (lv_at hl 1 rfl) ?_
  refine xr_goN (xn_S ⟨hx, hb, hml, hown, hts⟩ (c_X4_checkPerson l hlf g (x := x)) gX4_unfollow_X4_checkPerson rfl qX4_checkPerson ⟨Nat.le_of_ble_eq_true rfl, Nat.le_of_ble_eq_true rfl⟩ ⟨Nat.le_of_ble_eq_true rfl, Nat.le_of_ble_eq_true rfl⟩ (gP_nil) hE hxv rfl hl.1 rfl (Nat.le_of_ble_eq_true rfl) dX4_unfollow_1) hout hlocks (fun h => by cases hz : isP x <;> simp [eP, eUnf, hz] at h ⊢) (Nat.le_of_ble_eq_true rfl) (Nat.le_of_ble_eq_true rfl) (fun hx111 => ?_)
  obtain ⟨xj, hjx, rfl, hix⟩ := isP_of (eP_0 hx111)
  have hpx : isP (nI xj) = true := isP_nI hjx
  refine lv_iload_n hx hb dX4_unfollow_4 rfl (lv_at hl 2 rfl) ?_
  refine xr_goN (xn_S ⟨hx, hb, hml, hown, hts⟩ (c_X4_checkPerson l hlf g (x := y)) gX4_unfollow_X4_checkPerson rfl qX4_checkPerson ⟨Nat.le_of_ble_eq_true rfl, Nat.le_of_ble_eq_true rfl⟩ ⟨Nat.le_of_ble_eq_true rfl, Nat.le_of_ble_eq_true rfl⟩ (gP_nil) hE hxv rfl hl.1 rfl (Nat.le_of_ble_eq_true rfl) dX4_unfollow_5) hout hlocks (fun h => by cases hz : isP y <;> simp [eP, eUnf, hz, hpx, hix] at h ⊢) (Nat.le_of_ble_eq_true rfl) (Nat.le_of_ble_eq_true rfl) (fun hx112 => ?_)
  obtain ⟨yj, hjy, rfl, hiy⟩ := isP_of (eP_0 hx112)
  have hpy : isP (nI yj) = true := isP_nI hjy
  refine lv_aload_n hx hb dX4_unfollow_8 rfl (lv_at hl 0 rfl) ?_
  refine gf (q0 := 0) (ci := 4) (k := 0) (v := .ref (ad 1)) hx hb hts iX4_unfollow_4 hown hE hP rfl rfl (by decide) mX4_unfollow_10 rfl dX4_unfollow_9 ?_
  refine lv_iload_n hx hb dX4_unfollow_12 rfl (lv_at hl 1 rfl) ?_
  refine lv_iload_n hx hb dX4_unfollow_13 rfl (lv_at hl 2 rfl) ?_
  refine rd_goS (rn_V ⟨hx, hb, hml, hown, hts⟩ (c_X1_has l g (x := xj) (y := yj) (by first | omega | exact hi5 _ | exact hi6 _) (by first | omega | exact hi5 _ | exact hi6 _)) gX4_unfollow_X1_has rfl pX1_has ⟨Nat.le_of_ble_eq_true rfl, Nat.le_of_ble_eq_true rfl⟩ ⟨Nat.le_of_ble_eq_true rfl, Nat.le_of_ble_eq_true rfl⟩ (hP.sub (ws' := wRel g (ad 1) (ad 2) (sF σ)) [1, 2] rfl) hE rfl rfl rfl hl.1 rfl (Nat.le_of_ble_eq_true rfl) dX4_unfollow_14) ?_
  refine br_neB (tgt := 30) hx hb dX4_unfollow_17 (by decide) (fun h113 => ?_) (fun h113 => ?_)
  · refine lv_aload_n hx hb dX4_unfollow_30 rfl (lv_at hl 0 rfl) ?_
    refine gf (q0 := 0) (ci := 4) (k := 0) (v := .ref (ad 1)) hx hb hts iX4_unfollow_4 hown hE hP rfl rfl (by decide) mX4_unfollow_10 rfl dX4_unfollow_31 ?_
    refine lv_iload_n hx hb dX4_unfollow_34 rfl (lv_at hl 1 rfl) ?_
    refine lv_iload_n hx hb dX4_unfollow_35 rfl (lv_at hl 2 rfl) ?_
    refine lv_iconst (v := bI (false)) hx hb dX4_unfollow_36 (by decide) ?_
    refine wr_goN (rn_V ⟨hx, hb, hml, hown, hts⟩ (c_X1_put l g (x := xj) (y := yj) (v := false) (nd_of hN [1, 2] (by decide) (by decide)) (by omega) (by omega)) gX4_unfollow_X1_put rfl pX1_put ⟨Nat.le_of_ble_eq_true rfl, Nat.le_of_ble_eq_true rfl⟩ ⟨Nat.le_of_ble_eq_true rfl, Nat.le_of_ble_eq_true rfl⟩ (hP.sub (ws' := wRel g (ad 1) (ad 2) (sF σ)) [1, 2] rfl) hE rfl rfl rfl hl.1 rfl (Nat.le_of_ble_eq_true rfl) dX4_unfollow_37) hS (asL (ad := ad) (is := [1, 2]) (by decide)) (fun H1 locs1 hB hz hk hS => ?_)
    have hP := wF_FU hN hP hk hB
    have hD : va_D (fun z => z ∈ fA ad) (wF g ad (uF (σ) (va_up (sF σ) (8 * xj + yj) (false))) (τ)) := wF_D hN
    clear hk hB hz
    generalize H1 = H at hP hS ⊢
    generalize locs1 = locs at hS ⊢
    refine lv_aload_n hx hb dX4_unfollow_40 rfl (lv_at hl 0 rfl) ?_
    refine wr_goN (rn_V ⟨hx, hb, hml, hown, hts⟩ (c_X4_settleRows l g (σ := uF (σ) (va_up (sF σ) (8 * xj + yj) (false))) (τ := τ) hN (Inv_uF hI _)) gX4_unfollow_X4_settleRows rfl pX4_settleRows ⟨Nat.le_of_ble_eq_true rfl, Nat.le_of_ble_eq_true rfl⟩ ⟨Nat.le_of_ble_eq_true rfl, Nat.le_of_ble_eq_true rfl⟩ (hP) hE rfl rfl rfl hl.1 rfl (Nat.le_of_ble_eq_true rfl) dX4_unfollow_41) hS (fun x h => h) (fun H1 locs1 hB hz hk hS => ?_)
    obtain ⟨τ1, hP, hro, htc⟩ := hB
    have hD : va_D (fun z => z ∈ fA ad) (wF g ad (stl (uF (σ) (va_up (sF σ) (8 * xj + yj) (false)))) (τ1)) := wF_D hN
    clear hk hz
    generalize H1 = H at hP hS ⊢
    generalize locs1 = locs at hS ⊢
    refine lv_aload_n hx hb dX4_unfollow_44 rfl (lv_at hl 0 rfl) ?_
    refine gf (q0 := 0) (ci := 4) (k := 0) (v := .ref (ad 1)) hx hb hts iX4_unfollow_4 hown hE hP rfl rfl (by decide) mX4_unfollow_10 rfl dX4_unfollow_45 ?_
    refine lv_iload_n hx hb dX4_unfollow_48 rfl (lv_at hl 2 rfl) ?_
    refine rd_goS (rn_V ⟨hx, hb, hml, hown, hts⟩ (c_X1_countTo l g (y := yj) (by omega)) gX4_unfollow_X1_countTo rfl pX1_countTo ⟨Nat.le_of_ble_eq_true rfl, Nat.le_of_ble_eq_true rfl⟩ ⟨Nat.le_of_ble_eq_true rfl, Nat.le_of_ble_eq_true rfl⟩ (hP.sub (ws' := wRel g (ad 1) (ad 2) (sF (stl (uF (σ) (va_up (sF σ) (8 * xj + yj) (false)))))) [1, 2] rfl) hE rfl rfl rfl hl.1 rfl (Nat.le_of_ble_eq_true rfl) dX4_unfollow_49) ?_
    have hfin : FWq g ad (nUnf σ (nI xj) (nI yj)) H := (by have hnx : nUnf σ (nI xj) (nI yj) = stl (uF (σ) (va_up (sF σ) (8 * xj + yj) (false))) := (by unfold nUnf; rw [hix, hiy]); rw [hnx]; exact ⟨τ1, hP, hro, by rw [htc]; exact hT⟩)
    exact xw_reti hx hb hr hlocks hS hfin (by simp [eUnf, hpx, hix, hpy, hiy, h113]) (by unfold rUnf; rw [hix, hiy]; rfl) (Nat.le_of_ble_eq_true rfl) (Nat.le_of_ble_eq_true rfl) dX4_unfollow_52
  · exact x_throw (text := "the person does not follow the author") (cls := exS) (ic := icS) hx hb hlf hown hts hE hxv (by decide +kernel) tkX4_unfollow_exS tiX4_unfollow_exS taX4_unfollow_exS txexS tgX4_unfollow_exS (by decide +kernel) (hl.1.trans hml.symm) dX4_unfollow_20 dX4_unfollow_23 dX4_unfollow_24 dX4_unfollow_26 dX4_unfollow_29 hout (by decide) (Nat.le_of_ble_eq_true rfl) (Nat.le_of_ble_eq_true rfl) (Nat.le_of_ble_eq_true rfl) hlocks (by have he9 : eUnf σ (nI xj) (nI yj) = 3 := (by simp [eUnf, hpx, hix, hpy, hiy, h113]); exact ⟨by rw [he9]; decide, by rw [he9]; rfl⟩) (Nat.le_of_ble_eq_true rfl) (Nat.le_of_ble_eq_true rfl)
theorem mX4_mute_16 : Cond.fieldLink RX4 16 "Followrow" "muting" "LFollowrow$Relation;" ∈ wsX4_mute := by decide +kernel
theorem iX4_mute_4 : ∀ w ∈ wsX40, w ∈ wsX4_mute := by decide +kernel
set_option maxHeartbeats 4000000 in
set_option maxRecDepth 100000 in
/-- mute(x, y, v) -/
theorem c_X4_mute (l : Launch) (hlf : l.stackTraces = false) (g : GT) {ad : Nat → Nat} {σ : St} {τ : Sc} (hI : Inv σ) (hN : FN ad 31) (hR : rowsOk σ τ 8) (hSd : Setd σ) (hT : tc τ ≤ 150) {x y : Int32} {v : Bool} : xwM l g yX4_mute wsX4_mute 7 111 3 18 [.ref (ad 0), .int (x), .int (y), .int (bI (v))] (wF g ad (σ) (τ)) (eMut x y) (some (.int (bI (sM σ (8 * ix x + ix y))))) (fun H1 => FWq g ad (nMut σ x y v) H1) (fA ad) := by
  refine xw_of (cc := cX4_mute) (maxL := 5) (ret := (some .boolean)) (by decide) rfl (Nat.le_of_ble_eq_true rfl) (fun p e s m below meth c ls hx hb hr hml hts hown hlocks hl hP hE hxv hout hS => ?_)
  have hl : lv_has ls 5 [(0, .ref (ad 0)), (1, .int (x)), (2, .int (y)), (3, .int (bI (v)))] := hl
  have hown : s.vm.findClass RX4 = some m.cls := hown
  obtain ⟨hi1, hi2, hi3, hi4, hi5, hi6, hi7, hi8⟩ := id hI
  refine lv_iload_n hx hb dX4_mute_0 rfl (lv_at hl 1 rfl) ?_
  refine xr_goN (xn_S ⟨hx, hb, hml, hown, hts⟩ (c_X4_checkPerson l hlf g (x := x)) gX4_mute_X4_checkPerson rfl qX4_checkPerson ⟨Nat.le_of_ble_eq_true rfl, Nat.le_of_ble_eq_true rfl⟩ ⟨Nat.le_of_ble_eq_true rfl, Nat.le_of_ble_eq_true rfl⟩ (gP_nil) hE hxv rfl hl.1 rfl (Nat.le_of_ble_eq_true rfl) dX4_mute_1) hout hlocks (fun h => by cases hz : isP x <;> simp [eP, eMut, hz] at h ⊢) (Nat.le_of_ble_eq_true rfl) (Nat.le_of_ble_eq_true rfl) (fun hx114 => ?_)
  obtain ⟨xj, hjx, rfl, hix⟩ := isP_of (eP_0 hx114)
  have hpx : isP (nI xj) = true := isP_nI hjx
  refine lv_iload_n hx hb dX4_mute_4 rfl (lv_at hl 2 rfl) ?_
  refine xr_goN (xn_S ⟨hx, hb, hml, hown, hts⟩ (c_X4_checkPerson l hlf g (x := y)) gX4_mute_X4_checkPerson rfl qX4_checkPerson ⟨Nat.le_of_ble_eq_true rfl, Nat.le_of_ble_eq_true rfl⟩ ⟨Nat.le_of_ble_eq_true rfl, Nat.le_of_ble_eq_true rfl⟩ (gP_nil) hE hxv rfl hl.1 rfl (Nat.le_of_ble_eq_true rfl) dX4_mute_5) hout hlocks (fun h => by cases hz : isP y <;> simp [eP, eMut, hz, hpx, hix] at h ⊢) (Nat.le_of_ble_eq_true rfl) (Nat.le_of_ble_eq_true rfl) (fun hx115 => ?_)
  obtain ⟨yj, hjy, rfl, hiy⟩ := isP_of (eP_0 hx115)
  have hpy : isP (nI yj) = true := isP_nI hjy
  refine lv_iload_n hx hb dX4_mute_8 rfl (lv_at hl 1 rfl) ?_
  refine lv_iload_n hx hb dX4_mute_9 rfl (lv_at hl 2 rfl) ?_
  refine xr_goN (xn_S ⟨hx, hb, hml, hown, hts⟩ (c_X4_checkDifferent l hlf g (x := xj) (y := yj) (by omega) (by omega)) gX4_mute_X4_checkDifferent rfl qX4_checkDifferent ⟨Nat.le_of_ble_eq_true rfl, Nat.le_of_ble_eq_true rfl⟩ ⟨Nat.le_of_ble_eq_true rfl, Nat.le_of_ble_eq_true rfl⟩ (gP_nil) hE hxv rfl hl.1 rfl (Nat.le_of_ble_eq_true rfl) dX4_mute_10) hout hlocks (fun h => by by_cases hz : xj = yj <;> simp [eMut, hz, hpx, hix, hpy, hiy] at h ⊢) (Nat.le_of_ble_eq_true rfl) (Nat.le_of_ble_eq_true rfl) (fun hx116 => ?_)
  have hne : ¬ xj = yj := fun z => by simp [z] at hx116
  have hne2 : ¬ nI xj = nI yj := fun z => hne ((nI_eq (by omega) (by omega)).mp z)
  refine lv_aload_n hx hb dX4_mute_13 rfl (lv_at hl 0 rfl) ?_
  refine gf (q0 := 0) (ci := 4) (k := 1) (v := .ref (ad 3)) hx hb hts iX4_mute_4 hown hE hP rfl rfl (by decide) mX4_mute_16 rfl dX4_mute_14 ?_
  refine lv_iload_n hx hb dX4_mute_17 rfl (lv_at hl 1 rfl) ?_
  refine lv_iload_n hx hb dX4_mute_18 rfl (lv_at hl 2 rfl) ?_
  refine rd_goS (rn_V ⟨hx, hb, hml, hown, hts⟩ (c_X1_has l g (x := xj) (y := yj) (by first | omega | exact hi5 _ | exact hi6 _) (by first | omega | exact hi5 _ | exact hi6 _)) gX4_mute_X1_has rfl pX1_has ⟨Nat.le_of_ble_eq_true rfl, Nat.le_of_ble_eq_true rfl⟩ ⟨Nat.le_of_ble_eq_true rfl, Nat.le_of_ble_eq_true rfl⟩ (hP.sub (ws' := wRel g (ad 3) (ad 4) (sM σ)) [3, 4] rfl) hE rfl rfl rfl hl.1 rfl (Nat.le_of_ble_eq_true rfl) dX4_mute_19) ?_
  refine lv_istore (lv' := [(4, .int (bI (sM σ (8 * xj + yj)))), (0, .ref (ad 0)), (1, .int (nI (xj))), (2, .int (nI (yj))), (3, .int (bI (v)))]) hx hb dX4_mute_22 hl (by decide) rfl (fun ls hl => ?_)
  refine lv_aload_n hx hb dX4_mute_24 rfl (lv_at hl 1 rfl) ?_
  refine gf (q0 := 0) (ci := 4) (k := 1) (v := .ref (ad 3)) hx hb hts iX4_mute_4 hown hE hP rfl rfl (by decide) mX4_mute_16 rfl dX4_mute_25 ?_
  refine lv_iload_n hx hb dX4_mute_28 rfl (lv_at hl 2 rfl) ?_
  refine lv_iload_n hx hb dX4_mute_29 rfl (lv_at hl 3 rfl) ?_
  refine lv_iload_n hx hb dX4_mute_30 rfl (lv_at hl 4 rfl) ?_
  refine wr_goN (rn_V ⟨hx, hb, hml, hown, hts⟩ (c_X1_put l g (x := xj) (y := yj) (v := v) (nd_of hN [3, 4] (by decide) (by decide)) (by omega) (by omega)) gX4_mute_X1_put rfl pX1_put ⟨Nat.le_of_ble_eq_true rfl, Nat.le_of_ble_eq_true rfl⟩ ⟨Nat.le_of_ble_eq_true rfl, Nat.le_of_ble_eq_true rfl⟩ (hP.sub (ws' := wRel g (ad 3) (ad 4) (sM σ)) [3, 4] rfl) hE rfl rfl rfl hl.1 rfl (Nat.le_of_ble_eq_true rfl) dX4_mute_31) hS (asL (ad := ad) (is := [3, 4]) (by decide)) (fun H1 locs1 hB hz hk hS => ?_)
  have hP := wF_MU hN hP hk hB
  have hD : va_D (fun z => z ∈ fA ad) (wF g ad (uM (σ) (va_up (sM σ) (8 * xj + yj) (v))) (τ)) := wF_D hN
  clear hk hB hz
  generalize H1 = H at hP hS ⊢
  generalize locs1 = locs at hS ⊢
  refine lv_iload hx hb dX4_mute_34 (lv_at hl 0 rfl) ?_
  have hfin : FWq g ad (nMut σ (nI xj) (nI yj) v) H := (by have hnx : nMut σ (nI xj) (nI yj) v = uM (σ) (va_up (sM σ) (8 * xj + yj) (v)) := (by unfold nMut; rw [hix, hiy]); rw [hnx]; exact ⟨τ, hP, hR, hT⟩)
  exact xw_retz hx hb hr hlocks hS hfin (by simp [eMut, hpx, hix, hpy, hiy, hne, hne2]) (by rw [hix, hiy]) (Nat.le_of_ble_eq_true rfl) (Nat.le_of_ble_eq_true rfl) dX4_mute_36
theorem mX4_block_10 : Cond.fieldLink RX4 10 "Followrow" "following" "LFollowrow$Relation;" ∈ wsX4_block := by decide +kernel
theorem mX4_block_19 : Cond.fieldLink RX4 19 "Followrow" "blocking" "LFollowrow$Relation;" ∈ wsX4_block := by decide +kernel
theorem iX4_block_4 : ∀ w ∈ wsX40, w ∈ wsX4_block := by decide +kernel
set_option maxHeartbeats 4000000 in
set_option maxRecDepth 100000 in
/-- block(x, y, v) -/
theorem c_X4_block (l : Launch) (hlf : l.stackTraces = false) (g : GT) {ad : Nat → Nat} {σ : St} {τ : Sc} (hI : Inv σ) (hN : FN ad 31) (hR : rowsOk σ τ 8) (hSd : Setd σ) (hT : tc τ ≤ 150) {x y : Int32} {v : Bool} : xwM l g yX4_block wsX4_block 7 156 3 18 [.ref (ad 0), .int (x), .int (y), .int (bI (v))] (wF g ad (σ) (τ)) (eMut x y) (some (.int (bI (sB σ (8 * ix x + ix y))))) (fun H1 => FWq g ad (nBlk σ x y v) H1) (fA ad) := by
  refine xw_of (cc := cX4_block) (maxL := 5) (ret := (some .boolean)) (by decide) rfl (Nat.le_of_ble_eq_true rfl) (fun p e s m below meth c ls hx hb hr hml hts hown hlocks hl hP hE hxv hout hS => ?_)
  have hl : lv_has ls 5 [(0, .ref (ad 0)), (1, .int (x)), (2, .int (y)), (3, .int (bI (v)))] := hl
  have hown : s.vm.findClass RX4 = some m.cls := hown
  obtain ⟨hi1, hi2, hi3, hi4, hi5, hi6, hi7, hi8⟩ := id hI
  refine lv_iload_n hx hb dX4_block_0 rfl (lv_at hl 1 rfl) ?_
  refine xr_goN (xn_S ⟨hx, hb, hml, hown, hts⟩ (c_X4_checkPerson l hlf g (x := x)) gX4_block_X4_checkPerson rfl qX4_checkPerson ⟨Nat.le_of_ble_eq_true rfl, Nat.le_of_ble_eq_true rfl⟩ ⟨Nat.le_of_ble_eq_true rfl, Nat.le_of_ble_eq_true rfl⟩ (gP_nil) hE hxv rfl hl.1 rfl (Nat.le_of_ble_eq_true rfl) dX4_block_1) hout hlocks (fun h => by cases hz : isP x <;> simp [eP, eMut, hz] at h ⊢) (Nat.le_of_ble_eq_true rfl) (Nat.le_of_ble_eq_true rfl) (fun hx117 => ?_)
  obtain ⟨xj, hjx, rfl, hix⟩ := isP_of (eP_0 hx117)
  have hpx : isP (nI xj) = true := isP_nI hjx
  refine lv_iload_n hx hb dX4_block_4 rfl (lv_at hl 2 rfl) ?_
  refine xr_goN (xn_S ⟨hx, hb, hml, hown, hts⟩ (c_X4_checkPerson l hlf g (x := y)) gX4_block_X4_checkPerson rfl qX4_checkPerson ⟨Nat.le_of_ble_eq_true rfl, Nat.le_of_ble_eq_true rfl⟩ ⟨Nat.le_of_ble_eq_true rfl, Nat.le_of_ble_eq_true rfl⟩ (gP_nil) hE hxv rfl hl.1 rfl (Nat.le_of_ble_eq_true rfl) dX4_block_5) hout hlocks (fun h => by cases hz : isP y <;> simp [eP, eMut, hz, hpx, hix] at h ⊢) (Nat.le_of_ble_eq_true rfl) (Nat.le_of_ble_eq_true rfl) (fun hx118 => ?_)
  obtain ⟨yj, hjy, rfl, hiy⟩ := isP_of (eP_0 hx118)
  have hpy : isP (nI yj) = true := isP_nI hjy
  refine lv_iload_n hx hb dX4_block_8 rfl (lv_at hl 1 rfl) ?_
  refine lv_iload_n hx hb dX4_block_9 rfl (lv_at hl 2 rfl) ?_
  refine xr_goN (xn_S ⟨hx, hb, hml, hown, hts⟩ (c_X4_checkDifferent l hlf g (x := xj) (y := yj) (by omega) (by omega)) gX4_block_X4_checkDifferent rfl qX4_checkDifferent ⟨Nat.le_of_ble_eq_true rfl, Nat.le_of_ble_eq_true rfl⟩ ⟨Nat.le_of_ble_eq_true rfl, Nat.le_of_ble_eq_true rfl⟩ (gP_nil) hE hxv rfl hl.1 rfl (Nat.le_of_ble_eq_true rfl) dX4_block_10) hout hlocks (fun h => by by_cases hz : xj = yj <;> simp [eMut, hz, hpx, hix, hpy, hiy] at h ⊢) (Nat.le_of_ble_eq_true rfl) (Nat.le_of_ble_eq_true rfl) (fun hx119 => ?_)
  have hne : ¬ xj = yj := fun z => by simp [z] at hx119
  have hne2 : ¬ nI xj = nI yj := fun z => hne ((nI_eq (by omega) (by omega)).mp z)
  refine lv_aload_n hx hb dX4_block_13 rfl (lv_at hl 0 rfl) ?_
  refine gf (q0 := 0) (ci := 4) (k := 2) (v := .ref (ad 5)) hx hb hts iX4_block_4 hown hE hP rfl rfl (by decide) mX4_block_19 rfl dX4_block_14 ?_
  refine lv_iload_n hx hb dX4_block_17 rfl (lv_at hl 1 rfl) ?_
  refine lv_iload_n hx hb dX4_block_18 rfl (lv_at hl 2 rfl) ?_
  refine rd_goS (rn_V ⟨hx, hb, hml, hown, hts⟩ (c_X1_has l g (x := xj) (y := yj) (by first | omega | exact hi5 _ | exact hi6 _) (by first | omega | exact hi5 _ | exact hi6 _)) gX4_block_X1_has rfl pX1_has ⟨Nat.le_of_ble_eq_true rfl, Nat.le_of_ble_eq_true rfl⟩ ⟨Nat.le_of_ble_eq_true rfl, Nat.le_of_ble_eq_true rfl⟩ (hP.sub (ws' := wRel g (ad 5) (ad 6) (sB σ)) [5, 6] rfl) hE rfl rfl rfl hl.1 rfl (Nat.le_of_ble_eq_true rfl) dX4_block_19) ?_
  refine lv_istore (lv' := [(4, .int (bI (sB σ (8 * xj + yj)))), (0, .ref (ad 0)), (1, .int (nI (xj))), (2, .int (nI (yj))), (3, .int (bI (v)))]) hx hb dX4_block_22 hl (by decide) rfl (fun ls hl => ?_)
  refine lv_aload_n hx hb dX4_block_24 rfl (lv_at hl 1 rfl) ?_
  refine gf (q0 := 0) (ci := 4) (k := 2) (v := .ref (ad 5)) hx hb hts iX4_block_4 hown hE hP rfl rfl (by decide) mX4_block_19 rfl dX4_block_25 ?_
  refine lv_iload_n hx hb dX4_block_28 rfl (lv_at hl 2 rfl) ?_
  refine lv_iload_n hx hb dX4_block_29 rfl (lv_at hl 3 rfl) ?_
  refine lv_iload_n hx hb dX4_block_30 rfl (lv_at hl 4 rfl) ?_
  refine wr_goN (rn_V ⟨hx, hb, hml, hown, hts⟩ (c_X1_put l g (x := xj) (y := yj) (v := v) (nd_of hN [5, 6] (by decide) (by decide)) (by omega) (by omega)) gX4_block_X1_put rfl pX1_put ⟨Nat.le_of_ble_eq_true rfl, Nat.le_of_ble_eq_true rfl⟩ ⟨Nat.le_of_ble_eq_true rfl, Nat.le_of_ble_eq_true rfl⟩ (hP.sub (ws' := wRel g (ad 5) (ad 6) (sB σ)) [5, 6] rfl) hE rfl rfl rfl hl.1 rfl (Nat.le_of_ble_eq_true rfl) dX4_block_31) hS (asL (ad := ad) (is := [5, 6]) (by decide)) (fun H1 locs1 hB hz hk hS => ?_)
  have hP := wF_BU hN hP hk hB
  have hD : va_D (fun z => z ∈ fA ad) (wF g ad (uB (σ) (va_up (sB σ) (8 * xj + yj) (v))) (τ)) := wF_D hN
  clear hk hB hz
  generalize H1 = H at hP hS ⊢
  generalize locs1 = locs at hS ⊢
  refine lv_iload_n hx hb dX4_block_34 rfl (lv_at hl 4 rfl) ?_
  refine br_eqB (tgt := 62) hx hb dX4_block_35 (by decide) (fun h120 => ?_) (fun h120 => ?_)
  · subst h120
    refine lv_iload hx hb dX4_block_62 (lv_at hl 0 rfl) ?_
    have hfin : FWq g ad (nBlk σ (nI xj) (nI yj) (false)) H := (by have hnx : nBlk σ (nI xj) (nI yj) (false) = uB (σ) (va_up (sB σ) (8 * xj + yj) (false)) := (by unfold nBlk; rw [if_neg (by decide), hix, hiy]); rw [hnx]; exact ⟨τ, hP, hR, hT⟩)
    exact xw_retz hx hb hr hlocks hS hfin (by simp [eMut, hpx, hix, hpy, hiy, hne, hne2]) (by rw [hix, hiy]) (Nat.le_of_ble_eq_true rfl) (Nat.le_of_ble_eq_true rfl) dX4_block_64
  · subst h120
    refine lv_aload_n hx hb dX4_block_38 rfl (lv_at hl 1 rfl) ?_
    refine gf (q0 := 0) (ci := 4) (k := 0) (v := .ref (ad 1)) hx hb hts iX4_block_4 hown hE hP rfl rfl (by decide) mX4_block_10 rfl dX4_block_39 ?_
    refine lv_iload_n hx hb dX4_block_42 rfl (lv_at hl 2 rfl) ?_
    refine lv_iload_n hx hb dX4_block_43 rfl (lv_at hl 3 rfl) ?_
    refine lv_iconst (v := bI (false)) hx hb dX4_block_44 (by decide) ?_
    refine wr_goN (rn_V ⟨hx, hb, hml, hown, hts⟩ (c_X1_put l g (x := xj) (y := yj) (v := false) (nd_of hN [1, 2] (by decide) (by decide)) (by omega) (by omega)) gX4_block_X1_put rfl pX1_put ⟨Nat.le_of_ble_eq_true rfl, Nat.le_of_ble_eq_true rfl⟩ ⟨Nat.le_of_ble_eq_true rfl, Nat.le_of_ble_eq_true rfl⟩ (hP.sub (ws' := wRel g (ad 1) (ad 2) (sF (uB (σ) (va_up (sB σ) (8 * xj + yj) (true))))) [1, 2] rfl) hE rfl rfl rfl hl.1 rfl (Nat.le_of_ble_eq_true rfl) dX4_block_45) hS (asL (ad := ad) (is := [1, 2]) (by decide)) (fun H1 locs1 hB hz hk hS => ?_)
    have hP := wF_FU hN hP hk hB
    have hD : va_D (fun z => z ∈ fA ad) (wF g ad (uF (uB (σ) (va_up (sB σ) (8 * xj + yj) (true))) (va_up (sF (uB (σ) (va_up (sB σ) (8 * xj + yj) (true)))) (8 * xj + yj) (false))) (τ)) := wF_D hN
    clear hk hB hz
    generalize H1 = H at hP hS ⊢
    generalize locs1 = locs at hS ⊢
    refine lv_aload_n hx hb dX4_block_48 rfl (lv_at hl 1 rfl) ?_
    refine gf (q0 := 0) (ci := 4) (k := 0) (v := .ref (ad 1)) hx hb hts iX4_block_4 hown hE hP rfl rfl (by decide) mX4_block_10 rfl dX4_block_49 ?_
    refine lv_iload_n hx hb dX4_block_52 rfl (lv_at hl 3 rfl) ?_
    refine lv_iload_n hx hb dX4_block_53 rfl (lv_at hl 2 rfl) ?_
    refine lv_iconst (v := bI (false)) hx hb dX4_block_54 (by decide) ?_
    refine wr_goN (rn_V ⟨hx, hb, hml, hown, hts⟩ (c_X1_put l g (x := yj) (y := xj) (v := false) (nd_of hN [1, 2] (by decide) (by decide)) (by omega) (by omega)) gX4_block_X1_put rfl pX1_put ⟨Nat.le_of_ble_eq_true rfl, Nat.le_of_ble_eq_true rfl⟩ ⟨Nat.le_of_ble_eq_true rfl, Nat.le_of_ble_eq_true rfl⟩ (hP.sub (ws' := wRel g (ad 1) (ad 2) (sF (uF (uB (σ) (va_up (sB σ) (8 * xj + yj) (true))) (va_up (sF (uB (σ) (va_up (sB σ) (8 * xj + yj) (true)))) (8 * xj + yj) (false))))) [1, 2] rfl) hE rfl rfl rfl hl.1 rfl (Nat.le_of_ble_eq_true rfl) dX4_block_55) hS (asL (ad := ad) (is := [1, 2]) (by decide)) (fun H1 locs1 hB hz hk hS => ?_)
    have hP := wF_FU hN hP hk hB
    have hD : va_D (fun z => z ∈ fA ad) (wF g ad (uF (uF (uB (σ) (va_up (sB σ) (8 * xj + yj) (true))) (va_up (sF (uB (σ) (va_up (sB σ) (8 * xj + yj) (true)))) (8 * xj + yj) (false))) (va_up (sF (uF (uB (σ) (va_up (sB σ) (8 * xj + yj) (true))) (va_up (sF (uB (σ) (va_up (sB σ) (8 * xj + yj) (true)))) (8 * xj + yj) (false)))) (8 * yj + xj) (false))) (τ)) := wF_D hN
    clear hk hB hz
    generalize H1 = H at hP hS ⊢
    generalize locs1 = locs at hS ⊢
    refine lv_aload_n hx hb dX4_block_58 rfl (lv_at hl 1 rfl) ?_
    refine wr_goN (rn_V ⟨hx, hb, hml, hown, hts⟩ (c_X4_settleRows l g (σ := uF (uF (uB (σ) (va_up (sB σ) (8 * xj + yj) (true))) (va_up (sF (uB (σ) (va_up (sB σ) (8 * xj + yj) (true)))) (8 * xj + yj) (false))) (va_up (sF (uF (uB (σ) (va_up (sB σ) (8 * xj + yj) (true))) (va_up (sF (uB (σ) (va_up (sB σ) (8 * xj + yj) (true)))) (8 * xj + yj) (false)))) (8 * yj + xj) (false))) (τ := τ) hN (Inv_uF (Inv_uF (Inv_uB hI _) _) _)) gX4_block_X4_settleRows rfl pX4_settleRows ⟨Nat.le_of_ble_eq_true rfl, Nat.le_of_ble_eq_true rfl⟩ ⟨Nat.le_of_ble_eq_true rfl, Nat.le_of_ble_eq_true rfl⟩ (hP) hE rfl rfl rfl hl.1 rfl (Nat.le_of_ble_eq_true rfl) dX4_block_59) hS (fun x h => h) (fun H1 locs1 hB hz hk hS => ?_)
    obtain ⟨τ1, hP, hro, htc⟩ := hB
    have hD : va_D (fun z => z ∈ fA ad) (wF g ad (stl (uF (uF (uB (σ) (va_up (sB σ) (8 * xj + yj) (true))) (va_up (sF (uB (σ) (va_up (sB σ) (8 * xj + yj) (true)))) (8 * xj + yj) (false))) (va_up (sF (uF (uB (σ) (va_up (sB σ) (8 * xj + yj) (true))) (va_up (sF (uB (σ) (va_up (sB σ) (8 * xj + yj) (true)))) (8 * xj + yj) (false)))) (8 * yj + xj) (false)))) (τ1)) := wF_D hN
    clear hk hz
    generalize H1 = H at hP hS ⊢
    generalize locs1 = locs at hS ⊢
    refine lv_iload hx hb dX4_block_62 (lv_at hl 0 rfl) ?_
    have hfin : FWq g ad (nBlk σ (nI xj) (nI yj) (true)) H := (by have hnx : nBlk σ (nI xj) (nI yj) (true) = stl (uF (uF (uB (σ) (va_up (sB σ) (8 * xj + yj) (true))) (va_up (sF (uB (σ) (va_up (sB σ) (8 * xj + yj) (true)))) (8 * xj + yj) (false))) (va_up (sF (uF (uB (σ) (va_up (sB σ) (8 * xj + yj) (true))) (va_up (sF (uB (σ) (va_up (sB σ) (8 * xj + yj) (true)))) (8 * xj + yj) (false)))) (8 * yj + xj) (false))) := (by unfold nBlk; rw [if_pos rfl, hix, hiy]; rfl); rw [hnx]; exact ⟨τ1, hP, hro, by rw [htc]; exact hT⟩)
    exact xw_retz hx hb hr hlocks hS hfin (by simp [eMut, hpx, hix, hpy, hiy, hne, hne2]) (by rw [hix, hiy]) (Nat.le_of_ble_eq_true rfl) (Nat.le_of_ble_eq_true rfl) dX4_block_64
theorem mX4_post_25 : Cond.fieldLink RX4 25 "Followrow" "ledger" "LFollowrow$Ledger;" ∈ wsX4_post := by decide +kernel
theorem iX4_post_4 : ∀ w ∈ wsX40, w ∈ wsX4_post := by decide +kernel
set_option maxHeartbeats 4000000 in
set_option maxRecDepth 100000 in
/-- post(x) -/
theorem c_X4_post (l : Launch) (hlf : l.stackTraces = false) (g : GT) {ad : Nat → Nat} {σ : St} {τ : Sc} (hI : Inv σ) (hN : FN ad 31) (hR : rowsOk σ τ 8) (hSd : Setd σ) (hT : tc τ ≤ 150) {x : Int32} : xwM l g yX4_post wsX4_post 7 156 2 12 [.ref (ad 0), .int (x)] (wF g ad (σ) (τ)) (ePst σ x) (some (.int (nI (sn σ)))) (fun H1 => FWq g ad (nPst σ x) H1) (fA ad) := by
  refine xw_of (cc := cX4_post) (maxL := 3) (ret := (some .int)) (by decide) rfl (Nat.le_of_ble_eq_true rfl) (fun p e s m below meth c ls hx hb hr hml hts hown hlocks hl hP hE hxv hout hS => ?_)
  have hl : lv_has ls 3 [(0, .ref (ad 0)), (1, .int (x))] := hl
  have hown : s.vm.findClass RX4 = some m.cls := hown
  obtain ⟨hi1, hi2, hi3, hi4, hi5, hi6, hi7, hi8⟩ := id hI
  refine lv_iload_n hx hb dX4_post_0 rfl (lv_at hl 1 rfl) ?_
  refine xr_goN (xn_S ⟨hx, hb, hml, hown, hts⟩ (c_X4_checkPerson l hlf g (x := x)) gX4_post_X4_checkPerson rfl qX4_checkPerson ⟨Nat.le_of_ble_eq_true rfl, Nat.le_of_ble_eq_true rfl⟩ ⟨Nat.le_of_ble_eq_true rfl, Nat.le_of_ble_eq_true rfl⟩ (gP_nil) hE hxv rfl hl.1 rfl (Nat.le_of_ble_eq_true rfl) dX4_post_1) hout hlocks (fun h => by cases hz : isP x <;> simp [eP, ePst, hz] at h ⊢) (Nat.le_of_ble_eq_true rfl) (Nat.le_of_ble_eq_true rfl) (fun hx121 => ?_)
  obtain ⟨xj, hjx, rfl, hix⟩ := isP_of (eP_0 hx121)
  have hpx : isP (nI xj) = true := isP_nI hjx
  refine lv_aload_n hx hb dX4_post_4 rfl (lv_at hl 0 rfl) ?_
  refine xr_goN (xn_V ⟨hx, hb, hml, hown, hts⟩ (c_X4_checkPlace l hlf g hI) gX4_post_X4_checkPlace rfl pX4_checkPlace ⟨Nat.le_of_ble_eq_true rfl, Nat.le_of_ble_eq_true rfl⟩ ⟨Nat.le_of_ble_eq_true rfl, Nat.le_of_ble_eq_true rfl⟩ (hP) hE hxv rfl rfl rfl hl.1 rfl (Nat.le_of_ble_eq_true rfl) dX4_post_5) hout hlocks (fun h => by by_cases hz : sn σ < 150 <;> simp [ePst, hz, hpx, hix] at h ⊢) (Nat.le_of_ble_eq_true rfl) (Nat.le_of_ble_eq_true rfl) (fun hx122 => ?_)
  have hpl : sn σ < 150 := Nat.not_le.mp (fun z => by rw [if_neg (by omega)] at hx122; cases hx122)
  refine lv_aload_n hx hb dX4_post_8 rfl (lv_at hl 0 rfl) ?_
  refine gf (q0 := 0) (ci := 4) (k := 3) (v := .ref (ad 7)) hx hb hts iX4_post_4 hown hE hP rfl rfl (by decide) mX4_post_25 rfl dX4_post_9 ?_
  refine rd_goS (rn_V ⟨hx, hb, hml, hown, hts⟩ (c_X0_made l g) gX4_post_X0_made rfl pX0_made ⟨Nat.le_of_ble_eq_true rfl, Nat.le_of_ble_eq_true rfl⟩ ⟨Nat.le_of_ble_eq_true rfl, Nat.le_of_ble_eq_true rfl⟩ (hP.sub (ws' := wLed g (ad 7) (ad 8) (ad 9) (ad 10) (sa σ) (so σ) (sd σ) (sn σ)) [7, 8, 9, 10] rfl) hE rfl rfl rfl hl.1 rfl (Nat.le_of_ble_eq_true rfl) dX4_post_12) ?_
  refine lv_istore_n (lv' := [(2, .int (nI (sn σ))), (0, .ref (ad 0)), (1, .int (nI (xj)))]) hx hb dX4_post_15 rfl hl (by decide) rfl (fun ls hl => ?_)
  refine lv_aload_n hx hb dX4_post_16 rfl (lv_at hl 1 rfl) ?_
  refine gf (q0 := 0) (ci := 4) (k := 3) (v := .ref (ad 7)) hx hb hts iX4_post_4 hown hE hP rfl rfl (by decide) mX4_post_25 rfl dX4_post_17 ?_
  refine lv_iload_n hx hb dX4_post_20 rfl (lv_at hl 2 rfl) ?_
  refine lv_iload_n hx hb dX4_post_21 rfl (lv_at hl 0 rfl) ?_
  refine wr_goN (rn_V ⟨hx, hb, hml, hown, hts⟩ (c_X0_add l g (x := xj) (y := sn σ) (nd_of hN [7, 8, 9, 10] (by decide) (by decide)) (by omega)) gX4_post_X0_add rfl pX0_add ⟨Nat.le_of_ble_eq_true rfl, Nat.le_of_ble_eq_true rfl⟩ ⟨Nat.le_of_ble_eq_true rfl, Nat.le_of_ble_eq_true rfl⟩ (hP.sub (ws' := wLed g (ad 7) (ad 8) (ad 9) (ad 10) (sa σ) (so σ) (sd σ) (sn σ)) [7, 8, 9, 10] rfl) hE rfl rfl rfl hl.1 rfl (Nat.le_of_ble_eq_true rfl) dX4_post_22) hS (asL (ad := ad) (is := [7, 8, 9, 10]) (by decide)) (fun H1 locs1 hB hz hk hS => ?_)
  have hP : gP g (wF g ad (uE (σ) (va_up (sa σ) (sn σ) (xj)) (va_up (so σ) (sn σ) (sn σ)) (sn σ + 1)) (τ)) H1 := wF_EU hN hP hk hB
  have hD : va_D (fun z => z ∈ fA ad) (wF g ad (uE (σ) (va_up (sa σ) (sn σ) (xj)) (va_up (so σ) (sn σ) (sn σ)) (sn σ + 1)) (τ)) := wF_D hN
  clear hk hB hz
  generalize H1 = H at hP hS ⊢
  generalize locs1 = locs at hS ⊢
  refine lv_aload_n hx hb dX4_post_25 rfl (lv_at hl 1 rfl) ?_
  refine wr_goN (rn_V ⟨hx, hb, hml, hown, hts⟩ (c_X4_settleRows l g (σ := uE (σ) (va_up (sa σ) (sn σ) (xj)) (va_up (so σ) (sn σ) (sn σ)) (sn σ + 1)) (τ := τ) hN (Inv_uE hI (by omega) (by omega) (Nat.le_refl _))) gX4_post_X4_settleRows rfl pX4_settleRows ⟨Nat.le_of_ble_eq_true rfl, Nat.le_of_ble_eq_true rfl⟩ ⟨Nat.le_of_ble_eq_true rfl, Nat.le_of_ble_eq_true rfl⟩ (hP) hE rfl rfl rfl hl.1 rfl (Nat.le_of_ble_eq_true rfl) dX4_post_26) hS (fun x h => h) (fun H1 locs1 hB hz hk hS => ?_)
  obtain ⟨τ1, hP, hro, htc⟩ := hB
  have hD : va_D (fun z => z ∈ fA ad) (wF g ad (stl (uE (σ) (va_up (sa σ) (sn σ) (xj)) (va_up (so σ) (sn σ) (sn σ)) (sn σ + 1))) (τ1)) := wF_D hN
  clear hk hz
  generalize H1 = H at hP hS ⊢
  generalize locs1 = locs at hS ⊢
  refine lv_iload_n hx hb dX4_post_29 rfl (lv_at hl 0 rfl) ?_
  have hfin : FWq g ad (nPst σ (nI xj)) H := (by have hnx : nPst σ (nI xj) = stl (uE (σ) (va_up (sa σ) (sn σ) (xj)) (va_up (so σ) (sn σ) (sn σ)) (sn σ + 1)) := (by unfold nPst; rw [hix]); rw [hnx]; exact ⟨τ1, hP, hro, by rw [htc]; exact hT⟩)
  exact xw_reti hx hb hr hlocks hS hfin (by simp [ePst, hpx, hix, hpl]) rfl (Nat.le_of_ble_eq_true rfl) (Nat.le_of_ble_eq_true rfl) dX4_post_30
theorem mX4_repost_19 : Cond.fieldLink RX4 19 "Followrow" "blocking" "LFollowrow$Relation;" ∈ wsX4_repost := by decide +kernel
theorem mX4_repost_25 : Cond.fieldLink RX4 25 "Followrow" "ledger" "LFollowrow$Ledger;" ∈ wsX4_repost := by decide +kernel
theorem iX4_repost_4 : ∀ w ∈ wsX40, w ∈ wsX4_repost := by decide +kernel
theorem tkX4_repost_exS : Cond.classLink RX4 63 exS ∈ wsX4_repost := by decide +kernel
theorem tiX4_repost_exS : Cond.initialized exS ∈ wsX4_repost := by decide +kernel
theorem taX4_repost_exS : ∀ w ∈ (vx_atS RX4 icS exS exU).filter goodWord, w ∈ wsX4_repost := by decide +kernel
theorem tgX4_repost_exS : ∀ w ∈ Cond.classLink RX4 63 exS :: Cond.initialized exS :: vx_atS RX4 icS exS exU, vx_ot w = true := by decide +kernel
set_option maxHeartbeats 4000000 in
set_option maxRecDepth 100000 in
/-- repost(x, y) -/
theorem c_X4_repost (l : Launch) (hlf : l.stackTraces = false) (g : GT) {ad : Nat → Nat} {σ : St} {τ : Sc} (hI : Inv σ) (hN : FN ad 31) (hR : rowsOk σ τ 8) (hSd : Setd σ) (hT : tc τ ≤ 150) {x y : Int32} : xwM l g yX4_repost wsX4_repost 7 156 4 24 [.ref (ad 0), .int (x), .int (y)] (wF g ad (σ) (τ)) (eRep σ x y) (some (.int (nI (sn σ)))) (fun H1 => FWq g ad (nRep σ x y) H1) (fA ad) := by
  refine xw_of (cc := cX4_repost) (maxL := 5) (ret := (some .int)) (by decide) rfl (Nat.le_of_ble_eq_true rfl) (fun p e s m below meth c ls hx hb hr hml hts hown hlocks hl hP hE hxv hout hS => ?_)
  have hl : lv_has ls 5 [(0, .ref (ad 0)), (1, .int (x)), (2, .int (y))] := hl
  have hown : s.vm.findClass RX4 = some m.cls := hown
  obtain ⟨hi1, hi2, hi3, hi4, hi5, hi6, hi7, hi8⟩ := id hI
  refine lv_iload_n hx hb dX4_repost_0 rfl (lv_at hl 1 rfl) ?_
  refine xr_goN (xn_S ⟨hx, hb, hml, hown, hts⟩ (c_X4_checkPerson l hlf g (x := x)) gX4_repost_X4_checkPerson rfl qX4_checkPerson ⟨Nat.le_of_ble_eq_true rfl, Nat.le_of_ble_eq_true rfl⟩ ⟨Nat.le_of_ble_eq_true rfl, Nat.le_of_ble_eq_true rfl⟩ (gP_nil) hE hxv rfl hl.1 rfl (Nat.le_of_ble_eq_true rfl) dX4_repost_1) hout hlocks (fun h => by cases hz : isP x <;> simp [eP, eRep, hz] at h ⊢) (Nat.le_of_ble_eq_true rfl) (Nat.le_of_ble_eq_true rfl) (fun hx123 => ?_)
  obtain ⟨xj, hjx, rfl, hix⟩ := isP_of (eP_0 hx123)
  have hpx : isP (nI xj) = true := isP_nI hjx
  refine lv_aload_n hx hb dX4_repost_4 rfl (lv_at hl 0 rfl) ?_
  refine lv_iload_n hx hb dX4_repost_5 rfl (lv_at hl 2 rfl) ?_
  refine xr_goN (xn_V ⟨hx, hb, hml, hown, hts⟩ (c_X4_checkEntry l hlf g hI (x := y)) gX4_repost_X4_checkEntry rfl pX4_checkEntry ⟨Nat.le_of_ble_eq_true rfl, Nat.le_of_ble_eq_true rfl⟩ ⟨Nat.le_of_ble_eq_true rfl, Nat.le_of_ble_eq_true rfl⟩ (hP) hE hxv rfl rfl rfl hl.1 rfl (Nat.le_of_ble_eq_true rfl) dX4_repost_6) hout hlocks (fun h => by cases hz : isB y (sn σ) <;> simp [eE, eRep, hz, hpx, hix] at h ⊢) (Nat.le_of_ble_eq_true rfl) (Nat.le_of_ble_eq_true rfl) (fun hx124 => ?_)
  obtain ⟨yj, hjy, rfl, hiy⟩ := isB_of (eE_0 hx124) (by omega)
  have hpy : isB (nI yj) (sn σ) = true := isB_lt (by omega) hjy
  refine lv_aload_n hx hb dX4_repost_9 rfl (lv_at hl 0 rfl) ?_
  refine xr_goN (xn_V ⟨hx, hb, hml, hown, hts⟩ (c_X4_checkPlace l hlf g hI) gX4_repost_X4_checkPlace rfl pX4_checkPlace ⟨Nat.le_of_ble_eq_true rfl, Nat.le_of_ble_eq_true rfl⟩ ⟨Nat.le_of_ble_eq_true rfl, Nat.le_of_ble_eq_true rfl⟩ (hP) hE hxv rfl rfl rfl hl.1 rfl (Nat.le_of_ble_eq_true rfl) dX4_repost_10) hout hlocks (fun h => by by_cases hz : sn σ < 150 <;> simp [eRep, hz, hpx, hix, hpy, hiy] at h ⊢) (Nat.le_of_ble_eq_true rfl) (Nat.le_of_ble_eq_true rfl) (fun hx125 => ?_)
  have hpl : sn σ < 150 := Nat.not_le.mp (fun z => by rw [if_neg (by omega)] at hx125; cases hx125)
  have hox := hi7 yj hjy
  refine lv_aload_n hx hb dX4_repost_13 rfl (lv_at hl 0 rfl) ?_
  refine gf (q0 := 0) (ci := 4) (k := 3) (v := .ref (ad 7)) hx hb hts iX4_repost_4 hown hE hP rfl rfl (by decide) mX4_repost_25 rfl dX4_repost_14 ?_
  refine lv_iload_n hx hb dX4_repost_17 rfl (lv_at hl 2 rfl) ?_
  refine rd_goS (rn_V ⟨hx, hb, hml, hown, hts⟩ (c_X0_origin l g (x := yj) (by omega) (by omega)) gX4_repost_X0_origin rfl pX0_origin ⟨Nat.le_of_ble_eq_true rfl, Nat.le_of_ble_eq_true rfl⟩ ⟨Nat.le_of_ble_eq_true rfl, Nat.le_of_ble_eq_true rfl⟩ (hP.sub (ws' := wLed g (ad 7) (ad 8) (ad 9) (ad 10) (sa σ) (so σ) (sd σ) (sn σ)) [7, 8, 9, 10] rfl) hE rfl rfl rfl hl.1 rfl (Nat.le_of_ble_eq_true rfl) dX4_repost_18) ?_
  refine lv_istore_n (lv' := [(3, .int (nI (so σ yj))), (0, .ref (ad 0)), (1, .int (nI (xj))), (2, .int (nI (yj)))]) hx hb dX4_repost_21 rfl hl (by decide) rfl (fun ls hl => ?_)
  refine lv_aload_n hx hb dX4_repost_22 rfl (lv_at hl 1 rfl) ?_
  refine gf (q0 := 0) (ci := 4) (k := 3) (v := .ref (ad 7)) hx hb hts iX4_repost_4 hown hE hP rfl rfl (by decide) mX4_repost_25 rfl dX4_repost_23 ?_
  refine lv_iload_n hx hb dX4_repost_26 rfl (lv_at hl 3 rfl) ?_
  refine rd_goS (rn_V ⟨hx, hb, hml, hown, hts⟩ (c_X0_stands l g (x := yj) (by omega) (by omega)) gX4_repost_X0_stands rfl pX0_stands ⟨Nat.le_of_ble_eq_true rfl, Nat.le_of_ble_eq_true rfl⟩ ⟨Nat.le_of_ble_eq_true rfl, Nat.le_of_ble_eq_true rfl⟩ (hP.sub (ws' := wLed g (ad 7) (ad 8) (ad 9) (ad 10) (sa σ) (so σ) (sd σ) (sn σ)) [7, 8, 9, 10] rfl) hE rfl rfl rfl hl.1 rfl (Nat.le_of_ble_eq_true rfl) dX4_repost_27) ?_
  refine br_eqB (tgt := 44) hx hb dX4_repost_30 (by decide) (fun h126 => ?_) (fun h126 => ?_)
  · exact x_throw (text := "the entry or its origin is deleted") (cls := exS) (ic := icS) hx hb hlf hown hts hE hxv (by decide +kernel) tkX4_repost_exS tiX4_repost_exS taX4_repost_exS txexS tgX4_repost_exS (by decide +kernel) (hl.1.trans hml.symm) dX4_repost_44 dX4_repost_47 dX4_repost_48 dX4_repost_50 dX4_repost_53 hout (by decide) (Nat.le_of_ble_eq_true rfl) (Nat.le_of_ble_eq_true rfl) (Nat.le_of_ble_eq_true rfl) hlocks (by have he9 : eRep σ (nI xj) (nI yj) = 3 := (by simp [eRep, hpx, hix, hpy, hiy, hpl, bnf h126]); exact ⟨by rw [he9]; decide, by rw [he9]; rfl⟩) (Nat.le_of_ble_eq_true rfl) (Nat.le_of_ble_eq_true rfl)
  · refine lv_aload_n hx hb dX4_repost_33 rfl (lv_at hl 1 rfl) ?_
    refine gf (q0 := 0) (ci := 4) (k := 3) (v := .ref (ad 7)) hx hb hts iX4_repost_4 hown hE hP rfl rfl (by decide) mX4_repost_25 rfl dX4_repost_34 ?_
    refine lv_iload_n hx hb dX4_repost_37 rfl (lv_at hl 0 rfl) ?_
    refine rd_goS (rn_V ⟨hx, hb, hml, hown, hts⟩ (c_X0_stands l g (x := so σ yj) (by omega) (by omega)) gX4_repost_X0_stands rfl pX0_stands ⟨Nat.le_of_ble_eq_true rfl, Nat.le_of_ble_eq_true rfl⟩ ⟨Nat.le_of_ble_eq_true rfl, Nat.le_of_ble_eq_true rfl⟩ (hP.sub (ws' := wLed g (ad 7) (ad 8) (ad 9) (ad 10) (sa σ) (so σ) (sd σ) (sn σ)) [7, 8, 9, 10] rfl) hE rfl rfl rfl hl.1 rfl (Nat.le_of_ble_eq_true rfl) dX4_repost_38) ?_
    refine br_neB (tgt := 54) hx hb dX4_repost_41 (by decide) (fun h127 => ?_) (fun h127 => ?_)
    · refine lv_aload_n hx hb dX4_repost_54 rfl (lv_at hl 1 rfl) ?_
      refine gf (q0 := 0) (ci := 4) (k := 2) (v := .ref (ad 5)) hx hb hts iX4_repost_4 hown hE hP rfl rfl (by decide) mX4_repost_19 rfl dX4_repost_55 ?_
      refine lv_aload_n hx hb dX4_repost_58 rfl (lv_at hl 1 rfl) ?_
      refine gf (q0 := 0) (ci := 4) (k := 3) (v := .ref (ad 7)) hx hb hts iX4_repost_4 hown hE hP rfl rfl (by decide) mX4_repost_25 rfl dX4_repost_59 ?_
      refine lv_iload_n hx hb dX4_repost_62 rfl (lv_at hl 0 rfl) ?_
      refine rd_goS (rn_V ⟨hx, hb, hml, hown, hts⟩ (c_X0_author l g (x := so σ yj) (by omega) (by omega)) gX4_repost_X0_author rfl pX0_author ⟨Nat.le_of_ble_eq_true rfl, Nat.le_of_ble_eq_true rfl⟩ ⟨Nat.le_of_ble_eq_true rfl, Nat.le_of_ble_eq_true rfl⟩ (hP.sub (ws' := wLed g (ad 7) (ad 8) (ad 9) (ad 10) (sa σ) (so σ) (sd σ) (sn σ)) [7, 8, 9, 10] rfl) hE rfl rfl rfl hl.1 rfl (Nat.le_of_ble_eq_true rfl) dX4_repost_63) ?_
      refine lv_iload_n hx hb dX4_repost_66 rfl (lv_at hl 2 rfl) ?_
      refine rd_goS (rn_V ⟨hx, hb, hml, hown, hts⟩ (c_X1_has l g (x := sa σ (so σ yj)) (y := xj) (by first | omega | exact hi5 _ | exact hi6 _) (by first | omega | exact hi5 _ | exact hi6 _)) gX4_repost_X1_has rfl pX1_has ⟨Nat.le_of_ble_eq_true rfl, Nat.le_of_ble_eq_true rfl⟩ ⟨Nat.le_of_ble_eq_true rfl, Nat.le_of_ble_eq_true rfl⟩ (hP.sub (ws' := wRel g (ad 5) (ad 6) (sB σ)) [5, 6] rfl) hE rfl rfl rfl hl.1 rfl (Nat.le_of_ble_eq_true rfl) dX4_repost_67) ?_
      refine br_eqB (tgt := 83) hx hb dX4_repost_70 (by decide) (fun h128 => ?_) (fun h128 => ?_)
      · refine lv_aload_n hx hb dX4_repost_83 rfl (lv_at hl 1 rfl) ?_
        refine gf (q0 := 0) (ci := 4) (k := 3) (v := .ref (ad 7)) hx hb hts iX4_repost_4 hown hE hP rfl rfl (by decide) mX4_repost_25 rfl dX4_repost_84 ?_
        refine rd_goS (rn_V ⟨hx, hb, hml, hown, hts⟩ (c_X0_made l g) gX4_repost_X0_made rfl pX0_made ⟨Nat.le_of_ble_eq_true rfl, Nat.le_of_ble_eq_true rfl⟩ ⟨Nat.le_of_ble_eq_true rfl, Nat.le_of_ble_eq_true rfl⟩ (hP.sub (ws' := wLed g (ad 7) (ad 8) (ad 9) (ad 10) (sa σ) (so σ) (sd σ) (sn σ)) [7, 8, 9, 10] rfl) hE rfl rfl rfl hl.1 rfl (Nat.le_of_ble_eq_true rfl) dX4_repost_87) ?_
        refine lv_istore (lv' := [(4, .int (nI (sn σ))), (3, .int (nI (so σ yj))), (0, .ref (ad 0)), (1, .int (nI (xj))), (2, .int (nI (yj)))]) hx hb dX4_repost_90 hl (by decide) rfl (fun ls hl => ?_)
        refine lv_aload_n hx hb dX4_repost_92 rfl (lv_at hl 2 rfl) ?_
        refine gf (q0 := 0) (ci := 4) (k := 3) (v := .ref (ad 7)) hx hb hts iX4_repost_4 hown hE hP rfl rfl (by decide) mX4_repost_25 rfl dX4_repost_93 ?_
        refine lv_iload_n hx hb dX4_repost_96 rfl (lv_at hl 3 rfl) ?_
        refine lv_iload_n hx hb dX4_repost_97 rfl (lv_at hl 1 rfl) ?_
        refine wr_goN (rn_V ⟨hx, hb, hml, hown, hts⟩ (c_X0_add l g (x := xj) (y := so σ yj) (nd_of hN [7, 8, 9, 10] (by decide) (by decide)) (by omega)) gX4_repost_X0_add rfl pX0_add ⟨Nat.le_of_ble_eq_true rfl, Nat.le_of_ble_eq_true rfl⟩ ⟨Nat.le_of_ble_eq_true rfl, Nat.le_of_ble_eq_true rfl⟩ (hP.sub (ws' := wLed g (ad 7) (ad 8) (ad 9) (ad 10) (sa σ) (so σ) (sd σ) (sn σ)) [7, 8, 9, 10] rfl) hE rfl rfl rfl hl.1 rfl (Nat.le_of_ble_eq_true rfl) dX4_repost_98) hS (asL (ad := ad) (is := [7, 8, 9, 10]) (by decide)) (fun H1 locs1 hB hz hk hS => ?_)
        have hP : gP g (wF g ad (uE (σ) (va_up (sa σ) (sn σ) (xj)) (va_up (so σ) (sn σ) (so σ yj)) (sn σ + 1)) (τ)) H1 := wF_EU hN hP hk hB
        have hD : va_D (fun z => z ∈ fA ad) (wF g ad (uE (σ) (va_up (sa σ) (sn σ) (xj)) (va_up (so σ) (sn σ) (so σ yj)) (sn σ + 1)) (τ)) := wF_D hN
        clear hk hB hz
        generalize H1 = H at hP hS ⊢
        generalize locs1 = locs at hS ⊢
        refine lv_aload_n hx hb dX4_repost_101 rfl (lv_at hl 2 rfl) ?_
        refine wr_goN (rn_V ⟨hx, hb, hml, hown, hts⟩ (c_X4_settleRows l g (σ := uE (σ) (va_up (sa σ) (sn σ) (xj)) (va_up (so σ) (sn σ) (so σ yj)) (sn σ + 1)) (τ := τ) hN (Inv_uE hI (by omega) (by omega) (by omega))) gX4_repost_X4_settleRows rfl pX4_settleRows ⟨Nat.le_of_ble_eq_true rfl, Nat.le_of_ble_eq_true rfl⟩ ⟨Nat.le_of_ble_eq_true rfl, Nat.le_of_ble_eq_true rfl⟩ (hP) hE rfl rfl rfl hl.1 rfl (Nat.le_of_ble_eq_true rfl) dX4_repost_102) hS (fun x h => h) (fun H1 locs1 hB hz hk hS => ?_)
        obtain ⟨τ1, hP, hro, htc⟩ := hB
        have hD : va_D (fun z => z ∈ fA ad) (wF g ad (stl (uE (σ) (va_up (sa σ) (sn σ) (xj)) (va_up (so σ) (sn σ) (so σ yj)) (sn σ + 1))) (τ1)) := wF_D hN
        clear hk hz
        generalize H1 = H at hP hS ⊢
        generalize locs1 = locs at hS ⊢
        refine lv_iload hx hb dX4_repost_105 (lv_at hl 0 rfl) ?_
        have hfin : FWq g ad (nRep σ (nI xj) (nI yj)) H := (by have hnx : nRep σ (nI xj) (nI yj) = stl (uE (σ) (va_up (sa σ) (sn σ) (xj)) (va_up (so σ) (sn σ) (so σ yj)) (sn σ + 1)) := (by unfold nRep; rw [hix, hiy]); rw [hnx]; exact ⟨τ1, hP, hro, by rw [htc]; exact hT⟩)
        exact xw_reti hx hb hr hlocks hS hfin (by simp [eRep, hpx, hix, hpy, hiy, hpl, bnt h126, bnt h127, h128]) rfl (Nat.le_of_ble_eq_true rfl) (Nat.le_of_ble_eq_true rfl) dX4_repost_107
      · exact x_throw (text := "the author of the origin has blocked the author") (cls := exS) (ic := icS) hx hb hlf hown hts hE hxv (by decide +kernel) tkX4_repost_exS tiX4_repost_exS taX4_repost_exS txexS tgX4_repost_exS (by decide +kernel) (hl.1.trans hml.symm) dX4_repost_73 dX4_repost_76 dX4_repost_77 dX4_repost_79 dX4_repost_82 hout (by decide) (Nat.le_of_ble_eq_true rfl) (Nat.le_of_ble_eq_true rfl) (Nat.le_of_ble_eq_true rfl) hlocks (by have he9 : eRep σ (nI xj) (nI yj) = 3 := (by simp [eRep, hpx, hix, hpy, hiy, hpl, bnt h126, bnt h127, h128]); exact ⟨by rw [he9]; decide, by rw [he9]; rfl⟩) (Nat.le_of_ble_eq_true rfl) (Nat.le_of_ble_eq_true rfl)
    · exact x_throw (text := "the entry or its origin is deleted") (cls := exS) (ic := icS) hx hb hlf hown hts hE hxv (by decide +kernel) tkX4_repost_exS tiX4_repost_exS taX4_repost_exS txexS tgX4_repost_exS (by decide +kernel) (hl.1.trans hml.symm) dX4_repost_44 dX4_repost_47 dX4_repost_48 dX4_repost_50 dX4_repost_53 hout (by decide) (Nat.le_of_ble_eq_true rfl) (Nat.le_of_ble_eq_true rfl) (Nat.le_of_ble_eq_true rfl) hlocks (by have he9 : eRep σ (nI xj) (nI yj) = 3 := (by simp [eRep, hpx, hix, hpy, hiy, hpl, bnt h126, bnf h127]); exact ⟨by rw [he9]; decide, by rw [he9]; rfl⟩) (Nat.le_of_ble_eq_true rfl) (Nat.le_of_ble_eq_true rfl)
theorem mX4_delete_25 : Cond.fieldLink RX4 25 "Followrow" "ledger" "LFollowrow$Ledger;" ∈ wsX4_delete := by decide +kernel
theorem iX4_delete_4 : ∀ w ∈ wsX40, w ∈ wsX4_delete := by decide +kernel
theorem tkX4_delete_exS : Cond.classLink RX4 63 exS ∈ wsX4_delete := by decide +kernel
theorem tiX4_delete_exS : Cond.initialized exS ∈ wsX4_delete := by decide +kernel
theorem taX4_delete_exS : ∀ w ∈ (vx_atS RX4 icS exS exU).filter goodWord, w ∈ wsX4_delete := by decide +kernel
theorem tgX4_delete_exS : ∀ w ∈ Cond.classLink RX4 63 exS :: Cond.initialized exS :: vx_atS RX4 icS exS exU, vx_ot w = true := by decide +kernel
set_option maxHeartbeats 4000000 in
set_option maxRecDepth 100000 in
/-- delete(x) -/
theorem c_X4_delete (l : Launch) (hlf : l.stackTraces = false) (g : GT) {ad : Nat → Nat} {σ : St} {τ : Sc} (hI : Inv σ) (hN : FN ad 31) (hR : rowsOk σ τ 8) (hSd : Setd σ) (hT : tc τ ≤ 150) {x : Int32} : xwM l g yX4_delete wsX4_delete 7 156 2 12 [.ref (ad 0), .int (x)] (wF g ad (σ) (τ)) (eDel σ x) (some (.int (nI (rDel σ x)))) (fun H1 => FWq g ad (nDel σ x) H1) (fA ad) := by
  refine xw_of (cc := cX4_delete) (maxL := 2) (ret := (some .int)) (by decide) rfl (Nat.le_of_ble_eq_true rfl) (fun p e s m below meth c ls hx hb hr hml hts hown hlocks hl hP hE hxv hout hS => ?_)
  have hl : lv_has ls 2 [(0, .ref (ad 0)), (1, .int (x))] := hl
  have hown : s.vm.findClass RX4 = some m.cls := hown
  obtain ⟨hi1, hi2, hi3, hi4, hi5, hi6, hi7, hi8⟩ := id hI
  refine lv_aload_n hx hb dX4_delete_0 rfl (lv_at hl 0 rfl) ?_
  refine lv_iload_n hx hb dX4_delete_1 rfl (lv_at hl 1 rfl) ?_
  refine xr_goN (xn_V ⟨hx, hb, hml, hown, hts⟩ (c_X4_checkEntry l hlf g hI (x := x)) gX4_delete_X4_checkEntry rfl pX4_checkEntry ⟨Nat.le_of_ble_eq_true rfl, Nat.le_of_ble_eq_true rfl⟩ ⟨Nat.le_of_ble_eq_true rfl, Nat.le_of_ble_eq_true rfl⟩ (hP) hE hxv rfl rfl rfl hl.1 rfl (Nat.le_of_ble_eq_true rfl) dX4_delete_2) hout hlocks (fun h => by cases hz : isB x (sn σ) <;> simp [eE, eDel, hz] at h ⊢) (Nat.le_of_ble_eq_true rfl) (Nat.le_of_ble_eq_true rfl) (fun hx129 => ?_)
  obtain ⟨xj, hjx, rfl, hix⟩ := isB_of (eE_0 hx129) (by omega)
  have hpx : isB (nI xj) (sn σ) = true := isB_lt (by omega) hjx
  refine lv_aload_n hx hb dX4_delete_5 rfl (lv_at hl 0 rfl) ?_
  refine gf (q0 := 0) (ci := 4) (k := 3) (v := .ref (ad 7)) hx hb hts iX4_delete_4 hown hE hP rfl rfl (by decide) mX4_delete_25 rfl dX4_delete_6 ?_
  refine lv_iload_n hx hb dX4_delete_9 rfl (lv_at hl 1 rfl) ?_
  refine rd_goS (rn_V ⟨hx, hb, hml, hown, hts⟩ (c_X0_stands l g (x := xj) (by omega) (by omega)) gX4_delete_X0_stands rfl pX0_stands ⟨Nat.le_of_ble_eq_true rfl, Nat.le_of_ble_eq_true rfl⟩ ⟨Nat.le_of_ble_eq_true rfl, Nat.le_of_ble_eq_true rfl⟩ (hP.sub (ws' := wLed g (ad 7) (ad 8) (ad 9) (ad 10) (sa σ) (so σ) (sd σ) (sn σ)) [7, 8, 9, 10] rfl) hE rfl rfl rfl hl.1 rfl (Nat.le_of_ble_eq_true rfl) dX4_delete_10) ?_
  refine br_neB (tgt := 26) hx hb dX4_delete_13 (by decide) (fun h130 => ?_) (fun h130 => ?_)
  · refine lv_aload_n hx hb dX4_delete_26 rfl (lv_at hl 0 rfl) ?_
    refine gf (q0 := 0) (ci := 4) (k := 3) (v := .ref (ad 7)) hx hb hts iX4_delete_4 hown hE hP rfl rfl (by decide) mX4_delete_25 rfl dX4_delete_27 ?_
    refine lv_iload_n hx hb dX4_delete_30 rfl (lv_at hl 1 rfl) ?_
    refine wr_goN (rn_V ⟨hx, hb, hml, hown, hts⟩ (c_X0_remove l g (x := xj) (nd_of hN [7, 8, 9, 10] (by decide) (by decide)) (by omega) (by omega)) gX4_delete_X0_remove rfl pX0_remove ⟨Nat.le_of_ble_eq_true rfl, Nat.le_of_ble_eq_true rfl⟩ ⟨Nat.le_of_ble_eq_true rfl, Nat.le_of_ble_eq_true rfl⟩ (hP.sub (ws' := wLed g (ad 7) (ad 8) (ad 9) (ad 10) (sa σ) (so σ) (sd σ) (sn σ)) [7, 8, 9, 10] rfl) hE rfl rfl rfl hl.1 rfl (Nat.le_of_ble_eq_true rfl) dX4_delete_31) hS (asL (ad := ad) (is := [7, 8, 9, 10]) (by decide)) (fun H1 locs1 hB hz hk hS => ?_)
    have hP : gP g (wF g ad (uD (σ) (va_up (sd σ) (xj) true)) (τ)) H1 := wF_EU hN hP hk hB
    have hD : va_D (fun z => z ∈ fA ad) (wF g ad (uD (σ) (va_up (sd σ) (xj) true)) (τ)) := wF_D hN
    clear hk hB hz
    generalize H1 = H at hP hS ⊢
    generalize locs1 = locs at hS ⊢
    refine lv_aload_n hx hb dX4_delete_34 rfl (lv_at hl 0 rfl) ?_
    refine wr_goN (rn_V ⟨hx, hb, hml, hown, hts⟩ (c_X4_settleRows l g (σ := uD (σ) (va_up (sd σ) (xj) true)) (τ := τ) hN (Inv_uD hI _)) gX4_delete_X4_settleRows rfl pX4_settleRows ⟨Nat.le_of_ble_eq_true rfl, Nat.le_of_ble_eq_true rfl⟩ ⟨Nat.le_of_ble_eq_true rfl, Nat.le_of_ble_eq_true rfl⟩ (hP) hE rfl rfl rfl hl.1 rfl (Nat.le_of_ble_eq_true rfl) dX4_delete_35) hS (fun x h => h) (fun H1 locs1 hB hz hk hS => ?_)
    obtain ⟨τ1, hP, hro, htc⟩ := hB
    have hD : va_D (fun z => z ∈ fA ad) (wF g ad (stl (uD (σ) (va_up (sd σ) (xj) true))) (τ1)) := wF_D hN
    clear hk hz
    generalize H1 = H at hP hS ⊢
    generalize locs1 = locs at hS ⊢
    refine lv_aload_n hx hb dX4_delete_38 rfl (lv_at hl 0 rfl) ?_
    refine gf (q0 := 0) (ci := 4) (k := 3) (v := .ref (ad 7)) hx hb hts iX4_delete_4 hown hE hP rfl rfl (by decide) mX4_delete_25 rfl dX4_delete_39 ?_
    refine lv_iload_n hx hb dX4_delete_42 rfl (lv_at hl 1 rfl) ?_
    refine rd_goS (rn_V ⟨hx, hb, hml, hown, hts⟩ (c_X0_countStandingOf l g (y := xj) (by show sn σ ≤ 150; omega) hi6 (by omega)) gX4_delete_X0_countStandingOf rfl pX0_countStandingOf ⟨Nat.le_of_ble_eq_true rfl, Nat.le_of_ble_eq_true rfl⟩ ⟨Nat.le_of_ble_eq_true rfl, Nat.le_of_ble_eq_true rfl⟩ (hP.sub (ws' := wLed g (ad 7) (ad 8) (ad 9) (ad 10) (sa (stl (uD (σ) (va_up (sd σ) (xj) true)))) (so (stl (uD (σ) (va_up (sd σ) (xj) true)))) (sd (stl (uD (σ) (va_up (sd σ) (xj) true)))) (sn (stl (uD (σ) (va_up (sd σ) (xj) true))))) [7, 8, 9, 10] rfl) hE rfl rfl rfl hl.1 rfl (Nat.le_of_ble_eq_true rfl) dX4_delete_43) ?_
    have hfin : FWq g ad (nDel σ (nI xj)) H := (by have hnx : nDel σ (nI xj) = stl (uD (σ) (va_up (sd σ) (xj) true)) := (by unfold nDel; rw [hix]); rw [hnx]; exact ⟨τ1, hP, hro, by rw [htc]; exact hT⟩)
    exact xw_reti hx hb hr hlocks hS hfin (by simp [eDel, hpx, hix, bnt h130]) (by unfold rDel; rw [hix]; rfl) (Nat.le_of_ble_eq_true rfl) (Nat.le_of_ble_eq_true rfl) dX4_delete_46
  · exact x_throw (text := "the entry is deleted") (cls := exS) (ic := icS) hx hb hlf hown hts hE hxv (by decide +kernel) tkX4_delete_exS tiX4_delete_exS taX4_delete_exS txexS tgX4_delete_exS (by decide +kernel) (hl.1.trans hml.symm) dX4_delete_16 dX4_delete_19 dX4_delete_20 dX4_delete_22 dX4_delete_25 hout (by decide) (Nat.le_of_ble_eq_true rfl) (Nat.le_of_ble_eq_true rfl) (Nat.le_of_ble_eq_true rfl) hlocks (by have he9 : eDel σ (nI xj) = 3 := (by simp [eDel, hpx, hix, bnf h130]); exact ⟨by rw [he9]; decide, by rw [he9]; rfl⟩) (Nat.le_of_ble_eq_true rfl) (Nat.le_of_ble_eq_true rfl)
theorem mX4_setMark_42 : Cond.fieldLink RX4 42 "Followrow" "mark" "I" ∈ wsX4_setMark := by decide +kernel
theorem iX4_setMark_4 : ∀ w ∈ wsX40, w ∈ wsX4_setMark := by decide +kernel
set_option maxHeartbeats 4000000 in
set_option maxRecDepth 100000 in
/-- setMark(x) -/
theorem c_X4_setMark (l : Launch) (hlf : l.stackTraces = false) (g : GT) {ad : Nat → Nat} {σ : St} {τ : Sc} (hI : Inv σ) (hN : FN ad 31) (hR : rowsOk σ τ 8) (hSd : Setd σ) (hT : tc τ ≤ 150) {x : Int32} : xwM l g yX4_setMark wsX4_setMark 7 156 1 6 [.ref (ad 0), .int (x)] (wF g ad (σ) (τ)) (eR 0 8 x) (some (.int (nI (rMrk σ x)))) (fun H1 => FWq g ad (nMrk σ x) H1) (fA ad) := by
  refine xw_of (cc := cX4_setMark) (maxL := 2) (ret := (some .int)) (by decide) rfl (Nat.le_of_ble_eq_true rfl) (fun p e s m below meth c ls hx hb hr hml hts hown hlocks hl hP hE hxv hout hS => ?_)
  have hl : lv_has ls 2 [(0, .ref (ad 0)), (1, .int (x))] := hl
  have hown : s.vm.findClass RX4 = some m.cls := hown
  obtain ⟨hi1, hi2, hi3, hi4, hi5, hi6, hi7, hi8⟩ := id hI
  have hD : va_D (fun z => z ∈ fA ad) (wF g ad σ τ) := wF_D hN
  refine lv_iload_n hx hb dX4_setMark_0 rfl (lv_at hl 1 rfl) ?_
  refine lv_iconst (v := nI (0)) hx hb dX4_setMark_1 (by decide) ?_
  refine lv_bipush (v := nI (8)) hx hb dX4_setMark_2 (by decide) ?_
  refine xr_goN (xn_S ⟨hx, hb, hml, hown, hts⟩ (c_X4_checkRange l hlf g (x := x) (lo := 0) (hi := 8)) gX4_setMark_X4_checkRange rfl qX4_checkRange ⟨Nat.le_of_ble_eq_true rfl, Nat.le_of_ble_eq_true rfl⟩ ⟨Nat.le_of_ble_eq_true rfl, Nat.le_of_ble_eq_true rfl⟩ (gP_nil) hE hxv rfl hl.1 rfl (Nat.le_of_ble_eq_true rfl) dX4_setMark_4) hout hlocks (fun h => by cases hz : (decide (nI 0 ≤ x) && decide (x ≤ nI 8)) <;> simp [eR, eR, hz] at h ⊢) (Nat.le_of_ble_eq_true rfl) (Nat.le_of_ble_eq_true rfl) (fun hx131 => ?_)
  obtain ⟨xj, hlx, hhx, rfl, hix⟩ := eR_0 (by decide) (by decide) hx131
  have hpx : eR 0 8 (nI xj) = 0 := eR_nI (by decide) (by decide) hlx hhx
  refine lv_aload_n hx hb dX4_setMark_7 rfl (lv_at hl 0 rfl) ?_
  refine lv_iload_n hx hb dX4_setMark_8 rfl (lv_at hl 1 rfl) ?_
  refine pf (q0 := 0) (ci := 4) (k := 6) (ws' := wF g ad (uK (σ) (xj)) (τ)) hx hb hts iX4_setMark_4 hown hE hP hD hS rfl rfl (by decide) tyX4_ok nmX4 mX4_setMark_42 rfl (by decide +kernel) (Nat.le_of_ble_eq_true rfl) rfl dX4_setMark_9 (fun H locs hP hD hS => ?_)
  refine lv_aload_n hx hb dX4_setMark_12 rfl (lv_at hl 0 rfl) ?_
  refine wr_goN (rn_V ⟨hx, hb, hml, hown, hts⟩ (c_X4_settleRows l g (σ := uK (σ) (xj)) (τ := τ) hN (Inv_uK hI (by omega))) gX4_setMark_X4_settleRows rfl pX4_settleRows ⟨Nat.le_of_ble_eq_true rfl, Nat.le_of_ble_eq_true rfl⟩ ⟨Nat.le_of_ble_eq_true rfl, Nat.le_of_ble_eq_true rfl⟩ (hP) hE rfl rfl rfl hl.1 rfl (Nat.le_of_ble_eq_true rfl) dX4_setMark_13) hS (fun x h => h) (fun H1 locs1 hB hz hk hS => ?_)
  obtain ⟨τ1, hP, hro, htc⟩ := hB
  have hD : va_D (fun z => z ∈ fA ad) (wF g ad (stl (uK (σ) (xj))) (τ1)) := wF_D hN
  clear hk hz
  generalize H1 = H at hP hS ⊢
  generalize locs1 = locs at hS ⊢
  refine lv_aload_n hx hb dX4_setMark_16 rfl (lv_at hl 0 rfl) ?_
  refine rd_goS (rn_V ⟨hx, hb, hml, hown, hts⟩ (c_X4_countLarge l g (σ := stl (uK (σ) (xj))) (τ := τ1) (Inv_stl (Inv_uK hI (by omega)))) gX4_setMark_X4_countLarge rfl pX4_countLarge ⟨Nat.le_of_ble_eq_true rfl, Nat.le_of_ble_eq_true rfl⟩ ⟨Nat.le_of_ble_eq_true rfl, Nat.le_of_ble_eq_true rfl⟩ (hP) hE rfl rfl rfl hl.1 rfl (Nat.le_of_ble_eq_true rfl) dX4_setMark_17) ?_
  have hfin : FWq g ad (nMrk σ (nI xj)) H := (by have hnx : nMrk σ (nI xj) = stl (uK (σ) (xj)) := (by unfold nMrk; rw [hix]); rw [hnx]; exact ⟨τ1, hP, hro, by rw [htc]; exact hT⟩)
  exact xw_reti hx hb hr hlocks hS hfin hpx (by unfold rMrk; rw [hix]; rfl) (Nat.le_of_ble_eq_true rfl) (Nat.le_of_ble_eq_true rfl) dX4_setMark_20
theorem mX4_setRoom_46 : Cond.fieldLink RX4 46 "Followrow" "room" "I" ∈ wsX4_setRoom := by decide +kernel
theorem iX4_setRoom_4 : ∀ w ∈ wsX40, w ∈ wsX4_setRoom := by decide +kernel
set_option maxHeartbeats 4000000 in
set_option maxRecDepth 100000 in
/-- setRoom(x) -/
theorem c_X4_setRoom (l : Launch) (hlf : l.stackTraces = false) (g : GT) {ad : Nat → Nat} {σ : St} {τ : Sc} (hI : Inv σ) (hN : FN ad 31) (hR : rowsOk σ τ 8) (hSd : Setd σ) (hT : tc τ ≤ 150) {x : Int32} : xwM l g yX4_setRoom wsX4_setRoom 7 156 1 6 [.ref (ad 0), .int (x)] (wF g ad (σ) (τ)) (eR 1 40 x) (some (.int (nI (sr σ)))) (fun H1 => FWq g ad (nRom σ x) H1) (fA ad) := by
  refine xw_of (cc := cX4_setRoom) (maxL := 3) (ret := (some .int)) (by decide) rfl (Nat.le_of_ble_eq_true rfl) (fun p e s m below meth c ls hx hb hr hml hts hown hlocks hl hP hE hxv hout hS => ?_)
  have hl : lv_has ls 3 [(0, .ref (ad 0)), (1, .int (x))] := hl
  have hown : s.vm.findClass RX4 = some m.cls := hown
  obtain ⟨hi1, hi2, hi3, hi4, hi5, hi6, hi7, hi8⟩ := id hI
  have hD : va_D (fun z => z ∈ fA ad) (wF g ad σ τ) := wF_D hN
  refine lv_iload_n hx hb dX4_setRoom_0 rfl (lv_at hl 1 rfl) ?_
  refine lv_iconst (v := nI (1)) hx hb dX4_setRoom_1 (by decide) ?_
  refine lv_bipush (v := nI (40)) hx hb dX4_setRoom_2 (by decide) ?_
  refine xr_goN (xn_S ⟨hx, hb, hml, hown, hts⟩ (c_X4_checkRange l hlf g (x := x) (lo := 1) (hi := 40)) gX4_setRoom_X4_checkRange rfl qX4_checkRange ⟨Nat.le_of_ble_eq_true rfl, Nat.le_of_ble_eq_true rfl⟩ ⟨Nat.le_of_ble_eq_true rfl, Nat.le_of_ble_eq_true rfl⟩ (gP_nil) hE hxv rfl hl.1 rfl (Nat.le_of_ble_eq_true rfl) dX4_setRoom_4) hout hlocks (fun h => by cases hz : (decide (nI 1 ≤ x) && decide (x ≤ nI 40)) <;> simp [eR, eR, hz] at h ⊢) (Nat.le_of_ble_eq_true rfl) (Nat.le_of_ble_eq_true rfl) (fun hx132 => ?_)
  obtain ⟨xj, hlx, hhx, rfl, hix⟩ := eR_0 (by decide) (by decide) hx132
  have hpx : eR 1 40 (nI xj) = 0 := eR_nI (by decide) (by decide) hlx hhx
  refine lv_aload_n hx hb dX4_setRoom_7 rfl (lv_at hl 0 rfl) ?_
  refine gf (q0 := 0) (ci := 4) (k := 7) (v := .int (nI (sr σ))) hx hb hts iX4_setRoom_4 hown hE hP rfl rfl (by decide) mX4_setRoom_46 rfl dX4_setRoom_8 ?_
  refine lv_istore_n (lv' := [(2, .int (nI (sr σ))), (0, .ref (ad 0)), (1, .int (nI (xj)))]) hx hb dX4_setRoom_11 rfl hl (by decide) rfl (fun ls hl => ?_)
  refine lv_aload_n hx hb dX4_setRoom_12 rfl (lv_at hl 1 rfl) ?_
  refine lv_iload_n hx hb dX4_setRoom_13 rfl (lv_at hl 2 rfl) ?_
  refine pf (q0 := 0) (ci := 4) (k := 7) (ws' := wF g ad (uR (σ) (xj)) (τ)) hx hb hts iX4_setRoom_4 hown hE hP hD hS rfl rfl (by decide) tyX4_ok nmX4 mX4_setRoom_46 rfl (by decide +kernel) (Nat.le_of_ble_eq_true rfl) rfl dX4_setRoom_14 (fun H locs hP hD hS => ?_)
  refine lv_aload_n hx hb dX4_setRoom_17 rfl (lv_at hl 1 rfl) ?_
  refine wr_goN (rn_V ⟨hx, hb, hml, hown, hts⟩ (c_X4_settleRows l g (σ := uR (σ) (xj)) (τ := τ) hN (Inv_uR hI (by omega) (by omega))) gX4_setRoom_X4_settleRows rfl pX4_settleRows ⟨Nat.le_of_ble_eq_true rfl, Nat.le_of_ble_eq_true rfl⟩ ⟨Nat.le_of_ble_eq_true rfl, Nat.le_of_ble_eq_true rfl⟩ (hP) hE rfl rfl rfl hl.1 rfl (Nat.le_of_ble_eq_true rfl) dX4_setRoom_18) hS (fun x h => h) (fun H1 locs1 hB hz hk hS => ?_)
  obtain ⟨τ1, hP, hro, htc⟩ := hB
  have hD : va_D (fun z => z ∈ fA ad) (wF g ad (stl (uR (σ) (xj))) (τ1)) := wF_D hN
  clear hk hz
  generalize H1 = H at hP hS ⊢
  generalize locs1 = locs at hS ⊢
  refine lv_iload_n hx hb dX4_setRoom_21 rfl (lv_at hl 0 rfl) ?_
  have hfin : FWq g ad (nRom σ (nI xj)) H := (by have hnx : nRom σ (nI xj) = stl (uR (σ) (xj)) := (by unfold nRom; rw [hix]); rw [hnx]; exact ⟨τ1, hP, hro, by rw [htc]; exact hT⟩)
  exact xw_reti hx hb hr hlocks hS hfin hpx rfl (Nat.le_of_ble_eq_true rfl) (Nat.le_of_ble_eq_true rfl) dX4_setRoom_22
