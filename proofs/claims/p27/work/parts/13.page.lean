theorem nI_min {a c : Nat} (ha : a < 2 ^ 31) (hc : c < 2 ^ 31) : (if nI c < nI a then nI c else nI a) = nI (cmin c a) := by
  unfold cmin
  by_cases h : c < a
  · rw [if_pos h, if_pos ((nI_ltI hc ha).mpr h)]
  · rw [if_neg h, if_neg (fun z => h ((nI_ltI hc ha).mp z))]
theorem cmin_cases (c n : Nat) : (c < n ∧ cmin c n = c) ∨ (n ≤ c ∧ cmin c n = n) := by
  unfold cmin
  split
  · exact Or.inl ⟨by assumption, rfl⟩
  · exact Or.inr ⟨by omega, rfl⟩
theorem cmin_pos {c n : Nat} (h1 : 0 < c) (h2 : 0 < n) : 0 < cmin c n := by
  unfold cmin
  split <;> assumption
theorem cmin_le (c n : Nat) : cmin c n ≤ n ∧ cmin c n ≤ c := by unfold cmin; split <;> omega
theorem pag_none {σ : St} {q y z r : Nat} {τ : Sc} (h : TL σ q τ) (hr : isPag (shw σ q) (cmin y (sn σ)) z r) (hf : tc τ ≤ cN (shw σ q) (sn σ) - cN (shw σ q) (cmin y (sn σ))) : (-1 : Int32) = fI r := by
  have k := cN_mono (shw σ q) (cmin_le y (sn σ)).1
  have h1 := h.1
  rcases hr with ⟨g1, g2⟩ | ⟨g1, g2, g3, g4⟩
  · rw [g1]; rfl
  · have k2 := cN_up (shw σ q) (show r - 1 < r by omega) g3
    have k3 := cN_mono (shw σ q) g2
    by_cases hz : cN (shw σ q) (cmin y (sn σ)) = 0
    · omega
    · exact absurd hf (by omega)
theorem pag_some {σ : St} {q y z r m : Nat} {τ : Sc} (h : TL σ q τ) (hn : sn σ ≤ 150) (hr : isPag (shw σ q) (cmin y (sn σ)) z r) (hz : 0 < z) (hf : cN (shw σ q) (sn σ) - cN (shw σ q) (cmin y (sn σ)) < tc τ) (hm : m + 1 = cmin (tc τ) (cN (shw σ q) (sn σ) - cN (shw σ q) (cmin y (sn σ)) + z)) : (if m < tc τ then tn τ m else (-1)) = fI r := by
  have k := cN_mono (shw σ q) (cmin_le y (sn σ)).1
  have h1 := h.1
  have hm2 := cmin_le (tc τ) (cN (shw σ q) (sn σ) - cN (shw σ q) (cmin y (sn σ)) + z)
  rw [if_pos (by omega)]
  rcases hr with ⟨g1, g2⟩ | ⟨g1, g2, g3, g4⟩
  · omega
  · have k2 := cN_up (shw σ q) (show r - 1 < r by omega) g3
    have k3 := cN_mono (shw σ q) g2
    have k4 := cmin_le y (sn σ)
    have k5 := h.2 (r - 1) (by omega) g3
    rw [show r - 1 + 1 = r by omega] at k5
    have k6 : cN (shw σ q) (sn σ) - cN (shw σ q) r = m := by
      rcases cmin_cases (tc τ) (cN (shw σ q) (sn σ) - cN (shw σ q) (cmin y (sn σ)) + z) with ⟨a1, a2⟩ | ⟨a1, a2⟩ <;> rcases cmin_cases z (cN (shw σ q) (cmin y (sn σ))) with ⟨b1, b2⟩ | ⟨b1, b2⟩ <;> rw [a2] at hm <;> rw [b2] at g4 <;> omega
    rw [k6] at k5
    rw [k5, nI_fI, show r - 1 + 1 = r by omega]
theorem tmin : Cond.methodLink RX4 159 Lib.Math.min.name ∈ wsX4_pageEnd ∧ Cond.static Lib.Math.min.name ∈ wsX4_pageEnd ∧ Cond.initialized "java/lang/Math" ∈ wsX4_pageEnd ∧ Cond.code Lib.Math.min.name Lib.Math.min.code 2 (some .int) ∈ wsX4_pageEnd := by decide +kernel
theorem mX4_pageEnd_38 : Cond.fieldLink RX4 38 "Followrow" "timeline" "LFollowrow$Timeline;" ∈ wsX4_pageEnd := by decide +kernel
theorem iX4_pageEnd_4 : ∀ w ∈ wsX40, w ∈ wsX4_pageEnd := by decide +kernel
set_option maxHeartbeats 4000000 in
set_option maxRecDepth 100000 in
/-- pageEnd(x, y, z): r9 -/
theorem c_X4_pageEnd (l : Launch) (hlf : l.stackTraces = false) (g : GT) {ad : Nat → Nat} {σ : St} {τ : Sc} (hI : Inv σ) (hN : FN ad 31) (hR : rowsOk σ τ 8) (hSd : Setd σ) (hT : tc τ ≤ 150) {x y z : Int32} {r9 : Nat} (hv : ePag x y z = 0 → isPag (shw σ (ix x)) (cmin (ix y) (sn σ)) (ix z) r9) : xwM l g yX4_pageEnd wsX4_pageEnd 8 133 3 18 [.ref (ad 0), .int (x), .int (y), .int (z)] (wF g ad (σ) (τ)) (ePag x y z) (some (.int (fI (r9)))) (fun H1 => FWq g ad (σ) H1) (fA ad) := by
  refine xw_of (cc := cX4_pageEnd) (maxL := 6) (ret := (some .int)) (by decide) rfl (Nat.le_of_ble_eq_true rfl) (fun p e s m below meth c ls hx hb hr hml hts hown hlocks hl hP hE hxv hout hS => ?_)
  have hl : lv_has ls 6 [(0, .ref (ad 0)), (1, .int (x)), (2, .int (y)), (3, .int (z))] := hl
  have hown : s.vm.findClass RX4 = some m.cls := hown
  obtain ⟨hi1, hi2, hi3, hi4, hi5, hi6, hi7, hi8⟩ := id hI
  refine lv_aload_n hx hb dX4_pageEnd_0 rfl (lv_at hl 0 rfl) ?_
  refine lv_iload_n hx hb dX4_pageEnd_1 rfl (lv_at hl 1 rfl) ?_
  refine xr_goS (xn_V ⟨hx, hb, hml, hown, hts⟩ (c_X4_rowOf l hlf g (x := x)) gX4_pageEnd_X4_rowOf rfl pX4_rowOf ⟨Nat.le_of_ble_eq_true rfl, Nat.le_of_ble_eq_true rfl⟩ ⟨Nat.le_of_ble_eq_true rfl, Nat.le_of_ble_eq_true rfl⟩ (hP) hE hxv rfl rfl rfl hl.1 rfl (Nat.le_of_ble_eq_true rfl) dX4_pageEnd_2) hout hlocks (fun h => by cases hz : isP x <;> simp [eP, ePag, hz] at h ⊢) (Nat.le_of_ble_eq_true rfl) (Nat.le_of_ble_eq_true rfl) (fun hx133 => ?_)
  obtain ⟨xj, hjx, rfl, hix⟩ := isP_of (eP_0 hx133)
  have hpx : isP (nI xj) = true := isP_nI hjx
  refine tp_r (congrArg (fun z => ad (15 + 2 * z)) hix) ?_
  refine lv_astore (lv' := [(4, .ref (ad (15 + 2 * xj))), (0, .ref (ad 0)), (1, .int (nI (xj))), (2, .int (y)), (3, .int (z))]) hx hb dX4_pageEnd_5 hl (by decide) rfl (fun ls hl => ?_)
  refine lv_iload_n hx hb dX4_pageEnd_7 rfl (lv_at hl 3 rfl) ?_
  refine lv_iconst (v := nI (0)) hx hb dX4_pageEnd_8 (by decide) ?_
  refine lv_sipush (v := nI (150)) hx hb dX4_pageEnd_9 (by decide) ?_
  refine xr_goN (xn_S ⟨hx, hb, hml, hown, hts⟩ (c_X4_checkRange l hlf g (x := y) (lo := 0) (hi := 150)) gX4_pageEnd_X4_checkRange rfl qX4_checkRange ⟨Nat.le_of_ble_eq_true rfl, Nat.le_of_ble_eq_true rfl⟩ ⟨Nat.le_of_ble_eq_true rfl, Nat.le_of_ble_eq_true rfl⟩ (gP_nil) hE hxv rfl hl.1 rfl (Nat.le_of_ble_eq_true rfl) dX4_pageEnd_12) hout hlocks (fun h => by cases hz : (decide (nI 0 ≤ y) && decide (y ≤ nI 150)) <;> simp [eR, ePag, hz, hpx, hix] at h ⊢) (Nat.le_of_ble_eq_true rfl) (Nat.le_of_ble_eq_true rfl) (fun hx134 => ?_)
  obtain ⟨yj, hly, hhy, rfl, hiy⟩ := eR_0 (by decide) (by decide) hx134
  have hpy : eR 0 150 (nI yj) = 0 := eR_nI (by decide) (by decide) hly hhy
  refine lv_iload_n hx hb dX4_pageEnd_15 rfl (lv_at hl 4 rfl) ?_
  refine lv_iconst (v := nI (1)) hx hb dX4_pageEnd_16 (by decide) ?_
  refine lv_bipush (v := nI (20)) hx hb dX4_pageEnd_17 (by decide) ?_
  refine xr_goN (xn_S ⟨hx, hb, hml, hown, hts⟩ (c_X4_checkRange l hlf g (x := z) (lo := 1) (hi := 20)) gX4_pageEnd_X4_checkRange rfl qX4_checkRange ⟨Nat.le_of_ble_eq_true rfl, Nat.le_of_ble_eq_true rfl⟩ ⟨Nat.le_of_ble_eq_true rfl, Nat.le_of_ble_eq_true rfl⟩ (gP_nil) hE hxv rfl hl.1 rfl (Nat.le_of_ble_eq_true rfl) dX4_pageEnd_19) hout hlocks (fun h => by cases hz : (decide (nI 1 ≤ z) && decide (z ≤ nI 20)) <;> simp [eR, ePag, hz, hpx, hix, hpy, hiy] at h ⊢) (Nat.le_of_ble_eq_true rfl) (Nat.le_of_ble_eq_true rfl) (fun hx135 => ?_)
  obtain ⟨zj, hlz, hhz, rfl, hiz⟩ := eR_0 (by decide) (by decide) hx135
  have hpz : eR 1 20 (nI zj) = 0 := eR_nI (by decide) (by decide) hlz hhz
  refine lv_aload_n hx hb dX4_pageEnd_22 rfl (lv_at hl 1 rfl) ?_
  refine lv_aload hx hb dX4_pageEnd_23 (lv_at hl 0 rfl) ?_
  refine wr_goN (rn_V ⟨hx, hb, hml, hown, hts⟩ (c_X4_readTimeline l g (σ := σ) (τ := τ) (q := xj) hN hI hjx (hR xj hjx) (by have h1 := (hR xj hjx).1; have h2 := hSd xj hjx; omega)) gX4_pageEnd_X4_readTimeline rfl pX4_readTimeline ⟨Nat.le_of_ble_eq_true rfl, Nat.le_of_ble_eq_true rfl⟩ ⟨Nat.le_of_ble_eq_true rfl, Nat.le_of_ble_eq_true rfl⟩ (hP) hE rfl rfl rfl hl.1 rfl (Nat.le_of_ble_eq_true rfl) dX4_pageEnd_25) hS (fun x h => h) (fun H1 locs1 hB hz hk hS => ?_)
  obtain ⟨τ1, hP, hr1, hr2, htl, htc⟩ := hB
  have hro : rowsOk σ τ1 8 := fun q hq => by rw [hr1, hr2]; exact hR q hq
  have hD : va_D (fun z => z ∈ fA ad) (wF g ad (σ) (τ1)) := wF_D hN
  clear hk hz
  generalize H1 = H at hP hS ⊢
  generalize locs1 = locs at hS ⊢
  refine lv_aload_n hx hb dX4_pageEnd_28 rfl (lv_at hl 1 rfl) ?_
  refine gf (q0 := 0) (ci := 4) (k := 5) (v := .ref (ad 12)) hx hb hts iX4_pageEnd_4 hown hE hP rfl rfl (by decide) mX4_pageEnd_38 rfl dX4_pageEnd_29 ?_
  refine lv_iload_n hx hb dX4_pageEnd_32 rfl (lv_at hl 3 rfl) ?_
  refine rd_goS (rn_V ⟨hx, hb, hml, hown, hts⟩ (c_X3_placeBelow l g (x := cN (shw σ xj) (sn σ) - cN (shw σ xj) (cmin (yj) (sn σ))) (y := yj) htc (TL_place htl hi1 (by omega)).1 (TL_place htl hi1 (by omega)).2.1 (TL_place htl hi1 (by omega)).2.2) gX4_pageEnd_X3_placeBelow rfl pX3_placeBelow ⟨Nat.le_of_ble_eq_true rfl, Nat.le_of_ble_eq_true rfl⟩ ⟨Nat.le_of_ble_eq_true rfl, Nat.le_of_ble_eq_true rfl⟩ (hP.sub (ws' := wTim g (ad 12) (ad 13) (ad 14) (tn τ1) (tt τ1) (tc τ1)) [12, 13, 14] rfl) hE rfl rfl rfl hl.1 rfl (Nat.le_of_ble_eq_true rfl) dX4_pageEnd_33) ?_
  refine lv_istore (lv' := [(5, .int (nI (cN (shw σ xj) (sn σ) - cN (shw σ xj) (cmin (yj) (sn σ))))), (4, .ref (ad (15 + 2 * xj))), (0, .ref (ad 0)), (1, .int (nI (xj))), (2, .int (nI (yj))), (3, .int (nI (zj)))]) hx hb dX4_pageEnd_36 hl (by decide) rfl (fun ls hl => ?_)
  have htl1 := htl.1
  have hcn9 := cN_le (shw σ xj) (sn σ)
  refine lv_iload hx hb dX4_pageEnd_38 (lv_at hl 0 rfl) ?_
  refine lv_aload_n hx hb dX4_pageEnd_40 rfl (lv_at hl 2 rfl) ?_
  refine gf (q0 := 0) (ci := 4) (k := 5) (v := .ref (ad 12)) hx hb hts iX4_pageEnd_4 hown hE hP rfl rfl (by decide) mX4_pageEnd_38 rfl dX4_pageEnd_41 ?_
  refine rd_goS (rn_V ⟨hx, hb, hml, hown, hts⟩ (c_X3_count l g) gX4_pageEnd_X3_count rfl pX3_count ⟨Nat.le_of_ble_eq_true rfl, Nat.le_of_ble_eq_true rfl⟩ ⟨Nat.le_of_ble_eq_true rfl, Nat.le_of_ble_eq_true rfl⟩ (hP.sub (ws' := wTim g (ad 12) (ad 13) (ad 14) (tn τ1) (tt τ1) (tc τ1)) [12, 13, 14] rfl) hE rfl rfl rfl hl.1 rfl (Nat.le_of_ble_eq_true rfl) dX4_pageEnd_44) ?_
  refine br_ltN (a := cN (shw σ xj) (sn σ) - cN (shw σ xj) (cmin (yj) (sn σ))) (b := tc τ1) (tgt := 52) hx hb (by omega) (by omega) dX4_pageEnd_47 (by decide) (fun h136 => ?_) (fun h136 => ?_)
  · refine lv_aload_n hx hb dX4_pageEnd_52 rfl (lv_at hl 2 rfl) ?_
    refine gf (q0 := 0) (ci := 4) (k := 5) (v := .ref (ad 12)) hx hb hts iX4_pageEnd_4 hown hE hP rfl rfl (by decide) mX4_pageEnd_38 rfl dX4_pageEnd_53 ?_
    refine lv_iload hx hb dX4_pageEnd_56 (lv_at hl 0 rfl) ?_
    refine lv_iload_n hx hb dX4_pageEnd_58 rfl (lv_at hl 5 rfl) ?_
    refine lv_iadd hx hb dX4_pageEnd_59 ?_
    refine tp_i (nI_add _ _) ?_
    refine lv_aload_n hx hb dX4_pageEnd_60 rfl (lv_at hl 2 rfl) ?_
    refine gf (q0 := 0) (ci := 4) (k := 5) (v := .ref (ad 12)) hx hb hts iX4_pageEnd_4 hown hE hP rfl rfl (by decide) mX4_pageEnd_38 rfl dX4_pageEnd_61 ?_
    refine rd_goS (rn_V ⟨hx, hb, hml, hown, hts⟩ (c_X3_count l g) gX4_pageEnd_X3_count rfl pX3_count ⟨Nat.le_of_ble_eq_true rfl, Nat.le_of_ble_eq_true rfl⟩ ⟨Nat.le_of_ble_eq_true rfl, Nat.le_of_ble_eq_true rfl⟩ (hP.sub (ws' := wTim g (ad 12) (ad 13) (ad 14) (tn τ1) (tt τ1) (tc τ1)) [12, 13, 14] rfl) hE rfl rfl rfl hl.1 rfl (Nat.le_of_ble_eq_true rfl) dX4_pageEnd_64) ?_
    refine va_mmin hx hb (hml.trans hl.1.symm) hown (hts _ tmin.1) (hts _ tmin.2.1) (hts _ tmin.2.2.1) (hts _ tmin.2.2.2) (Nat.le_of_ble_eq_true rfl) (Nat.le_of_ble_eq_true rfl) (Nat.le_of_ble_eq_true rfl) (Nat.le_of_ble_eq_true rfl) dX4_pageEnd_67 ?_
    refine tp_i (nI_min (a := cN (shw σ xj) (sn σ) - cN (shw σ xj) (cmin (yj) (sn σ)) + zj) (c := tc τ1) (by omega) (by omega)) ?_
    refine lv_iconst (v := nI (1)) hx hb dX4_pageEnd_70 (by decide) ?_
    refine lv_isub hx hb dX4_pageEnd_71 ?_
    refine tp_i (sub1 (cmin (tc τ1) (cN (shw σ xj) (sn σ) - cN (shw σ xj) (cmin (yj) (sn σ)) + zj))) ?_
    have hm9 := cmin_le (tc τ1) (cN (shw σ xj) (sn σ) - cN (shw σ xj) (cmin (yj) (sn σ)) + zj)
    have hm8 : 0 < cmin (tc τ1) (cN (shw σ xj) (sn σ) - cN (shw σ xj) (cmin (yj) (sn σ)) + zj) := cmin_pos (by omega) (by omega)
    refine tp_i (show fI (cmin (tc τ1) (cN (shw σ xj) (sn σ) - cN (shw σ xj) (cmin (yj) (sn σ)) + zj)) = nI (cmin (tc τ1) (cN (shw σ xj) (sn σ) - cN (shw σ xj) (cmin (yj) (sn σ)) + zj) - 1) from by rw [show cmin (tc τ1) (cN (shw σ xj) (sn σ) - cN (shw σ xj) (cmin (yj) (sn σ)) + zj) = (cmin (tc τ1) (cN (shw σ xj) (sn σ) - cN (shw σ xj) (cmin (yj) (sn σ)) + zj) - 1) + 1 by omega, fI_succ]; rfl) ?_
    refine rd_goS (rn_V ⟨hx, hb, hml, hown, hts⟩ (c_X3_at l g (x := cmin (tc τ1) (cN (shw σ xj) (sn σ) - cN (shw σ xj) (cmin (yj) (sn σ)) + zj) - 1) htc (by first | omega | exact Nat.le_trans (TL_place htl hi1 (by omega)).1 htc)) gX4_pageEnd_X3_at rfl pX3_at ⟨Nat.le_of_ble_eq_true rfl, Nat.le_of_ble_eq_true rfl⟩ ⟨Nat.le_of_ble_eq_true rfl, Nat.le_of_ble_eq_true rfl⟩ (hP.sub (ws' := wTim g (ad 12) (ad 13) (ad 14) (tn τ1) (tt τ1) (tc τ1)) [12, 13, 14] rfl) hE rfl rfl rfl hl.1 rfl (Nat.le_of_ble_eq_true rfl) dX4_pageEnd_72) ?_
    have hfin : FWq g ad (σ) H := ⟨τ1, hP, hro, htc⟩
    exact xw_reti hx hb hr hlocks hS hfin (by simp [ePag, hpx, hix, hpy, hiy, hpz, hiz]) (pag_some htl hi1 (by have := hv (by simp [ePag, hpx, hpy, hpz]); rw [hix, hiy, hiz] at this; exact this) (show 0 < zj by omega) h136 (by omega)) (Nat.le_of_ble_eq_true rfl) (Nat.le_of_ble_eq_true rfl) dX4_pageEnd_75
  · refine lv_iconst (v := (-1)) hx hb dX4_pageEnd_50 (by decide) ?_
    have hfin : FWq g ad (σ) H := ⟨τ1, hP, hro, htc⟩
    exact xw_reti hx hb hr hlocks hS hfin (by simp [ePag, hpx, hix, hpy, hiy, hpz, hiz]) (pag_none htl (by have := hv (by simp [ePag, hpx, hpy, hpz]); rw [hix, hiy, hiz] at this; exact this) h136) (Nat.le_of_ble_eq_true rfl) (Nat.le_of_ble_eq_true rfl) dX4_pageEnd_51
