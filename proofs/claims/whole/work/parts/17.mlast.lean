/-- the row of the reference, walked from below -/
theorem row_inr {σ : St} {q i v : Nat} (h : isRow σ q i v) : cN (inr σ q) v = i ∧ inr σ q v = true := by
  obtain ⟨h1, h2, h3, h4⟩ := h
  refine ⟨by rw [cN_inr, if_neg (by omega)]; omega, by simp [inr, h1, h3]⟩
def raI (P : Nat → Bool) (v i a e : Nat) : Prop := a + cN P e = i ∧ e ≤ v
theorem raI_go {P : Nat → Bool} {v i a e : Nat} (h : raI P v i a e) (hv : cN P v = i) (ha : 0 < a) (hp : P e = true) : raI P v i (a - 1) (e + 1) := by
  have h3 := cN_t hp
  obtain ⟨h1, h2⟩ := h
  refine ⟨by omega, ?_⟩
  rcases Nat.lt_or_ge e v with z | z
  · exact z
  · have : e = v := by omega
    subst this
    omega
theorem raI_stay {P : Nat → Bool} {v i a e : Nat} (h : raI P v i a e) (hv : cN P v = i) (hpv : P v = true) (hp : P e = false) : raI P v i (a - 0) (e + 1) := by
  have h3 := cN_f hp
  obtain ⟨h1, h2⟩ := h
  refine ⟨by omega, ?_⟩
  rcases Nat.lt_or_ge e v with z | z
  · exact z
  · have : e = v := by omega
    subst this
    rw [hp] at hpv
    cases hpv
theorem raI_end {P : Nat → Bool} {v i a e : Nat} (h : raI P v i a e) (ha : a = 0) (hv : cN P v = i) (hp : P e = true) : e = v := by
  obtain ⟨h1, h2⟩ := h
  rcases Nat.lt_or_ge e v with z | z
  · have := cN_up P z hp
    omega
  · omega
/-- a page of the reference: k entries given, e the last of them, s the next -/
def pgI (P : Nat → Bool) (C z k e s : Nat) : Prop := k ≤ z ∧ cN P s + k = cN P C ∧ s ≤ C ∧ (0 < s → P (s - 1) = true) ∧ ((e = 0 ∧ k = 0) ∨ (0 < e ∧ e ≤ C ∧ P (e - 1) = true ∧ cN P e + k = cN P C + 1))
theorem pgI_0 {P : Nat → Bool} {C z : Nat} : pgI P C z 0 0 (laB P C) := ⟨Nat.zero_le _, by rw [laB_cN, Nat.add_zero], laB_le P C, laB_at P C, Or.inl ⟨rfl, rfl⟩⟩
theorem pgI_s {P : Nat → Bool} {C z k e s n : Nat} (h : pgI P C z k e s) (hC : C ≤ n) (hk : k < z) (hs : ¬ s = 0) : pgI P C z (k + 1) s (laB P (cmin (s - 1) n)) := by
  obtain ⟨h1, h2, h3, h4, h5⟩ := h
  have h6 : cmin (s - 1) n = s - 1 := by unfold cmin; rw [if_pos (by omega)]
  have h7 := laB_le P (s - 1)
  have h8 := cN_t (h4 (by omega))
  rw [show s - 1 + 1 = s by omega] at h8
  rw [h6]
  exact ⟨hk, by rw [laB_cN]; omega, by omega, laB_at P _, Or.inr ⟨by omega, h3, h4 (by omega), by omega⟩⟩
theorem pgI_end {P : Nat → Bool} {C z k e s : Nat} (h : pgI P C z k e s) (hz : 0 < z) (hk : z ≤ k ∨ s = 0) : isPag P C z e := by
  obtain ⟨h1, h2, h3, h4, h5⟩ := h
  rcases h5 with ⟨g1, g2⟩ | ⟨g1, g2, g3, g4⟩
  · refine Or.inl ⟨g1, ?_⟩
    rcases hk with z1 | z1
    · omega
    · subst z1
      have : cN P 0 = 0 := rfl
      omega
  · refine Or.inr ⟨g1, g2, g3, ?_⟩
    rcases cmin_cases z (cN P C) with ⟨c1, c2⟩ | ⟨c1, c2⟩ <;> rw [c2] <;> rcases hk with z1 | z1
    · omega
    · subst z1
      have : cN P 0 = 0 := rfl
      omega
    · omega
    · subst z1
      have : cN P 0 = 0 := rfl
      omega
set_option maxHeartbeats 4000000 in
set_option maxRecDepth 100000 in
/-- lengthByMerging(x) -/
theorem c_X5_lengthByMerging (l : Launch) (g : GT) {am : Nat → Nat} {σ : St} {th : Nat} (hI : Inv σ) (hM : FN am 8) {x : Int32} : wrM l g yX5_lengthByMerging wsX5_lengthByMerging 3 72 [.ref (am 0), .int (x)] (wM g am (σ) (th)) (some (.int (oI (eP x) (nI (cN (shw σ (ix x)) (sn σ)))))) (fun H1 => gP g (wM g am (oS (eP x) (σ) σ) (id (eP x))) H1) (mA am) := by
  refine wr_of (cc := cX5_lengthByMerging) (maxL := 2) (ret := (some .int)) (by decide) rfl (Nat.le_of_ble_eq_true rfl) (fun p e s m below meth c ls hx hb hr hml hts hown hlocks hl hP hE hS => ?_)
  have hl : lv_has ls 2 [(0, .ref (am 0)), (1, .int (x))] := hl
  have hown : s.vm.findClass RX5 = some m.cls := hown
  obtain ⟨hi1, hi2, hi3, hi4, hi5, hi6, hi7, hi8⟩ := id hI
  have hD : va_D (fun z => z ∈ mA am) (wM g am σ th) := wM_D hM
  refine lv_aload_n hx hb dX5_lengthByMerging_0 rfl (lv_at hl 0 rfl) ?_
  refine lv_iload_n hx hb dX5_lengthByMerging_1 rfl (lv_at hl 1 rfl) ?_
  refine wr_goS (rn_V ⟨hx, hb, hml, hown, hts⟩ (c_X5_length l g (σ := σ) (th := th) hI hM (x := x)) gX5_lengthByMerging_X5_length rfl pX5_length ⟨Nat.le_of_ble_eq_true rfl, Nat.le_of_ble_eq_true rfl⟩ ⟨Nat.le_of_ble_eq_true rfl, Nat.le_of_ble_eq_true rfl⟩ hP hE rfl rfl rfl hl.1 rfl (Nat.le_of_ble_eq_true rfl) dX5_lengthByMerging_2) hS (fun x h => h) (fun H1 locs1 hB hz hk hS => ?_)
  exact wr_reti hx hb hr hlocks hS hB rfl dX5_lengthByMerging_5
set_option maxHeartbeats 4000000 in
set_option maxRecDepth 100000 in
/-- pageEnd(x, y, z): r9 -/
theorem c_X5_pageEnd (l : Launch) (g : GT) {am : Nat → Nat} {σ : St} {th : Nat} (hI : Inv σ) (hM : FN am 8) {x y z : Int32} {r9 : Nat} (hv : ePag x y z = 0 → isPag (shw σ (ix x)) (cmin (ix y) (sn σ)) (ix z) r9) : wrM l g yX5_pageEnd wsX5_pageEnd 3 72 [.ref (am 0), .int (x), .int (y), .int (z)] (wM g am (σ) (th)) (some (.int (oI (ePag x y z) (fI r9)))) (fun H1 => gP g (wM g am (oS (ePag x y z) (σ) σ) ( (ePag x y z))) H1) (mA am) := by
  refine wr_of (cc := cX5_pageEnd) (maxL := 7) (ret := (some .int)) (by decide) rfl (Nat.le_of_ble_eq_true rfl) (fun p e s m below meth c ls hx hb hr hml hts hown hlocks hl hP hE hS => ?_)
  have hl : lv_has ls 7 [(0, .ref (am 0)), (1, .int (x)), (2, .int (y)), (3, .int (z))] := hl
  have hown : s.vm.findClass RX5 = some m.cls := hown
  obtain ⟨hi1, hi2, hi3, hi4, hi5, hi6, hi7, hi8⟩ := id hI
  have hD : va_D (fun z => z ∈ mA am) (wM g am σ th) := wM_D hM
  refine lv_aload_n hx hb dX5_pageEnd_0 rfl (lv_at hl 0 rfl) ?_
  refine lv_iload_n hx hb dX5_pageEnd_1 rfl (lv_at hl 1 rfl) ?_
  refine rd_goS (rn_S ⟨hx, hb, hml, hown, hts⟩ (c_X5_isOne l g (x := x)) gX5_pageEnd_X5_isOne rfl qX5_isOne ⟨Nat.le_of_ble_eq_true rfl, Nat.le_of_ble_eq_true rfl⟩ ⟨Nat.le_of_ble_eq_true rfl, Nat.le_of_ble_eq_true rfl⟩ (gP_nil) hE rfl hl.1 rfl (Nat.le_of_ble_eq_true rfl) dX5_pageEnd_2) ?_
  refine br_neB (tgt := 12) hx hb dX5_pageEnd_5 (by decide) (fun h318 => ?_) (fun h318 => ?_)
  · obtain ⟨xj, hjx, rfl, hix⟩ := isP_of h318
    have hpx : isP (nI xj) = true := h318
    refine lv_iload_n hx hb dX5_pageEnd_12 rfl (lv_at hl 2 rfl) ?_
    refine lv_iconst (v := nI (0)) hx hb dX5_pageEnd_13 (by decide) ?_
    refine lv_sipush (v := nI (150)) hx hb dX5_pageEnd_14 (by decide) ?_
    refine rd_goS (rn_S ⟨hx, hb, hml, hown, hts⟩ (c_X5_in l g (x := y) (lo := nI (0)) (hi := nI (150))) gX5_pageEnd_X5_in rfl qX5_in ⟨Nat.le_of_ble_eq_true rfl, Nat.le_of_ble_eq_true rfl⟩ ⟨Nat.le_of_ble_eq_true rfl, Nat.le_of_ble_eq_true rfl⟩ (gP_nil) hE rfl hl.1 rfl (Nat.le_of_ble_eq_true rfl) dX5_pageEnd_17) ?_
    refine br_eqB (tgt := 33) hx hb dX5_pageEnd_20 (by decide) (fun h319 => ?_) (fun h319 => ?_)
    · refine lv_iconst (v := nI (2)) hx hb dX5_pageEnd_33 (by decide) ?_
      refine lv_goto (tgt := 38) hx hb dX5_pageEnd_34 (by decide) ?_
      refine wr_goS (rn_V ⟨hx, hb, hml, hown, hts⟩ (c_X5_isFine l g (σ := σ) (th := th) (x := 2) hM (by omega)) gX5_pageEnd_X5_isFine rfl pX5_isFine ⟨Nat.le_of_ble_eq_true rfl, Nat.le_of_ble_eq_true rfl⟩ ⟨Nat.le_of_ble_eq_true rfl, Nat.le_of_ble_eq_true rfl⟩ hP hE rfl rfl rfl hl.1 rfl (Nat.le_of_ble_eq_true rfl) dX5_pageEnd_38) hS (fun x h => h) (fun H1 locs1 hB hz hk hS => ?_)
      have hP : gP g (wM g am (σ) (2)) H1 := hB
      have hD : va_D (fun z => z ∈ mA am) (wM g am (σ) (2)) := wM_D hM
      clear hk hB hz
      generalize H1 = H at hP hS ⊢
      generalize locs1 = locs at hS ⊢
      refine tp_i (z := bI (false)) rfl ?_
      refine br_neB (tgt := 46) hx hb dX5_pageEnd_41 (by decide) (fun h320 => ?_) (fun h320 => ?_)
      · exact absurd h320 (by decide)
      · refine lv_iconst (v := nI (0)) hx hb dX5_pageEnd_44 (by decide) ?_
        have he9 : ePag (nI xj) y z = 2 := (by simp [ePag, eR_inB, hpx, hix, h319])
        exact wr_reti hx hb hr hlocks hS (by rw [he9]; exact hP) (by rw [he9]; rfl) dX5_pageEnd_45
    · obtain ⟨yj, hly, hhy, rfl, hiy⟩ := eR_0 (lo := 0) (hi := 150) (by decide) (by decide) (by rw [eR_inB, if_pos h319])
      refine lv_iload_n hx hb dX5_pageEnd_23 rfl (lv_at hl 3 rfl) ?_
      refine lv_iconst (v := nI (1)) hx hb dX5_pageEnd_24 (by decide) ?_
      refine lv_bipush (v := nI (20)) hx hb dX5_pageEnd_25 (by decide) ?_
      refine rd_goS (rn_S ⟨hx, hb, hml, hown, hts⟩ (c_X5_in l g (x := z) (lo := nI (1)) (hi := nI (20))) gX5_pageEnd_X5_in rfl qX5_in ⟨Nat.le_of_ble_eq_true rfl, Nat.le_of_ble_eq_true rfl⟩ ⟨Nat.le_of_ble_eq_true rfl, Nat.le_of_ble_eq_true rfl⟩ (gP_nil) hE rfl hl.1 rfl (Nat.le_of_ble_eq_true rfl) dX5_pageEnd_27) ?_
      refine br_neB (tgt := 37) hx hb dX5_pageEnd_30 (by decide) (fun h321 => ?_) (fun h321 => ?_)
      · obtain ⟨zj, hlz, hhz, rfl, hiz⟩ := eR_0 (lo := 1) (hi := 20) (by decide) (by decide) (by rw [eR_inB, if_pos h321])
        refine lv_iconst (v := nI (0)) hx hb dX5_pageEnd_37 (by decide) ?_
        refine wr_goS (rn_V ⟨hx, hb, hml, hown, hts⟩ (c_X5_isFine l g (σ := σ) (th := th) (x := 0) hM (by omega)) gX5_pageEnd_X5_isFine rfl pX5_isFine ⟨Nat.le_of_ble_eq_true rfl, Nat.le_of_ble_eq_true rfl⟩ ⟨Nat.le_of_ble_eq_true rfl, Nat.le_of_ble_eq_true rfl⟩ hP hE rfl rfl rfl hl.1 rfl (Nat.le_of_ble_eq_true rfl) dX5_pageEnd_38) hS (fun x h => h) (fun H1 locs1 hB hz hk hS => ?_)
        have hP : gP g (wM g am (σ) (0)) H1 := hB
        have hD : va_D (fun z => z ∈ mA am) (wM g am (σ) (0)) := wM_D hM
        clear hk hB hz
        generalize H1 = H at hP hS ⊢
        generalize locs1 = locs at hS ⊢
        refine tp_i (z := bI (true)) rfl ?_
        refine br_neB (tgt := 46) hx hb dX5_pageEnd_41 (by decide) (fun h322 => ?_) (fun h322 => ?_)
        · refine lv_iconst (v := fI (0)) hx hb dX5_pageEnd_46 (by decide) ?_
          refine lv_istore (lv' := [(4, .int (fI (0))), (0, .ref (am 0)), (1, .int (nI (xj))), (2, .int (nI (yj))), (3, .int (nI (zj)))]) hx hb dX5_pageEnd_47 hl (by decide) rfl (fun ls hl => ?_)
          refine lv_aload_n hx hb dX5_pageEnd_49 rfl (lv_at hl 1 rfl) ?_
          refine lv_iload_n hx hb dX5_pageEnd_50 rfl (lv_at hl 2 rfl) ?_
          refine lv_iload_n hx hb dX5_pageEnd_51 rfl (lv_at hl 3 rfl) ?_
          refine rd_goS (rn_V ⟨hx, hb, hml, hown, hts⟩ (c_X5_nextBelow l g (σ := σ) (th := 0) hI (q := xj) (y := yj) (by omega) (by omega)) gX5_pageEnd_X5_nextBelow rfl pX5_nextBelow ⟨Nat.le_of_ble_eq_true rfl, Nat.le_of_ble_eq_true rfl⟩ ⟨Nat.le_of_ble_eq_true rfl, Nat.le_of_ble_eq_true rfl⟩ (hP) hE rfl rfl rfl hl.1 rfl (Nat.le_of_ble_eq_true rfl) dX5_pageEnd_52) ?_
          refine lv_istore (lv' := [(5, .int (fI (laB (shw σ (xj)) (cmin (yj) (sn σ))))), (4, .int (fI (0))), (0, .ref (am 0)), (1, .int (nI (xj))), (2, .int (nI (yj))), (3, .int (nI (zj)))]) hx hb dX5_pageEnd_55 hl (by decide) rfl (fun ls hl => ?_)
          refine lv_iconst (v := nI (0)) hx hb dX5_pageEnd_57 (by decide) ?_
          refine lv_istore (lv' := [(6, .int (nI (0))), (5, .int (fI (laB (shw σ (xj)) (cmin (yj) (sn σ))))), (4, .int (fI (0))), (0, .ref (am 0)), (1, .int (nI (xj))), (2, .int (nI (yj))), (3, .int (nI (zj)))]) hx hb dX5_pageEnd_58 hl (by decide) rfl (fun ls hl => ?_)
          have hC9 := (cmin_le (yj) (sn σ)).1
          have lp323 : ∀ (n9 : Nat) (k : Nat) (e9 : Nat) (s9 : Nat), zj - k < n9 → (pgI (shw σ xj) (cmin (yj) (sn σ)) zj k e9 s9) → ∀ (H : Heap) (locs : List Loc), gP g (wM g am (σ) (0)) H → va_D (fun q => q ∈ (mA am)) (wM g am (σ) (0)) → va_S (fun q => q ∈ (mA am)) s.heap H locs → ∀ ls : Array Slot, lv_has ls 7 [(0, .ref (am 0)), (1, .int (nI (xj))), (2, .int (nI (yj))), (3, .int (nI (zj))), (4, .int (fI (e9))), (5, .int (fI (s9))), (6, .int (nI (k)))] → W p l e ({ frames := 3, cells := 0, slots := 0, locals := 72 } : Room) s m ([.ref (am 0), .int ((nI xj)), .int ((nI yj)), .int ((nI zj))] : List Value).toArray below meth c H locs 0 0 (MQ below (wrQ (some (.int (oI (ePag (nI xj) (nI yj) (nI zj)) (fI r9)))) (fun H1 => gP g (wM g am (oS (ePag (nI xj) (nI yj) (nI zj)) (σ) σ) ( (ePag (nI xj) (nI yj) (nI zj)))) H1) (mA am)) ([.ref (am 0), .int ((nI xj)), .int ((nI yj)), .int ((nI zj))] : List Value).toArray s 0 0 (fun q => q ∈ (mA am))) (F0 m 60 ls []) := by
            intro n9
            induction n9 with
            | zero => intro k e9 s9 h; omega
            | succ n9 ihlp323 =>
              intro k e9 s9 h9 hpg H locs hP hD hS ls hl
              have hpg1 := hpg.1
              have hpg3 := hpg.2.2.1
              have hpe : e9 ≤ 150 := by have := hpg.2.2.2.2; omega
              refine lv_iload hx hb dX5_pageEnd_60 (lv_at hl 6 rfl) ?_
              refine lv_iload_n hx hb dX5_pageEnd_62 rfl (lv_at hl 3 rfl) ?_
              refine br_geN (a := k) (b := zj) (tgt := 91) hx hb (by omega) (by omega) dX5_pageEnd_63 (by decide) (fun h324 => ?_) (fun h324 => ?_)
              · have h63 : zj ≤ k := h324
                refine lv_iload hx hb dX5_pageEnd_91 (lv_at hl 4 rfl) ?_
                have he9 : ePag (nI xj) (nI yj) (nI zj) = 0 := (by simp [ePag, eR_inB, hpx, hix, h319, hiy, h321, hiz])
                have hnx : σ = σ := (rfl)
                exact wr_reti hx hb hr hlocks hS (by rw [he9]; show gP g (wM g am (σ) 0) H; rw [hnx]; exact hP) (by rw [he9]; show _ = fI r9; exact (by have z9 := hv he9; rw [hix, hiy, hiz] at z9; rw [isPag_uniq (by omega) z9 (pgI_end hpg (by omega) (Or.inl h63))])) dX5_pageEnd_93
              · have h63 : k < zj := h324
                refine lv_iload hx hb dX5_pageEnd_66 (lv_at hl 5 rfl) ?_
                refine lv_iconst (v := fI (0)) hx hb dX5_pageEnd_68 (by decide) ?_
                refine br_eqF (a := s9) (b := 0) (tgt := 91) hx hb (by omega) (by omega) dX5_pageEnd_69 (by decide) (fun h325 => ?_) (fun h325 => ?_)
                · refine lv_iload hx hb dX5_pageEnd_91 (lv_at hl 4 rfl) ?_
                  have he9 : ePag (nI xj) (nI yj) (nI zj) = 0 := (by simp [ePag, eR_inB, hpx, hix, h319, hiy, h321, hiz])
                  have hnx : σ = σ := (rfl)
                  exact wr_reti hx hb hr hlocks hS (by rw [he9]; show gP g (wM g am (σ) 0) H; rw [hnx]; exact hP) (by rw [he9]; show _ = fI r9; exact (by have z9 := hv he9; rw [hix, hiy, hiz] at z9; rw [isPag_uniq (by omega) z9 (pgI_end hpg (by omega) (Or.inr h325))])) dX5_pageEnd_93
                · refine lv_iload hx hb dX5_pageEnd_72 (lv_at hl 5 rfl) ?_
                  refine lv_istore (lv' := [(4, .int (fI (s9))), (0, .ref (am 0)), (1, .int (nI (xj))), (2, .int (nI (yj))), (3, .int (nI (zj))), (5, .int (fI (s9))), (6, .int (nI (k)))]) hx hb dX5_pageEnd_74 hl (by decide) rfl (fun ls hl => ?_)
                  refine lv_aload_n hx hb dX5_pageEnd_76 rfl (lv_at hl 1 rfl) ?_
                  refine lv_iload_n hx hb dX5_pageEnd_77 rfl (lv_at hl 2 rfl) ?_
                  refine lv_iload hx hb dX5_pageEnd_78 (lv_at hl 0 rfl) ?_
                  refine tp_i (show fI (s9) = nI (s9 - 1) from by rw [show s9 = (s9 - 1) + 1 by omega, fI_succ]; rfl) ?_
                  refine rd_goS (rn_V ⟨hx, hb, hml, hown, hts⟩ (c_X5_nextBelow l g (σ := σ) (th := 0) hI (q := xj) (y := s9 - 1) (by omega) (by omega)) gX5_pageEnd_X5_nextBelow rfl pX5_nextBelow ⟨Nat.le_of_ble_eq_true rfl, Nat.le_of_ble_eq_true rfl⟩ ⟨Nat.le_of_ble_eq_true rfl, Nat.le_of_ble_eq_true rfl⟩ (hP) hE rfl rfl rfl hl.1 rfl (Nat.le_of_ble_eq_true rfl) dX5_pageEnd_80) ?_
                  refine lv_istore (lv' := [(5, .int (fI (laB (shw σ (xj)) (cmin (s9 - 1) (sn σ))))), (4, .int (fI (s9))), (0, .ref (am 0)), (1, .int (nI (xj))), (2, .int (nI (yj))), (3, .int (nI (zj))), (6, .int (nI (k)))]) hx hb dX5_pageEnd_83 hl (by decide) rfl (fun ls hl => ?_)
                  refine lv_iinc (v := nI (k + 1)) (lv' := [(6, .int (nI (k + 1))), (5, .int (fI (laB (shw σ (xj)) (cmin (s9 - 1) (sn σ))))), (4, .int (fI (s9))), (0, .ref (am 0)), (1, .int (nI (xj))), (2, .int (nI (yj))), (3, .int (nI (zj)))]) hx hb dX5_pageEnd_85 hl (k := 6) rfl (inc1 (k)) (by decide) rfl (fun ls hl => ?_)
                  refine lv_goto (tgt := 60) hx hb dX5_pageEnd_88 (by decide) ?_
                  exact ihlp323 (k + 1) s9 (laB (shw σ xj) (cmin (s9 - 1) (sn σ))) (by omega) (pgI_s hpg hC9 h63 h325) H locs hP hD hS ls (lv_sub hl [3, 4, 5, 6, 2, 1, 0] rfl)
          exact lp323 (_ + 1) 0 0 (laB (shw σ xj) (cmin (yj) (sn σ))) (Nat.lt_succ_self _) pgI_0 _ _ hP hD hS ls (lv_sub hl [3, 4, 5, 6, 2, 1, 0] rfl)
        · exact absurd h322 (by decide)
      · refine lv_iconst (v := nI (2)) hx hb dX5_pageEnd_33 (by decide) ?_
        refine lv_goto (tgt := 38) hx hb dX5_pageEnd_34 (by decide) ?_
        refine wr_goS (rn_V ⟨hx, hb, hml, hown, hts⟩ (c_X5_isFine l g (σ := σ) (th := th) (x := 2) hM (by omega)) gX5_pageEnd_X5_isFine rfl pX5_isFine ⟨Nat.le_of_ble_eq_true rfl, Nat.le_of_ble_eq_true rfl⟩ ⟨Nat.le_of_ble_eq_true rfl, Nat.le_of_ble_eq_true rfl⟩ hP hE rfl rfl rfl hl.1 rfl (Nat.le_of_ble_eq_true rfl) dX5_pageEnd_38) hS (fun x h => h) (fun H1 locs1 hB hz hk hS => ?_)
        have hP : gP g (wM g am (σ) (2)) H1 := hB
        have hD : va_D (fun z => z ∈ mA am) (wM g am (σ) (2)) := wM_D hM
        clear hk hB hz
        generalize H1 = H at hP hS ⊢
        generalize locs1 = locs at hS ⊢
        refine tp_i (z := bI (false)) rfl ?_
        refine br_neB (tgt := 46) hx hb dX5_pageEnd_41 (by decide) (fun h326 => ?_) (fun h326 => ?_)
        · exact absurd h326 (by decide)
        · refine lv_iconst (v := nI (0)) hx hb dX5_pageEnd_44 (by decide) ?_
          have he9 : ePag (nI xj) (nI yj) z = 2 := (by simp [ePag, eR_inB, hpx, hix, h319, hiy, h321])
          exact wr_reti hx hb hr hlocks hS (by rw [he9]; exact hP) (by rw [he9]; rfl) dX5_pageEnd_45
  · refine lv_iconst (v := nI (1)) hx hb dX5_pageEnd_8 (by decide) ?_
    refine lv_goto (tgt := 38) hx hb dX5_pageEnd_9 (by decide) ?_
    refine wr_goS (rn_V ⟨hx, hb, hml, hown, hts⟩ (c_X5_isFine l g (σ := σ) (th := th) (x := 1) hM (by omega)) gX5_pageEnd_X5_isFine rfl pX5_isFine ⟨Nat.le_of_ble_eq_true rfl, Nat.le_of_ble_eq_true rfl⟩ ⟨Nat.le_of_ble_eq_true rfl, Nat.le_of_ble_eq_true rfl⟩ hP hE rfl rfl rfl hl.1 rfl (Nat.le_of_ble_eq_true rfl) dX5_pageEnd_38) hS (fun x h => h) (fun H1 locs1 hB hz hk hS => ?_)
    have hP : gP g (wM g am (σ) (1)) H1 := hB
    have hD : va_D (fun z => z ∈ mA am) (wM g am (σ) (1)) := wM_D hM
    clear hk hB hz
    generalize H1 = H at hP hS ⊢
    generalize locs1 = locs at hS ⊢
    refine tp_i (z := bI (false)) rfl ?_
    refine br_neB (tgt := 46) hx hb dX5_pageEnd_41 (by decide) (fun h327 => ?_) (fun h327 => ?_)
    · exact absurd h327 (by decide)
    · refine lv_iconst (v := nI (0)) hx hb dX5_pageEnd_44 (by decide) ?_
      have he9 : ePag x y z = 1 := (by simp [ePag, eR_inB, h318])
      exact wr_reti hx hb hr hlocks hS (by rw [he9]; exact hP) (by rw [he9]; rfl) dX5_pageEnd_45
set_option maxHeartbeats 4000000 in
set_option maxRecDepth 100000 in
/-- rowAt(x, y): v9 -/
theorem c_X5_rowAt (l : Launch) (g : GT) {am : Nat → Nat} {σ : St} {th : Nat} (hI : Inv σ) (hM : FN am 8) {x y : Int32} {v9 : Nat} (hv : eRow σ x y = 0 → isRow σ (ix x) (ix y) v9) : wrM l g yX5_rowAt wsX5_rowAt 4 89 [.ref (am 0), .int (x), .int (y)] (wM g am (σ) (th)) (some (.int (oI (eRow σ x y) (nI v9)))) (fun H1 => gP g (wM g am (oS (eRow σ x y) (σ) σ) ( (eRow σ x y))) H1) (mA am) := by
  refine wr_of (cc := cX5_rowAt) (maxL := 5) (ret := (some .int)) (by decide) rfl (Nat.le_of_ble_eq_true rfl) (fun p e s m below meth c ls hx hb hr hml hts hown hlocks hl hP hE hS => ?_)
  have hl : lv_has ls 5 [(0, .ref (am 0)), (1, .int (x)), (2, .int (y))] := hl
  have hown : s.vm.findClass RX5 = some m.cls := hown
  obtain ⟨hi1, hi2, hi3, hi4, hi5, hi6, hi7, hi8⟩ := id hI
  have hD : va_D (fun z => z ∈ mA am) (wM g am σ th) := wM_D hM
  refine lv_aload_n hx hb dX5_rowAt_0 rfl (lv_at hl 0 rfl) ?_
  refine lv_iload_n hx hb dX5_rowAt_1 rfl (lv_at hl 1 rfl) ?_
  refine rd_goS (rn_S ⟨hx, hb, hml, hown, hts⟩ (c_X5_isOne l g (x := x)) gX5_rowAt_X5_isOne rfl qX5_isOne ⟨Nat.le_of_ble_eq_true rfl, Nat.le_of_ble_eq_true rfl⟩ ⟨Nat.le_of_ble_eq_true rfl, Nat.le_of_ble_eq_true rfl⟩ (gP_nil) hE rfl hl.1 rfl (Nat.le_of_ble_eq_true rfl) dX5_rowAt_2) ?_
  refine br_eqB (tgt := 27) hx hb dX5_rowAt_5 (by decide) (fun h328 => ?_) (fun h328 => ?_)
  · refine lv_iconst (v := nI (1)) hx hb dX5_rowAt_27 (by decide) ?_
    refine wr_goS (rn_V ⟨hx, hb, hml, hown, hts⟩ (c_X5_isFine l g (σ := σ) (th := th) (x := 1) hM (by omega)) gX5_rowAt_X5_isFine rfl pX5_isFine ⟨Nat.le_of_ble_eq_true rfl, Nat.le_of_ble_eq_true rfl⟩ ⟨Nat.le_of_ble_eq_true rfl, Nat.le_of_ble_eq_true rfl⟩ hP hE rfl rfl rfl hl.1 rfl (Nat.le_of_ble_eq_true rfl) dX5_rowAt_28) hS (fun x h => h) (fun H1 locs1 hB hz hk hS => ?_)
    have hP : gP g (wM g am (σ) (1)) H1 := hB
    have hD : va_D (fun z => z ∈ mA am) (wM g am (σ) (1)) := wM_D hM
    clear hk hB hz
    generalize H1 = H at hP hS ⊢
    generalize locs1 = locs at hS ⊢
    refine tp_i (z := bI (false)) rfl ?_
    refine br_neB (tgt := 36) hx hb dX5_rowAt_31 (by decide) (fun h329 => ?_) (fun h329 => ?_)
    · exact absurd h329 (by decide)
    · refine lv_iconst (v := nI (0)) hx hb dX5_rowAt_34 (by decide) ?_
      have he9 : eRow σ x y = 1 := (by simp [eRow, h328])
      exact wr_reti hx hb hr hlocks hS (by rw [he9]; exact hP) (by rw [he9]; rfl) dX5_rowAt_35
  · obtain ⟨xj, hjx, rfl, hix⟩ := isP_of h328
    have hpx : isP (nI xj) = true := h328
    refine lv_iload_n hx hb dX5_rowAt_8 rfl (lv_at hl 2 rfl) ?_
    have hrc9 : rcn σ xj ≤ 150 := by have := cN_le (el σ xj) (sn σ); unfold rcn; omega
    refine lv_iconst (v := nI (0)) hx hb dX5_rowAt_9 (by decide) ?_
    refine lv_aload_n hx hb dX5_rowAt_10 rfl (lv_at hl 0 rfl) ?_
    refine lv_iload_n hx hb dX5_rowAt_11 rfl (lv_at hl 1 rfl) ?_
    refine rd_goS (rn_V ⟨hx, hb, hml, hown, hts⟩ (c_X5_rowLength l g (σ := σ) (th := th) hI (q := xj) (by omega)) gX5_rowAt_X5_rowLength rfl pX5_rowLength ⟨Nat.le_of_ble_eq_true rfl, Nat.le_of_ble_eq_true rfl⟩ ⟨Nat.le_of_ble_eq_true rfl, Nat.le_of_ble_eq_true rfl⟩ (hP) hE rfl rfl rfl hl.1 rfl (Nat.le_of_ble_eq_true rfl) dX5_rowAt_12) ?_
    refine lv_iconst (v := nI (1)) hx hb dX5_rowAt_15 (by decide) ?_
    refine lv_isub hx hb dX5_rowAt_16 ?_
    refine tp_i (sub1 (rcn σ (xj))) ?_
    refine rd_goS (rn_S ⟨hx, hb, hml, hown, hts⟩ (c_X5_in l g (x := y) (lo := nI (0)) (hi := fI (rcn σ (xj)))) gX5_rowAt_X5_in rfl qX5_in ⟨Nat.le_of_ble_eq_true rfl, Nat.le_of_ble_eq_true rfl⟩ ⟨Nat.le_of_ble_eq_true rfl, Nat.le_of_ble_eq_true rfl⟩ (gP_nil) hE rfl hl.1 rfl (Nat.le_of_ble_eq_true rfl) dX5_rowAt_17) ?_
    refine tp_i (congrArg bI (inB_isB (x := y) (n := rcn σ xj) (by omega))) ?_
    refine br_eqB (tgt := 27) hx hb dX5_rowAt_20 (by decide) (fun h330 => ?_) (fun h330 => ?_)
    · refine lv_iconst (v := nI (1)) hx hb dX5_rowAt_27 (by decide) ?_
      refine wr_goS (rn_V ⟨hx, hb, hml, hown, hts⟩ (c_X5_isFine l g (σ := σ) (th := th) (x := 1) hM (by omega)) gX5_rowAt_X5_isFine rfl pX5_isFine ⟨Nat.le_of_ble_eq_true rfl, Nat.le_of_ble_eq_true rfl⟩ ⟨Nat.le_of_ble_eq_true rfl, Nat.le_of_ble_eq_true rfl⟩ hP hE rfl rfl rfl hl.1 rfl (Nat.le_of_ble_eq_true rfl) dX5_rowAt_28) hS (fun x h => h) (fun H1 locs1 hB hz hk hS => ?_)
      have hP : gP g (wM g am (σ) (1)) H1 := hB
      have hD : va_D (fun z => z ∈ mA am) (wM g am (σ) (1)) := wM_D hM
      clear hk hB hz
      generalize H1 = H at hP hS ⊢
      generalize locs1 = locs at hS ⊢
      refine tp_i (z := bI (false)) rfl ?_
      refine br_neB (tgt := 36) hx hb dX5_rowAt_31 (by decide) (fun h331 => ?_) (fun h331 => ?_)
      · exact absurd h331 (by decide)
      · refine lv_iconst (v := nI (0)) hx hb dX5_rowAt_34 (by decide) ?_
        have he9 : eRow σ (nI xj) y = 1 := (by simp [eRow, hpx, hix, h330])
        exact wr_reti hx hb hr hlocks hS (by rw [he9]; exact hP) (by rw [he9]; rfl) dX5_rowAt_35
    · obtain ⟨yj, hjy, rfl, hiy⟩ := isB_of h330 (by omega)
      have hpy := h330
      refine lv_iconst (v := nI (0)) hx hb dX5_rowAt_23 (by decide) ?_
      refine lv_goto (tgt := 28) hx hb dX5_rowAt_24 (by decide) ?_
      refine wr_goS (rn_V ⟨hx, hb, hml, hown, hts⟩ (c_X5_isFine l g (σ := σ) (th := th) (x := 0) hM (by omega)) gX5_rowAt_X5_isFine rfl pX5_isFine ⟨Nat.le_of_ble_eq_true rfl, Nat.le_of_ble_eq_true rfl⟩ ⟨Nat.le_of_ble_eq_true rfl, Nat.le_of_ble_eq_true rfl⟩ hP hE rfl rfl rfl hl.1 rfl (Nat.le_of_ble_eq_true rfl) dX5_rowAt_28) hS (fun x h => h) (fun H1 locs1 hB hz hk hS => ?_)
      have hP : gP g (wM g am (σ) (0)) H1 := hB
      have hD : va_D (fun z => z ∈ mA am) (wM g am (σ) (0)) := wM_D hM
      clear hk hB hz
      generalize H1 = H at hP hS ⊢
      generalize locs1 = locs at hS ⊢
      refine tp_i (z := bI (true)) rfl ?_
      refine br_neB (tgt := 36) hx hb dX5_rowAt_31 (by decide) (fun h332 => ?_) (fun h332 => ?_)
      · have hv9 : isRow σ xj yj v9 := by have z9 := hv (by simp [eRow, hpx, hix, hpy]); rw [hix, hiy] at z9; exact z9
        have hr9 := row_inr hv9
        have hv2 := hv9.2.1
        refine lv_iload_n hx hb dX5_rowAt_36 rfl (lv_at hl 2 rfl) ?_
        refine lv_istore_n (lv' := [(3, .int (nI (yj))), (0, .ref (am 0)), (1, .int (nI (xj))), (2, .int (nI (yj)))]) hx hb dX5_rowAt_37 rfl hl (by decide) rfl (fun ls hl => ?_)
        refine lv_iconst (v := nI (0)) hx hb dX5_rowAt_38 (by decide) ?_
        refine lv_istore (lv' := [(4, .int (nI (0))), (3, .int (nI (yj))), (0, .ref (am 0)), (1, .int (nI (xj))), (2, .int (nI (yj)))]) hx hb dX5_rowAt_39 hl (by decide) rfl (fun ls hl => ?_)
        have lp333 : ∀ (n9 : Nat) (a : Nat) (i : Nat), v9 + 1 - i < n9 → (raI (inr σ xj) v9 yj a i) → ∀ (H : Heap) (locs : List Loc), gP g (wM g am (σ) (0)) H → va_D (fun q => q ∈ (mA am)) (wM g am (σ) (0)) → va_S (fun q => q ∈ (mA am)) s.heap H locs → ∀ ls : Array Slot, lv_has ls 5 [(0, .ref (am 0)), (1, .int (nI (xj))), (2, .int (nI (yj))), (3, .int (nI (a))), (4, .int (nI (i)))] → W p l e ({ frames := 4, cells := 0, slots := 0, locals := 89 } : Room) s m ([.ref (am 0), .int ((nI xj)), .int ((nI yj))] : List Value).toArray below meth c H locs 0 0 (MQ below (wrQ (some (.int (oI (eRow σ (nI xj) (nI yj)) (nI v9)))) (fun H1 => gP g (wM g am (oS (eRow σ (nI xj) (nI yj)) (σ) σ) ( (eRow σ (nI xj) (nI yj)))) H1) (mA am)) ([.ref (am 0), .int ((nI xj)), .int ((nI yj))] : List Value).toArray s 0 0 (fun q => q ∈ (mA am))) (F0 m 41 ls []) := by
          intro n9
          induction n9 with
          | zero => intro a i h; omega
          | succ n9 ihlp333 =>
            intro a i h9 hra H locs hP hD hS ls hl
            have hra1 := hra.1
            have hra2 := hra.2
            refine lv_iload_n hx hb dX5_rowAt_41 rfl (lv_at hl 3 rfl) ?_
            refine br_gt0 (tgt := 55) hx hb (by omega) dX5_rowAt_42 (by decide) (fun h334 => ?_) (fun h334 => ?_)
            · refine lv_iload_n hx hb dX5_rowAt_55 rfl (lv_at hl 3 rfl) ?_
              refine lv_aload_n hx hb dX5_rowAt_56 rfl (lv_at hl 0 rfl) ?_
              refine lv_iload_n hx hb dX5_rowAt_57 rfl (lv_at hl 1 rfl) ?_
              refine lv_iload hx hb dX5_rowAt_58 (lv_at hl 4 rfl) ?_
              refine rd_goS (rn_V ⟨hx, hb, hml, hown, hts⟩ (c_X5_isInRow l g (σ := σ) (th := 0) hI (q := xj) (x := i) (by omega) (by omega)) gX5_rowAt_X5_isInRow rfl pX5_isInRow ⟨Nat.le_of_ble_eq_true rfl, Nat.le_of_ble_eq_true rfl⟩ ⟨Nat.le_of_ble_eq_true rfl, Nat.le_of_ble_eq_true rfl⟩ (hP) hE rfl rfl rfl hl.1 rfl (Nat.le_of_ble_eq_true rfl) dX5_rowAt_60) ?_
              refine br_eqB (tgt := 70) hx hb dX5_rowAt_63 (by decide) (fun h335 => ?_) (fun h335 => ?_)
              · refine lv_iconst (v := nI (0)) hx hb dX5_rowAt_70 (by decide) ?_
                refine lv_isub hx hb dX5_rowAt_71 ?_
                refine tp_i (pk_sub (by omega)) ?_
                refine lv_istore_n (lv' := [(3, .int (nI (a - 0))), (0, .ref (am 0)), (1, .int (nI (xj))), (2, .int (nI (yj))), (4, .int (nI (i)))]) hx hb dX5_rowAt_72 rfl hl (by decide) rfl (fun ls hl => ?_)
                refine lv_iinc (v := nI (i + 1)) (lv' := [(4, .int (nI (i + 1))), (3, .int (nI (a - 0))), (0, .ref (am 0)), (1, .int (nI (xj))), (2, .int (nI (yj)))]) hx hb dX5_rowAt_73 hl (k := 4) rfl (inc1 (i)) (by decide) rfl (fun ls hl => ?_)
                refine lv_goto (tgt := 41) hx hb dX5_rowAt_76 (by decide) ?_
                exact ihlp333 (a - 0) (i + 1) (by omega) (raI_stay hra hr9.1 hr9.2 h335) H locs hP hD hS ls (lv_sub hl [2, 3, 4, 1, 0] rfl)
              · refine lv_iconst (v := nI (1)) hx hb dX5_rowAt_66 (by decide) ?_
                refine lv_goto (tgt := 71) hx hb dX5_rowAt_67 (by decide) ?_
                refine lv_isub hx hb dX5_rowAt_71 ?_
                refine tp_i (pk_sub (by omega)) ?_
                refine lv_istore_n (lv' := [(3, .int (nI (a - 1))), (0, .ref (am 0)), (1, .int (nI (xj))), (2, .int (nI (yj))), (4, .int (nI (i)))]) hx hb dX5_rowAt_72 rfl hl (by decide) rfl (fun ls hl => ?_)
                refine lv_iinc (v := nI (i + 1)) (lv' := [(4, .int (nI (i + 1))), (3, .int (nI (a - 1))), (0, .ref (am 0)), (1, .int (nI (xj))), (2, .int (nI (yj)))]) hx hb dX5_rowAt_73 hl (k := 4) rfl (inc1 (i)) (by decide) rfl (fun ls hl => ?_)
                refine lv_goto (tgt := 41) hx hb dX5_rowAt_76 (by decide) ?_
                exact ihlp333 (a - 1) (i + 1) (by omega) (raI_go hra hr9.1 (by omega) h335) H locs hP hD hS ls (lv_sub hl [2, 3, 4, 1, 0] rfl)
            · refine lv_aload_n hx hb dX5_rowAt_45 rfl (lv_at hl 0 rfl) ?_
              refine lv_iload_n hx hb dX5_rowAt_46 rfl (lv_at hl 1 rfl) ?_
              refine lv_iload hx hb dX5_rowAt_47 (lv_at hl 4 rfl) ?_
              refine rd_goS (rn_V ⟨hx, hb, hml, hown, hts⟩ (c_X5_isInRow l g (σ := σ) (th := 0) hI (q := xj) (x := i) (by omega) (by omega)) gX5_rowAt_X5_isInRow rfl pX5_isInRow ⟨Nat.le_of_ble_eq_true rfl, Nat.le_of_ble_eq_true rfl⟩ ⟨Nat.le_of_ble_eq_true rfl, Nat.le_of_ble_eq_true rfl⟩ (hP) hE rfl rfl rfl hl.1 rfl (Nat.le_of_ble_eq_true rfl) dX5_rowAt_49) ?_
              refine br_neB (tgt := 79) hx hb dX5_rowAt_52 (by decide) (fun h336 => ?_) (fun h336 => ?_)
              · refine lv_iload hx hb dX5_rowAt_79 (lv_at hl 4 rfl) ?_
                have he9 : eRow σ (nI xj) (nI yj) = 0 := (by simp [eRow, hpx, hix, hpy, hiy, h336])
                have hnx : σ = σ := (rfl)
                exact wr_reti hx hb hr hlocks hS (by rw [he9]; show gP g (wM g am (σ) 0) H; rw [hnx]; exact hP) (by rw [he9]; show _ = nI v9; exact (by rw [raI_end hra (by omega) hr9.1 h336])) dX5_rowAt_81
              · refine lv_iload_n hx hb dX5_rowAt_55 rfl (lv_at hl 3 rfl) ?_
                refine lv_aload_n hx hb dX5_rowAt_56 rfl (lv_at hl 0 rfl) ?_
                refine lv_iload_n hx hb dX5_rowAt_57 rfl (lv_at hl 1 rfl) ?_
                refine lv_iload hx hb dX5_rowAt_58 (lv_at hl 4 rfl) ?_
                refine rd_goS (rn_V ⟨hx, hb, hml, hown, hts⟩ (c_X5_isInRow l g (σ := σ) (th := 0) hI (q := xj) (x := i) (by omega) (by omega)) gX5_rowAt_X5_isInRow rfl pX5_isInRow ⟨Nat.le_of_ble_eq_true rfl, Nat.le_of_ble_eq_true rfl⟩ ⟨Nat.le_of_ble_eq_true rfl, Nat.le_of_ble_eq_true rfl⟩ (hP) hE rfl rfl rfl hl.1 rfl (Nat.le_of_ble_eq_true rfl) dX5_rowAt_60) ?_
                refine br_eqB (tgt := 70) hx hb dX5_rowAt_63 (by decide) (fun h337 => ?_) (fun h337 => ?_)
                · refine lv_iconst (v := nI (0)) hx hb dX5_rowAt_70 (by decide) ?_
                  refine lv_isub hx hb dX5_rowAt_71 ?_
                  refine tp_i (pk_sub (by omega)) ?_
                  refine lv_istore_n (lv' := [(3, .int (nI (a - 0))), (0, .ref (am 0)), (1, .int (nI (xj))), (2, .int (nI (yj))), (4, .int (nI (i)))]) hx hb dX5_rowAt_72 rfl hl (by decide) rfl (fun ls hl => ?_)
                  refine lv_iinc (v := nI (i + 1)) (lv' := [(4, .int (nI (i + 1))), (3, .int (nI (a - 0))), (0, .ref (am 0)), (1, .int (nI (xj))), (2, .int (nI (yj)))]) hx hb dX5_rowAt_73 hl (k := 4) rfl (inc1 (i)) (by decide) rfl (fun ls hl => ?_)
                  refine lv_goto (tgt := 41) hx hb dX5_rowAt_76 (by decide) ?_
                  exact ihlp333 (a - 0) (i + 1) (by omega) (raI_stay hra hr9.1 hr9.2 h337) H locs hP hD hS ls (lv_sub hl [2, 3, 4, 1, 0] rfl)
                · exact absurd h337 (by rw [h336]; decide)
        exact lp333 (_ + 1) yj 0 (Nat.lt_succ_self _) ⟨by rfl, Nat.zero_le _⟩ _ _ hP hD hS ls (lv_sub hl [2, 3, 4, 1, 0] rfl)
      · exact absurd h332 (by decide)
