def inB (lo hi x : Int32) : Bool := decide (lo ≤ x) && decide (x ≤ hi)
theorem inB_lo {lo hi x : Int32} (h : x < lo) : false = inB lo hi x := by
  unfold inB
  rw [decide_eq_false (Int32.not_le.mpr h)]; rfl
theorem inB_hi {lo hi x : Int32} (h : hi < x) : false = inB lo hi x := by
  unfold inB
  rw [decide_eq_false (p := x ≤ hi) (Int32.not_le.mpr h), Bool.and_false]
theorem inB_ok {lo hi x : Int32} (h : ¬ x < lo) (h2 : ¬ hi < x) : true = inB lo hi x := by
  unfold inB
  rw [decide_eq_true (Int32.not_lt.mp h), decide_eq_true (Int32.not_lt.mp h2)]; rfl
theorem inB_isB {x : Int32} {n : Nat} (hn : n < 2 ^ 31) : inB (nI 0) (fI n) x = isB x n := by
  unfold inB isB
  congr 1
  · refine decide_eq_decide.mpr ?_
    rw [Int32.le_iff_toInt_le]
    exact Iff.rfl
  · refine decide_eq_decide.mpr ?_
    rw [Int32.le_iff_toInt_le, fI_toInt hn]
    omega
theorem inB_isP (x : Int32) : inB (nI 0) (nI 7) x = isP x := inB_isB (n := 8) (by decide)
theorem eR_inB (lo hi : Nat) (x : Int32) : eR lo hi x = if inB (nI lo) (nI hi) x = true then 0 else 2 := rfl
def inr (σ : St) (q x : Nat) : Bool := decide (sf σ q ≤ x) && el σ q x
theorem cN_inr {σ : St} {q n : Nat} : cN (inr σ q) n = cN (el σ q) n - cN (el σ q) (if n < sf σ q then n else sf σ q) := by
  induction n with
  | zero => simp [cN]
  | succ k ih =>
    by_cases h1 : k + 1 < sf σ q
    · rw [if_pos h1]
      rw [if_pos (by omega)] at ih
      have h2 : inr σ q k = false := by simp [inr]; omega
      rw [cN_f h2, ih]
      omega
    · rw [if_neg h1]
      by_cases h2 : k < sf σ q
      · have h3 : sf σ q = k + 1 := by omega
        rw [if_pos h2] at ih
        have h4 : inr σ q k = false := by simp [inr]; omega
        rw [cN_f h4, ih, h3]
        omega
      · rw [if_neg h2] at ih
        have h4 : inr σ q k = el σ q k := by simp [inr]; omega
        have h5 := cN_mono (el σ q) (show sf σ q ≤ k by omega)
        cases hz : el σ q k with
        | true => rw [cN_t (h4.trans hz), cN_t hz, ih]; omega
        | false => rw [cN_f (h4.trans hz), cN_f hz, ih]
theorem rcn_inr {σ : St} {q : Nat} (h : sf σ q ≤ sn σ) : cN (inr σ q) (sn σ) = rcn σ q := by
  rw [cN_inr, if_neg (by omega)]
  rfl
def oI (e : Nat) (x : Int32) : Int32 := if e = 0 then x else 0
def oB (e : Nat) (b : Bool) : Bool := if e = 0 then b else false
def oS (e : Nat) (a b : St) : St := if e = 0 then a else b
def pl2 (e : Nat) : Nat := if e = 3 then 2 else e
def pl1 (e : Nat) : Nat := if e = 2 then 1 else e
theorem mX5_thrown_39 : Cond.fieldLink RX5 39 "FollowrowModel" "thrown" "I" ∈ wsX5_thrown := by decide +kernel
theorem iX5_thrown_5 : ∀ w ∈ wsX50, w ∈ wsX5_thrown := by decide +kernel
set_option maxHeartbeats 4000000 in
set_option maxRecDepth 100000 in
/-- thrown() -/
theorem c_X5_thrown (l : Launch) (g : GT) {am : Nat → Nat} {σ : St} {th : Nat} : rdM l g yX5_thrown wsX5_thrown 0 0 [.ref (am 0)] (wM g am (σ) (th)) (some (.int (nI (th)))) := by
  refine rd_of (cc := cX5_thrown) (maxL := 1) (ret := (some .int)) (by decide) rfl (Nat.le_of_ble_eq_true rfl) (fun p e s m below meth c ls hx hb hr hml hts hown hlocks hl hP hE => ?_)
  have hl : lv_has ls 1 [(0, .ref (am 0))] := hl
  have hown : s.vm.findClass RX5 = some m.cls := hown
  refine lv_aload_n hx hb dX5_thrown_0 rfl (lv_at hl 0 rfl) ?_
  refine gf (q0 := 0) (ci := 5) (k := 10) (v := .int (nI (th))) hx hb hts iX5_thrown_5 hown hE hP rfl rfl (by decide) mX5_thrown_39 rfl dX5_thrown_1 ?_
  exact rd_reti hx hb hr hlocks rfl dX5_thrown_4
set_option maxHeartbeats 4000000 in
set_option maxRecDepth 100000 in
/-- in(x, lo, hi) -/
theorem c_X5_in (l : Launch) (g : GT) {x lo hi : Int32} : rdM l g yX5_in wsX5_in 0 0 [.int (x), .int (lo), .int (hi)] ([]) (some (.int (bI (inB lo hi x)))) := by
  refine rd_of (cc := cX5_in) (maxL := 3) (ret := (some .boolean)) (by decide) rfl (Nat.le_of_ble_eq_true rfl) (fun p e s m below meth c ls hx hb hr hml hts hown hlocks hl hP hE => ?_)
  have hl : lv_has ls 3 [(0, .int (x)), (1, .int (lo)), (2, .int (hi))] := hl
  have hown : s.vm.findClass RX5 = some m.cls := hown
  refine lv_iload_n hx hb dX5_in_0 rfl (lv_at hl 0 rfl) ?_
  refine lv_iload_n hx hb dX5_in_1 rfl (lv_at hl 1 rfl) ?_
  refine lv_icmp_lt (tgt := 14) hx hb dX5_in_2 (by decide) (fun h137 => ?_) (fun h137 => ?_)
  · refine lv_iconst (v := bI (false)) hx hb dX5_in_14 (by decide) ?_
    exact rd_retz hx hb hr hlocks (inB_lo h137) dX5_in_15
  · refine lv_iload_n hx hb dX5_in_5 rfl (lv_at hl 0 rfl) ?_
    refine lv_iload_n hx hb dX5_in_6 rfl (lv_at hl 2 rfl) ?_
    refine lv_icmp_gt (tgt := 14) hx hb dX5_in_7 (by decide) (fun h138 => ?_) (fun h138 => ?_)
    · refine lv_iconst (v := bI (false)) hx hb dX5_in_14 (by decide) ?_
      exact rd_retz hx hb hr hlocks (inB_hi h138) dX5_in_15
    · refine lv_iconst (v := bI (true)) hx hb dX5_in_10 (by decide) ?_
      refine lv_goto (tgt := 15) hx hb dX5_in_11 (by decide) ?_
      exact rd_retz hx hb hr hlocks (inB_ok h137 h138) dX5_in_15
set_option maxHeartbeats 4000000 in
set_option maxRecDepth 100000 in
/-- isOne(x) -/
theorem c_X5_isOne (l : Launch) (g : GT) {x : Int32} : rdM l g yX5_isOne wsX5_isOne 1 22 [.int (x)] ([]) (some (.int (bI (isP x)))) := by
  refine rd_of (cc := cX5_isOne) (maxL := 1) (ret := (some .boolean)) (by decide) rfl (Nat.le_of_ble_eq_true rfl) (fun p e s m below meth c ls hx hb hr hml hts hown hlocks hl hP hE => ?_)
  have hl : lv_has ls 1 [(0, .int (x))] := hl
  have hown : s.vm.findClass RX5 = some m.cls := hown
  refine lv_iload_n hx hb dX5_isOne_0 rfl (lv_at hl 0 rfl) ?_
  refine lv_iconst (v := nI (0)) hx hb dX5_isOne_1 (by decide) ?_
  refine lv_bipush (v := nI (7)) hx hb dX5_isOne_2 (by decide) ?_
  refine rd_goS (rn_S ⟨hx, hb, hml, hown, hts⟩ (c_X5_in l g (x := x) (lo := nI (0)) (hi := nI (7))) gX5_isOne_X5_in rfl qX5_in ⟨Nat.le_of_ble_eq_true rfl, Nat.le_of_ble_eq_true rfl⟩ ⟨Nat.le_of_ble_eq_true rfl, Nat.le_of_ble_eq_true rfl⟩ (gP_nil) hE rfl hl.1 rfl (Nat.le_of_ble_eq_true rfl) dX5_isOne_4) ?_
  exact rd_retz hx hb hr hlocks (inB_isP x) dX5_isOne_7
theorem mX5_isEntry_46 : Cond.fieldLink RX5 46 "FollowrowModel" "entries" "I" ∈ wsX5_isEntry := by decide +kernel
theorem iX5_isEntry_5 : ∀ w ∈ wsX50, w ∈ wsX5_isEntry := by decide +kernel
set_option maxHeartbeats 4000000 in
set_option maxRecDepth 100000 in
/-- isEntry(x) -/
theorem c_X5_isEntry (l : Launch) (g : GT) {am : Nat → Nat} {σ : St} {th : Nat} (hI : Inv σ) {x : Int32} : rdM l g yX5_isEntry wsX5_isEntry 1 22 [.ref (am 0), .int (x)] (wM g am (σ) (th)) (some (.int (bI (isB x (sn σ))))) := by
  refine rd_of (cc := cX5_isEntry) (maxL := 2) (ret := (some .boolean)) (by decide) rfl (Nat.le_of_ble_eq_true rfl) (fun p e s m below meth c ls hx hb hr hml hts hown hlocks hl hP hE => ?_)
  have hl : lv_has ls 2 [(0, .ref (am 0)), (1, .int (x))] := hl
  have hown : s.vm.findClass RX5 = some m.cls := hown
  obtain ⟨hi1, hi2, hi3, hi4, hi5, hi6, hi7, hi8⟩ := id hI
  refine lv_iload_n hx hb dX5_isEntry_0 rfl (lv_at hl 1 rfl) ?_
  refine lv_iconst (v := nI (0)) hx hb dX5_isEntry_1 (by decide) ?_
  refine lv_aload_n hx hb dX5_isEntry_2 rfl (lv_at hl 0 rfl) ?_
  refine gf (q0 := 0) (ci := 5) (k := 6) (v := .int (nI (sn σ))) hx hb hts iX5_isEntry_5 hown hE hP rfl rfl (by decide) mX5_isEntry_46 rfl dX5_isEntry_3 ?_
  refine lv_iconst (v := nI (1)) hx hb dX5_isEntry_6 (by decide) ?_
  refine lv_isub hx hb dX5_isEntry_7 ?_
  refine tp_i (sub1 (sn σ)) ?_
  refine rd_goS (rn_S ⟨hx, hb, hml, hown, hts⟩ (c_X5_in l g (x := x) (lo := nI (0)) (hi := fI (sn σ))) gX5_isEntry_X5_in rfl qX5_in ⟨Nat.le_of_ble_eq_true rfl, Nat.le_of_ble_eq_true rfl⟩ ⟨Nat.le_of_ble_eq_true rfl, Nat.le_of_ble_eq_true rfl⟩ (gP_nil) hE rfl hl.1 rfl (Nat.le_of_ble_eq_true rfl) dX5_isEntry_8) ?_
  exact rd_retz hx hb hr hlocks (inB_isB (by omega)) dX5_isEntry_11
theorem mX5_followersOf_7 : Cond.fieldLink RX5 7 "FollowrowModel" "followed" "[Z" ∈ wsX5_followersOf := by decide +kernel
theorem iX5_followersOf_5 : ∀ w ∈ wsX50, w ∈ wsX5_followersOf := by decide +kernel
set_option maxHeartbeats 4000000 in
set_option maxRecDepth 100000 in
/-- followersOf(y) -/
theorem c_X5_followersOf (l : Launch) (g : GT) {am : Nat → Nat} {σ : St} {th : Nat} (hI : Inv σ) {y : Nat} (h2 : y < 8) : rdM l g yX5_followersOf wsX5_followersOf 0 0 [.ref (am 0), .int (nI (y))] (wM g am (σ) (th)) (some (.int (nI (fcnt (sF σ) y)))) := by
  refine rd_of (cc := cX5_followersOf) (maxL := 4) (ret := (some .int)) (by decide) rfl (Nat.le_of_ble_eq_true rfl) (fun p e s m below meth c ls hx hb hr hml hts hown hlocks hl hP hE => ?_)
  have hl : lv_has ls 4 [(0, .ref (am 0)), (1, .int (nI (y)))] := hl
  have hown : s.vm.findClass RX5 = some m.cls := hown
  refine lv_iconst (v := nI (0)) hx hb dX5_followersOf_0 (by decide) ?_
  refine lv_istore_n (lv' := [(2, .int (nI (0))), (0, .ref (am 0)), (1, .int (nI (y)))]) hx hb dX5_followersOf_1 rfl hl (by decide) rfl (fun ls hl => ?_)
  refine lv_iconst (v := nI (0)) hx hb dX5_followersOf_2 (by decide) ?_
  refine lv_istore_n (lv' := [(3, .int (nI (0))), (2, .int (nI (0))), (0, .ref (am 0)), (1, .int (nI (y)))]) hx hb dX5_followersOf_3 rfl hl (by decide) rfl (fun ls hl => ?_)
  have lp139 : ∀ (n9 i : Nat), 8 - i < n9 → (i ≤ 8) → ∀ ls : Array Slot, lv_has ls 4 [(0, .ref (am 0)), (1, .int (nI (y))), (2, .int (nI (cN (fun k => sF σ (8 * k + y)) i))), (3, .int (nI (i)))] → W p l e ({ frames := 0, cells := 0, slots := 0, locals := 0 } : Room) s m ([.ref (am 0), .int (nI (y))] : List Value).toArray below meth c s.heap [] 0 0 (MQ below (rdQ (some (.int (nI (fcnt (sF σ) y))))) ([.ref (am 0), .int (nI (y))] : List Value).toArray s 0 0 (fun _ => False)) (F0 m 4 ls []) := by
    intro n9
    induction n9 with
    | zero => intro i h; omega
    | succ n9 ih =>
      intro i h9 hi ls hl
      refine lv_iload_n hx hb dX5_followersOf_4 rfl (lv_at hl 3 rfl) ?_
      refine lv_bipush (v := nI (8)) hx hb dX5_followersOf_5 (by decide) ?_
      refine br_geN (a := i) (b := 8) (tgt := 38) hx hb (by omega) (by omega) dX5_followersOf_7 (by decide) (fun h140 => ?_) (fun h140 => ?_)
      · refine lv_iload_n hx hb dX5_followersOf_38 rfl (lv_at hl 2 rfl) ?_
        exact rd_reti hx hb hr hlocks (by rw [show i = 8 by omega]; rfl) dX5_followersOf_39
      · refine lv_iload_n hx hb dX5_followersOf_10 rfl (lv_at hl 2 rfl) ?_
        refine lv_aload_n hx hb dX5_followersOf_11 rfl (lv_at hl 0 rfl) ?_
        refine gf (q0 := 0) (ci := 5) (k := 0) (v := .ref (am 1)) hx hb hts iX5_followersOf_5 hown hE hP rfl rfl (by decide) mX5_followersOf_7 rfl dX5_followersOf_12 ?_
        refine lv_bipush (v := nI (8)) hx hb dX5_followersOf_15 (by decide) ?_
        refine lv_iload_n hx hb dX5_followersOf_17 rfl (lv_at hl 3 rfl) ?_
        refine lv_imul hx hb dX5_followersOf_18 ?_
        refine tp_i (pk_mul _ _) ?_
        refine lv_iload_n hx hb dX5_followersOf_19 rfl (lv_at hl 1 rfl) ?_
        refine lv_iadd hx hb dX5_followersOf_20 ?_
        refine tp_i (nI_add _ _) ?_
        refine ra_z (q0 := 1) (i := 8 * i + y) hx hb hE hP rfl (by omega) (by decide) dX5_followersOf_21 ?_
        refine br_eqB (tgt := 29) hx hb dX5_followersOf_22 (by decide) (fun h141 => ?_) (fun h141 => ?_)
        · refine lv_iconst (v := nI (0)) hx hb dX5_followersOf_29 (by decide) ?_
          refine lv_iadd hx hb dX5_followersOf_30 ?_
          refine tp_i (nI_add _ _) ?_
          refine lv_istore_n (lv' := [(2, .int (nI (cN (fun k => sF σ (8 * k + y)) i + 0))), (0, .ref (am 0)), (1, .int (nI (y))), (3, .int (nI (i)))]) hx hb dX5_followersOf_31 rfl hl (by decide) rfl (fun ls hl => ?_)
          refine lv_iinc (v := nI (i + 1)) (lv' := [(3, .int (nI (i + 1))), (2, .int (nI (cN (fun k => sF σ (8 * k + y)) i + 0))), (0, .ref (am 0)), (1, .int (nI (y)))]) hx hb dX5_followersOf_32 hl (k := 3) rfl (inc1 (i)) (by decide) rfl (fun ls hl => ?_)
          refine lv_goto (tgt := 4) hx hb dX5_followersOf_35 (by decide) ?_
          rw [← cN_f (P := fun k => sF σ (8 * k + y)) (k := i) h141] at hl
          exact ih (i + 1) (by omega) (by omega) ls (lv_sub hl [2, 3, 1, 0] rfl)
        · refine lv_iconst (v := nI (1)) hx hb dX5_followersOf_25 (by decide) ?_
          refine lv_goto (tgt := 30) hx hb dX5_followersOf_26 (by decide) ?_
          refine lv_iadd hx hb dX5_followersOf_30 ?_
          refine tp_i (nI_add _ _) ?_
          refine lv_istore_n (lv' := [(2, .int (nI (cN (fun k => sF σ (8 * k + y)) i + 1))), (0, .ref (am 0)), (1, .int (nI (y))), (3, .int (nI (i)))]) hx hb dX5_followersOf_31 rfl hl (by decide) rfl (fun ls hl => ?_)
          refine lv_iinc (v := nI (i + 1)) (lv' := [(3, .int (nI (i + 1))), (2, .int (nI (cN (fun k => sF σ (8 * k + y)) i + 1))), (0, .ref (am 0)), (1, .int (nI (y)))]) hx hb dX5_followersOf_32 hl (k := 3) rfl (inc1 (i)) (by decide) rfl (fun ls hl => ?_)
          refine lv_goto (tgt := 4) hx hb dX5_followersOf_35 (by decide) ?_
          rw [← cN_t (P := fun k => sF σ (8 * k + y)) (k := i) h141] at hl
          exact ih (i + 1) (by omega) (by omega) ls (lv_sub hl [2, 3, 1, 0] rfl)
  exact lp139 (8 + 1) (0) (by omega) (by omega) ls (lv_sub hl [2, 3, 1, 0] rfl)
theorem mX5_large_29 : Cond.fieldLink RX5 29 "FollowrowModel" "mark" "I" ∈ wsX5_large := by decide +kernel
theorem iX5_large_5 : ∀ w ∈ wsX50, w ∈ wsX5_large := by decide +kernel
set_option maxHeartbeats 4000000 in
set_option maxRecDepth 100000 in
/-- large(y) -/
theorem c_X5_large (l : Launch) (g : GT) {am : Nat → Nat} {σ : St} {th : Nat} (hI : Inv σ) {y : Nat} (h2 : y < 8) : rdM l g yX5_large wsX5_large 1 23 [.ref (am 0), .int (nI (y))] (wM g am (σ) (th)) (some (.int (bI (lg σ y)))) := by
  refine rd_of (cc := cX5_large) (maxL := 2) (ret := (some .boolean)) (by decide) rfl (Nat.le_of_ble_eq_true rfl) (fun p e s m below meth c ls hx hb hr hml hts hown hlocks hl hP hE => ?_)
  have hl : lv_has ls 2 [(0, .ref (am 0)), (1, .int (nI (y)))] := hl
  have hown : s.vm.findClass RX5 = some m.cls := hown
  obtain ⟨hi1, hi2, hi3, hi4, hi5, hi6, hi7, hi8⟩ := id hI
  refine lv_aload_n hx hb dX5_large_0 rfl (lv_at hl 0 rfl) ?_
  refine lv_iload_n hx hb dX5_large_1 rfl (lv_at hl 1 rfl) ?_
  refine rd_goS (rn_V ⟨hx, hb, hml, hown, hts⟩ (c_X5_followersOf l g (σ := σ) (th := th) hI (y := y) (by first | omega | exact hi5 _)) gX5_large_X5_followersOf rfl pX5_followersOf ⟨Nat.le_of_ble_eq_true rfl, Nat.le_of_ble_eq_true rfl⟩ ⟨Nat.le_of_ble_eq_true rfl, Nat.le_of_ble_eq_true rfl⟩ (hP) hE rfl rfl rfl hl.1 rfl (Nat.le_of_ble_eq_true rfl) dX5_large_2) ?_
  refine lv_aload_n hx hb dX5_large_5 rfl (lv_at hl 0 rfl) ?_
  refine gf (q0 := 0) (ci := 5) (k := 7) (v := .int (nI (sk σ))) hx hb hts iX5_large_5 hown hE hP rfl rfl (by decide) mX5_large_29 rfl dX5_large_6 ?_
  refine br_leN (a := fcnt (sF σ) (y)) (b := sk σ) (tgt := 16) hx hb (by have := fcnt_le (sF σ) (y); omega) (by omega) dX5_large_9 (by decide) (fun h142 => ?_) (fun h142 => ?_)
  · refine lv_iconst (v := bI (false)) hx hb dX5_large_16 (by decide) ?_
    exact rd_retz hx hb hr hlocks (decide_eq_false (p := sk σ < fcnt (sF σ) y) (by omega)).symm dX5_large_17
  · refine lv_iconst (v := bI (true)) hx hb dX5_large_12 (by decide) ?_
    refine lv_goto (tgt := 17) hx hb dX5_large_13 (by decide) ?_
    exact rd_retz hx hb hr hlocks (decide_eq_true (p := sk σ < fcnt (sF σ) y) (by omega)).symm dX5_large_17
theorem mX5_isInRow_7 : Cond.fieldLink RX5 7 "FollowrowModel" "followed" "[Z" ∈ wsX5_isInRow := by decide +kernel
theorem mX5_isInRow_19 : Cond.fieldLink RX5 19 "FollowrowModel" "author" "[I" ∈ wsX5_isInRow := by decide +kernel
theorem mX5_isInRow_26 : Cond.fieldLink RX5 26 "FollowrowModel" "isGone" "[Z" ∈ wsX5_isInRow := by decide +kernel
theorem mX5_isInRow_36 : Cond.fieldLink RX5 36 "FollowrowModel" "floor" "[I" ∈ wsX5_isInRow := by decide +kernel
theorem iX5_isInRow_5 : ∀ w ∈ wsX50, w ∈ wsX5_isInRow := by decide +kernel
set_option maxHeartbeats 4000000 in
set_option maxRecDepth 100000 in
/-- isInRow(q, x) -/
theorem c_X5_isInRow (l : Launch) (g : GT) {am : Nat → Nat} {σ : St} {th : Nat} (hI : Inv σ) {q x : Nat} (h1 : q < 8) (h2 : x < 150) : rdM l g yX5_isInRow wsX5_isInRow 2 44 [.ref (am 0), .int (nI (q)), .int (nI (x))] (wM g am (σ) (th)) (some (.int (bI (inr σ q x)))) := by
  refine rd_of (cc := cX5_isInRow) (maxL := 3) (ret := (some .boolean)) (by decide) rfl (Nat.le_of_ble_eq_true rfl) (fun p e s m below meth c ls hx hb hr hml hts hown hlocks hl hP hE => ?_)
  have hl : lv_has ls 3 [(0, .ref (am 0)), (1, .int (nI (q))), (2, .int (nI (x)))] := hl
  have hown : s.vm.findClass RX5 = some m.cls := hown
  obtain ⟨hi1, hi2, hi3, hi4, hi5, hi6, hi7, hi8⟩ := id hI
  have hfq := hi8 q h1
  refine lv_iload_n hx hb dX5_isInRow_0 rfl (lv_at hl 2 rfl) ?_
  refine lv_aload_n hx hb dX5_isInRow_1 rfl (lv_at hl 0 rfl) ?_
  refine gf (q0 := 0) (ci := 5) (k := 9) (v := .ref (am 7)) hx hb hts iX5_isInRow_5 hown hE hP rfl rfl (by decide) mX5_isInRow_36 rfl dX5_isInRow_2 ?_
  refine lv_iload_n hx hb dX5_isInRow_5 rfl (lv_at hl 1 rfl) ?_
  refine ra_i (q0 := 7) (i := q) hx hb hE hP rfl (by omega) (by decide) dX5_isInRow_6 ?_
  refine tp_i2 nI_fI ?_
  refine br_leF (a := x + 1) (b := sf σ (q)) (tgt := 55) hx hb (by omega) (by omega) dX5_isInRow_7 (by decide) (fun h143 => ?_) (fun h143 => ?_)
  · refine lv_iconst (v := bI (false)) hx hb dX5_isInRow_55 (by decide) ?_
    exact rd_retz hx hb hr hlocks (by have z9 : ¬ sf σ q ≤ x := (by omega); simp [inr, z9]) dX5_isInRow_56
  · refine lv_aload_n hx hb dX5_isInRow_10 rfl (lv_at hl 0 rfl) ?_
    refine gf (q0 := 0) (ci := 5) (k := 5) (v := .ref (am 6)) hx hb hts iX5_isInRow_5 hown hE hP rfl rfl (by decide) mX5_isInRow_26 rfl dX5_isInRow_11 ?_
    refine lv_iload_n hx hb dX5_isInRow_14 rfl (lv_at hl 2 rfl) ?_
    refine ra_z (q0 := 6) (i := x) hx hb hE hP rfl (by omega) (by decide) dX5_isInRow_15 ?_
    refine br_neB (tgt := 55) hx hb dX5_isInRow_16 (by decide) (fun h144 => ?_) (fun h144 => ?_)
    · refine lv_iconst (v := bI (false)) hx hb dX5_isInRow_55 (by decide) ?_
      exact rd_retz hx hb hr hlocks (by have z9 : sf σ q ≤ x := (by omega); simp [inr, el, z9, h144]) dX5_isInRow_56
    · refine lv_aload_n hx hb dX5_isInRow_19 rfl (lv_at hl 0 rfl) ?_
      refine gf (q0 := 0) (ci := 5) (k := 0) (v := .ref (am 1)) hx hb hts iX5_isInRow_5 hown hE hP rfl rfl (by decide) mX5_isInRow_7 rfl dX5_isInRow_20 ?_
      refine lv_bipush (v := nI (8)) hx hb dX5_isInRow_23 (by decide) ?_
      refine lv_iload_n hx hb dX5_isInRow_25 rfl (lv_at hl 1 rfl) ?_
      refine lv_imul hx hb dX5_isInRow_26 ?_
      refine tp_i (pk_mul _ _) ?_
      refine lv_aload_n hx hb dX5_isInRow_27 rfl (lv_at hl 0 rfl) ?_
      refine gf (q0 := 0) (ci := 5) (k := 3) (v := .ref (am 4)) hx hb hts iX5_isInRow_5 hown hE hP rfl rfl (by decide) mX5_isInRow_19 rfl dX5_isInRow_28 ?_
      refine lv_iload_n hx hb dX5_isInRow_31 rfl (lv_at hl 2 rfl) ?_
      refine ra_i (q0 := 4) (i := x) hx hb hE hP rfl (by omega) (by decide) dX5_isInRow_32 ?_
      refine lv_iadd hx hb dX5_isInRow_33 ?_
      refine tp_i (nI_add _ _) ?_
      refine ra_z (q0 := 1) (i := 8 * q + (sa σ (x))) hx hb hE hP rfl (by have := hi5 x; omega) (by decide) dX5_isInRow_34 ?_
      refine br_eqB (tgt := 55) hx hb dX5_isInRow_35 (by decide) (fun h145 => ?_) (fun h145 => ?_)
      · refine lv_iconst (v := bI (false)) hx hb dX5_isInRow_55 (by decide) ?_
        exact rd_retz hx hb hr hlocks (by have z9 : sf σ q ≤ x := (by omega); simp [inr, el, z9, h144, h145]) dX5_isInRow_56
      · refine lv_aload_n hx hb dX5_isInRow_38 rfl (lv_at hl 0 rfl) ?_
        refine lv_aload_n hx hb dX5_isInRow_39 rfl (lv_at hl 0 rfl) ?_
        refine gf (q0 := 0) (ci := 5) (k := 3) (v := .ref (am 4)) hx hb hts iX5_isInRow_5 hown hE hP rfl rfl (by decide) mX5_isInRow_19 rfl dX5_isInRow_40 ?_
        refine lv_iload_n hx hb dX5_isInRow_43 rfl (lv_at hl 2 rfl) ?_
        refine ra_i (q0 := 4) (i := x) hx hb hE hP rfl (by omega) (by decide) dX5_isInRow_44 ?_
        refine rd_goS (rn_V ⟨hx, hb, hml, hown, hts⟩ (c_X5_large l g (σ := σ) (th := th) hI (y := sa σ (x)) (by first | omega | exact hi5 _)) gX5_isInRow_X5_large rfl pX5_large ⟨Nat.le_of_ble_eq_true rfl, Nat.le_of_ble_eq_true rfl⟩ ⟨Nat.le_of_ble_eq_true rfl, Nat.le_of_ble_eq_true rfl⟩ (hP) hE rfl rfl rfl hl.1 rfl (Nat.le_of_ble_eq_true rfl) dX5_isInRow_45) ?_
        refine br_neB (tgt := 55) hx hb dX5_isInRow_48 (by decide) (fun h146 => ?_) (fun h146 => ?_)
        · refine lv_iconst (v := bI (false)) hx hb dX5_isInRow_55 (by decide) ?_
          exact rd_retz hx hb hr hlocks (by have z9 : sf σ q ≤ x := (by omega); simp [inr, el, z9, h144, h145, h146]) dX5_isInRow_56
        · refine lv_iconst (v := bI (true)) hx hb dX5_isInRow_51 (by decide) ?_
          refine lv_goto (tgt := 56) hx hb dX5_isInRow_52 (by decide) ?_
          exact rd_retz hx hb hr hlocks (by have z9 : sf σ q ≤ x := (by omega); simp [inr, el, z9, h144, h145, h146]) dX5_isInRow_56
theorem mX5_rowLength_46 : Cond.fieldLink RX5 46 "FollowrowModel" "entries" "I" ∈ wsX5_rowLength := by decide +kernel
theorem iX5_rowLength_5 : ∀ w ∈ wsX50, w ∈ wsX5_rowLength := by decide +kernel
set_option maxHeartbeats 4000000 in
set_option maxRecDepth 100000 in
/-- rowLength(q) -/
theorem c_X5_rowLength (l : Launch) (g : GT) {am : Nat → Nat} {σ : St} {th : Nat} (hI : Inv σ) {q : Nat} (h1 : q < 8) : rdM l g yX5_rowLength wsX5_rowLength 3 66 [.ref (am 0), .int (nI (q))] (wM g am (σ) (th)) (some (.int (nI (rcn σ q)))) := by
  refine rd_of (cc := cX5_rowLength) (maxL := 4) (ret := (some .int)) (by decide) rfl (Nat.le_of_ble_eq_true rfl) (fun p e s m below meth c ls hx hb hr hml hts hown hlocks hl hP hE => ?_)
  have hl : lv_has ls 4 [(0, .ref (am 0)), (1, .int (nI (q)))] := hl
  have hown : s.vm.findClass RX5 = some m.cls := hown
  obtain ⟨hi1, hi2, hi3, hi4, hi5, hi6, hi7, hi8⟩ := id hI
  refine lv_iconst (v := nI (0)) hx hb dX5_rowLength_0 (by decide) ?_
  refine lv_istore_n (lv' := [(2, .int (nI (0))), (0, .ref (am 0)), (1, .int (nI (q)))]) hx hb dX5_rowLength_1 rfl hl (by decide) rfl (fun ls hl => ?_)
  refine lv_iconst (v := nI (0)) hx hb dX5_rowLength_2 (by decide) ?_
  refine lv_istore_n (lv' := [(3, .int (nI (0))), (2, .int (nI (0))), (0, .ref (am 0)), (1, .int (nI (q)))]) hx hb dX5_rowLength_3 rfl hl (by decide) rfl (fun ls hl => ?_)
  have lp147 : ∀ (n9 i : Nat), sn σ - i < n9 → (i ≤ sn σ) → ∀ ls : Array Slot, lv_has ls 4 [(0, .ref (am 0)), (1, .int (nI (q))), (2, .int (nI (cN (inr σ q) i))), (3, .int (nI (i)))] → W p l e ({ frames := 3, cells := 0, slots := 0, locals := 66 } : Room) s m ([.ref (am 0), .int (nI (q))] : List Value).toArray below meth c s.heap [] 0 0 (MQ below (rdQ (some (.int (nI (rcn σ q))))) ([.ref (am 0), .int (nI (q))] : List Value).toArray s 0 0 (fun _ => False)) (F0 m 4 ls []) := by
    intro n9
    induction n9 with
    | zero => intro i h; omega
    | succ n9 ih =>
      intro i h9 hi ls hl
      refine lv_iload_n hx hb dX5_rowLength_4 rfl (lv_at hl 3 rfl) ?_
      refine lv_aload_n hx hb dX5_rowLength_5 rfl (lv_at hl 0 rfl) ?_
      refine gf (q0 := 0) (ci := 5) (k := 6) (v := .int (nI (sn σ))) hx hb hts iX5_rowLength_5 hown hE hP rfl rfl (by decide) mX5_rowLength_46 rfl dX5_rowLength_6 ?_
      refine br_geN (a := i) (b := sn σ) (tgt := 35) hx hb (by omega) (by omega) dX5_rowLength_9 (by decide) (fun h148 => ?_) (fun h148 => ?_)
      · refine lv_iload_n hx hb dX5_rowLength_35 rfl (lv_at hl 2 rfl) ?_
        exact rd_reti hx hb hr hlocks (by rw [show i = sn σ by omega, rcn_inr (hi8 q h1)]) dX5_rowLength_36
      · refine lv_iload_n hx hb dX5_rowLength_12 rfl (lv_at hl 2 rfl) ?_
        refine lv_aload_n hx hb dX5_rowLength_13 rfl (lv_at hl 0 rfl) ?_
        refine lv_iload_n hx hb dX5_rowLength_14 rfl (lv_at hl 1 rfl) ?_
        refine lv_iload_n hx hb dX5_rowLength_15 rfl (lv_at hl 3 rfl) ?_
        refine rd_goS (rn_V ⟨hx, hb, hml, hown, hts⟩ (c_X5_isInRow l g (σ := σ) (th := th) hI (q := q) (x := i) (by omega) (by omega)) gX5_rowLength_X5_isInRow rfl pX5_isInRow ⟨Nat.le_of_ble_eq_true rfl, Nat.le_of_ble_eq_true rfl⟩ ⟨Nat.le_of_ble_eq_true rfl, Nat.le_of_ble_eq_true rfl⟩ (hP) hE rfl rfl rfl hl.1 rfl (Nat.le_of_ble_eq_true rfl) dX5_rowLength_16) ?_
        refine br_eqB (tgt := 26) hx hb dX5_rowLength_19 (by decide) (fun h149 => ?_) (fun h149 => ?_)
        · refine lv_iconst (v := nI (0)) hx hb dX5_rowLength_26 (by decide) ?_
          refine lv_iadd hx hb dX5_rowLength_27 ?_
          refine tp_i (nI_add _ _) ?_
          refine lv_istore_n (lv' := [(2, .int (nI (cN (inr σ q) i + 0))), (0, .ref (am 0)), (1, .int (nI (q))), (3, .int (nI (i)))]) hx hb dX5_rowLength_28 rfl hl (by decide) rfl (fun ls hl => ?_)
          refine lv_iinc (v := nI (i + 1)) (lv' := [(3, .int (nI (i + 1))), (2, .int (nI (cN (inr σ q) i + 0))), (0, .ref (am 0)), (1, .int (nI (q)))]) hx hb dX5_rowLength_29 hl (k := 3) rfl (inc1 (i)) (by decide) rfl (fun ls hl => ?_)
          refine lv_goto (tgt := 4) hx hb dX5_rowLength_32 (by decide) ?_
          rw [← cN_f (P := inr σ q) (k := i) h149] at hl
          exact ih (i + 1) (by omega) (by omega) ls (lv_sub hl [2, 3, 1, 0] rfl)
        · refine lv_iconst (v := nI (1)) hx hb dX5_rowLength_22 (by decide) ?_
          refine lv_goto (tgt := 27) hx hb dX5_rowLength_23 (by decide) ?_
          refine lv_iadd hx hb dX5_rowLength_27 ?_
          refine tp_i (nI_add _ _) ?_
          refine lv_istore_n (lv' := [(2, .int (nI (cN (inr σ q) i + 1))), (0, .ref (am 0)), (1, .int (nI (q))), (3, .int (nI (i)))]) hx hb dX5_rowLength_28 rfl hl (by decide) rfl (fun ls hl => ?_)
          refine lv_iinc (v := nI (i + 1)) (lv' := [(3, .int (nI (i + 1))), (2, .int (nI (cN (inr σ q) i + 1))), (0, .ref (am 0)), (1, .int (nI (q)))]) hx hb dX5_rowLength_29 hl (k := 3) rfl (inc1 (i)) (by decide) rfl (fun ls hl => ?_)
          refine lv_goto (tgt := 4) hx hb dX5_rowLength_32 (by decide) ?_
          rw [← cN_t (P := inr σ q) (k := i) h149] at hl
          exact ih (i + 1) (by omega) (by omega) ls (lv_sub hl [2, 3, 1, 0] rfl)
  exact lp147 (sn σ + 1) (0) (by omega) (by omega) ls (lv_sub hl [2, 3, 1, 0] rfl)
theorem mX5_isDue_7 : Cond.fieldLink RX5 7 "FollowrowModel" "followed" "[Z" ∈ wsX5_isDue := by decide +kernel
theorem mX5_isDue_13 : Cond.fieldLink RX5 13 "FollowrowModel" "muted" "[Z" ∈ wsX5_isDue := by decide +kernel
theorem mX5_isDue_16 : Cond.fieldLink RX5 16 "FollowrowModel" "blocked" "[Z" ∈ wsX5_isDue := by decide +kernel
theorem mX5_isDue_19 : Cond.fieldLink RX5 19 "FollowrowModel" "author" "[I" ∈ wsX5_isDue := by decide +kernel
theorem mX5_isDue_23 : Cond.fieldLink RX5 23 "FollowrowModel" "origin" "[I" ∈ wsX5_isDue := by decide +kernel
theorem mX5_isDue_26 : Cond.fieldLink RX5 26 "FollowrowModel" "isGone" "[Z" ∈ wsX5_isDue := by decide +kernel
theorem mX5_isDue_36 : Cond.fieldLink RX5 36 "FollowrowModel" "floor" "[I" ∈ wsX5_isDue := by decide +kernel
theorem iX5_isDue_5 : ∀ w ∈ wsX50, w ∈ wsX5_isDue := by decide +kernel
set_option maxHeartbeats 4000000 in
set_option maxRecDepth 100000 in
/-- isDue(q, x) -/
theorem c_X5_isDue (l : Launch) (g : GT) {am : Nat → Nat} {σ : St} {th : Nat} (hI : Inv σ) {q x : Nat} (h1 : q < 8) (h2 : x < 150) : rdM l g yX5_isDue wsX5_isDue 0 0 [.ref (am 0), .int (nI (q)), .int (nI (x))] (wM g am (σ) (th)) (some (.int (bI (due σ q x)))) := by
  refine rd_of (cc := cX5_isDue) (maxL := 6) (ret := (some .boolean)) (by decide) rfl (Nat.le_of_ble_eq_true rfl) (fun p e s m below meth c ls hx hb hr hml hts hown hlocks hl hP hE => ?_)
  have hl : lv_has ls 6 [(0, .ref (am 0)), (1, .int (nI (q))), (2, .int (nI (x)))] := hl
  have hown : s.vm.findClass RX5 = some m.cls := hown
  obtain ⟨hi1, hi2, hi3, hi4, hi5, hi6, hi7, hi8⟩ := id hI
  have hfq := hi8 q h1
  have k5 := hi5 x
  have k6 := hi6 x
  have k7 := hi5 (so σ x)
  refine lv_aload_n hx hb dX5_isDue_0 rfl (lv_at hl 0 rfl) ?_
  refine gf (q0 := 0) (ci := 5) (k := 3) (v := .ref (am 4)) hx hb hts iX5_isDue_5 hown hE hP rfl rfl (by decide) mX5_isDue_19 rfl dX5_isDue_1 ?_
  refine lv_iload_n hx hb dX5_isDue_4 rfl (lv_at hl 2 rfl) ?_
  refine ra_i (q0 := 4) (i := x) hx hb hE hP rfl (by omega) (by decide) dX5_isDue_5 ?_
  refine lv_istore_n (lv' := [(3, .int (nI (sa σ (x)))), (0, .ref (am 0)), (1, .int (nI (q))), (2, .int (nI (x)))]) hx hb dX5_isDue_6 rfl hl (by decide) rfl (fun ls hl => ?_)
  refine lv_aload_n hx hb dX5_isDue_7 rfl (lv_at hl 1 rfl) ?_
  refine gf (q0 := 0) (ci := 5) (k := 3) (v := .ref (am 4)) hx hb hts iX5_isDue_5 hown hE hP rfl rfl (by decide) mX5_isDue_19 rfl dX5_isDue_8 ?_
  refine lv_aload_n hx hb dX5_isDue_11 rfl (lv_at hl 1 rfl) ?_
  refine gf (q0 := 0) (ci := 5) (k := 4) (v := .ref (am 5)) hx hb hts iX5_isDue_5 hown hE hP rfl rfl (by decide) mX5_isDue_23 rfl dX5_isDue_12 ?_
  refine lv_iload_n hx hb dX5_isDue_15 rfl (lv_at hl 3 rfl) ?_
  refine ra_i (q0 := 5) (i := x) hx hb hE hP rfl (by first | omega | (have := hi5 x; omega) | (have := hi6 x; omega) | (have := hi5 (so σ x); omega)) (by decide) dX5_isDue_16 ?_
  refine ra_i (q0 := 4) (i := so σ (x)) hx hb hE hP rfl (by first | omega | (have := hi5 x; omega) | (have := hi6 x; omega) | (have := hi5 (so σ x); omega)) (by decide) dX5_isDue_17 ?_
  refine lv_istore (lv' := [(4, .int (nI (sa σ (so σ (x))))), (3, .int (nI (sa σ (x)))), (0, .ref (am 0)), (1, .int (nI (q))), (2, .int (nI (x)))]) hx hb dX5_isDue_18 hl (by decide) rfl (fun ls hl => ?_)
  refine lv_aload_n hx hb dX5_isDue_20 rfl (lv_at hl 2 rfl) ?_
  refine gf (q0 := 0) (ci := 5) (k := 0) (v := .ref (am 1)) hx hb hts iX5_isDue_5 hown hE hP rfl rfl (by decide) mX5_isDue_7 rfl dX5_isDue_21 ?_
  refine lv_bipush (v := nI (8)) hx hb dX5_isDue_24 (by decide) ?_
  refine lv_iload_n hx hb dX5_isDue_26 rfl (lv_at hl 3 rfl) ?_
  refine lv_imul hx hb dX5_isDue_27 ?_
  refine tp_i (pk_mul _ _) ?_
  refine lv_iload_n hx hb dX5_isDue_28 rfl (lv_at hl 1 rfl) ?_
  refine lv_iadd hx hb dX5_isDue_29 ?_
  refine tp_i (nI_add _ _) ?_
  refine ra_z (q0 := 1) (i := 8 * q + (sa σ (x))) hx hb hE hP rfl (by first | omega | (have := hi5 x; omega) | (have := hi6 x; omega) | (have := hi5 (so σ x); omega)) (by decide) dX5_isDue_30 ?_
  refine br_eqB (tgt := 62) hx hb dX5_isDue_31 (by decide) (fun h150 => ?_) (fun h150 => ?_)
  · refine lv_iconst (v := bI (false)) hx hb dX5_isDue_62 (by decide) ?_
    refine lv_istore (lv' := [(5, .int (bI (false))), (4, .int (nI (sa σ (so σ (x))))), (3, .int (nI (sa σ (x)))), (0, .ref (am 0)), (1, .int (nI (q))), (2, .int (nI (x)))]) hx hb dX5_isDue_63 hl (by decide) rfl (fun ls hl => ?_)
    refine lv_iload hx hb dX5_isDue_65 (lv_at hl 0 rfl) ?_
    refine br_eqB (tgt := 97) hx hb dX5_isDue_67 (by decide) (fun h151 => ?_) (fun h151 => ?_)
    · refine lv_iconst (v := bI (false)) hx hb dX5_isDue_97 (by decide) ?_
      refine lv_istore (lv' := [(5, .int (bI (false))), (4, .int (nI (sa σ (so σ (x))))), (3, .int (nI (sa σ (x)))), (0, .ref (am 0)), (1, .int (nI (q))), (2, .int (nI (x)))]) hx hb dX5_isDue_98 hl (by decide) rfl (fun ls hl => ?_)
      refine lv_iload hx hb dX5_isDue_100 (lv_at hl 0 rfl) ?_
      refine br_eqB (tgt := 139) hx hb dX5_isDue_102 (by decide) (fun h152 => ?_) (fun h152 => ?_)
      · refine lv_iconst (v := bI (false)) hx hb dX5_isDue_139 (by decide) ?_
        exact rd_retz hx hb hr hlocks (by simp [due, hid, h150]) dX5_isDue_140
      · exact absurd h152 (by decide)
    · exact absurd h151 (by decide)
  · refine lv_aload_n hx hb dX5_isDue_34 rfl (lv_at hl 2 rfl) ?_
    refine gf (q0 := 0) (ci := 5) (k := 1) (v := .ref (am 2)) hx hb hts iX5_isDue_5 hown hE hP rfl rfl (by decide) mX5_isDue_13 rfl dX5_isDue_35 ?_
    refine lv_bipush (v := nI (8)) hx hb dX5_isDue_38 (by decide) ?_
    refine lv_iload_n hx hb dX5_isDue_40 rfl (lv_at hl 3 rfl) ?_
    refine lv_imul hx hb dX5_isDue_41 ?_
    refine tp_i (pk_mul _ _) ?_
    refine lv_iload_n hx hb dX5_isDue_42 rfl (lv_at hl 1 rfl) ?_
    refine lv_iadd hx hb dX5_isDue_43 ?_
    refine tp_i (nI_add _ _) ?_
    refine ra_z (q0 := 2) (i := 8 * q + (sa σ (x))) hx hb hE hP rfl (by omega) (by decide) dX5_isDue_44 ?_
    refine br_neB (tgt := 62) hx hb dX5_isDue_45 (by decide) (fun h153 => ?_) (fun h153 => ?_)
    · refine lv_iconst (v := bI (false)) hx hb dX5_isDue_62 (by decide) ?_
      refine lv_istore (lv' := [(5, .int (bI (false))), (4, .int (nI (sa σ (so σ (x))))), (3, .int (nI (sa σ (x)))), (0, .ref (am 0)), (1, .int (nI (q))), (2, .int (nI (x)))]) hx hb dX5_isDue_63 hl (by decide) rfl (fun ls hl => ?_)
      refine lv_iload hx hb dX5_isDue_65 (lv_at hl 0 rfl) ?_
      refine br_eqB (tgt := 97) hx hb dX5_isDue_67 (by decide) (fun h154 => ?_) (fun h154 => ?_)
      · refine lv_iconst (v := bI (false)) hx hb dX5_isDue_97 (by decide) ?_
        refine lv_istore (lv' := [(5, .int (bI (false))), (4, .int (nI (sa σ (so σ (x))))), (3, .int (nI (sa σ (x)))), (0, .ref (am 0)), (1, .int (nI (q))), (2, .int (nI (x)))]) hx hb dX5_isDue_98 hl (by decide) rfl (fun ls hl => ?_)
        refine lv_iload hx hb dX5_isDue_100 (lv_at hl 0 rfl) ?_
        refine br_eqB (tgt := 139) hx hb dX5_isDue_102 (by decide) (fun h155 => ?_) (fun h155 => ?_)
        · refine lv_iconst (v := bI (false)) hx hb dX5_isDue_139 (by decide) ?_
          exact rd_retz hx hb hr hlocks (by simp [due, hid, h150, h153]) dX5_isDue_140
        · exact absurd h155 (by decide)
      · exact absurd h154 (by decide)
    · refine lv_iload_n hx hb dX5_isDue_48 rfl (lv_at hl 4 rfl) ?_
      refine lv_aload_n hx hb dX5_isDue_49 rfl (lv_at hl 2 rfl) ?_
      refine gf (q0 := 0) (ci := 5) (k := 9) (v := .ref (am 7)) hx hb hts iX5_isDue_5 hown hE hP rfl rfl (by decide) mX5_isDue_36 rfl dX5_isDue_50 ?_
      refine lv_iload_n hx hb dX5_isDue_53 rfl (lv_at hl 3 rfl) ?_
      refine ra_i (q0 := 7) (i := q) hx hb hE hP rfl (by omega) (by decide) dX5_isDue_54 ?_
      refine tp_i2 nI_fI ?_
      refine br_leF (a := x + 1) (b := sf σ (q)) (tgt := 62) hx hb (by omega) (by omega) dX5_isDue_55 (by decide) (fun h156 => ?_) (fun h156 => ?_)
      · have z9 : ¬ sf σ q ≤ x := by omega
        refine lv_iconst (v := bI (false)) hx hb dX5_isDue_62 (by decide) ?_
        refine lv_istore (lv' := [(5, .int (bI (false))), (4, .int (nI (sa σ (so σ (x))))), (3, .int (nI (sa σ (x)))), (0, .ref (am 0)), (1, .int (nI (q))), (2, .int (nI (x)))]) hx hb dX5_isDue_63 hl (by decide) rfl (fun ls hl => ?_)
        refine lv_iload hx hb dX5_isDue_65 (lv_at hl 0 rfl) ?_
        refine br_eqB (tgt := 97) hx hb dX5_isDue_67 (by decide) (fun h157 => ?_) (fun h157 => ?_)
        · refine lv_iconst (v := bI (false)) hx hb dX5_isDue_97 (by decide) ?_
          refine lv_istore (lv' := [(5, .int (bI (false))), (4, .int (nI (sa σ (so σ (x))))), (3, .int (nI (sa σ (x)))), (0, .ref (am 0)), (1, .int (nI (q))), (2, .int (nI (x)))]) hx hb dX5_isDue_98 hl (by decide) rfl (fun ls hl => ?_)
          refine lv_iload hx hb dX5_isDue_100 (lv_at hl 0 rfl) ?_
          refine br_eqB (tgt := 139) hx hb dX5_isDue_102 (by decide) (fun h158 => ?_) (fun h158 => ?_)
          · refine lv_iconst (v := bI (false)) hx hb dX5_isDue_139 (by decide) ?_
            exact rd_retz hx hb hr hlocks (by simp [due, hid, h150, h153, z9]) dX5_isDue_140
          · exact absurd h158 (by decide)
        · exact absurd h157 (by decide)
      · have z9 : sf σ q ≤ x := by omega
        refine lv_iconst (v := bI (true)) hx hb dX5_isDue_58 (by decide) ?_
        refine lv_goto (tgt := 63) hx hb dX5_isDue_59 (by decide) ?_
        refine lv_istore (lv' := [(5, .int (bI (true))), (4, .int (nI (sa σ (so σ (x))))), (3, .int (nI (sa σ (x)))), (0, .ref (am 0)), (1, .int (nI (q))), (2, .int (nI (x)))]) hx hb dX5_isDue_63 hl (by decide) rfl (fun ls hl => ?_)
        refine lv_iload hx hb dX5_isDue_65 (lv_at hl 0 rfl) ?_
        refine br_eqB (tgt := 97) hx hb dX5_isDue_67 (by decide) (fun h159 => ?_) (fun h159 => ?_)
        · exact absurd h159 (by decide)
        · refine lv_aload_n hx hb dX5_isDue_70 rfl (lv_at hl 3 rfl) ?_
          refine gf (q0 := 0) (ci := 5) (k := 5) (v := .ref (am 6)) hx hb hts iX5_isDue_5 hown hE hP rfl rfl (by decide) mX5_isDue_26 rfl dX5_isDue_71 ?_
          refine lv_iload_n hx hb dX5_isDue_74 rfl (lv_at hl 5 rfl) ?_
          refine ra_z (q0 := 6) (i := x) hx hb hE hP rfl (by first | omega | (have := hi5 x; omega) | (have := hi6 x; omega) | (have := hi5 (so σ x); omega)) (by decide) dX5_isDue_75 ?_
          refine br_neB (tgt := 97) hx hb dX5_isDue_76 (by decide) (fun h160 => ?_) (fun h160 => ?_)
          · refine lv_iconst (v := bI (false)) hx hb dX5_isDue_97 (by decide) ?_
            refine lv_istore (lv' := [(5, .int (bI (false))), (4, .int (nI (sa σ (so σ (x))))), (3, .int (nI (sa σ (x)))), (0, .ref (am 0)), (1, .int (nI (q))), (2, .int (nI (x)))]) hx hb dX5_isDue_98 hl (by decide) rfl (fun ls hl => ?_)
            refine lv_iload hx hb dX5_isDue_100 (lv_at hl 0 rfl) ?_
            refine br_eqB (tgt := 139) hx hb dX5_isDue_102 (by decide) (fun h161 => ?_) (fun h161 => ?_)
            · refine lv_iconst (v := bI (false)) hx hb dX5_isDue_139 (by decide) ?_
              exact rd_retz hx hb hr hlocks (by simp [due, hid, h150, h153, z9, h160]) dX5_isDue_140
            · exact absurd h161 (by decide)
          · refine lv_aload_n hx hb dX5_isDue_79 rfl (lv_at hl 3 rfl) ?_
            refine gf (q0 := 0) (ci := 5) (k := 5) (v := .ref (am 6)) hx hb hts iX5_isDue_5 hown hE hP rfl rfl (by decide) mX5_isDue_26 rfl dX5_isDue_80 ?_
            refine lv_aload_n hx hb dX5_isDue_83 rfl (lv_at hl 3 rfl) ?_
            refine gf (q0 := 0) (ci := 5) (k := 4) (v := .ref (am 5)) hx hb hts iX5_isDue_5 hown hE hP rfl rfl (by decide) mX5_isDue_23 rfl dX5_isDue_84 ?_
            refine lv_iload_n hx hb dX5_isDue_87 rfl (lv_at hl 5 rfl) ?_
            refine ra_i (q0 := 5) (i := x) hx hb hE hP rfl (by omega) (by decide) dX5_isDue_88 ?_
            refine ra_z (q0 := 6) (i := so σ (x)) hx hb hE hP rfl (by first | omega | (have := hi5 x; omega) | (have := hi6 x; omega) | (have := hi5 (so σ x); omega)) (by decide) dX5_isDue_89 ?_
            refine br_neB (tgt := 97) hx hb dX5_isDue_90 (by decide) (fun h162 => ?_) (fun h162 => ?_)
            · refine lv_iconst (v := bI (false)) hx hb dX5_isDue_97 (by decide) ?_
              refine lv_istore (lv' := [(5, .int (bI (false))), (4, .int (nI (sa σ (so σ (x))))), (3, .int (nI (sa σ (x)))), (0, .ref (am 0)), (1, .int (nI (q))), (2, .int (nI (x)))]) hx hb dX5_isDue_98 hl (by decide) rfl (fun ls hl => ?_)
              refine lv_iload hx hb dX5_isDue_100 (lv_at hl 0 rfl) ?_
              refine br_eqB (tgt := 139) hx hb dX5_isDue_102 (by decide) (fun h163 => ?_) (fun h163 => ?_)
              · refine lv_iconst (v := bI (false)) hx hb dX5_isDue_139 (by decide) ?_
                exact rd_retz hx hb hr hlocks (by simp [due, hid, h150, h153, z9, h160, h162]) dX5_isDue_140
              · exact absurd h163 (by decide)
            · refine lv_iconst (v := bI (true)) hx hb dX5_isDue_93 (by decide) ?_
              refine lv_goto (tgt := 98) hx hb dX5_isDue_94 (by decide) ?_
              refine lv_istore (lv' := [(5, .int (bI (true))), (4, .int (nI (sa σ (so σ (x))))), (3, .int (nI (sa σ (x)))), (0, .ref (am 0)), (1, .int (nI (q))), (2, .int (nI (x)))]) hx hb dX5_isDue_98 hl (by decide) rfl (fun ls hl => ?_)
              refine lv_iload hx hb dX5_isDue_100 (lv_at hl 0 rfl) ?_
              refine br_eqB (tgt := 139) hx hb dX5_isDue_102 (by decide) (fun h164 => ?_) (fun h164 => ?_)
              · exact absurd h164 (by decide)
              · refine lv_aload_n hx hb dX5_isDue_105 rfl (lv_at hl 3 rfl) ?_
                refine gf (q0 := 0) (ci := 5) (k := 1) (v := .ref (am 2)) hx hb hts iX5_isDue_5 hown hE hP rfl rfl (by decide) mX5_isDue_13 rfl dX5_isDue_106 ?_
                refine lv_bipush (v := nI (8)) hx hb dX5_isDue_109 (by decide) ?_
                refine lv_iload_n hx hb dX5_isDue_111 rfl (lv_at hl 4 rfl) ?_
                refine lv_imul hx hb dX5_isDue_112 ?_
                refine tp_i (pk_mul _ _) ?_
                refine lv_iload hx hb dX5_isDue_113 (lv_at hl 1 rfl) ?_
                refine lv_iadd hx hb dX5_isDue_115 ?_
                refine tp_i (nI_add _ _) ?_
                refine ra_z (q0 := 2) (i := 8 * q + (sa σ (so σ (x)))) hx hb hE hP rfl (by omega) (by decide) dX5_isDue_116 ?_
                refine br_neB (tgt := 139) hx hb dX5_isDue_117 (by decide) (fun h165 => ?_) (fun h165 => ?_)
                · refine lv_iconst (v := bI (false)) hx hb dX5_isDue_139 (by decide) ?_
                  exact rd_retz hx hb hr hlocks (by simp [due, hid, h150, h153, z9, h160, h162, h165]) dX5_isDue_140
                · refine lv_aload_n hx hb dX5_isDue_120 rfl (lv_at hl 3 rfl) ?_
                  refine gf (q0 := 0) (ci := 5) (k := 2) (v := .ref (am 3)) hx hb hts iX5_isDue_5 hown hE hP rfl rfl (by decide) mX5_isDue_16 rfl dX5_isDue_121 ?_
                  refine lv_bipush (v := nI (8)) hx hb dX5_isDue_124 (by decide) ?_
                  refine lv_iload hx hb dX5_isDue_126 (lv_at hl 1 rfl) ?_
                  refine lv_imul hx hb dX5_isDue_128 ?_
                  refine tp_i (pk_mul _ _) ?_
                  refine lv_iload_n hx hb dX5_isDue_129 rfl (lv_at hl 4 rfl) ?_
                  refine lv_iadd hx hb dX5_isDue_130 ?_
                  refine tp_i (nI_add _ _) ?_
                  refine ra_z (q0 := 3) (i := 8 * (sa σ (so σ (x))) + q) hx hb hE hP rfl (by first | omega | (have := hi5 x; omega) | (have := hi6 x; omega) | (have := hi5 (so σ x); omega)) (by decide) dX5_isDue_131 ?_
                  refine br_neB (tgt := 139) hx hb dX5_isDue_132 (by decide) (fun h166 => ?_) (fun h166 => ?_)
                  · refine lv_iconst (v := bI (false)) hx hb dX5_isDue_139 (by decide) ?_
                    exact rd_retz hx hb hr hlocks (by simp [due, hid, h150, h153, z9, h160, h162, h165, h166]) dX5_isDue_140
                  · refine lv_iconst (v := bI (true)) hx hb dX5_isDue_135 (by decide) ?_
                    refine lv_goto (tgt := 140) hx hb dX5_isDue_136 (by decide) ?_
                    exact rd_retz hx hb hr hlocks (by simp [due, hid, h150, h153, z9, h160, h162, h165, h166]) dX5_isDue_140
theorem exB_s (P : Nat → Bool) (n : Nat) : exB P (n + 1) = (exB P n || P n) := rfl
theorem ish_0 (σ : St) (q x : Nat) : due σ q x = (due σ q x && !exB (fun k => decide (x < k) && (decide (so σ k = so σ x) && due σ q k)) (x + 1)) := by
  have h : exB (fun k => decide (x < k) && (decide (so σ k = so σ x) && due σ q k)) (x + 1) = false := exB_false.mpr (fun k hk => by rw [decide_eq_false (by omega)]; rfl)
  rw [h]
  simp
theorem ish_out {σ : St} {q x i : Nat} (hi : i ≤ sn σ) (h : (due σ q x && !exB (fun k => decide (x < k) && (decide (so σ k = so σ x) && due σ q k)) i) = false) : shw σ q x = false := by
  simp only [shw]
  cases hd : due σ q x with
  | false => rfl
  | true =>
    rw [hd] at h
    have h1 : exB (fun k => decide (x < k) && (decide (so σ k = so σ x) && due σ q k)) i = true := by simpa using h
    obtain ⟨k, hk, hp⟩ := (exB_iff _ _).mp h1
    have h2 : exB (fun k => decide (x < k) && (decide (so σ k = so σ x) && due σ q k)) (sn σ) = true := (exB_iff _ _).mpr ⟨k, by omega, hp⟩
    rw [h2]; rfl
theorem mX5_isShown_23 : Cond.fieldLink RX5 23 "FollowrowModel" "origin" "[I" ∈ wsX5_isShown := by decide +kernel
theorem mX5_isShown_46 : Cond.fieldLink RX5 46 "FollowrowModel" "entries" "I" ∈ wsX5_isShown := by decide +kernel
theorem iX5_isShown_5 : ∀ w ∈ wsX50, w ∈ wsX5_isShown := by decide +kernel
set_option maxHeartbeats 4000000 in
set_option maxRecDepth 100000 in
/-- isShown(q, x) -/
theorem c_X5_isShown (l : Launch) (g : GT) {am : Nat → Nat} {σ : St} {th : Nat} (hI : Inv σ) {q x : Nat} (h1 : q < 8) (h2 : x < sn σ) : rdM l g yX5_isShown wsX5_isShown 1 25 [.ref (am 0), .int (nI (q)), .int (nI (x))] (wM g am (σ) (th)) (some (.int (bI (shw σ q x)))) := by
  refine rd_of (cc := cX5_isShown) (maxL := 5) (ret := (some .boolean)) (by decide) rfl (Nat.le_of_ble_eq_true rfl) (fun p e s m below meth c ls hx hb hr hml hts hown hlocks hl hP hE => ?_)
  have hl : lv_has ls 5 [(0, .ref (am 0)), (1, .int (nI (q))), (2, .int (nI (x)))] := hl
  have hown : s.vm.findClass RX5 = some m.cls := hown
  obtain ⟨hi1, hi2, hi3, hi4, hi5, hi6, hi7, hi8⟩ := id hI
  refine lv_aload_n hx hb dX5_isShown_0 rfl (lv_at hl 0 rfl) ?_
  refine lv_iload_n hx hb dX5_isShown_1 rfl (lv_at hl 1 rfl) ?_
  refine lv_iload_n hx hb dX5_isShown_2 rfl (lv_at hl 2 rfl) ?_
  refine rd_goS (rn_V ⟨hx, hb, hml, hown, hts⟩ (c_X5_isDue l g (σ := σ) (th := th) hI (q := q) (x := x) (by omega) (by omega)) gX5_isShown_X5_isDue rfl pX5_isDue ⟨Nat.le_of_ble_eq_true rfl, Nat.le_of_ble_eq_true rfl⟩ ⟨Nat.le_of_ble_eq_true rfl, Nat.le_of_ble_eq_true rfl⟩ (hP) hE rfl rfl rfl hl.1 rfl (Nat.le_of_ble_eq_true rfl) dX5_isShown_3) ?_
  refine lv_istore_n (lv' := [(3, .int (bI (due σ q x))), (0, .ref (am 0)), (1, .int (nI (q))), (2, .int (nI (x)))]) hx hb dX5_isShown_6 rfl hl (by decide) rfl (fun ls hl => ?_)
  refine lv_iload_n hx hb dX5_isShown_7 rfl (lv_at hl 3 rfl) ?_
  refine lv_iconst (v := nI (1)) hx hb dX5_isShown_8 (by decide) ?_
  refine lv_iadd hx hb dX5_isShown_9 ?_
  refine tp_i (nI_add _ _) ?_
  refine lv_istore (lv' := [(4, .int (nI (x + 1))), (3, .int (bI (due σ q x))), (0, .ref (am 0)), (1, .int (nI (q))), (2, .int (nI (x)))]) hx hb dX5_isShown_10 hl (by decide) rfl (fun ls hl => ?_)
  have lp167 : ∀ (n9 : Nat) (i : Nat) (b9 : Bool), sn σ - i < n9 → (x < i) → (i ≤ sn σ) → (b9 = (due σ q x && !exB (fun k => decide (x < k) && (decide (so σ k = so σ x) && due σ q k)) i)) → ∀ ls : Array Slot, lv_has ls 5 [(0, .ref (am 0)), (1, .int (nI (q))), (2, .int (nI (x))), (3, .int (bI (b9))), (4, .int (nI (i)))] → W p l e ({ frames := 1, cells := 0, slots := 0, locals := 25 } : Room) s m ([.ref (am 0), .int (nI (q)), .int (nI (x))] : List Value).toArray below meth c s.heap [] 0 0 (MQ below (rdQ (some (.int (bI (shw σ q x))))) ([.ref (am 0), .int (nI (q)), .int (nI (x))] : List Value).toArray s 0 0 (fun _ => False)) (F0 m 12 ls []) := by
    intro n9
    induction n9 with
    | zero => intro i b9 h; omega
    | succ n9 ih =>
      intro i b9 h9 hi9 hi hb9 ls hl
      refine lv_iload hx hb dX5_isShown_12 (lv_at hl 4 rfl) ?_
      refine lv_aload_n hx hb dX5_isShown_14 rfl (lv_at hl 0 rfl) ?_
      refine gf (q0 := 0) (ci := 5) (k := 6) (v := .int (nI (sn σ))) hx hb hts iX5_isShown_5 hown hE hP rfl rfl (by decide) mX5_isShown_46 rfl dX5_isShown_15 ?_
      refine br_geN (a := i) (b := sn σ) (tgt := 63) hx hb (by omega) (by omega) dX5_isShown_18 (by decide) (fun h168 => ?_) (fun h168 => ?_)
      · refine lv_iload_n hx hb dX5_isShown_63 rfl (lv_at hl 3 rfl) ?_
        exact rd_retz hx hb hr hlocks (by rw [hb9, show i = sn σ by omega]; rfl) dX5_isShown_64
      · refine lv_iload_n hx hb dX5_isShown_21 rfl (lv_at hl 3 rfl) ?_
        refine br_eqB (tgt := 63) hx hb dX5_isShown_22 (by decide) (fun h169 => ?_) (fun h169 => ?_)
        · refine lv_iload_n hx hb dX5_isShown_63 rfl (lv_at hl 3 rfl) ?_
          exact rd_retz hx hb hr hlocks (by rw [ish_out hi (hb9.symm.trans h169)]; exact h169) dX5_isShown_64
        · refine lv_aload_n hx hb dX5_isShown_25 rfl (lv_at hl 0 rfl) ?_
          refine gf (q0 := 0) (ci := 5) (k := 4) (v := .ref (am 5)) hx hb hts iX5_isShown_5 hown hE hP rfl rfl (by decide) mX5_isShown_23 rfl dX5_isShown_26 ?_
          refine lv_iload hx hb dX5_isShown_29 (lv_at hl 4 rfl) ?_
          refine ra_i (q0 := 5) (i := i) hx hb hE hP rfl (by omega) (by decide) dX5_isShown_31 ?_
          refine lv_aload_n hx hb dX5_isShown_32 rfl (lv_at hl 0 rfl) ?_
          refine gf (q0 := 0) (ci := 5) (k := 4) (v := .ref (am 5)) hx hb hts iX5_isShown_5 hown hE hP rfl rfl (by decide) mX5_isShown_23 rfl dX5_isShown_33 ?_
          refine lv_iload_n hx hb dX5_isShown_36 rfl (lv_at hl 2 rfl) ?_
          refine ra_i (q0 := 5) (i := x) hx hb hE hP rfl (by omega) (by decide) dX5_isShown_37 ?_
          refine br_neN (a := so σ (i)) (b := so σ (x)) (tgt := 51) hx hb (by have := hi6 i; omega) (by have := hi6 x; omega) dX5_isShown_38 (by decide) (fun h170 => ?_) (fun h170 => ?_)
          · refine lv_iconst (v := bI (true)) hx hb dX5_isShown_51 (by decide) ?_
            refine lv_goto (tgt := 56) hx hb dX5_isShown_52 (by decide) ?_
            refine lv_istore_n (lv' := [(3, .int (bI (true))), (0, .ref (am 0)), (1, .int (nI (q))), (2, .int (nI (x))), (4, .int (nI (i)))]) hx hb dX5_isShown_56 rfl hl (by decide) rfl (fun ls hl => ?_)
            refine lv_iinc (v := nI (i + 1)) (lv' := [(4, .int (nI (i + 1))), (3, .int (bI (true))), (0, .ref (am 0)), (1, .int (nI (q))), (2, .int (nI (x)))]) hx hb dX5_isShown_57 hl (k := 4) rfl (inc1 (i)) (by decide) rfl (fun ls hl => ?_)
            refine lv_goto (tgt := 12) hx hb dX5_isShown_60 (by decide) ?_
            have z8 : x < i := by omega
            have z7 : (decide (x < i) && (decide (so σ i = so σ x) && due σ q i)) = false := by simp [h170]
            have z6 : true = (due σ q x && !exB (fun k => decide (x < k) && (decide (so σ k = so σ x) && due σ q k)) (i + 1)) := by rw [exB_s, z7, Bool.not_or, ← Bool.and_assoc, ← hb9, h169]; rfl
            exact ih (i + 1) true (by omega) (by omega) (by omega) z6 ls (lv_sub hl [2, 3, 4, 1, 0] rfl)
          · refine lv_aload_n hx hb dX5_isShown_41 rfl (lv_at hl 0 rfl) ?_
            refine lv_iload_n hx hb dX5_isShown_42 rfl (lv_at hl 1 rfl) ?_
            refine lv_iload hx hb dX5_isShown_43 (lv_at hl 4 rfl) ?_
            refine rd_goS (rn_V ⟨hx, hb, hml, hown, hts⟩ (c_X5_isDue l g (σ := σ) (th := th) hI (q := q) (x := i) (by omega) (by omega)) gX5_isShown_X5_isDue rfl pX5_isDue ⟨Nat.le_of_ble_eq_true rfl, Nat.le_of_ble_eq_true rfl⟩ ⟨Nat.le_of_ble_eq_true rfl, Nat.le_of_ble_eq_true rfl⟩ (hP) hE rfl rfl rfl hl.1 rfl (Nat.le_of_ble_eq_true rfl) dX5_isShown_45) ?_
            refine br_neB (tgt := 55) hx hb dX5_isShown_48 (by decide) (fun h171 => ?_) (fun h171 => ?_)
            · refine lv_iconst (v := bI (false)) hx hb dX5_isShown_55 (by decide) ?_
              refine lv_istore_n (lv' := [(3, .int (bI (false))), (0, .ref (am 0)), (1, .int (nI (q))), (2, .int (nI (x))), (4, .int (nI (i)))]) hx hb dX5_isShown_56 rfl hl (by decide) rfl (fun ls hl => ?_)
              refine lv_iinc (v := nI (i + 1)) (lv' := [(4, .int (nI (i + 1))), (3, .int (bI (false))), (0, .ref (am 0)), (1, .int (nI (q))), (2, .int (nI (x)))]) hx hb dX5_isShown_57 hl (k := 4) rfl (inc1 (i)) (by decide) rfl (fun ls hl => ?_)
              refine lv_goto (tgt := 12) hx hb dX5_isShown_60 (by decide) ?_
              have z8 : x < i := by omega
              have z7 : (decide (x < i) && (decide (so σ i = so σ x) && due σ q i)) = true := by simp [h170, h171, z8]
              have z6 : false = (due σ q x && !exB (fun k => decide (x < k) && (decide (so σ k = so σ x) && due σ q k)) (i + 1)) := by rw [exB_s, z7, Bool.not_or, ← Bool.and_assoc, ← hb9, h169]; rfl
              exact ih (i + 1) false (by omega) (by omega) (by omega) z6 ls (lv_sub hl [2, 3, 4, 1, 0] rfl)
            · refine lv_iconst (v := bI (true)) hx hb dX5_isShown_51 (by decide) ?_
              refine lv_goto (tgt := 56) hx hb dX5_isShown_52 (by decide) ?_
              refine lv_istore_n (lv' := [(3, .int (bI (true))), (0, .ref (am 0)), (1, .int (nI (q))), (2, .int (nI (x))), (4, .int (nI (i)))]) hx hb dX5_isShown_56 rfl hl (by decide) rfl (fun ls hl => ?_)
              refine lv_iinc (v := nI (i + 1)) (lv' := [(4, .int (nI (i + 1))), (3, .int (bI (true))), (0, .ref (am 0)), (1, .int (nI (q))), (2, .int (nI (x)))]) hx hb dX5_isShown_57 hl (k := 4) rfl (inc1 (i)) (by decide) rfl (fun ls hl => ?_)
              refine lv_goto (tgt := 12) hx hb dX5_isShown_60 (by decide) ?_
              have z8 : x < i := by omega
              have z7 : (decide (x < i) && (decide (so σ i = so σ x) && due σ q i)) = false := by simp [h170, h171, z8]
              have z6 : true = (due σ q x && !exB (fun k => decide (x < k) && (decide (so σ k = so σ x) && due σ q k)) (i + 1)) := by rw [exB_s, z7, Bool.not_or, ← Bool.and_assoc, ← hb9, h169]; rfl
              exact ih (i + 1) true (by omega) (by omega) (by omega) z6 ls (lv_sub hl [2, 3, 4, 1, 0] rfl)
  exact lp167 (_ + 1) (x + 1) (due σ q x) (Nat.lt_succ_self _) (by omega) (by omega) (ish_0 σ q x) ls (lv_sub hl [2, 3, 4, 1, 0] rfl)
theorem laB_f {P : Nat → Bool} {k : Nat} (h : P k = false) : laB P (k + 1) = laB P k := by simp [laB, h]
theorem laB_t {P : Nat → Bool} {k : Nat} (h : P k = true) : laB P (k + 1) = k + 1 := by simp [laB, h]
theorem mX5_nextBelow_46 : Cond.fieldLink RX5 46 "FollowrowModel" "entries" "I" ∈ wsX5_nextBelow := by decide +kernel
theorem iX5_nextBelow_5 : ∀ w ∈ wsX50, w ∈ wsX5_nextBelow := by decide +kernel
set_option maxHeartbeats 4000000 in
set_option maxRecDepth 100000 in
/-- nextBelow(q, y) -/
theorem c_X5_nextBelow (l : Launch) (g : GT) {am : Nat → Nat} {σ : St} {th : Nat} (hI : Inv σ) {q y : Nat} (h1 : q < 8) (h2 : y < 2 ^ 31) : rdM l g yX5_nextBelow wsX5_nextBelow 2 49 [.ref (am 0), .int (nI (q)), .int (nI (y))] (wM g am (σ) (th)) (some (.int (fI (laB (shw σ q) (cmin y (sn σ)))))) := by
  refine rd_of (cc := cX5_nextBelow) (maxL := 4) (ret := (some .int)) (by decide) rfl (Nat.le_of_ble_eq_true rfl) (fun p e s m below meth c ls hx hb hr hml hts hown hlocks hl hP hE => ?_)
  have hl : lv_has ls 4 [(0, .ref (am 0)), (1, .int (nI (q))), (2, .int (nI (y)))] := hl
  have hown : s.vm.findClass RX5 = some m.cls := hown
  obtain ⟨hi1, hi2, hi3, hi4, hi5, hi6, hi7, hi8⟩ := id hI
  refine lv_iload_n hx hb dX5_nextBelow_0 rfl (lv_at hl 2 rfl) ?_
  refine lv_aload_n hx hb dX5_nextBelow_1 rfl (lv_at hl 0 rfl) ?_
  refine gf (q0 := 0) (ci := 5) (k := 6) (v := .int (nI (sn σ))) hx hb hts iX5_nextBelow_5 hown hE hP rfl rfl (by decide) mX5_nextBelow_46 rfl dX5_nextBelow_2 ?_
  refine br_geN (a := y) (b := sn σ) (tgt := 12) hx hb (by omega) (by omega) dX5_nextBelow_5 (by decide) (fun h172 => ?_) (fun h172 => ?_)
  · refine lv_aload_n hx hb dX5_nextBelow_12 rfl (lv_at hl 0 rfl) ?_
    refine gf (q0 := 0) (ci := 5) (k := 6) (v := .int (nI (sn σ))) hx hb hts iX5_nextBelow_5 hown hE hP rfl rfl (by decide) mX5_nextBelow_46 rfl dX5_nextBelow_13 ?_
    refine lv_iconst (v := nI (1)) hx hb dX5_nextBelow_16 (by decide) ?_
    refine lv_isub hx hb dX5_nextBelow_17 ?_
    refine tp_i (sub1 (sn σ)) ?_
    refine lv_istore_n (lv' := [(3, .int (fI (sn σ))), (0, .ref (am 0)), (1, .int (nI (q))), (2, .int (nI (y)))]) hx hb dX5_nextBelow_18 rfl hl (by decide) rfl (fun ls hl => ?_)
    have h9 : cmin y (sn σ) = sn σ := by unfold cmin; first | rw [if_pos (by omega)] | rw [if_neg (by omega)]
    have lp173 : ∀ (n9 : Nat) (k : Nat), k < n9 → (k ≤ sn σ) → (laB (shw σ q) (cmin y (sn σ)) = laB (shw σ q) k) → ∀ ls : Array Slot, lv_has ls 4 [(0, .ref (am 0)), (1, .int (nI (q))), (2, .int (nI (y))), (3, .int (fI (k)))] → W p l e ({ frames := 2, cells := 0, slots := 0, locals := 49 } : Room) s m ([.ref (am 0), .int (nI (q)), .int (nI (y))] : List Value).toArray below meth c s.heap [] 0 0 (MQ below (rdQ (some (.int (fI (laB (shw σ q) (cmin y (sn σ))))))) ([.ref (am 0), .int (nI (q)), .int (nI (y))] : List Value).toArray s 0 0 (fun _ => False)) (F0 m 19 ls []) := by
      intro n9
      induction n9 with
      | zero => intro k h; omega
      | succ n9 ih =>
        intro k h9 hk1 hk9 ls hl
        refine lv_iload_n hx hb dX5_nextBelow_19 rfl (lv_at hl 3 rfl) ?_
        refine br_lt0F (tgt := 38) hx hb (by omega) dX5_nextBelow_20 (by decide) (fun h174 => ?_) (fun h174 => ?_)
        · refine lv_iload_n hx hb dX5_nextBelow_38 rfl (lv_at hl 3 rfl) ?_
          exact rd_reti hx hb hr hlocks (by rw [hk9, h174]; rfl) dX5_nextBelow_39
        · obtain ⟨j, rfl⟩ : ∃ j, k = j + 1 := ⟨k - 1, by omega⟩
          have hl : lv_has ls 4 [(0, .ref (am 0)), (1, .int (nI (q))), (2, .int (nI (y))), (3, .int (nI (j)))] := by rw [fI_succ] at hl; exact hl
          refine lv_aload_n hx hb dX5_nextBelow_23 rfl (lv_at hl 0 rfl) ?_
          refine lv_iload_n hx hb dX5_nextBelow_24 rfl (lv_at hl 1 rfl) ?_
          refine lv_iload_n hx hb dX5_nextBelow_25 rfl (lv_at hl 3 rfl) ?_
          refine rd_goS (rn_V ⟨hx, hb, hml, hown, hts⟩ (c_X5_isShown l g (σ := σ) (th := th) hI (q := q) (x := j) (by omega) (by omega)) gX5_nextBelow_X5_isShown rfl pX5_isShown ⟨Nat.le_of_ble_eq_true rfl, Nat.le_of_ble_eq_true rfl⟩ ⟨Nat.le_of_ble_eq_true rfl, Nat.le_of_ble_eq_true rfl⟩ (hP) hE rfl rfl rfl hl.1 rfl (Nat.le_of_ble_eq_true rfl) dX5_nextBelow_26) ?_
          refine br_neB (tgt := 38) hx hb dX5_nextBelow_29 (by decide) (fun h175 => ?_) (fun h175 => ?_)
          · refine lv_iload_n hx hb dX5_nextBelow_38 rfl (lv_at hl 3 rfl) ?_
            exact rd_reti hx hb hr hlocks (by rw [hk9, laB_t h175, nI_fI]) dX5_nextBelow_39
          · refine lv_iinc (v := fI (j)) (lv' := [(3, .int (fI (j))), (0, .ref (am 0)), (1, .int (nI (q))), (2, .int (nI (y)))]) hx hb dX5_nextBelow_32 hl (k := 3) rfl (decNF j) (by decide) rfl (fun ls hl => ?_)
            refine lv_goto (tgt := 19) hx hb dX5_nextBelow_35 (by decide) ?_
            exact ih j (by omega) (by omega) (by rw [hk9, laB_f h175]) ls (lv_sub hl [1, 2, 3, 0] rfl)
    exact lp173 (_ + 1) (sn σ) (Nat.lt_succ_self _) (by omega) (by rw [h9]) ls (lv_sub hl [1, 2, 3, 0] rfl)
  · refine lv_iload_n hx hb dX5_nextBelow_8 rfl (lv_at hl 2 rfl) ?_
    refine lv_goto (tgt := 16) hx hb dX5_nextBelow_9 (by decide) ?_
    refine lv_iconst (v := nI (1)) hx hb dX5_nextBelow_16 (by decide) ?_
    refine lv_isub hx hb dX5_nextBelow_17 ?_
    refine tp_i (sub1 (y)) ?_
    refine lv_istore_n (lv' := [(3, .int (fI (y))), (0, .ref (am 0)), (1, .int (nI (q))), (2, .int (nI (y)))]) hx hb dX5_nextBelow_18 rfl hl (by decide) rfl (fun ls hl => ?_)
    have h9 : cmin y (sn σ) = y := by unfold cmin; first | rw [if_pos (by omega)] | rw [if_neg (by omega)]
    have lp176 : ∀ (n9 : Nat) (k : Nat), k < n9 → (k ≤ sn σ) → (laB (shw σ q) (cmin y (sn σ)) = laB (shw σ q) k) → ∀ ls : Array Slot, lv_has ls 4 [(0, .ref (am 0)), (1, .int (nI (q))), (2, .int (nI (y))), (3, .int (fI (k)))] → W p l e ({ frames := 2, cells := 0, slots := 0, locals := 49 } : Room) s m ([.ref (am 0), .int (nI (q)), .int (nI (y))] : List Value).toArray below meth c s.heap [] 0 0 (MQ below (rdQ (some (.int (fI (laB (shw σ q) (cmin y (sn σ))))))) ([.ref (am 0), .int (nI (q)), .int (nI (y))] : List Value).toArray s 0 0 (fun _ => False)) (F0 m 19 ls []) := by
      intro n9
      induction n9 with
      | zero => intro k h; omega
      | succ n9 ih =>
        intro k h9 hk1 hk9 ls hl
        refine lv_iload_n hx hb dX5_nextBelow_19 rfl (lv_at hl 3 rfl) ?_
        refine br_lt0F (tgt := 38) hx hb (by omega) dX5_nextBelow_20 (by decide) (fun h177 => ?_) (fun h177 => ?_)
        · refine lv_iload_n hx hb dX5_nextBelow_38 rfl (lv_at hl 3 rfl) ?_
          exact rd_reti hx hb hr hlocks (by rw [hk9, h177]; rfl) dX5_nextBelow_39
        · obtain ⟨j, rfl⟩ : ∃ j, k = j + 1 := ⟨k - 1, by omega⟩
          have hl : lv_has ls 4 [(0, .ref (am 0)), (1, .int (nI (q))), (2, .int (nI (y))), (3, .int (nI (j)))] := by rw [fI_succ] at hl; exact hl
          refine lv_aload_n hx hb dX5_nextBelow_23 rfl (lv_at hl 0 rfl) ?_
          refine lv_iload_n hx hb dX5_nextBelow_24 rfl (lv_at hl 1 rfl) ?_
          refine lv_iload_n hx hb dX5_nextBelow_25 rfl (lv_at hl 3 rfl) ?_
          refine rd_goS (rn_V ⟨hx, hb, hml, hown, hts⟩ (c_X5_isShown l g (σ := σ) (th := th) hI (q := q) (x := j) (by omega) (by omega)) gX5_nextBelow_X5_isShown rfl pX5_isShown ⟨Nat.le_of_ble_eq_true rfl, Nat.le_of_ble_eq_true rfl⟩ ⟨Nat.le_of_ble_eq_true rfl, Nat.le_of_ble_eq_true rfl⟩ (hP) hE rfl rfl rfl hl.1 rfl (Nat.le_of_ble_eq_true rfl) dX5_nextBelow_26) ?_
          refine br_neB (tgt := 38) hx hb dX5_nextBelow_29 (by decide) (fun h178 => ?_) (fun h178 => ?_)
          · refine lv_iload_n hx hb dX5_nextBelow_38 rfl (lv_at hl 3 rfl) ?_
            exact rd_reti hx hb hr hlocks (by rw [hk9, laB_t h178, nI_fI]) dX5_nextBelow_39
          · refine lv_iinc (v := fI (j)) (lv' := [(3, .int (fI (j))), (0, .ref (am 0)), (1, .int (nI (q))), (2, .int (nI (y)))]) hx hb dX5_nextBelow_32 hl (k := 3) rfl (decNF j) (by decide) rfl (fun ls hl => ?_)
            refine lv_goto (tgt := 19) hx hb dX5_nextBelow_35 (by decide) ?_
            exact ih j (by omega) (by omega) (by rw [hk9, laB_f h178]) ls (lv_sub hl [1, 2, 3, 0] rfl)
    exact lp176 (_ + 1) (y) (Nat.lt_succ_self _) (by omega) (by rw [h9]) ls (lv_sub hl [1, 2, 3, 0] rfl)
