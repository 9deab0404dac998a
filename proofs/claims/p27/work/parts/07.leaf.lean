/-! what a call asks of a name -/
theorem qX0_init : pM yX0_init 0 := by decide +kernel
theorem pX0_init : yX0_init.cls = RX0 ∧ pM yX0_init 0 := ⟨rfl, qX0_init⟩
theorem qX0_made : pM yX0_made 0 := by decide +kernel
theorem pX0_made : yX0_made.cls = RX0 ∧ pM yX0_made 0 := ⟨rfl, qX0_made⟩
theorem qX0_has : pM yX0_has 1 := by decide +kernel
theorem pX0_has : yX0_has.cls = RX0 ∧ pM yX0_has 1 := ⟨rfl, qX0_has⟩
theorem qX0_stands : pM yX0_stands 1 := by decide +kernel
theorem pX0_stands : yX0_stands.cls = RX0 ∧ pM yX0_stands 1 := ⟨rfl, qX0_stands⟩
theorem qX0_author : pM yX0_author 1 := by decide +kernel
theorem pX0_author : yX0_author.cls = RX0 ∧ pM yX0_author 1 := ⟨rfl, qX0_author⟩
theorem qX0_origin : pM yX0_origin 1 := by decide +kernel
theorem pX0_origin : yX0_origin.cls = RX0 ∧ pM yX0_origin 1 := ⟨rfl, qX0_origin⟩
theorem qX0_add : pM yX0_add 2 := by decide +kernel
theorem pX0_add : yX0_add.cls = RX0 ∧ pM yX0_add 2 := ⟨rfl, qX0_add⟩
theorem qX0_remove : pM yX0_remove 1 := by decide +kernel
theorem pX0_remove : yX0_remove.cls = RX0 ∧ pM yX0_remove 1 := ⟨rfl, qX0_remove⟩
theorem qX0_countStandingOf : pM yX0_countStandingOf 1 := by decide +kernel
theorem pX0_countStandingOf : yX0_countStandingOf.cls = RX0 ∧ pM yX0_countStandingOf 1 := ⟨rfl, qX0_countStandingOf⟩
theorem qX1_init : pM yX1_init 0 := by decide +kernel
theorem pX1_init : yX1_init.cls = RX1 ∧ pM yX1_init 0 := ⟨rfl, qX1_init⟩
theorem qX1_has : pM yX1_has 2 := by decide +kernel
theorem pX1_has : yX1_has.cls = RX1 ∧ pM yX1_has 2 := ⟨rfl, qX1_has⟩
theorem qX1_put : pM yX1_put 3 := by decide +kernel
theorem pX1_put : yX1_put.cls = RX1 ∧ pM yX1_put 3 := ⟨rfl, qX1_put⟩
theorem qX1_countTo : pM yX1_countTo 1 := by decide +kernel
theorem pX1_countTo : yX1_countTo.cls = RX1 ∧ pM yX1_countTo 1 := ⟨rfl, qX1_countTo⟩
theorem qX2_init : pM yX2_init 1 := by decide +kernel
theorem pX2_init : yX2_init.cls = RX2 ∧ pM yX2_init 1 := ⟨rfl, qX2_init⟩
theorem qX2_owner : pM yX2_owner 0 := by decide +kernel
theorem pX2_owner : yX2_owner.cls = RX2 ∧ pM yX2_owner 0 := ⟨rfl, qX2_owner⟩
theorem qX2_floor : pM yX2_floor 0 := by decide +kernel
theorem pX2_floor : yX2_floor.cls = RX2 ∧ pM yX2_floor 0 := ⟨rfl, qX2_floor⟩
theorem qX2_raiseFloor : pM yX2_raiseFloor 1 := by decide +kernel
theorem pX2_raiseFloor : yX2_raiseFloor.cls = RX2 ∧ pM yX2_raiseFloor 1 := ⟨rfl, qX2_raiseFloor⟩
theorem qX2_count : pM yX2_count 0 := by decide +kernel
theorem pX2_count : yX2_count.cls = RX2 ∧ pM yX2_count 0 := ⟨rfl, qX2_count⟩
theorem qX2_fromNewest : pM yX2_fromNewest 1 := by decide +kernel
theorem pX2_fromNewest : yX2_fromNewest.cls = RX2 ∧ pM yX2_fromNewest 1 := ⟨rfl, qX2_fromNewest⟩
theorem qX2_empty : pM yX2_empty 0 := by decide +kernel
theorem pX2_empty : yX2_empty.cls = RX2 ∧ pM yX2_empty 0 := ⟨rfl, qX2_empty⟩
theorem qX2_addBelow : pM yX2_addBelow 1 := by decide +kernel
theorem pX2_addBelow : yX2_addBelow.cls = RX2 ∧ pM yX2_addBelow 1 := ⟨rfl, qX2_addBelow⟩
theorem qX3_init : pM yX3_init 0 := by decide +kernel
theorem pX3_init : yX3_init.cls = RX3 ∧ pM yX3_init 0 := ⟨rfl, qX3_init⟩
theorem qX3_count : pM yX3_count 0 := by decide +kernel
theorem pX3_count : yX3_count.cls = RX3 ∧ pM yX3_count 0 := ⟨rfl, qX3_count⟩
theorem qX3_at : pM yX3_at 1 := by decide +kernel
theorem pX3_at : yX3_at.cls = RX3 ∧ pM yX3_at 1 := ⟨rfl, qX3_at⟩
theorem qX3_placeBelow : pM yX3_placeBelow 1 := by decide +kernel
theorem pX3_placeBelow : yX3_placeBelow.cls = RX3 ∧ pM yX3_placeBelow 1 := ⟨rfl, qX3_placeBelow⟩
theorem qX3_empty : pM yX3_empty 0 := by decide +kernel
theorem pX3_empty : yX3_empty.cls = RX3 ∧ pM yX3_empty 0 := ⟨rfl, qX3_empty⟩
theorem qX3_addBelow : pM yX3_addBelow 2 := by decide +kernel
theorem pX3_addBelow : yX3_addBelow.cls = RX3 ∧ pM yX3_addBelow 2 := ⟨rfl, qX3_addBelow⟩
theorem qX4_init : pM yX4_init 0 := by decide +kernel
theorem pX4_init : yX4_init.cls = RX4 ∧ pM yX4_init 0 := ⟨rfl, qX4_init⟩
theorem qX4_follow : pM yX4_follow 2 := by decide +kernel
theorem pX4_follow : yX4_follow.cls = RX4 ∧ pM yX4_follow 2 := ⟨rfl, qX4_follow⟩
theorem qX4_unfollow : pM yX4_unfollow 2 := by decide +kernel
theorem pX4_unfollow : yX4_unfollow.cls = RX4 ∧ pM yX4_unfollow 2 := ⟨rfl, qX4_unfollow⟩
theorem qX4_mute : pM yX4_mute 3 := by decide +kernel
theorem pX4_mute : yX4_mute.cls = RX4 ∧ pM yX4_mute 3 := ⟨rfl, qX4_mute⟩
theorem qX4_block : pM yX4_block 3 := by decide +kernel
theorem pX4_block : yX4_block.cls = RX4 ∧ pM yX4_block 3 := ⟨rfl, qX4_block⟩
theorem qX4_post : pM yX4_post 1 := by decide +kernel
theorem pX4_post : yX4_post.cls = RX4 ∧ pM yX4_post 1 := ⟨rfl, qX4_post⟩
theorem qX4_repost : pM yX4_repost 2 := by decide +kernel
theorem pX4_repost : yX4_repost.cls = RX4 ∧ pM yX4_repost 2 := ⟨rfl, qX4_repost⟩
theorem qX4_delete : pM yX4_delete 1 := by decide +kernel
theorem pX4_delete : yX4_delete.cls = RX4 ∧ pM yX4_delete 1 := ⟨rfl, qX4_delete⟩
theorem qX4_setMark : pM yX4_setMark 1 := by decide +kernel
theorem pX4_setMark : yX4_setMark.cls = RX4 ∧ pM yX4_setMark 1 := ⟨rfl, qX4_setMark⟩
theorem qX4_setRoom : pM yX4_setRoom 1 := by decide +kernel
theorem pX4_setRoom : yX4_setRoom.cls = RX4 ∧ pM yX4_setRoom 1 := ⟨rfl, qX4_setRoom⟩
theorem qX4_entries : pM yX4_entries 0 := by decide +kernel
theorem pX4_entries : yX4_entries.cls = RX4 ∧ pM yX4_entries 0 := ⟨rfl, qX4_entries⟩
theorem qX4_authorOf : pM yX4_authorOf 1 := by decide +kernel
theorem pX4_authorOf : yX4_authorOf.cls = RX4 ∧ pM yX4_authorOf 1 := ⟨rfl, qX4_authorOf⟩
theorem qX4_originOf : pM yX4_originOf 1 := by decide +kernel
theorem pX4_originOf : yX4_originOf.cls = RX4 ∧ pM yX4_originOf 1 := ⟨rfl, qX4_originOf⟩
theorem qX4_follows : pM yX4_follows 2 := by decide +kernel
theorem pX4_follows : yX4_follows.cls = RX4 ∧ pM yX4_follows 2 := ⟨rfl, qX4_follows⟩
theorem qX4_followers : pM yX4_followers 1 := by decide +kernel
theorem pX4_followers : yX4_followers.cls = RX4 ∧ pM yX4_followers 1 := ⟨rfl, qX4_followers⟩
theorem qX4_isLarge : pM yX4_isLarge 1 := by decide +kernel
theorem pX4_isLarge : yX4_isLarge.cls = RX4 ∧ pM yX4_isLarge 1 := ⟨rfl, qX4_isLarge⟩
theorem qX4_inRow : pM yX4_inRow 1 := by decide +kernel
theorem pX4_inRow : yX4_inRow.cls = RX4 ∧ pM yX4_inRow 1 := ⟨rfl, qX4_inRow⟩
theorem qX4_rowAt : pM yX4_rowAt 2 := by decide +kernel
theorem pX4_rowAt : yX4_rowAt.cls = RX4 ∧ pM yX4_rowAt 2 := ⟨rfl, qX4_rowAt⟩
theorem qX4_floorOf : pM yX4_floorOf 1 := by decide +kernel
theorem pX4_floorOf : yX4_floorOf.cls = RX4 ∧ pM yX4_floorOf 1 := ⟨rfl, qX4_floorOf⟩
theorem qX4_shows : pM yX4_shows 2 := by decide +kernel
theorem pX4_shows : yX4_shows.cls = RX4 ∧ pM yX4_shows 2 := ⟨rfl, qX4_shows⟩
theorem qX4_next : pM yX4_next 2 := by decide +kernel
theorem pX4_next : yX4_next.cls = RX4 ∧ pM yX4_next 2 := ⟨rfl, qX4_next⟩
theorem qX4_pageEnd : pM yX4_pageEnd 3 := by decide +kernel
theorem pX4_pageEnd : yX4_pageEnd.cls = RX4 ∧ pM yX4_pageEnd 3 := ⟨rfl, qX4_pageEnd⟩
theorem qX4_length : pM yX4_length 1 := by decide +kernel
theorem pX4_length : yX4_length.cls = RX4 ∧ pM yX4_length 1 := ⟨rfl, qX4_length⟩
theorem qX4_lengthByMerging : pM yX4_lengthByMerging 1 := by decide +kernel
theorem pX4_lengthByMerging : yX4_lengthByMerging.cls = RX4 ∧ pM yX4_lengthByMerging 1 := ⟨rfl, qX4_lengthByMerging⟩
theorem qX4_hasGap : pM yX4_hasGap 1 := by decide +kernel
theorem pX4_hasGap : yX4_hasGap.cls = RX4 ∧ pM yX4_hasGap 1 := ⟨rfl, qX4_hasGap⟩
theorem qX4_isPerson : pM yX4_isPerson 1 := by decide +kernel
theorem qX4_checkPerson : pM yX4_checkPerson 1 := by decide +kernel
theorem qX4_checkDifferent : pM yX4_checkDifferent 2 := by decide +kernel
theorem qX4_checkRange : pM yX4_checkRange 3 := by decide +kernel
theorem qX4_checkEntry : pM yX4_checkEntry 1 := by decide +kernel
theorem pX4_checkEntry : yX4_checkEntry.cls = RX4 ∧ pM yX4_checkEntry 1 := ⟨rfl, qX4_checkEntry⟩
theorem qX4_checkPlace : pM yX4_checkPlace 0 := by decide +kernel
theorem pX4_checkPlace : yX4_checkPlace.cls = RX4 ∧ pM yX4_checkPlace 0 := ⟨rfl, qX4_checkPlace⟩
theorem qX4_rowOf : pM yX4_rowOf 1 := by decide +kernel
theorem pX4_rowOf : yX4_rowOf.cls = RX4 ∧ pM yX4_rowOf 1 := ⟨rfl, qX4_rowOf⟩
theorem qX4_isOverMark : pM yX4_isOverMark 1 := by decide +kernel
theorem pX4_isOverMark : yX4_isOverMark.cls = RX4 ∧ pM yX4_isOverMark 1 := ⟨rfl, qX4_isOverMark⟩
theorem qX4_countLarge : pM yX4_countLarge 0 := by decide +kernel
theorem pX4_countLarge : yX4_countLarge.cls = RX4 ∧ pM yX4_countLarge 0 := ⟨rfl, qX4_countLarge⟩
theorem qX4_settleRows : pM yX4_settleRows 0 := by decide +kernel
theorem pX4_settleRows : yX4_settleRows.cls = RX4 ∧ pM yX4_settleRows 0 := ⟨rfl, qX4_settleRows⟩
theorem qX4_settleRow : pM yX4_settleRow 1 := by decide +kernel
theorem pX4_settleRow : yX4_settleRow.cls = RX4 ∧ pM yX4_settleRow 1 := ⟨rfl, qX4_settleRow⟩
theorem qX4_isForRow : pM yX4_isForRow 2 := by decide +kernel
theorem pX4_isForRow : yX4_isForRow.cls = RX4 ∧ pM yX4_isForRow 2 := ⟨rfl, qX4_isForRow⟩
theorem qX4_readTimeline : pM yX4_readTimeline 1 := by decide +kernel
theorem pX4_readTimeline : yX4_readTimeline.cls = RX4 ∧ pM yX4_readTimeline 1 := ⟨rfl, qX4_readTimeline⟩
theorem qX4_mergeTimeline : pM yX4_mergeTimeline 2 := by decide +kernel
theorem pX4_mergeTimeline : yX4_mergeTimeline.cls = RX4 ∧ pM yX4_mergeTimeline 2 := ⟨rfl, qX4_mergeTimeline⟩
theorem qX4_isFetched : pM yX4_isFetched 2 := by decide +kernel
theorem pX4_isFetched : yX4_isFetched.cls = RX4 ∧ pM yX4_isFetched 2 := ⟨rfl, qX4_isFetched⟩
theorem qX4_offer : pM yX4_offer 2 := by decide +kernel
theorem pX4_offer : yX4_offer.cls = RX4 ∧ pM yX4_offer 2 := ⟨rfl, qX4_offer⟩
theorem qX4_isHidden : pM yX4_isHidden 2 := by decide +kernel
theorem pX4_isHidden : yX4_isHidden.cls = RX4 ∧ pM yX4_isHidden 2 := ⟨rfl, qX4_isHidden⟩
theorem gP_nil {g : GT} {H : Heap} : gP g [] H := fun k q h => by simp at h
theorem isB_neg {x : Int32} {n : Nat} (h : x < 0) : false = isB x n := by
  have h1 : x.toInt < 0 := Int32.lt_iff_toInt_lt.mp h
  simp only [isB]
  rw [decide_eq_false (by omega)]
  rfl
theorem isB_big {x : Int32} {n : Nat} (hn : n < 2 ^ 31) (h : nI n ≤ x) : false = isB x n := by
  have h1 := Int32.le_iff_toInt_le.mp h
  rw [nI_toInt hn] at h1
  simp only [isB]
  rw [decide_eq_false (p := x.toInt < n) (by omega), Bool.and_false]
theorem isB_ok {x : Int32} {n : Nat} (hn : n < 2 ^ 31) (h : ¬ x < 0) (h2 : ¬ nI n ≤ x) : true = isB x n := by
  have h1 : ¬ x.toInt < 0 := fun z => h (Int32.lt_iff_toInt_lt.mpr z)
  have h3 : ¬ (n : Int) ≤ x.toInt := fun z => h2 (Int32.le_iff_toInt_le.mpr (by rw [nI_toInt hn]; exact z))
  simp only [isB]
  rw [decide_eq_true (by omega), decide_eq_true (by omega)]
  rfl
theorem isB_lt {j n : Nat} (hn : n < 2 ^ 31) (h : j < n) : isB (nI j) n = true := by
  rw [isB_nI (by omega)]
  exact decide_eq_true h
theorem cN_t {P : Nat → Bool} {k : Nat} (h : P k = true) : cN P (k + 1) = cN P k + 1 := by simp [cN, h]
theorem cN_f {P : Nat → Bool} {k : Nat} (h : P k = false) : cN P (k + 1) = cN P k := by simp [cN, h]
def clr (tk : Nat → Bool) (i : Nat) : Nat → Bool := fun j => if j < i then false else tk j
theorem clr_0 (tk : Nat → Bool) : clr tk 0 = tk := by funext j; simp [clr]
theorem clr_s (tk : Nat → Bool) (i : Nat) : va_up (clr tk i) i false = clr tk (i + 1) := by
  funext j
  by_cases h : j = i
  · subst h; simp [va_up, clr]
  · by_cases h2 : j < i
    · have h3 : j < i + 1 := by omega
      simp [va_up, clr, h, h2, h3]
    · have h3 : ¬ j < i + 1 := by omega
      simp [va_up, clr, h, h2, h3]
set_option maxHeartbeats 4000000 in
set_option maxRecDepth 100000 in
/-- isPerson(x) -/
theorem c_X4_isPerson (l : Launch) (g : GT) (x : Int32) : rdM l g yX4_isPerson wsX4_isPerson 0 0 [.int (x)] ([]) (some (.int (bI (isP x)))) := by
  refine rd_of (cc := cX4_isPerson) (maxL := 1) (ret := (some .boolean)) (by decide) rfl (Nat.le_of_ble_eq_true rfl) (fun p e s m below meth c ls hx hb hr hml hts hown hlocks hl hP hE => ?_)
  have hl : lv_has ls 1 [(0, .int (x))] := hl
  have hown : s.vm.findClass RX4 = some m.cls := hown
  refine lv_iload_n hx hb dX4_isPerson_0 rfl (lv_at hl 0 rfl) ?_
  refine lv_if_lt (tgt := 14) hx hb dX4_isPerson_1 (by decide) (fun h1 => ?_) (fun h1 => ?_)
  · refine lv_iconst (v := bI (false)) hx hb dX4_isPerson_14 (by decide) ?_
    exact rd_retz hx hb hr hlocks (isB_neg h1) dX4_isPerson_15
  · refine lv_iload_n hx hb dX4_isPerson_4 rfl (lv_at hl 0 rfl) ?_
    refine lv_bipush (v := nI (8)) hx hb dX4_isPerson_5 (by decide) ?_
    refine lv_icmp_ge (tgt := 14) hx hb dX4_isPerson_7 (by decide) (fun h2 => ?_) (fun h2 => ?_)
    · refine lv_iconst (v := bI (false)) hx hb dX4_isPerson_14 (by decide) ?_
      exact rd_retz hx hb hr hlocks (isB_big (n := 8) (by decide) h2) dX4_isPerson_15
    · refine lv_iconst (v := bI (true)) hx hb dX4_isPerson_10 (by decide) ?_
      refine lv_goto (tgt := 15) hx hb dX4_isPerson_11 (by decide) ?_
      exact rd_retz hx hb hr hlocks (isB_ok (n := 8) (by decide) h1 h2) dX4_isPerson_15
theorem mX1_has_9 : Cond.fieldLink RX1 9 "Followrow$Relation" "pairs" "[Z" ∈ wsX1_has := by decide +kernel
theorem iX1_has_1 : ∀ w ∈ wsX10, w ∈ wsX1_has := by decide +kernel
theorem nX1_has_X4_isPerson : Cond.initialized yX4_isPerson.cls ∈ wsX1_has ∧ Cond.static yX4_isPerson ∈ wsX1_has := by decide +kernel
set_option maxHeartbeats 4000000 in
set_option maxRecDepth 100000 in
/-- has(x, y) of a relation -/
theorem c_X1_has (l : Launch) (g : GT) {r q : Nat} {F : Nat → Bool} {x y : Nat} (h1 : x < 8) (h2 : y < 8) : rdM l g yX1_has wsX1_has 1 20 [.ref (r), .int (nI (x)), .int (nI (y))] (wRel g (r) (q) (F)) (some (.int (bI (F (8 * x + y))))) := by
  refine rd_of (cc := cX1_has) (maxL := 3) (ret := (some .boolean)) (by decide) rfl (Nat.le_of_ble_eq_true rfl) (fun p e s m below meth c ls hx hb hr hml hts hown hlocks hl hP hE => ?_)
  have hl : lv_has ls 3 [(0, .ref (r)), (1, .int (nI (x))), (2, .int (nI (y)))] := hl
  have hown : s.vm.findClass RX1 = some m.cls := hown
  refine lv_iload_n hx hb dX1_has_0 rfl (lv_at hl 1 rfl) ?_
  refine rd_goS (rn_SN (host := RX4) ⟨hx, hb, hml, hown, hts⟩ (c_X4_isPerson l g (nI (x))) gX1_has_X4_isPerson_n15 rfl (hE.2.1 _ (by simp [nestW])) (hts _ nX1_has_X4_isPerson.1) (hts _ nX1_has_X4_isPerson.2) qX4_isPerson ⟨Nat.le_of_ble_eq_true rfl, Nat.le_of_ble_eq_true rfl⟩ ⟨Nat.le_of_ble_eq_true rfl, Nat.le_of_ble_eq_true rfl⟩ (gP_nil) hE rfl hl.1 rfl (Nat.le_of_ble_eq_true rfl) dX1_has_1) ?_
  refine tp_i (congrArg bI (isP_nI (j := x) (by omega))) ?_
  refine br_eqB (tgt := 32) hx hb dX1_has_4 (by decide) (fun h3 => ?_) (fun h3 => ?_)
  · exact absurd h3 (by decide)
  · refine lv_iload_n hx hb dX1_has_7 rfl (lv_at hl 2 rfl) ?_
    refine rd_goS (rn_SN (host := RX4) ⟨hx, hb, hml, hown, hts⟩ (c_X4_isPerson l g (nI (y))) gX1_has_X4_isPerson_n15 rfl (hE.2.1 _ (by simp [nestW])) (hts _ nX1_has_X4_isPerson.1) (hts _ nX1_has_X4_isPerson.2) qX4_isPerson ⟨Nat.le_of_ble_eq_true rfl, Nat.le_of_ble_eq_true rfl⟩ ⟨Nat.le_of_ble_eq_true rfl, Nat.le_of_ble_eq_true rfl⟩ (gP_nil) hE rfl hl.1 rfl (Nat.le_of_ble_eq_true rfl) dX1_has_8) ?_
    refine tp_i (congrArg bI (isP_nI (j := y) (by omega))) ?_
    refine br_eqB (tgt := 32) hx hb dX1_has_11 (by decide) (fun h4 => ?_) (fun h4 => ?_)
    · exact absurd h4 (by decide)
    · refine lv_aload_n hx hb dX1_has_14 rfl (lv_at hl 0 rfl) ?_
      refine gf (q0 := 0) (ci := 1) (k := 0) (v := .ref (q)) hx hb hts iX1_has_1 hown hE hP rfl rfl (by decide) mX1_has_9 rfl dX1_has_15 ?_
      refine lv_iload_n hx hb dX1_has_18 rfl (lv_at hl 1 rfl) ?_
      refine lv_bipush (v := nI (8)) hx hb dX1_has_19 (by decide) ?_
      refine lv_imul hx hb dX1_has_21 ?_
      refine tp_i (mulN (x) (8)) ?_
      refine lv_iload_n hx hb dX1_has_22 rfl (lv_at hl 2 rfl) ?_
      refine lv_iadd hx hb dX1_has_23 ?_
      refine tp_i (nI_add _ _) ?_
      refine ra_z (q0 := 1) (i := 8 * x + y) hx hb hE hP rfl (by omega) (by decide) dX1_has_24 ?_
      refine br_eqB (tgt := 32) hx hb dX1_has_25 (by decide) (fun h5 => ?_) (fun h5 => ?_)
      · refine lv_iconst (v := bI (false)) hx hb dX1_has_32 (by decide) ?_
        exact rd_retz hx hb hr hlocks h5.symm dX1_has_33
      · refine lv_iconst (v := bI (true)) hx hb dX1_has_28 (by decide) ?_
        refine lv_goto (tgt := 33) hx hb dX1_has_29 (by decide) ?_
        exact rd_retz hx hb hr hlocks h5.symm dX1_has_33
set_option maxHeartbeats 4000000 in
set_option maxRecDepth 100000 in
/-- countTo(y) -/
theorem c_X1_countTo (l : Launch) (g : GT) {r q : Nat} {F : Nat → Bool} {y : Nat} (h2 : y < 8) : rdM l g yX1_countTo wsX1_countTo 2 42 [.ref (r), .int (nI (y))] (wRel g (r) (q) (F)) (some (.int (nI (fcnt F y)))) := by
  refine rd_of (cc := cX1_countTo) (maxL := 4) (ret := (some .int)) (by decide) rfl (Nat.le_of_ble_eq_true rfl) (fun p e s m below meth c ls hx hb hr hml hts hown hlocks hl hP hE => ?_)
  have hl : lv_has ls 4 [(0, .ref (r)), (1, .int (nI (y)))] := hl
  have hown : s.vm.findClass RX1 = some m.cls := hown
  refine lv_iconst (v := nI (0)) hx hb dX1_countTo_0 (by decide) ?_
  refine lv_istore_n (lv' := [(2, .int (nI (0))), (0, .ref (r)), (1, .int (nI (y)))]) hx hb dX1_countTo_1 rfl hl (by decide) rfl (fun ls hl => ?_)
  refine lv_iconst (v := nI (0)) hx hb dX1_countTo_2 (by decide) ?_
  refine lv_istore_n (lv' := [(3, .int (nI (0))), (2, .int (nI (0))), (0, .ref (r)), (1, .int (nI (y)))]) hx hb dX1_countTo_3 rfl hl (by decide) rfl (fun ls hl => ?_)
  have lp6 : ∀ (n9 i : Nat), 8 - i < n9 → (i ≤ 8) → ∀ ls : Array Slot, lv_has ls 4 [(0, .ref (r)), (1, .int (nI (y))), (2, .int (nI (cN (fun k => F (8 * k + y)) i))), (3, .int (nI (i)))] → W p l e ({ frames := 2, cells := 0, slots := 0, locals := 42 } : Room) s m ([.ref (r), .int (nI (y))] : List Value).toArray below meth c s.heap [] 0 0 (MQ below (rdQ (some (.int (nI (fcnt F y))))) ([.ref (r), .int (nI (y))] : List Value).toArray s 0 0 (fun _ => False)) (F0 m 4 ls []) := by
    intro n9
    induction n9 with
    | zero => intro i h; omega
    | succ n9 ih =>
      intro i h9 hi ls hl
      refine lv_iload_n hx hb dX1_countTo_4 rfl (lv_at hl 3 rfl) ?_
      refine lv_bipush (v := nI (8)) hx hb dX1_countTo_5 (by decide) ?_
      refine br_geN (a := i) (b := 8) (tgt := 28) hx hb (by omega) (by omega) dX1_countTo_7 (by decide) (fun h7 => ?_) (fun h7 => ?_)
      · refine lv_iload_n hx hb dX1_countTo_28 rfl (lv_at hl 2 rfl) ?_
        exact rd_reti hx hb hr hlocks (by rw [show i = 8 by omega]; rfl) dX1_countTo_29
      · refine lv_aload_n hx hb dX1_countTo_10 rfl (lv_at hl 0 rfl) ?_
        refine lv_iload_n hx hb dX1_countTo_11 rfl (lv_at hl 3 rfl) ?_
        refine lv_iload_n hx hb dX1_countTo_12 rfl (lv_at hl 1 rfl) ?_
        refine rd_goS (rn_V ⟨hx, hb, hml, hown, hts⟩ (c_X1_has l g (x := i) (y := y) (by omega) (by omega)) gX1_countTo_X1_has rfl pX1_has ⟨Nat.le_of_ble_eq_true rfl, Nat.le_of_ble_eq_true rfl⟩ ⟨Nat.le_of_ble_eq_true rfl, Nat.le_of_ble_eq_true rfl⟩ (hP) hE rfl rfl rfl hl.1 rfl (Nat.le_of_ble_eq_true rfl) dX1_countTo_13) ?_
        refine br_eqB (tgt := 22) hx hb dX1_countTo_16 (by decide) (fun h8 => ?_) (fun h8 => ?_)
        · refine lv_iinc (v := nI (i + 1)) (lv' := [(3, .int (nI (i + 1))), (0, .ref (r)), (1, .int (nI (y))), (2, .int (nI (cN (fun k => F (8 * k + y)) i)))]) hx hb dX1_countTo_22 hl (k := 3) rfl (inc1 (i)) (by decide) rfl (fun ls hl => ?_)
          refine lv_goto (tgt := 4) hx hb dX1_countTo_25 (by decide) ?_
          rw [← cN_f (P := fun k => F (8 * k + y)) (k := i) h8] at hl
          exact ih (i + 1) (by omega) (by omega) ls (lv_sub hl [1, 2, 3, 0] rfl)
        · refine lv_iinc (v := nI (cN (fun k => F (8 * k + y)) i + 1)) (lv' := [(2, .int (nI (cN (fun k => F (8 * k + y)) i + 1))), (0, .ref (r)), (1, .int (nI (y))), (3, .int (nI (i)))]) hx hb dX1_countTo_19 hl (k := 2) rfl (inc1 (cN (fun k => F (8 * k + y)) i)) (by decide) rfl (fun ls hl => ?_)
          refine lv_iinc (v := nI (i + 1)) (lv' := [(3, .int (nI (i + 1))), (2, .int (nI (cN (fun k => F (8 * k + y)) i + 1))), (0, .ref (r)), (1, .int (nI (y)))]) hx hb dX1_countTo_22 hl (k := 3) rfl (inc1 (i)) (by decide) rfl (fun ls hl => ?_)
          refine lv_goto (tgt := 4) hx hb dX1_countTo_25 (by decide) ?_
          rw [← cN_t (P := fun k => F (8 * k + y)) (k := i) h8] at hl
          exact ih (i + 1) (by omega) (by omega) ls (lv_sub hl [2, 3, 1, 0] rfl)
  exact lp6 (8 + 1) (0) (by omega) (by omega) ls (lv_sub hl [2, 3, 1, 0] rfl)
theorem mX1_put_9 : Cond.fieldLink RX1 9 "Followrow$Relation" "pairs" "[Z" ∈ wsX1_put := by decide +kernel
theorem iX1_put_1 : ∀ w ∈ wsX10, w ∈ wsX1_put := by decide +kernel
theorem nX1_put_X4_isPerson : Cond.initialized yX4_isPerson.cls ∈ wsX1_put ∧ Cond.static yX4_isPerson ∈ wsX1_put := by decide +kernel
set_option maxHeartbeats 4000000 in
set_option maxRecDepth 100000 in
/-- put(x, y, v) -/
theorem c_X1_put (l : Launch) (g : GT) {r q : Nat} {F : Nat → Bool} {x y : Nat} {v : Bool} (hN : Nd [r, q]) (h1 : x < 8) (h2 : y < 8) : wrM l g yX1_put wsX1_put 1 20 [.ref (r), .int (nI (x)), .int (nI (y)), .int (bI (v))] (wRel g (r) (q) (F)) none (fun H1 => gP g (wRel g r q (va_up F (8 * x + y) v)) H1) ([r, q]) := by
  refine wr_of (cc := cX1_put) (maxL := 4) (ret := none) (by decide) rfl (Nat.le_of_ble_eq_true rfl) (fun p e s m below meth c ls hx hb hr hml hts hown hlocks hl hP hE hS => ?_)
  have hl : lv_has ls 4 [(0, .ref (r)), (1, .int (nI (x))), (2, .int (nI (y))), (3, .int (bI (v)))] := hl
  have hown : s.vm.findClass RX1 = some m.cls := hown
  have hD : va_D (fun z => z ∈ [r, q]) (wRel g r q F) := D_of hN (fun _ h => h)
  refine lv_iload_n hx hb dX1_put_0 rfl (lv_at hl 1 rfl) ?_
  refine rd_goS (rn_SN (host := RX4) ⟨hx, hb, hml, hown, hts⟩ (c_X4_isPerson l g (nI (x))) gX1_put_X4_isPerson_n15 rfl (hE.2.1 _ (by simp [nestW])) (hts _ nX1_put_X4_isPerson.1) (hts _ nX1_put_X4_isPerson.2) qX4_isPerson ⟨Nat.le_of_ble_eq_true rfl, Nat.le_of_ble_eq_true rfl⟩ ⟨Nat.le_of_ble_eq_true rfl, Nat.le_of_ble_eq_true rfl⟩ (gP_nil) hE rfl hl.1 rfl (Nat.le_of_ble_eq_true rfl) dX1_put_1) ?_
  refine tp_i (congrArg bI (isP_nI (j := x) (by omega))) ?_
  refine br_eqB (tgt := 26) hx hb dX1_put_4 (by decide) (fun h9 => ?_) (fun h9 => ?_)
  · exact absurd h9 (by decide)
  · refine lv_iload_n hx hb dX1_put_7 rfl (lv_at hl 2 rfl) ?_
    refine rd_goS (rn_SN (host := RX4) ⟨hx, hb, hml, hown, hts⟩ (c_X4_isPerson l g (nI (y))) gX1_put_X4_isPerson_n15 rfl (hE.2.1 _ (by simp [nestW])) (hts _ nX1_put_X4_isPerson.1) (hts _ nX1_put_X4_isPerson.2) qX4_isPerson ⟨Nat.le_of_ble_eq_true rfl, Nat.le_of_ble_eq_true rfl⟩ ⟨Nat.le_of_ble_eq_true rfl, Nat.le_of_ble_eq_true rfl⟩ (gP_nil) hE rfl hl.1 rfl (Nat.le_of_ble_eq_true rfl) dX1_put_8) ?_
    refine tp_i (congrArg bI (isP_nI (j := y) (by omega))) ?_
    refine br_eqB (tgt := 26) hx hb dX1_put_11 (by decide) (fun h10 => ?_) (fun h10 => ?_)
    · exact absurd h10 (by decide)
    · refine lv_aload_n hx hb dX1_put_14 rfl (lv_at hl 0 rfl) ?_
      refine gf (q0 := 0) (ci := 1) (k := 0) (v := .ref (q)) hx hb hts iX1_put_1 hown hE hP rfl rfl (by decide) mX1_put_9 rfl dX1_put_15 ?_
      refine lv_iload_n hx hb dX1_put_18 rfl (lv_at hl 1 rfl) ?_
      refine lv_bipush (v := nI (8)) hx hb dX1_put_19 (by decide) ?_
      refine lv_imul hx hb dX1_put_21 ?_
      refine tp_i (mulN (x) (8)) ?_
      refine lv_iload_n hx hb dX1_put_22 rfl (lv_at hl 2 rfl) ?_
      refine lv_iadd hx hb dX1_put_23 ?_
      refine tp_i (nI_add _ _) ?_
      refine lv_iload_n hx hb dX1_put_24 rfl (lv_at hl 3 rfl) ?_
      refine wa_z (q0 := 1) (i := 8 * x + y) (b := v) (ws' := wRel g (r) (q) (va_up (F) (8 * x + y) (v))) hx hb hE hP hD hS rfl rfl (by omega) (by decide) dX1_put_25 (fun H locs hP hD hS => ?_)
      exact wr_retv hx hb hr hlocks hS hP dX1_put_26
theorem mX0_made_22 : Cond.fieldLink RX0 22 "Followrow$Ledger" "made" "I" ∈ wsX0_made := by decide +kernel
theorem iX0_made_0 : ∀ w ∈ wsX00, w ∈ wsX0_made := by decide +kernel
set_option maxHeartbeats 4000000 in
set_option maxRecDepth 100000 in
/-- made() -/
theorem c_X0_made (l : Launch) (g : GT) {a0 a1 a2 a3 n : Nat} {au og : Nat → Nat} {dl : Nat → Bool} : rdM l g yX0_made wsX0_made 0 0 [.ref (a0)] (wLed g (a0) (a1) (a2) (a3) (au) (og) (dl) (n)) (some (.int (nI (n)))) := by
  refine rd_of (cc := cX0_made) (maxL := 1) (ret := (some .int)) (by decide) rfl (Nat.le_of_ble_eq_true rfl) (fun p e s m below meth c ls hx hb hr hml hts hown hlocks hl hP hE => ?_)
  have hl : lv_has ls 1 [(0, .ref (a0))] := hl
  have hown : s.vm.findClass RX0 = some m.cls := hown
  refine lv_aload_n hx hb dX0_made_0 rfl (lv_at hl 0 rfl) ?_
  refine gf (q0 := 0) (ci := 0) (k := 3) (v := .int (nI (n))) hx hb hts iX0_made_0 hown hE hP rfl rfl (by decide) mX0_made_22 rfl dX0_made_1 ?_
  exact rd_reti hx hb hr hlocks rfl dX0_made_4
theorem mX0_has_22 : Cond.fieldLink RX0 22 "Followrow$Ledger" "made" "I" ∈ wsX0_has := by decide +kernel
theorem iX0_has_0 : ∀ w ∈ wsX00, w ∈ wsX0_has := by decide +kernel
set_option maxHeartbeats 4000000 in
set_option maxRecDepth 100000 in
/-- has(x) of the ledger -/
theorem c_X0_has (l : Launch) (g : GT) {a0 a1 a2 a3 n : Nat} {au og : Nat → Nat} {dl : Nat → Bool} {x : Int32} (hn : n ≤ 150) : rdM l g yX0_has wsX0_has 0 0 [.ref (a0), .int (x)] (wLed g (a0) (a1) (a2) (a3) (au) (og) (dl) (n)) (some (.int (bI (isB x n)))) := by
  refine rd_of (cc := cX0_has) (maxL := 2) (ret := (some .boolean)) (by decide) rfl (Nat.le_of_ble_eq_true rfl) (fun p e s m below meth c ls hx hb hr hml hts hown hlocks hl hP hE => ?_)
  have hl : lv_has ls 2 [(0, .ref (a0)), (1, .int (x))] := hl
  have hown : s.vm.findClass RX0 = some m.cls := hown
  refine lv_iload_n hx hb dX0_has_0 rfl (lv_at hl 1 rfl) ?_
  refine lv_if_lt (tgt := 16) hx hb dX0_has_1 (by decide) (fun h11 => ?_) (fun h11 => ?_)
  · refine lv_iconst (v := bI (false)) hx hb dX0_has_16 (by decide) ?_
    exact rd_retz hx hb hr hlocks (isB_neg h11) dX0_has_17
  · refine lv_iload_n hx hb dX0_has_4 rfl (lv_at hl 1 rfl) ?_
    refine lv_aload_n hx hb dX0_has_5 rfl (lv_at hl 0 rfl) ?_
    refine gf (q0 := 0) (ci := 0) (k := 3) (v := .int (nI (n))) hx hb hts iX0_has_0 hown hE hP rfl rfl (by decide) mX0_has_22 rfl dX0_has_6 ?_
    refine lv_icmp_ge (tgt := 16) hx hb dX0_has_9 (by decide) (fun h12 => ?_) (fun h12 => ?_)
    · refine lv_iconst (v := bI (false)) hx hb dX0_has_16 (by decide) ?_
      exact rd_retz hx hb hr hlocks (isB_big (by omega) h12) dX0_has_17
    · refine lv_iconst (v := bI (true)) hx hb dX0_has_12 (by decide) ?_
      refine lv_goto (tgt := 17) hx hb dX0_has_13 (by decide) ?_
      exact rd_retz hx hb hr hlocks (isB_ok (by omega) h11 h12) dX0_has_17
theorem mX0_stands_18 : Cond.fieldLink RX0 18 "Followrow$Ledger" "deleted" "[Z" ∈ wsX0_stands := by decide +kernel
theorem iX0_stands_0 : ∀ w ∈ wsX00, w ∈ wsX0_stands := by decide +kernel
set_option maxHeartbeats 4000000 in
set_option maxRecDepth 100000 in
/-- stands(x) -/
theorem c_X0_stands (l : Launch) (g : GT) {a0 a1 a2 a3 n : Nat} {au og : Nat → Nat} {dl : Nat → Bool} {x : Nat} (hn : n ≤ 150) (h1 : x < n) : rdM l g yX0_stands wsX0_stands 1 21 [.ref (a0), .int (nI (x))] (wLed g (a0) (a1) (a2) (a3) (au) (og) (dl) (n)) (some (.int (bI (!dl x)))) := by
  refine rd_of (cc := cX0_stands) (maxL := 2) (ret := (some .boolean)) (by decide) rfl (Nat.le_of_ble_eq_true rfl) (fun p e s m below meth c ls hx hb hr hml hts hown hlocks hl hP hE => ?_)
  have hl : lv_has ls 2 [(0, .ref (a0)), (1, .int (nI (x)))] := hl
  have hown : s.vm.findClass RX0 = some m.cls := hown
  refine lv_aload_n hx hb dX0_stands_0 rfl (lv_at hl 0 rfl) ?_
  refine lv_iload_n hx hb dX0_stands_1 rfl (lv_at hl 1 rfl) ?_
  refine rd_goS (rn_V ⟨hx, hb, hml, hown, hts⟩ (c_X0_has l g (x := nI (x)) (by omega)) gX0_stands_X0_has rfl pX0_has ⟨Nat.le_of_ble_eq_true rfl, Nat.le_of_ble_eq_true rfl⟩ ⟨Nat.le_of_ble_eq_true rfl, Nat.le_of_ble_eq_true rfl⟩ (hP) hE rfl rfl rfl hl.1 rfl (Nat.le_of_ble_eq_true rfl) dX0_stands_2) ?_
  refine tp_i (congrArg bI (isB_lt (j := x) (by omega) (by omega))) ?_
  refine br_eqB (tgt := 21) hx hb dX0_stands_5 (by decide) (fun h13 => ?_) (fun h13 => ?_)
  · exact absurd h13 (by decide)
  · refine lv_aload_n hx hb dX0_stands_8 rfl (lv_at hl 0 rfl) ?_
    refine gf (q0 := 0) (ci := 0) (k := 2) (v := .ref (a3)) hx hb hts iX0_stands_0 hown hE hP rfl rfl (by decide) mX0_stands_18 rfl dX0_stands_9 ?_
    refine lv_iload_n hx hb dX0_stands_12 rfl (lv_at hl 1 rfl) ?_
    refine ra_z (q0 := 3) (i := x) hx hb hE hP rfl (by omega) (by decide) dX0_stands_13 ?_
    refine br_neB (tgt := 21) hx hb dX0_stands_14 (by decide) (fun h14 => ?_) (fun h14 => ?_)
    · refine lv_iconst (v := bI (false)) hx hb dX0_stands_21 (by decide) ?_
      exact rd_retz hx hb hr hlocks (by rw [h14]; rfl) dX0_stands_22
    · refine lv_iconst (v := bI (true)) hx hb dX0_stands_17 (by decide) ?_
      refine lv_goto (tgt := 22) hx hb dX0_stands_18 (by decide) ?_
      exact rd_retz hx hb hr hlocks (by rw [h14]; rfl) dX0_stands_22
theorem mX0_author_9 : Cond.fieldLink RX0 9 "Followrow$Ledger" "authors" "[I" ∈ wsX0_author := by decide +kernel
theorem iX0_author_0 : ∀ w ∈ wsX00, w ∈ wsX0_author := by decide +kernel
set_option maxHeartbeats 4000000 in
set_option maxRecDepth 100000 in
/-- author(x) -/
theorem c_X0_author (l : Launch) (g : GT) {a0 a1 a2 a3 n : Nat} {au og : Nat → Nat} {dl : Nat → Bool} {x : Nat} (hn : n ≤ 150) (h1 : x < n) : rdM l g yX0_author wsX0_author 1 21 [.ref (a0), .int (nI (x))] (wLed g (a0) (a1) (a2) (a3) (au) (og) (dl) (n)) (some (.int (nI (au x)))) := by
  refine rd_of (cc := cX0_author) (maxL := 2) (ret := (some .int)) (by decide) rfl (Nat.le_of_ble_eq_true rfl) (fun p e s m below meth c ls hx hb hr hml hts hown hlocks hl hP hE => ?_)
  have hl : lv_has ls 2 [(0, .ref (a0)), (1, .int (nI (x)))] := hl
  have hown : s.vm.findClass RX0 = some m.cls := hown
  refine lv_aload_n hx hb dX0_author_0 rfl (lv_at hl 0 rfl) ?_
  refine lv_iload_n hx hb dX0_author_1 rfl (lv_at hl 1 rfl) ?_
  refine rd_goS (rn_V ⟨hx, hb, hml, hown, hts⟩ (c_X0_has l g (x := nI (x)) (by omega)) gX0_author_X0_has rfl pX0_has ⟨Nat.le_of_ble_eq_true rfl, Nat.le_of_ble_eq_true rfl⟩ ⟨Nat.le_of_ble_eq_true rfl, Nat.le_of_ble_eq_true rfl⟩ (hP) hE rfl rfl rfl hl.1 rfl (Nat.le_of_ble_eq_true rfl) dX0_author_2) ?_
  refine tp_i (congrArg bI (isB_lt (j := x) (by omega) (by omega))) ?_
  refine br_eqB (tgt := 17) hx hb dX0_author_5 (by decide) (fun h15 => ?_) (fun h15 => ?_)
  · exact absurd h15 (by decide)
  · refine lv_aload_n hx hb dX0_author_8 rfl (lv_at hl 0 rfl) ?_
    refine gf (q0 := 0) (ci := 0) (k := 0) (v := .ref (a1)) hx hb hts iX0_author_0 hown hE hP rfl rfl (by decide) mX0_author_9 rfl dX0_author_9 ?_
    refine lv_iload_n hx hb dX0_author_12 rfl (lv_at hl 1 rfl) ?_
    refine ra_i (q0 := 1) (i := x) hx hb hE hP rfl (by omega) (by decide) dX0_author_13 ?_
    refine lv_goto (tgt := 18) hx hb dX0_author_14 (by decide) ?_
    exact rd_reti hx hb hr hlocks rfl dX0_author_18
theorem mX0_origin_15 : Cond.fieldLink RX0 15 "Followrow$Ledger" "origins" "[I" ∈ wsX0_origin := by decide +kernel
theorem iX0_origin_0 : ∀ w ∈ wsX00, w ∈ wsX0_origin := by decide +kernel
set_option maxHeartbeats 4000000 in
set_option maxRecDepth 100000 in
/-- origin(x) -/
theorem c_X0_origin (l : Launch) (g : GT) {a0 a1 a2 a3 n : Nat} {au og : Nat → Nat} {dl : Nat → Bool} {x : Nat} (hn : n ≤ 150) (h1 : x < n) : rdM l g yX0_origin wsX0_origin 1 21 [.ref (a0), .int (nI (x))] (wLed g (a0) (a1) (a2) (a3) (au) (og) (dl) (n)) (some (.int (nI (og x)))) := by
  refine rd_of (cc := cX0_origin) (maxL := 2) (ret := (some .int)) (by decide) rfl (Nat.le_of_ble_eq_true rfl) (fun p e s m below meth c ls hx hb hr hml hts hown hlocks hl hP hE => ?_)
  have hl : lv_has ls 2 [(0, .ref (a0)), (1, .int (nI (x)))] := hl
  have hown : s.vm.findClass RX0 = some m.cls := hown
  refine lv_aload_n hx hb dX0_origin_0 rfl (lv_at hl 0 rfl) ?_
  refine lv_iload_n hx hb dX0_origin_1 rfl (lv_at hl 1 rfl) ?_
  refine rd_goS (rn_V ⟨hx, hb, hml, hown, hts⟩ (c_X0_has l g (x := nI (x)) (by omega)) gX0_origin_X0_has rfl pX0_has ⟨Nat.le_of_ble_eq_true rfl, Nat.le_of_ble_eq_true rfl⟩ ⟨Nat.le_of_ble_eq_true rfl, Nat.le_of_ble_eq_true rfl⟩ (hP) hE rfl rfl rfl hl.1 rfl (Nat.le_of_ble_eq_true rfl) dX0_origin_2) ?_
  refine tp_i (congrArg bI (isB_lt (j := x) (by omega) (by omega))) ?_
  refine br_eqB (tgt := 17) hx hb dX0_origin_5 (by decide) (fun h16 => ?_) (fun h16 => ?_)
  · exact absurd h16 (by decide)
  · refine lv_aload_n hx hb dX0_origin_8 rfl (lv_at hl 0 rfl) ?_
    refine gf (q0 := 0) (ci := 0) (k := 1) (v := .ref (a2)) hx hb hts iX0_origin_0 hown hE hP rfl rfl (by decide) mX0_origin_15 rfl dX0_origin_9 ?_
    refine lv_iload_n hx hb dX0_origin_12 rfl (lv_at hl 1 rfl) ?_
    refine ra_i (q0 := 2) (i := x) hx hb hE hP rfl (by omega) (by decide) dX0_origin_13 ?_
    refine lv_goto (tgt := 18) hx hb dX0_origin_14 (by decide) ?_
    exact rd_reti hx hb hr hlocks rfl dX0_origin_18
theorem mX0_add_9 : Cond.fieldLink RX0 9 "Followrow$Ledger" "authors" "[I" ∈ wsX0_add := by decide +kernel
theorem mX0_add_15 : Cond.fieldLink RX0 15 "Followrow$Ledger" "origins" "[I" ∈ wsX0_add := by decide +kernel
theorem mX0_add_22 : Cond.fieldLink RX0 22 "Followrow$Ledger" "made" "I" ∈ wsX0_add := by decide +kernel
theorem iX0_add_0 : ∀ w ∈ wsX00, w ∈ wsX0_add := by decide +kernel
set_option maxHeartbeats 4000000 in
set_option maxRecDepth 100000 in
/-- add(x, y) -/
theorem c_X0_add (l : Launch) (g : GT) {a0 a1 a2 a3 n : Nat} {au og : Nat → Nat} {dl : Nat → Bool} {x y : Nat} (hN : Nd [a0, a1, a2, a3]) (hn : n < 150) : wrM l g yX0_add wsX0_add 0 0 [.ref (a0), .int (nI (x)), .int (nI (y))] (wLed g (a0) (a1) (a2) (a3) (au) (og) (dl) (n)) none (fun H1 => gP g (wLed g a0 a1 a2 a3 (va_up au n x) (va_up og n y) dl (n + 1)) H1) ([a0, a1, a2, a3]) := by
  refine wr_of (cc := cX0_add) (maxL := 3) (ret := none) (by decide) rfl (Nat.le_of_ble_eq_true rfl) (fun p e s m below meth c ls hx hb hr hml hts hown hlocks hl hP hE hS => ?_)
  have hl : lv_has ls 3 [(0, .ref (a0)), (1, .int (nI (x))), (2, .int (nI (y)))] := hl
  have hown : s.vm.findClass RX0 = some m.cls := hown
  have hD : va_D (fun z => z ∈ [a0, a1, a2, a3]) (wLed g a0 a1 a2 a3 au og dl n) := D_of hN (fun _ h => h)
  refine lv_aload_n hx hb dX0_add_0 rfl (lv_at hl 0 rfl) ?_
  refine gf (q0 := 0) (ci := 0) (k := 3) (v := .int (nI (n))) hx hb hts iX0_add_0 hown hE hP rfl rfl (by decide) mX0_add_22 rfl dX0_add_1 ?_
  refine lv_sipush (v := nI (150)) hx hb dX0_add_4 (by decide) ?_
  refine br_geN (a := n) (b := 150) (tgt := 40) hx hb (by omega) (by omega) dX0_add_7 (by decide) (fun h17 => ?_) (fun h17 => ?_)
  · exact absurd h17 (by omega)
  · refine lv_aload_n hx hb dX0_add_10 rfl (lv_at hl 0 rfl) ?_
    refine gf (q0 := 0) (ci := 0) (k := 0) (v := .ref (a1)) hx hb hts iX0_add_0 hown hE hP rfl rfl (by decide) mX0_add_9 rfl dX0_add_11 ?_
    refine lv_aload_n hx hb dX0_add_14 rfl (lv_at hl 0 rfl) ?_
    refine gf (q0 := 0) (ci := 0) (k := 3) (v := .int (nI (n))) hx hb hts iX0_add_0 hown hE hP rfl rfl (by decide) mX0_add_22 rfl dX0_add_15 ?_
    refine lv_iload_n hx hb dX0_add_18 rfl (lv_at hl 1 rfl) ?_
    refine wa_i (q0 := 1) (i := n) (ws' := wLed g (a0) (a1) (a2) (a3) (va_up (au) (n) (x)) (og) (dl) (n)) hx hb hE hP hD hS rfl (nc_up _ _ _) rfl (by omega) (by decide) dX0_add_19 (fun H locs hP hD hS => ?_)
    refine lv_aload_n hx hb dX0_add_20 rfl (lv_at hl 0 rfl) ?_
    refine gf (q0 := 0) (ci := 0) (k := 1) (v := .ref (a2)) hx hb hts iX0_add_0 hown hE hP rfl rfl (by decide) mX0_add_15 rfl dX0_add_21 ?_
    refine lv_aload_n hx hb dX0_add_24 rfl (lv_at hl 0 rfl) ?_
    refine gf (q0 := 0) (ci := 0) (k := 3) (v := .int (nI (n))) hx hb hts iX0_add_0 hown hE hP rfl rfl (by decide) mX0_add_22 rfl dX0_add_25 ?_
    refine lv_iload_n hx hb dX0_add_28 rfl (lv_at hl 2 rfl) ?_
    refine wa_i (q0 := 2) (i := n) (ws' := wLed g (a0) (a1) (a2) (a3) (va_up (au) (n) (x)) (va_up (og) (n) (y)) (dl) (n)) hx hb hE hP hD hS rfl (nc_up _ _ _) rfl (by omega) (by decide) dX0_add_29 (fun H locs hP hD hS => ?_)
    refine lv_aload_n hx hb dX0_add_30 rfl (lv_at hl 0 rfl) ?_
    refine lv_dup hx hb dX0_add_31 rfl ?_
    refine gf (q0 := 0) (ci := 0) (k := 3) (v := .int (nI (n))) hx hb hts iX0_add_0 hown hE hP rfl rfl (by decide) mX0_add_22 rfl dX0_add_32 ?_
    refine lv_iconst (v := nI (1)) hx hb dX0_add_35 (by decide) ?_
    refine lv_iadd hx hb dX0_add_36 ?_
    refine tp_i (nI_add _ _) ?_
    refine pf (q0 := 0) (ci := 0) (k := 3) (ws' := wLed g (a0) (a1) (a2) (a3) (va_up (au) (n) (x)) (va_up (og) (n) (y)) (dl) (n + 1)) hx hb hts iX0_add_0 hown hE hP hD hS rfl rfl (by decide) tyX0_ok nmX0 mX0_add_22 rfl (by decide +kernel) (Nat.le_of_ble_eq_true rfl) rfl dX0_add_37 (fun H locs hP hD hS => ?_)
    exact wr_retv hx hb hr hlocks hS hP dX0_add_40
theorem mX0_remove_18 : Cond.fieldLink RX0 18 "Followrow$Ledger" "deleted" "[Z" ∈ wsX0_remove := by decide +kernel
theorem iX0_remove_0 : ∀ w ∈ wsX00, w ∈ wsX0_remove := by decide +kernel
set_option maxHeartbeats 4000000 in
set_option maxRecDepth 100000 in
/-- remove(x) -/
theorem c_X0_remove (l : Launch) (g : GT) {a0 a1 a2 a3 n : Nat} {au og : Nat → Nat} {dl : Nat → Bool} {x : Nat} (hN : Nd [a0, a1, a2, a3]) (hn : n ≤ 150) (h1 : x < n) : wrM l g yX0_remove wsX0_remove 1 21 [.ref (a0), .int (nI (x))] (wLed g (a0) (a1) (a2) (a3) (au) (og) (dl) (n)) none (fun H1 => gP g (wLed g a0 a1 a2 a3 au og (va_up dl x true) n) H1) ([a0, a1, a2, a3]) := by
  refine wr_of (cc := cX0_remove) (maxL := 2) (ret := none) (by decide) rfl (Nat.le_of_ble_eq_true rfl) (fun p e s m below meth c ls hx hb hr hml hts hown hlocks hl hP hE hS => ?_)
  have hl : lv_has ls 2 [(0, .ref (a0)), (1, .int (nI (x)))] := hl
  have hown : s.vm.findClass RX0 = some m.cls := hown
  have hD : va_D (fun z => z ∈ [a0, a1, a2, a3]) (wLed g a0 a1 a2 a3 au og dl n) := D_of hN (fun _ h => h)
  refine lv_aload_n hx hb dX0_remove_0 rfl (lv_at hl 0 rfl) ?_
  refine lv_iload_n hx hb dX0_remove_1 rfl (lv_at hl 1 rfl) ?_
  refine rd_goS (rn_V ⟨hx, hb, hml, hown, hts⟩ (c_X0_has l g (x := nI (x)) (by omega)) gX0_remove_X0_has rfl pX0_has ⟨Nat.le_of_ble_eq_true rfl, Nat.le_of_ble_eq_true rfl⟩ ⟨Nat.le_of_ble_eq_true rfl, Nat.le_of_ble_eq_true rfl⟩ (hP) hE rfl rfl rfl hl.1 rfl (Nat.le_of_ble_eq_true rfl) dX0_remove_2) ?_
  refine tp_i (congrArg bI (isB_lt (j := x) (by omega) (by omega))) ?_
  refine br_eqB (tgt := 15) hx hb dX0_remove_5 (by decide) (fun h18 => ?_) (fun h18 => ?_)
  · exact absurd h18 (by decide)
  · refine lv_aload_n hx hb dX0_remove_8 rfl (lv_at hl 0 rfl) ?_
    refine gf (q0 := 0) (ci := 0) (k := 2) (v := .ref (a3)) hx hb hts iX0_remove_0 hown hE hP rfl rfl (by decide) mX0_remove_18 rfl dX0_remove_9 ?_
    refine lv_iload_n hx hb dX0_remove_12 rfl (lv_at hl 1 rfl) ?_
    refine lv_iconst (v := bI (true)) hx hb dX0_remove_13 (by decide) ?_
    refine wa_z (q0 := 3) (i := x) (b := true) (ws' := wLed g (a0) (a1) (a2) (a3) (au) (og) (va_up (dl) (x) (true)) (n)) hx hb hE hP hD hS rfl rfl (by omega) (by decide) dX0_remove_14 (fun H locs hP hD hS => ?_)
    exact wr_retv hx hb hr hlocks hS hP dX0_remove_15
theorem mX0_countStandingOf_22 : Cond.fieldLink RX0 22 "Followrow$Ledger" "made" "I" ∈ wsX0_countStandingOf := by decide +kernel
theorem iX0_countStandingOf_0 : ∀ w ∈ wsX00, w ∈ wsX0_countStandingOf := by decide +kernel
set_option maxHeartbeats 4000000 in
set_option maxRecDepth 100000 in
/-- countStandingOf(y) -/
theorem c_X0_countStandingOf (l : Launch) (g : GT) {a0 a1 a2 a3 n : Nat} {au og : Nat → Nat} {dl : Nat → Bool} {y : Nat} (hn : n ≤ 150) (hog : ∀ e, og e < 150) (h2 : y < 150) : rdM l g yX0_countStandingOf wsX0_countStandingOf 2 42 [.ref (a0), .int (nI (y))] (wLed g (a0) (a1) (a2) (a3) (au) (og) (dl) (n)) (some (.int (nI (cN (fun k => decide (og k = y) && !dl k) n)))) := by
  refine rd_of (cc := cX0_countStandingOf) (maxL := 4) (ret := (some .int)) (by decide) rfl (Nat.le_of_ble_eq_true rfl) (fun p e s m below meth c ls hx hb hr hml hts hown hlocks hl hP hE => ?_)
  have hl : lv_has ls 4 [(0, .ref (a0)), (1, .int (nI (y)))] := hl
  have hown : s.vm.findClass RX0 = some m.cls := hown
  refine lv_iconst (v := nI (0)) hx hb dX0_countStandingOf_0 (by decide) ?_
  refine lv_istore_n (lv' := [(2, .int (nI (0))), (0, .ref (a0)), (1, .int (nI (y)))]) hx hb dX0_countStandingOf_1 rfl hl (by decide) rfl (fun ls hl => ?_)
  refine lv_iconst (v := nI (0)) hx hb dX0_countStandingOf_2 (by decide) ?_
  refine lv_istore_n (lv' := [(3, .int (nI (0))), (2, .int (nI (0))), (0, .ref (a0)), (1, .int (nI (y)))]) hx hb dX0_countStandingOf_3 rfl hl (by decide) rfl (fun ls hl => ?_)
  have lp19 : ∀ (n9 i : Nat), n - i < n9 → (i ≤ n) → ∀ ls : Array Slot, lv_has ls 4 [(0, .ref (a0)), (1, .int (nI (y))), (2, .int (nI (cN (fun k => decide (og k = y) && !dl k) i))), (3, .int (nI (i)))] → W p l e ({ frames := 2, cells := 0, slots := 0, locals := 42 } : Room) s m ([.ref (a0), .int (nI (y))] : List Value).toArray below meth c s.heap [] 0 0 (MQ below (rdQ (some (.int (nI (cN (fun k => decide (og k = y) && !dl k) n))))) ([.ref (a0), .int (nI (y))] : List Value).toArray s 0 0 (fun _ => False)) (F0 m 4 ls []) := by
    intro n9
    induction n9 with
    | zero => intro i h; omega
    | succ n9 ih =>
      intro i h9 hi ls hl
      refine lv_iload_n hx hb dX0_countStandingOf_4 rfl (lv_at hl 3 rfl) ?_
      refine lv_aload_n hx hb dX0_countStandingOf_5 rfl (lv_at hl 0 rfl) ?_
      refine gf (q0 := 0) (ci := 0) (k := 3) (v := .int (nI (n))) hx hb hts iX0_countStandingOf_0 hown hE hP rfl rfl (by decide) mX0_countStandingOf_22 rfl dX0_countStandingOf_6 ?_
      refine br_geN (a := i) (b := n) (tgt := 38) hx hb (by omega) (by omega) dX0_countStandingOf_9 (by decide) (fun h20 => ?_) (fun h20 => ?_)
      · refine lv_iload_n hx hb dX0_countStandingOf_38 rfl (lv_at hl 2 rfl) ?_
        exact rd_reti hx hb hr hlocks (by rw [show i = n by omega]) dX0_countStandingOf_39
      · refine lv_aload_n hx hb dX0_countStandingOf_12 rfl (lv_at hl 0 rfl) ?_
        refine lv_iload_n hx hb dX0_countStandingOf_13 rfl (lv_at hl 3 rfl) ?_
        refine rd_goS (rn_V ⟨hx, hb, hml, hown, hts⟩ (c_X0_origin l g (x := i) (by omega) (by omega)) gX0_countStandingOf_X0_origin rfl pX0_origin ⟨Nat.le_of_ble_eq_true rfl, Nat.le_of_ble_eq_true rfl⟩ ⟨Nat.le_of_ble_eq_true rfl, Nat.le_of_ble_eq_true rfl⟩ (hP) hE rfl rfl rfl hl.1 rfl (Nat.le_of_ble_eq_true rfl) dX0_countStandingOf_14) ?_
        refine lv_iload_n hx hb dX0_countStandingOf_17 rfl (lv_at hl 1 rfl) ?_
        refine br_neN (a := og i) (b := y) (tgt := 32) hx hb (by have := hog i; omega) (by omega) dX0_countStandingOf_18 (by decide) (fun h21 => ?_) (fun h21 => ?_)
        · refine lv_iinc (v := nI (i + 1)) (lv' := [(3, .int (nI (i + 1))), (0, .ref (a0)), (1, .int (nI (y))), (2, .int (nI (cN (fun k => decide (og k = y) && !dl k) i)))]) hx hb dX0_countStandingOf_32 hl (k := 3) rfl (inc1 (i)) (by decide) rfl (fun ls hl => ?_)
          refine lv_goto (tgt := 4) hx hb dX0_countStandingOf_35 (by decide) ?_
          rw [← cN_f (P := fun k => decide (og k = y) && !dl k) (k := i) (by simp only [decide_eq_false h21]; rfl)] at hl
          exact ih (i + 1) (by omega) (by omega) ls (lv_sub hl [1, 2, 3, 0] rfl)
        · refine lv_aload_n hx hb dX0_countStandingOf_21 rfl (lv_at hl 0 rfl) ?_
          refine lv_iload_n hx hb dX0_countStandingOf_22 rfl (lv_at hl 3 rfl) ?_
          refine rd_goS (rn_V ⟨hx, hb, hml, hown, hts⟩ (c_X0_stands l g (x := i) (by omega) (by omega)) gX0_countStandingOf_X0_stands rfl pX0_stands ⟨Nat.le_of_ble_eq_true rfl, Nat.le_of_ble_eq_true rfl⟩ ⟨Nat.le_of_ble_eq_true rfl, Nat.le_of_ble_eq_true rfl⟩ (hP) hE rfl rfl rfl hl.1 rfl (Nat.le_of_ble_eq_true rfl) dX0_countStandingOf_23) ?_
          refine br_eqB (tgt := 32) hx hb dX0_countStandingOf_26 (by decide) (fun h22 => ?_) (fun h22 => ?_)
          · refine lv_iinc (v := nI (i + 1)) (lv' := [(3, .int (nI (i + 1))), (0, .ref (a0)), (1, .int (nI (y))), (2, .int (nI (cN (fun k => decide (og k = y) && !dl k) i)))]) hx hb dX0_countStandingOf_32 hl (k := 3) rfl (inc1 (i)) (by decide) rfl (fun ls hl => ?_)
            refine lv_goto (tgt := 4) hx hb dX0_countStandingOf_35 (by decide) ?_
            rw [← cN_f (P := fun k => decide (og k = y) && !dl k) (k := i) (by simp only [h22]; simp)] at hl
            exact ih (i + 1) (by omega) (by omega) ls (lv_sub hl [1, 2, 3, 0] rfl)
          · refine lv_iinc (v := nI (cN (fun k => decide (og k = y) && !dl k) i + 1)) (lv' := [(2, .int (nI (cN (fun k => decide (og k = y) && !dl k) i + 1))), (0, .ref (a0)), (1, .int (nI (y))), (3, .int (nI (i)))]) hx hb dX0_countStandingOf_29 hl (k := 2) rfl (inc1 (cN (fun k => decide (og k = y) && !dl k) i)) (by decide) rfl (fun ls hl => ?_)
            refine lv_iinc (v := nI (i + 1)) (lv' := [(3, .int (nI (i + 1))), (2, .int (nI (cN (fun k => decide (og k = y) && !dl k) i + 1))), (0, .ref (a0)), (1, .int (nI (y)))]) hx hb dX0_countStandingOf_32 hl (k := 3) rfl (inc1 (i)) (by decide) rfl (fun ls hl => ?_)
            refine lv_goto (tgt := 4) hx hb dX0_countStandingOf_35 (by decide) ?_
            rw [← cN_t (P := fun k => decide (og k = y) && !dl k) (k := i) (by simp only [h21, h22]; decide)] at hl
            exact ih (i + 1) (by omega) (by omega) ls (lv_sub hl [2, 3, 1, 0] rfl)
  exact lp19 (n + 1) (0) (by omega) (by omega) ls (lv_sub hl [2, 3, 1, 0] rfl)
theorem mX2_owner_19 : Cond.fieldLink RX2 19 "Followrow$Row" "owner" "I" ∈ wsX2_owner := by decide +kernel
theorem iX2_owner_2 : ∀ w ∈ wsX20, w ∈ wsX2_owner := by decide +kernel
set_option maxHeartbeats 4000000 in
set_option maxRecDepth 100000 in
/-- owner() -/
theorem c_X2_owner (l : Launch) (g : GT) {b0 b1 q cnt fl : Nat} {fn : Nat → Int32} : rdM l g yX2_owner wsX2_owner 0 0 [.ref (b0)] (wRow g (b0) (b1) (q) (fn) (cnt) (fl)) (some (.int (nI (q)))) := by
  refine rd_of (cc := cX2_owner) (maxL := 1) (ret := (some .int)) (by decide) rfl (Nat.le_of_ble_eq_true rfl) (fun p e s m below meth c ls hx hb hr hml hts hown hlocks hl hP hE => ?_)
  have hl : lv_has ls 1 [(0, .ref (b0))] := hl
  have hown : s.vm.findClass RX2 = some m.cls := hown
  refine lv_aload_n hx hb dX2_owner_0 rfl (lv_at hl 0 rfl) ?_
  refine gf (q0 := 0) (ci := 2) (k := 0) (v := .int (nI (q))) hx hb hts iX2_owner_2 hown hE hP rfl rfl (by decide) mX2_owner_19 rfl dX2_owner_1 ?_
  exact rd_reti hx hb hr hlocks rfl dX2_owner_4
theorem mX2_floor_15 : Cond.fieldLink RX2 15 "Followrow$Row" "floor" "I" ∈ wsX2_floor := by decide +kernel
theorem iX2_floor_2 : ∀ w ∈ wsX20, w ∈ wsX2_floor := by decide +kernel
set_option maxHeartbeats 4000000 in
set_option maxRecDepth 100000 in
/-- floor() -/
theorem c_X2_floor (l : Launch) (g : GT) {b0 b1 q cnt fl : Nat} {fn : Nat → Int32} : rdM l g yX2_floor wsX2_floor 0 0 [.ref (b0)] (wRow g (b0) (b1) (q) (fn) (cnt) (fl)) (some (.int (fI (fl)))) := by
  refine rd_of (cc := cX2_floor) (maxL := 1) (ret := (some .int)) (by decide) rfl (Nat.le_of_ble_eq_true rfl) (fun p e s m below meth c ls hx hb hr hml hts hown hlocks hl hP hE => ?_)
  have hl : lv_has ls 1 [(0, .ref (b0))] := hl
  have hown : s.vm.findClass RX2 = some m.cls := hown
  refine lv_aload_n hx hb dX2_floor_0 rfl (lv_at hl 0 rfl) ?_
  refine gf (q0 := 0) (ci := 2) (k := 3) (v := .int (fI (fl))) hx hb hts iX2_floor_2 hown hE hP rfl rfl (by decide) mX2_floor_15 rfl dX2_floor_1 ?_
  exact rd_reti hx hb hr hlocks rfl dX2_floor_4
theorem mX2_count_22 : Cond.fieldLink RX2 22 "Followrow$Row" "count" "I" ∈ wsX2_count := by decide +kernel
theorem iX2_count_2 : ∀ w ∈ wsX20, w ∈ wsX2_count := by decide +kernel
set_option maxHeartbeats 4000000 in
set_option maxRecDepth 100000 in
/-- count() of a row -/
theorem c_X2_count (l : Launch) (g : GT) {b0 b1 q cnt fl : Nat} {fn : Nat → Int32} : rdM l g yX2_count wsX2_count 0 0 [.ref (b0)] (wRow g (b0) (b1) (q) (fn) (cnt) (fl)) (some (.int (nI (cnt)))) := by
  refine rd_of (cc := cX2_count) (maxL := 1) (ret := (some .int)) (by decide) rfl (Nat.le_of_ble_eq_true rfl) (fun p e s m below meth c ls hx hb hr hml hts hown hlocks hl hP hE => ?_)
  have hl : lv_has ls 1 [(0, .ref (b0))] := hl
  have hown : s.vm.findClass RX2 = some m.cls := hown
  refine lv_aload_n hx hb dX2_count_0 rfl (lv_at hl 0 rfl) ?_
  refine gf (q0 := 0) (ci := 2) (k := 2) (v := .int (nI (cnt))) hx hb hts iX2_count_2 hown hE hP rfl rfl (by decide) mX2_count_22 rfl dX2_count_1 ?_
  exact rd_reti hx hb hr hlocks rfl dX2_count_4
theorem mX2_raiseFloor_15 : Cond.fieldLink RX2 15 "Followrow$Row" "floor" "I" ∈ wsX2_raiseFloor := by decide +kernel
theorem iX2_raiseFloor_2 : ∀ w ∈ wsX20, w ∈ wsX2_raiseFloor := by decide +kernel
set_option maxHeartbeats 4000000 in
set_option maxRecDepth 100000 in
/-- raiseFloor(x) -/
theorem c_X2_raiseFloor (l : Launch) (g : GT) {b0 b1 q cnt fl : Nat} {fn : Nat → Int32} {x : Nat} (hN : Nd [b0, b1]) : wrM l g yX2_raiseFloor wsX2_raiseFloor 0 0 [.ref (b0), .int (nI (x))] (wRow g (b0) (b1) (q) (fn) (cnt) (fl)) none (fun H1 => gP g (wRow g b0 b1 q (fn) (cnt) (x + 1)) H1) ([b0, b1]) := by
  refine wr_of (cc := cX2_raiseFloor) (maxL := 2) (ret := none) (by decide) rfl (Nat.le_of_ble_eq_true rfl) (fun p e s m below meth c ls hx hb hr hml hts hown hlocks hl hP hE hS => ?_)
  have hl : lv_has ls 2 [(0, .ref (b0)), (1, .int (nI (x)))] := hl
  have hown : s.vm.findClass RX2 = some m.cls := hown
  have hD : va_D (fun z => z ∈ [b0, b1]) (wRow g b0 b1 q fn cnt fl) := D_of hN (fun _ h => h)
  refine lv_aload_n hx hb dX2_raiseFloor_0 rfl (lv_at hl 0 rfl) ?_
  refine lv_iload_n hx hb dX2_raiseFloor_1 rfl (lv_at hl 1 rfl) ?_
  refine tp_i nI_fI ?_
  refine pf (q0 := 0) (ci := 2) (k := 3) (ws' := wRow g (b0) (b1) (q) (fn) (cnt) (x + 1)) hx hb hts iX2_raiseFloor_2 hown hE hP hD hS rfl rfl (by decide) tyX2_ok nmX2 mX2_raiseFloor_15 rfl (by decide +kernel) (Nat.le_of_ble_eq_true rfl) rfl dX2_raiseFloor_2 (fun H locs hP hD hS => ?_)
  exact wr_retv hx hb hr hlocks hS hP dX2_raiseFloor_5
theorem mX2_empty_22 : Cond.fieldLink RX2 22 "Followrow$Row" "count" "I" ∈ wsX2_empty := by decide +kernel
theorem iX2_empty_2 : ∀ w ∈ wsX20, w ∈ wsX2_empty := by decide +kernel
set_option maxHeartbeats 4000000 in
set_option maxRecDepth 100000 in
/-- empty() of a row -/
theorem c_X2_empty (l : Launch) (g : GT) {b0 b1 q cnt fl : Nat} {fn : Nat → Int32} (hN : Nd [b0, b1]) : wrM l g yX2_empty wsX2_empty 0 0 [.ref (b0)] (wRow g (b0) (b1) (q) (fn) (cnt) (fl)) none (fun H1 => gP g (wRow g b0 b1 q (fn) (0) (fl)) H1) ([b0, b1]) := by
  refine wr_of (cc := cX2_empty) (maxL := 1) (ret := none) (by decide) rfl (Nat.le_of_ble_eq_true rfl) (fun p e s m below meth c ls hx hb hr hml hts hown hlocks hl hP hE hS => ?_)
  have hl : lv_has ls 1 [(0, .ref (b0))] := hl
  have hown : s.vm.findClass RX2 = some m.cls := hown
  have hD : va_D (fun z => z ∈ [b0, b1]) (wRow g b0 b1 q fn cnt fl) := D_of hN (fun _ h => h)
  refine lv_aload_n hx hb dX2_empty_0 rfl (lv_at hl 0 rfl) ?_
  refine lv_iconst (v := nI (0)) hx hb dX2_empty_1 (by decide) ?_
  refine pf (q0 := 0) (ci := 2) (k := 2) (ws' := wRow g (b0) (b1) (q) (fn) (0) (fl)) hx hb hts iX2_empty_2 hown hE hP hD hS rfl rfl (by decide) tyX2_ok nmX2 mX2_empty_22 rfl (by decide +kernel) (Nat.le_of_ble_eq_true rfl) rfl dX2_empty_2 (fun H locs hP hD hS => ?_)
  exact wr_retv hx hb hr hlocks hS hP dX2_empty_5
theorem mX2_addBelow_9 : Cond.fieldLink RX2 9 "Followrow$Row" "numbers" "[I" ∈ wsX2_addBelow := by decide +kernel
theorem mX2_addBelow_22 : Cond.fieldLink RX2 22 "Followrow$Row" "count" "I" ∈ wsX2_addBelow := by decide +kernel
theorem iX2_addBelow_2 : ∀ w ∈ wsX20, w ∈ wsX2_addBelow := by decide +kernel
set_option maxHeartbeats 4000000 in
set_option maxRecDepth 100000 in
/-- addBelow(x) of a row -/
theorem c_X2_addBelow (l : Launch) (g : GT) {b0 b1 q cnt fl : Nat} {fn : Nat → Int32} {x : Nat} (hN : Nd [b0, b1]) (hn : cnt < 40) : wrM l g yX2_addBelow wsX2_addBelow 0 0 [.ref (b0), .int (nI (x))] (wRow g (b0) (b1) (q) (fn) (cnt) (fl)) none (fun H1 => gP g (wRow g b0 b1 q (upd fn cnt (nI x)) (cnt + 1) (fl)) H1) ([b0, b1]) := by
  refine wr_of (cc := cX2_addBelow) (maxL := 2) (ret := none) (by decide) rfl (Nat.le_of_ble_eq_true rfl) (fun p e s m below meth c ls hx hb hr hml hts hown hlocks hl hP hE hS => ?_)
  have hl : lv_has ls 2 [(0, .ref (b0)), (1, .int (nI (x)))] := hl
  have hown : s.vm.findClass RX2 = some m.cls := hown
  have hD : va_D (fun z => z ∈ [b0, b1]) (wRow g b0 b1 q fn cnt fl) := D_of hN (fun _ h => h)
  refine lv_aload_n hx hb dX2_addBelow_0 rfl (lv_at hl 0 rfl) ?_
  refine gf (q0 := 0) (ci := 2) (k := 2) (v := .int (nI (cnt))) hx hb hts iX2_addBelow_2 hown hE hP rfl rfl (by decide) mX2_addBelow_22 rfl dX2_addBelow_1 ?_
  refine lv_bipush (v := nI (40)) hx hb dX2_addBelow_4 (by decide) ?_
  refine br_geN (a := cnt) (b := 40) (tgt := 29) hx hb (by omega) (by omega) dX2_addBelow_6 (by decide) (fun h23 => ?_) (fun h23 => ?_)
  · exact absurd h23 (by omega)
  · refine lv_aload_n hx hb dX2_addBelow_9 rfl (lv_at hl 0 rfl) ?_
    refine gf (q0 := 0) (ci := 2) (k := 1) (v := .ref (b1)) hx hb hts iX2_addBelow_2 hown hE hP rfl rfl (by decide) mX2_addBelow_9 rfl dX2_addBelow_10 ?_
    refine lv_aload_n hx hb dX2_addBelow_13 rfl (lv_at hl 0 rfl) ?_
    refine gf (q0 := 0) (ci := 2) (k := 2) (v := .int (nI (cnt))) hx hb hts iX2_addBelow_2 hown hE hP rfl rfl (by decide) mX2_addBelow_22 rfl dX2_addBelow_14 ?_
    refine lv_iload_n hx hb dX2_addBelow_17 rfl (lv_at hl 1 rfl) ?_
    refine wa_i (q0 := 1) (i := cnt) (ws' := wRow g (b0) (b1) (q) (upd (fn) (cnt) (nI (x))) (cnt) (fl)) hx hb hE hP hD hS rfl rfl rfl (by omega) (by decide) dX2_addBelow_18 (fun H locs hP hD hS => ?_)
    refine lv_aload_n hx hb dX2_addBelow_19 rfl (lv_at hl 0 rfl) ?_
    refine lv_dup hx hb dX2_addBelow_20 rfl ?_
    refine gf (q0 := 0) (ci := 2) (k := 2) (v := .int (nI (cnt))) hx hb hts iX2_addBelow_2 hown hE hP rfl rfl (by decide) mX2_addBelow_22 rfl dX2_addBelow_21 ?_
    refine lv_iconst (v := nI (1)) hx hb dX2_addBelow_24 (by decide) ?_
    refine lv_iadd hx hb dX2_addBelow_25 ?_
    refine tp_i (nI_add _ _) ?_
    refine pf (q0 := 0) (ci := 2) (k := 2) (ws' := wRow g (b0) (b1) (q) (upd (fn) (cnt) (nI (x))) (cnt + 1) (fl)) hx hb hts iX2_addBelow_2 hown hE hP hD hS rfl rfl (by decide) tyX2_ok nmX2 mX2_addBelow_22 rfl (by decide +kernel) (Nat.le_of_ble_eq_true rfl) rfl dX2_addBelow_26 (fun H locs hP hD hS => ?_)
    exact wr_retv hx hb hr hlocks hS hP dX2_addBelow_29
theorem mX2_fromNewest_9 : Cond.fieldLink RX2 9 "Followrow$Row" "numbers" "[I" ∈ wsX2_fromNewest := by decide +kernel
theorem mX2_fromNewest_22 : Cond.fieldLink RX2 22 "Followrow$Row" "count" "I" ∈ wsX2_fromNewest := by decide +kernel
theorem iX2_fromNewest_2 : ∀ w ∈ wsX20, w ∈ wsX2_fromNewest := by decide +kernel
set_option maxHeartbeats 4000000 in
set_option maxRecDepth 100000 in
/-- fromNewest(x) -/
theorem c_X2_fromNewest (l : Launch) (g : GT) {b0 b1 q cnt fl : Nat} {fn : Nat → Int32} {x : Nat} (hn : cnt ≤ 40) (h1 : x ≤ 150) : rdM l g yX2_fromNewest wsX2_fromNewest 0 0 [.ref (b0), .int (nI (x))] (wRow g (b0) (b1) (q) (fn) (cnt) (fl)) (some (.int (if x < cnt then fn x else (-1)))) := by
  refine rd_of (cc := cX2_fromNewest) (maxL := 2) (ret := (some .int)) (by decide) rfl (Nat.le_of_ble_eq_true rfl) (fun p e s m below meth c ls hx hb hr hml hts hown hlocks hl hP hE => ?_)
  have hl : lv_has ls 2 [(0, .ref (b0)), (1, .int (nI (x)))] := hl
  have hown : s.vm.findClass RX2 = some m.cls := hown
  refine lv_iload_n hx hb dX2_fromNewest_0 rfl (lv_at hl 1 rfl) ?_
  refine br_lt0 (tgt := 21) hx hb (by omega) dX2_fromNewest_1 (by decide) (fun h24 => ?_) (fun h24 => ?_)
  · exact h24.elim
  · refine lv_iload_n hx hb dX2_fromNewest_4 rfl (lv_at hl 1 rfl) ?_
    refine lv_aload_n hx hb dX2_fromNewest_5 rfl (lv_at hl 0 rfl) ?_
    refine gf (q0 := 0) (ci := 2) (k := 2) (v := .int (nI (cnt))) hx hb hts iX2_fromNewest_2 hown hE hP rfl rfl (by decide) mX2_fromNewest_22 rfl dX2_fromNewest_6 ?_
    refine br_geN (a := x) (b := cnt) (tgt := 21) hx hb (by omega) (by omega) dX2_fromNewest_9 (by decide) (fun h25 => ?_) (fun h25 => ?_)
    · refine lv_iconst (v := (-1)) hx hb dX2_fromNewest_21 (by decide) ?_
      exact rd_reti hx hb hr hlocks (if_neg (by omega)).symm dX2_fromNewest_22
    · refine lv_aload_n hx hb dX2_fromNewest_12 rfl (lv_at hl 0 rfl) ?_
      refine gf (q0 := 0) (ci := 2) (k := 1) (v := .ref (b1)) hx hb hts iX2_fromNewest_2 hown hE hP rfl rfl (by decide) mX2_fromNewest_9 rfl dX2_fromNewest_13 ?_
      refine lv_iload_n hx hb dX2_fromNewest_16 rfl (lv_at hl 1 rfl) ?_
      refine ra_i (q0 := 1) (i := x) hx hb hE hP rfl (by omega) (by decide) dX2_fromNewest_17 ?_
      refine lv_goto (tgt := 22) hx hb dX2_fromNewest_18 (by decide) ?_
      exact rd_reti hx hb hr hlocks (if_pos (by omega)).symm dX2_fromNewest_22
theorem mX3_count_19 : Cond.fieldLink RX3 19 "Followrow$Timeline" "count" "I" ∈ wsX3_count := by decide +kernel
theorem iX3_count_3 : ∀ w ∈ wsX30, w ∈ wsX3_count := by decide +kernel
set_option maxHeartbeats 4000000 in
set_option maxRecDepth 100000 in
/-- count() of the timeline -/
theorem c_X3_count (l : Launch) (g : GT) {t0 t1 t2 cnt : Nat} {fn : Nat → Int32} {tk : Nat → Bool} : rdM l g yX3_count wsX3_count 0 0 [.ref (t0)] (wTim g (t0) (t1) (t2) (fn) (tk) (cnt)) (some (.int (nI (cnt)))) := by
  refine rd_of (cc := cX3_count) (maxL := 1) (ret := (some .int)) (by decide) rfl (Nat.le_of_ble_eq_true rfl) (fun p e s m below meth c ls hx hb hr hml hts hown hlocks hl hP hE => ?_)
  have hl : lv_has ls 1 [(0, .ref (t0))] := hl
  have hown : s.vm.findClass RX3 = some m.cls := hown
  refine lv_aload_n hx hb dX3_count_0 rfl (lv_at hl 0 rfl) ?_
  refine gf (q0 := 0) (ci := 3) (k := 2) (v := .int (nI (cnt))) hx hb hts iX3_count_3 hown hE hP rfl rfl (by decide) mX3_count_19 rfl dX3_count_1 ?_
  exact rd_reti hx hb hr hlocks rfl dX3_count_4
theorem mX3_at_9 : Cond.fieldLink RX3 9 "Followrow$Timeline" "numbers" "[I" ∈ wsX3_at := by decide +kernel
theorem mX3_at_19 : Cond.fieldLink RX3 19 "Followrow$Timeline" "count" "I" ∈ wsX3_at := by decide +kernel
theorem iX3_at_3 : ∀ w ∈ wsX30, w ∈ wsX3_at := by decide +kernel
set_option maxHeartbeats 4000000 in
set_option maxRecDepth 100000 in
/-- at(x) -/
theorem c_X3_at (l : Launch) (g : GT) {t0 t1 t2 cnt : Nat} {fn : Nat → Int32} {tk : Nat → Bool} {x : Nat} (hn : cnt ≤ 150) (h1 : x ≤ 150) : rdM l g yX3_at wsX3_at 0 0 [.ref (t0), .int (nI (x))] (wTim g (t0) (t1) (t2) (fn) (tk) (cnt)) (some (.int (if x < cnt then fn x else (-1)))) := by
  refine rd_of (cc := cX3_at) (maxL := 2) (ret := (some .int)) (by decide) rfl (Nat.le_of_ble_eq_true rfl) (fun p e s m below meth c ls hx hb hr hml hts hown hlocks hl hP hE => ?_)
  have hl : lv_has ls 2 [(0, .ref (t0)), (1, .int (nI (x)))] := hl
  have hown : s.vm.findClass RX3 = some m.cls := hown
  refine lv_iload_n hx hb dX3_at_0 rfl (lv_at hl 1 rfl) ?_
  refine br_lt0 (tgt := 21) hx hb (by omega) dX3_at_1 (by decide) (fun h26 => ?_) (fun h26 => ?_)
  · exact h26.elim
  · refine lv_iload_n hx hb dX3_at_4 rfl (lv_at hl 1 rfl) ?_
    refine lv_aload_n hx hb dX3_at_5 rfl (lv_at hl 0 rfl) ?_
    refine gf (q0 := 0) (ci := 3) (k := 2) (v := .int (nI (cnt))) hx hb hts iX3_at_3 hown hE hP rfl rfl (by decide) mX3_at_19 rfl dX3_at_6 ?_
    refine br_geN (a := x) (b := cnt) (tgt := 21) hx hb (by omega) (by omega) dX3_at_9 (by decide) (fun h27 => ?_) (fun h27 => ?_)
    · refine lv_iconst (v := (-1)) hx hb dX3_at_21 (by decide) ?_
      exact rd_reti hx hb hr hlocks (if_neg (by omega)).symm dX3_at_22
    · refine lv_aload_n hx hb dX3_at_12 rfl (lv_at hl 0 rfl) ?_
      refine gf (q0 := 0) (ci := 3) (k := 0) (v := .ref (t1)) hx hb hts iX3_at_3 hown hE hP rfl rfl (by decide) mX3_at_9 rfl dX3_at_13 ?_
      refine lv_iload_n hx hb dX3_at_16 rfl (lv_at hl 1 rfl) ?_
      refine ra_i (q0 := 1) (i := x) hx hb hE hP rfl (by omega) (by decide) dX3_at_17 ?_
      refine lv_goto (tgt := 22) hx hb dX3_at_18 (by decide) ?_
      exact rd_reti hx hb hr hlocks (if_pos (by omega)).symm dX3_at_22
theorem mX3_placeBelow_19 : Cond.fieldLink RX3 19 "Followrow$Timeline" "count" "I" ∈ wsX3_placeBelow := by decide +kernel
theorem iX3_placeBelow_3 : ∀ w ∈ wsX30, w ∈ wsX3_placeBelow := by decide +kernel
set_option maxHeartbeats 4000000 in
set_option maxRecDepth 100000 in
/-- placeBelow(y): the place x -/
theorem c_X3_placeBelow (l : Launch) (g : GT) {t0 t1 t2 cnt : Nat} {fn : Nat → Int32} {tk : Nat → Bool} {x y : Nat} (hn : cnt ≤ 150) (hr1 : x ≤ cnt) (hr2 : ∀ j, j < x → nI y ≤ fn j) (hr3 : ∀ j, j = x → j < cnt → ¬ nI y ≤ fn j) : rdM l g yX3_placeBelow wsX3_placeBelow 1 21 [.ref (t0), .int (nI (y))] (wTim g (t0) (t1) (t2) (fn) (tk) (cnt)) (some (.int (nI (x)))) := by
  refine rd_of (cc := cX3_placeBelow) (maxL := 3) (ret := (some .int)) (by decide) rfl (Nat.le_of_ble_eq_true rfl) (fun p e s m below meth c ls hx hb hr hml hts hown hlocks hl hP hE => ?_)
  have hl : lv_has ls 3 [(0, .ref (t0)), (1, .int (nI (y)))] := hl
  have hown : s.vm.findClass RX3 = some m.cls := hown
  refine lv_iconst (v := nI (0)) hx hb dX3_placeBelow_0 (by decide) ?_
  refine lv_istore_n (lv' := [(2, .int (nI (0))), (0, .ref (t0)), (1, .int (nI (y)))]) hx hb dX3_placeBelow_1 rfl hl (by decide) rfl (fun ls hl => ?_)
  have lp28 : ∀ (n9 i : Nat), cnt - i < n9 → (i ≤ x) → ∀ ls : Array Slot, lv_has ls 3 [(0, .ref (t0)), (1, .int (nI (y))), (2, .int (nI (i)))] → W p l e ({ frames := 1, cells := 0, slots := 0, locals := 21 } : Room) s m ([.ref (t0), .int (nI (y))] : List Value).toArray below meth c s.heap [] 0 0 (MQ below (rdQ (some (.int (nI (x))))) ([.ref (t0), .int (nI (y))] : List Value).toArray s 0 0 (fun _ => False)) (F0 m 2 ls []) := by
    intro n9
    induction n9 with
    | zero => intro i h; omega
    | succ n9 ih =>
      intro i h9 hi ls hl
      refine lv_iload_n hx hb dX3_placeBelow_2 rfl (lv_at hl 2 rfl) ?_
      refine lv_aload_n hx hb dX3_placeBelow_3 rfl (lv_at hl 0 rfl) ?_
      refine gf (q0 := 0) (ci := 3) (k := 2) (v := .int (nI (cnt))) hx hb hts iX3_placeBelow_3 hown hE hP rfl rfl (by decide) mX3_placeBelow_19 rfl dX3_placeBelow_4 ?_
      refine br_geN (a := i) (b := cnt) (tgt := 27) hx hb (by omega) (by omega) dX3_placeBelow_7 (by decide) (fun h29 => ?_) (fun h29 => ?_)
      · refine lv_aload_n hx hb dX3_placeBelow_27 rfl (lv_at hl 0 rfl) ?_
        refine gf (q0 := 0) (ci := 3) (k := 2) (v := .int (nI (cnt))) hx hb hts iX3_placeBelow_3 hown hE hP rfl rfl (by decide) mX3_placeBelow_19 rfl dX3_placeBelow_28 ?_
        exact rd_reti hx hb hr hlocks (congrArg nI (by omega)) dX3_placeBelow_31
      · refine lv_aload_n hx hb dX3_placeBelow_10 rfl (lv_at hl 0 rfl) ?_
        refine lv_iload_n hx hb dX3_placeBelow_11 rfl (lv_at hl 2 rfl) ?_
        refine rd_goS (rn_V ⟨hx, hb, hml, hown, hts⟩ (c_X3_at l g (x := i) (by omega) (by omega)) gX3_placeBelow_X3_at rfl pX3_at ⟨Nat.le_of_ble_eq_true rfl, Nat.le_of_ble_eq_true rfl⟩ ⟨Nat.le_of_ble_eq_true rfl, Nat.le_of_ble_eq_true rfl⟩ (hP) hE rfl rfl rfl hl.1 rfl (Nat.le_of_ble_eq_true rfl) dX3_placeBelow_12) ?_
        refine tp_i (if_pos (by omega)) ?_
        refine lv_iload_n hx hb dX3_placeBelow_15 rfl (lv_at hl 1 rfl) ?_
        refine lv_icmp_ge (tgt := 21) hx hb dX3_placeBelow_16 (by decide) (fun h30 => ?_) (fun h30 => ?_)
        · refine lv_iinc (v := nI (i + 1)) (lv' := [(2, .int (nI (i + 1))), (0, .ref (t0)), (1, .int (nI (y)))]) hx hb dX3_placeBelow_21 hl (k := 2) rfl (inc1 (i)) (by decide) rfl (fun ls hl => ?_)
          refine lv_goto (tgt := 2) hx hb dX3_placeBelow_24 (by decide) ?_
          exact ih (i + 1) (by omega) (Nat.lt_of_le_of_ne hi (fun hq => hr3 i hq (by omega) h30)) ls (lv_sub hl [1, 2, 0] rfl)
        · refine lv_iload_n hx hb dX3_placeBelow_19 rfl (lv_at hl 2 rfl) ?_
          exact rd_reti hx hb hr hlocks (congrArg nI (Nat.le_antisymm hi (Nat.not_lt.mp (fun z => h30 (hr2 i z))))) dX3_placeBelow_20
  exact lp28 (cnt + 1) (0) (by omega) (by omega) ls (lv_sub hl [1, 2, 0] rfl)
theorem mX3_empty_15 : Cond.fieldLink RX3 15 "Followrow$Timeline" "taken" "[Z" ∈ wsX3_empty := by decide +kernel
theorem mX3_empty_19 : Cond.fieldLink RX3 19 "Followrow$Timeline" "count" "I" ∈ wsX3_empty := by decide +kernel
theorem iX3_empty_3 : ∀ w ∈ wsX30, w ∈ wsX3_empty := by decide +kernel
set_option maxHeartbeats 4000000 in
set_option maxRecDepth 100000 in
/-- empty() of the timeline -/
theorem c_X3_empty (l : Launch) (g : GT) {t0 t1 t2 cnt : Nat} {fn : Nat → Int32} {tk : Nat → Bool} (hN : Nd [t0, t1, t2]) : wrM l g yX3_empty wsX3_empty 0 0 [.ref (t0)] (wTim g (t0) (t1) (t2) (fn) (tk) (cnt)) none (fun H1 => gP g (wTim g t0 t1 t2 (fn) (clr tk 150) (0)) H1) ([t0, t1, t2]) := by
  refine wr_of (cc := cX3_empty) (maxL := 2) (ret := none) (by decide) rfl (Nat.le_of_ble_eq_true rfl) (fun p e s m below meth c ls hx hb hr hml hts hown hlocks hl hP hE hS => ?_)
  have hl : lv_has ls 2 [(0, .ref (t0))] := hl
  have hown : s.vm.findClass RX3 = some m.cls := hown
  have hD : va_D (fun z => z ∈ [t0, t1, t2]) (wTim g t0 t1 t2 fn tk cnt) := D_of hN (fun _ h => h)
  refine lv_aload_n hx hb dX3_empty_0 rfl (lv_at hl 0 rfl) ?_
  refine lv_iconst (v := nI (0)) hx hb dX3_empty_1 (by decide) ?_
  refine pf (q0 := 0) (ci := 3) (k := 2) (ws' := wTim g (t0) (t1) (t2) (fn) (tk) (0)) hx hb hts iX3_empty_3 hown hE hP hD hS rfl rfl (by decide) tyX3_ok nmX3 mX3_empty_19 rfl (by decide +kernel) (Nat.le_of_ble_eq_true rfl) rfl dX3_empty_2 (fun H locs hP hD hS => ?_)
  refine lv_iconst (v := nI (0)) hx hb dX3_empty_5 (by decide) ?_
  refine lv_istore_n (lv' := [(1, .int (nI (0))), (0, .ref (t0))]) hx hb dX3_empty_6 rfl hl (by decide) rfl (fun ls hl => ?_)
  rw [← clr_0 tk] at hP hD
  have lp31 : ∀ (n9 i : Nat), 150 - i < n9 → (i ≤ 150) → ∀ (H : Heap) (locs : List Loc), gP g (wTim g (t0) (t1) (t2) (fn) (clr tk (i)) (0)) H → va_D (fun q => q ∈ ([t0, t1, t2])) (wTim g (t0) (t1) (t2) (fn) (clr tk (i)) (0)) → va_S (fun q => q ∈ ([t0, t1, t2])) s.heap H locs → ∀ ls : Array Slot, lv_has ls 2 [(0, .ref (t0)), (1, .int (nI (i)))] → W p l e ({ frames := 0, cells := 0, slots := 0, locals := 0 } : Room) s m ([.ref (t0)] : List Value).toArray below meth c H locs 0 0 (MQ below (wrQ none (fun H1 => gP g (wTim g t0 t1 t2 (fn) (clr tk 150) (0)) H1) ([t0, t1, t2])) ([.ref (t0)] : List Value).toArray s 0 0 (fun q => q ∈ ([t0, t1, t2]))) (F0 m 7 ls []) := by
    intro n9
    induction n9 with
    | zero => intro i h; omega
    | succ n9 ih =>
      intro i h9 hi H locs hP hD hS ls hl
      refine lv_iload_n hx hb dX3_empty_7 rfl (lv_at hl 1 rfl) ?_
      refine lv_sipush (v := nI (150)) hx hb dX3_empty_8 (by decide) ?_
      refine br_geN (a := i) (b := 150) (tgt := 27) hx hb (by omega) (by omega) dX3_empty_11 (by decide) (fun h32 => ?_) (fun h32 => ?_)
      · exact wr_retv hx hb hr hlocks hS (by rw [show i = 150 by omega] at hP; exact hP) dX3_empty_27
      · refine lv_aload_n hx hb dX3_empty_14 rfl (lv_at hl 0 rfl) ?_
        refine gf (q0 := 0) (ci := 3) (k := 1) (v := .ref (t2)) hx hb hts iX3_empty_3 hown hE hP rfl rfl (by decide) mX3_empty_15 rfl dX3_empty_15 ?_
        refine lv_iload_n hx hb dX3_empty_18 rfl (lv_at hl 1 rfl) ?_
        refine lv_iconst (v := bI (false)) hx hb dX3_empty_19 (by decide) ?_
        refine wa_z (q0 := 2) (i := i) (b := false) (ws' := wTim g (t0) (t1) (t2) (fn) (va_up (clr tk (i)) (i) (false)) (0)) hx hb hE hP hD hS rfl rfl (by omega) (by decide) dX3_empty_20 (fun H locs hP hD hS => ?_)
        refine lv_iinc (v := nI (i + 1)) (lv' := [(1, .int (nI (i + 1))), (0, .ref (t0))]) hx hb dX3_empty_21 hl (k := 1) rfl (inc1 (i)) (by decide) rfl (fun ls hl => ?_)
        refine lv_goto (tgt := 7) hx hb dX3_empty_24 (by decide) ?_
        rw [clr_s] at hP hD
        exact ih (i + 1) (by omega) (by omega) H locs hP hD hS ls (lv_sub hl [1, 0] rfl)
  exact lp31 (150 + 1) (0) (by omega) (by omega) _ _ hP hD hS ls (lv_sub hl [1, 0] rfl)
theorem mX3_addBelow_15 : Cond.fieldLink RX3 15 "Followrow$Timeline" "taken" "[Z" ∈ wsX3_addBelow := by decide +kernel
theorem mX3_addBelow_19 : Cond.fieldLink RX3 19 "Followrow$Timeline" "count" "I" ∈ wsX3_addBelow := by decide +kernel
theorem iX3_addBelow_3 : ∀ w ∈ wsX30, w ∈ wsX3_addBelow := by decide +kernel
set_option maxHeartbeats 4000000 in
set_option maxRecDepth 100000 in
/-- addBelow(x, y), y taken -/
theorem c_X3_addBelow_t (l : Launch) (g : GT) {t0 t1 t2 cnt : Nat} {fn : Nat → Int32} {tk : Nat → Bool} {x y : Nat} (hN : Nd [t0, t1, t2]) (hn : cnt < 150) (h2 : y < 150) (ht : tk y = true) : wrM l g yX3_addBelow wsX3_addBelow 0 0 [.ref (t0), .int (nI (x)), .int (nI (y))] (wTim g (t0) (t1) (t2) (fn) (tk) (cnt)) none (fun H1 => gP g (wTim g t0 t1 t2 (fn) (tk) (cnt)) H1) ([t0, t1, t2]) := by
  refine wr_of (cc := cX3_addBelow) (maxL := 4) (ret := none) (by decide) rfl (Nat.le_of_ble_eq_true rfl) (fun p e s m below meth c ls hx hb hr hml hts hown hlocks hl hP hE hS => ?_)
  have hl : lv_has ls 4 [(0, .ref (t0)), (1, .int (nI (x))), (2, .int (nI (y)))] := hl
  have hown : s.vm.findClass RX3 = some m.cls := hown
  have hD : va_D (fun z => z ∈ [t0, t1, t2]) (wTim g t0 t1 t2 fn tk cnt) := D_of hN (fun _ h => h)
  refine lv_aload_n hx hb dX3_addBelow_0 rfl (lv_at hl 0 rfl) ?_
  refine gf (q0 := 0) (ci := 3) (k := 2) (v := .int (nI (cnt))) hx hb hts iX3_addBelow_3 hown hE hP rfl rfl (by decide) mX3_addBelow_19 rfl dX3_addBelow_1 ?_
  refine lv_sipush (v := nI (150)) hx hb dX3_addBelow_4 (by decide) ?_
  refine br_geN (a := cnt) (b := 150) (tgt := 25) hx hb (by omega) (by omega) dX3_addBelow_7 (by decide) (fun h33 => ?_) (fun h33 => ?_)
  · exact absurd h33 (by omega)
  · refine lv_iload_n hx hb dX3_addBelow_10 rfl (lv_at hl 2 rfl) ?_
    refine br_lt0 (tgt := 25) hx hb (by omega) dX3_addBelow_11 (by decide) (fun h34 => ?_) (fun h34 => ?_)
    · exact h34.elim
    · refine lv_iload_n hx hb dX3_addBelow_14 rfl (lv_at hl 2 rfl) ?_
      refine lv_sipush (v := nI (150)) hx hb dX3_addBelow_15 (by decide) ?_
      refine br_geN (a := y) (b := 150) (tgt := 25) hx hb (by omega) (by omega) dX3_addBelow_18 (by decide) (fun h35 => ?_) (fun h35 => ?_)
      · exact absurd h35 (by omega)
      · refine lv_iconst (v := bI (true)) hx hb dX3_addBelow_21 (by decide) ?_
        refine lv_goto (tgt := 26) hx hb dX3_addBelow_22 (by decide) ?_
        refine lv_istore_n (lv' := [(3, .int (bI (true))), (0, .ref (t0)), (1, .int (nI (x))), (2, .int (nI (y)))]) hx hb dX3_addBelow_26 rfl hl (by decide) rfl (fun ls hl => ?_)
        refine lv_iload_n hx hb dX3_addBelow_27 rfl (lv_at hl 0 rfl) ?_
        refine br_eqB (tgt := 67) hx hb dX3_addBelow_28 (by decide) (fun h36 => ?_) (fun h36 => ?_)
        · exact absurd h36 (by decide)
        · refine lv_aload_n hx hb dX3_addBelow_31 rfl (lv_at hl 1 rfl) ?_
          refine gf (q0 := 0) (ci := 3) (k := 1) (v := .ref (t2)) hx hb hts iX3_addBelow_3 hown hE hP rfl rfl (by decide) mX3_addBelow_15 rfl dX3_addBelow_32 ?_
          refine lv_iload_n hx hb dX3_addBelow_35 rfl (lv_at hl 3 rfl) ?_
          refine ra_z (q0 := 2) (i := y) hx hb hE hP rfl (by omega) (by decide) dX3_addBelow_36 ?_
          refine br_neB (tgt := 67) hx hb dX3_addBelow_37 (by decide) (fun h37 => ?_) (fun h37 => ?_)
          · exact wr_retv hx hb hr hlocks hS hP dX3_addBelow_67
          · exact absurd (ht.symm.trans h37) (by decide)
theorem mX3_addBelow_9 : Cond.fieldLink RX3 9 "Followrow$Timeline" "numbers" "[I" ∈ wsX3_addBelow := by decide +kernel
set_option maxHeartbeats 4000000 in
set_option maxRecDepth 100000 in
/-- addBelow(x, y), y not taken -/
theorem c_X3_addBelow_f (l : Launch) (g : GT) {t0 t1 t2 cnt : Nat} {fn : Nat → Int32} {tk : Nat → Bool} {x y : Nat} (hN : Nd [t0, t1, t2]) (hn : cnt < 150) (h2 : y < 150) (ht : tk y = false) : wrM l g yX3_addBelow wsX3_addBelow 0 0 [.ref (t0), .int (nI (x)), .int (nI (y))] (wTim g (t0) (t1) (t2) (fn) (tk) (cnt)) none (fun H1 => gP g (wTim g t0 t1 t2 (upd fn cnt (nI x)) (va_up tk y true) (cnt + 1)) H1) ([t0, t1, t2]) := by
  refine wr_of (cc := cX3_addBelow) (maxL := 4) (ret := none) (by decide) rfl (Nat.le_of_ble_eq_true rfl) (fun p e s m below meth c ls hx hb hr hml hts hown hlocks hl hP hE hS => ?_)
  have hl : lv_has ls 4 [(0, .ref (t0)), (1, .int (nI (x))), (2, .int (nI (y)))] := hl
  have hown : s.vm.findClass RX3 = some m.cls := hown
  have hD : va_D (fun z => z ∈ [t0, t1, t2]) (wTim g t0 t1 t2 fn tk cnt) := D_of hN (fun _ h => h)
  refine lv_aload_n hx hb dX3_addBelow_0 rfl (lv_at hl 0 rfl) ?_
  refine gf (q0 := 0) (ci := 3) (k := 2) (v := .int (nI (cnt))) hx hb hts iX3_addBelow_3 hown hE hP rfl rfl (by decide) mX3_addBelow_19 rfl dX3_addBelow_1 ?_
  refine lv_sipush (v := nI (150)) hx hb dX3_addBelow_4 (by decide) ?_
  refine br_geN (a := cnt) (b := 150) (tgt := 25) hx hb (by omega) (by omega) dX3_addBelow_7 (by decide) (fun h38 => ?_) (fun h38 => ?_)
  · exact absurd h38 (by omega)
  · refine lv_iload_n hx hb dX3_addBelow_10 rfl (lv_at hl 2 rfl) ?_
    refine br_lt0 (tgt := 25) hx hb (by omega) dX3_addBelow_11 (by decide) (fun h39 => ?_) (fun h39 => ?_)
    · exact h39.elim
    · refine lv_iload_n hx hb dX3_addBelow_14 rfl (lv_at hl 2 rfl) ?_
      refine lv_sipush (v := nI (150)) hx hb dX3_addBelow_15 (by decide) ?_
      refine br_geN (a := y) (b := 150) (tgt := 25) hx hb (by omega) (by omega) dX3_addBelow_18 (by decide) (fun h40 => ?_) (fun h40 => ?_)
      · exact absurd h40 (by omega)
      · refine lv_iconst (v := bI (true)) hx hb dX3_addBelow_21 (by decide) ?_
        refine lv_goto (tgt := 26) hx hb dX3_addBelow_22 (by decide) ?_
        refine lv_istore_n (lv' := [(3, .int (bI (true))), (0, .ref (t0)), (1, .int (nI (x))), (2, .int (nI (y)))]) hx hb dX3_addBelow_26 rfl hl (by decide) rfl (fun ls hl => ?_)
        refine lv_iload_n hx hb dX3_addBelow_27 rfl (lv_at hl 0 rfl) ?_
        refine br_eqB (tgt := 67) hx hb dX3_addBelow_28 (by decide) (fun h41 => ?_) (fun h41 => ?_)
        · exact absurd h41 (by decide)
        · refine lv_aload_n hx hb dX3_addBelow_31 rfl (lv_at hl 1 rfl) ?_
          refine gf (q0 := 0) (ci := 3) (k := 1) (v := .ref (t2)) hx hb hts iX3_addBelow_3 hown hE hP rfl rfl (by decide) mX3_addBelow_15 rfl dX3_addBelow_32 ?_
          refine lv_iload_n hx hb dX3_addBelow_35 rfl (lv_at hl 3 rfl) ?_
          refine ra_z (q0 := 2) (i := y) hx hb hE hP rfl (by omega) (by decide) dX3_addBelow_36 ?_
          refine br_neB (tgt := 67) hx hb dX3_addBelow_37 (by decide) (fun h42 => ?_) (fun h42 => ?_)
          · exact absurd (ht.symm.trans h42) (by decide)
          · refine lv_aload_n hx hb dX3_addBelow_40 rfl (lv_at hl 1 rfl) ?_
            refine gf (q0 := 0) (ci := 3) (k := 1) (v := .ref (t2)) hx hb hts iX3_addBelow_3 hown hE hP rfl rfl (by decide) mX3_addBelow_15 rfl dX3_addBelow_41 ?_
            refine lv_iload_n hx hb dX3_addBelow_44 rfl (lv_at hl 3 rfl) ?_
            refine lv_iconst (v := bI (true)) hx hb dX3_addBelow_45 (by decide) ?_
            refine wa_z (q0 := 2) (i := y) (b := true) (ws' := wTim g (t0) (t1) (t2) (fn) (va_up (tk) (y) (true)) (cnt)) hx hb hE hP hD hS rfl rfl (by omega) (by decide) dX3_addBelow_46 (fun H locs hP hD hS => ?_)
            refine lv_aload_n hx hb dX3_addBelow_47 rfl (lv_at hl 1 rfl) ?_
            refine gf (q0 := 0) (ci := 3) (k := 0) (v := .ref (t1)) hx hb hts iX3_addBelow_3 hown hE hP rfl rfl (by decide) mX3_addBelow_9 rfl dX3_addBelow_48 ?_
            refine lv_aload_n hx hb dX3_addBelow_51 rfl (lv_at hl 1 rfl) ?_
            refine gf (q0 := 0) (ci := 3) (k := 2) (v := .int (nI (cnt))) hx hb hts iX3_addBelow_3 hown hE hP rfl rfl (by decide) mX3_addBelow_19 rfl dX3_addBelow_52 ?_
            refine lv_iload_n hx hb dX3_addBelow_55 rfl (lv_at hl 2 rfl) ?_
            refine wa_i (q0 := 1) (i := cnt) (ws' := wTim g (t0) (t1) (t2) (upd (fn) (cnt) (nI (x))) (va_up (tk) (y) (true)) (cnt)) hx hb hE hP hD hS rfl rfl rfl (by omega) (by decide) dX3_addBelow_56 (fun H locs hP hD hS => ?_)
            refine lv_aload_n hx hb dX3_addBelow_57 rfl (lv_at hl 1 rfl) ?_
            refine lv_dup hx hb dX3_addBelow_58 rfl ?_
            refine gf (q0 := 0) (ci := 3) (k := 2) (v := .int (nI (cnt))) hx hb hts iX3_addBelow_3 hown hE hP rfl rfl (by decide) mX3_addBelow_19 rfl dX3_addBelow_59 ?_
            refine lv_iconst (v := nI (1)) hx hb dX3_addBelow_62 (by decide) ?_
            refine lv_iadd hx hb dX3_addBelow_63 ?_
            refine tp_i (nI_add _ _) ?_
            refine pf (q0 := 0) (ci := 3) (k := 2) (ws' := wTim g (t0) (t1) (t2) (upd (fn) (cnt) (nI (x))) (va_up (tk) (y) (true)) (cnt + 1)) hx hb hts iX3_addBelow_3 hown hE hP hD hS rfl rfl (by decide) tyX3_ok nmX3 mX3_addBelow_19 rfl (by decide +kernel) (Nat.le_of_ble_eq_true rfl) rfl dX3_addBelow_64 (fun H locs hP hD hS => ?_)
            exact wr_retv hx hb hr hlocks hS hP dX3_addBelow_67
