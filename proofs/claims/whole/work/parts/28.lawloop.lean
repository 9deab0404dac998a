theorem lp_end {L i : Nat} (hL : L ≤ 2048) (hi : i ≤ 2048) : nI L - nI 4 < nI i ↔ L < i + 4 := by
  rw [Int32.lt_iff_toInt_lt, pk_sub_toInt (by omega) (by omega), nI_toInt (by omega)]
  omega
set_option maxHeartbeats 4000000 in
set_option maxRecDepth 100000 in
/-- the law's loop, from its head to its end -/
theorem lw_loop {p : Program} {l : Launch} {en : Env} {s : State} {m : MethodId} {below : List Frame} {meth : Method} {c : Code} {b L : Nat} {xs : Nat → Int32} {g : GT} {ad am : Nat → Nat} {o : Nat} (C : lwC p l s m c b L xs g ad am o) {Q : State → Prop} (ke : ∀ (H : Heap) (locs : List Loc) (ls : Array Slot) (cells slots : Nat), cells ≤ 3000 → slots ≤ 20000 → va_S (frA s) s.heap H locs → W p l en room_1 s m #[Value.ref b] below meth c H locs cells slots Q (F0 m 1685 ls [])) :
    ∀ (n9 i : Nat) (σ : St) (H : Heap) (locs : List Loc) (ls : Array Slot) (cells slots : Nat), L - i < n9 → i ≤ L → cells ≤ 60 + i → slots ≤ 4000 + 6 * i → lwI g ad am o σ H → va_S (frA s) s.heap H locs → lv_has ls 7 [(0, .ref (b)), (1, .ref (ad 0)), (2, .ref (am 0)), (3, .ref (o)), (4, .int (nI (i)))] → W p l en room_1 s m #[Value.ref b] below meth c H locs cells slots Q (F0 m 23 ls []) := by
  intro n9
  induction n9 with
  | zero => intro i σ H locs ls cells slots h; omega
  | succ n9 ih =>
    intro i σ H locs ls cells slots h9 hiL hc hs hI9 hS hl
    have C0 := C
    obtain ⟨hx, hb, hml, hown, hts, hX, hbl, hL, hlf, hE, hxv0, hN, hM, ho, ho2, hdis, hfa, hma, hoa⟩ := C0
    have hbA : ¬ frA s b := fun h => by
      have h8 : s.heap.size ≤ b := h
      omega
    refine lv_iload hx hb dL_law_23 (lv_at hl 4 rfl) ?_
    refine lv_aload_n hx hb dL_law_25 rfl (lv_at hl 0 rfl) ?_
    refine va_slen hx hb hX hbl hbA hS dL_law_26 ?_
    refine lv_iconst (v := nI 4) hx hb dL_law_27 (by decide) ?_
    refine lv_isub hx hb dL_law_28 ?_
    refine lv_icmp_gt (tgt := 1685) hx hb dL_law_29 (by decide) (fun h => ke H locs ls cells slots (by omega) (by omega) hS) (fun h => ?_)
    have hi4 : i + 4 ≤ L := Nat.not_lt.mp (fun z => h ((lp_end hL (by omega)).mpr z))
    refine lv_aload_n hx hb dL_law_32 rfl (lv_at hl 0 rfl) ?_
    refine lv_iload hx hb dL_law_33 (lv_at hl 4 rfl) ?_
    refine lw_ld (j := i) hx hb hX hbl hS (by omega) hL dL_law_35 ?_
    refine lv_bipush (v := nI 31) hx hb dL_law_36 (by decide) ?_
    refine lv_iand hx hb dL_law_38 ?_
    obtain ⟨j, hj, hje⟩ := and31 (xs i)
    refine tp_i hje ?_
    have hcont : ∀ (σ' : St) (H : Heap) (locs : List Loc) (ls : Array Slot), lwI g ad am o σ' H → va_S (frA s) s.heap H locs → lv_has ls 7 [(0, .ref (b)), (1, .ref (ad 0)), (2, .ref (am 0)), (3, .ref (o)), (4, .int (nI (i)))] → W p l en room_1 s m #[Value.ref b] below meth c H locs (cells + 4) (slots + 24) Q (F0 m 1679 ls []) := by
      intro σ' H locs ls h1 h2 h3
      refine lv_iinc (v := nI (i + 4)) (lv' := [(4, .int (nI (i + 4))), (0, .ref (b)), (1, .ref (ad 0)), (2, .ref (am 0)), (3, .ref (o))]) hx hb dL_law_1679 h3 (k := 4) rfl (inc4 i) (by decide) rfl (fun ls hl => ?_)
      refine lv_goto (tgt := 23) hx hb dL_law_1682 (by decide) ?_
      exact ih (i + 4) σ' H locs ls (cells + 4) (slots + 24) (by omega) (by omega) (by omega) (by omega) h1 h2 (lv_sub hl [1, 2, 3, 4, 0] rfl)
    rcases (show j = 0 ∨ j = 1 ∨ j = 2 ∨ j = 3 ∨ j = 4 ∨ j = 5 ∨ j = 6 ∨ j = 7 ∨ j = 8 ∨ j = 9 ∨ j = 10 ∨ j = 11 ∨ j = 12 ∨ j = 13 ∨ j = 14 ∨ j = 15 ∨ j = 16 ∨ j = 17 ∨ j = 18 ∨ j = 19 ∨ j = 20 ∨ j = 21 ∨ j = 22 ∨ j = 23 ∨ 24 ≤ j by omega) with rfl | rfl | rfl | rfl | rfl | rfl | rfl | rfl | rfl | rfl | rfl | rfl | rfl | rfl | rfl | rfl | rfl | rfl | rfl | rfl | rfl | rfl | rfl | rfl | h24
    · exact lv_tableIn (off := 109) (tgt := 148) hx hb dL_law_39 (by decide) (by decide) (by decide) (by decide) (op_follow C hi4 hI9 hS hl (by omega) (by omega) hcont)
    · exact lv_tableIn (off := 177) (tgt := 216) hx hb dL_law_39 (by decide) (by decide) (by decide) (by decide) (op_unfollow C hi4 hI9 hS hl (by omega) (by omega) hcont)
    · exact lv_tableIn (off := 245) (tgt := 284) hx hb dL_law_39 (by decide) (by decide) (by decide) (by decide) (op_mute C hi4 hI9 hS hl (by omega) (by omega) hcont)
    · exact lv_tableIn (off := 348) (tgt := 387) hx hb dL_law_39 (by decide) (by decide) (by decide) (by decide) (op_block C hi4 hI9 hS hl (by omega) (by omega) hcont)
    · exact lv_tableIn (off := 451) (tgt := 490) hx hb dL_law_39 (by decide) (by decide) (by decide) (by decide) (op_post C hi4 hI9 hS hl (by omega) (by omega) hcont)
    · exact lv_tableIn (off := 507) (tgt := 546) hx hb dL_law_39 (by decide) (by decide) (by decide) (by decide) (op_repost C hi4 hI9 hS hl (by omega) (by omega) hcont)
    · exact lv_tableIn (off := 575) (tgt := 614) hx hb dL_law_39 (by decide) (by decide) (by decide) (by decide) (op_delete C hi4 hI9 hS hl (by omega) (by omega) hcont)
    · exact lv_tableIn (off := 631) (tgt := 670) hx hb dL_law_39 (by decide) (by decide) (by decide) (by decide) (op_setMark C hi4 hI9 hS hl (by omega) (by omega) hcont)
    · exact lv_tableIn (off := 687) (tgt := 726) hx hb dL_law_39 (by decide) (by decide) (by decide) (by decide) (op_setRoom C hi4 hI9 hS hl (by omega) (by omega) hcont)
    · exact lv_tableIn (off := 743) (tgt := 782) hx hb dL_law_39 (by decide) (by decide) (by decide) (by decide) (op_entries C hi4 hI9 hS hl (by omega) (by omega) hcont)
    · exact lv_tableIn (off := 756) (tgt := 795) hx hb dL_law_39 (by decide) (by decide) (by decide) (by decide) (op_authorOf C hi4 hI9 hS hl (by omega) (by omega) hcont)
    · exact lv_tableIn (off := 812) (tgt := 851) hx hb dL_law_39 (by decide) (by decide) (by decide) (by decide) (op_originOf C hi4 hI9 hS hl (by omega) (by omega) hcont)
    · exact lv_tableIn (off := 868) (tgt := 907) hx hb dL_law_39 (by decide) (by decide) (by decide) (by decide) (op_follows C hi4 hI9 hS hl (by omega) (by omega) hcont)
    · exact lv_tableIn (off := 943) (tgt := 982) hx hb dL_law_39 (by decide) (by decide) (by decide) (by decide) (op_followers C hi4 hI9 hS hl (by omega) (by omega) hcont)
    · exact lv_tableIn (off := 999) (tgt := 1038) hx hb dL_law_39 (by decide) (by decide) (by decide) (by decide) (op_isLarge C hi4 hI9 hS hl (by omega) (by omega) hcont)
    · exact lv_tableIn (off := 1062) (tgt := 1101) hx hb dL_law_39 (by decide) (by decide) (by decide) (by decide) (op_inRow C hi4 hI9 hS hl (by omega) (by omega) hcont)
    · exact lv_tableIn (off := 1118) (tgt := 1157) hx hb dL_law_39 (by decide) (by decide) (by decide) (by decide) (op_rowAt C hi4 hI9 hS hl (by omega) (by omega) hcont)
    · exact lv_tableIn (off := 1186) (tgt := 1225) hx hb dL_law_39 (by decide) (by decide) (by decide) (by decide) (op_floorOf C hi4 hI9 hS hl (by omega) (by omega) hcont)
    · exact lv_tableIn (off := 1242) (tgt := 1281) hx hb dL_law_39 (by decide) (by decide) (by decide) (by decide) (op_shows C hi4 hI9 hS hl (by omega) (by omega) hcont)
    · exact lv_tableIn (off := 1317) (tgt := 1356) hx hb dL_law_39 (by decide) (by decide) (by decide) (by decide) (op_next C hi4 hI9 hS hl (by omega) (by omega) hcont)
    · exact lv_tableIn (off := 1385) (tgt := 1424) hx hb dL_law_39 (by decide) (by decide) (by decide) (by decide) (op_pageEnd C hi4 hI9 hS hl (by omega) (by omega) hcont)
    · exact lv_tableIn (off := 1465) (tgt := 1504) hx hb dL_law_39 (by decide) (by decide) (by decide) (by decide) (op_length C hi4 hI9 hS hl (by omega) (by omega) hcont)
    · exact lv_tableIn (off := 1521) (tgt := 1560) hx hb dL_law_39 (by decide) (by decide) (by decide) (by decide) (op_lengthByMerging C hi4 hI9 hS hl (by omega) (by omega) hcont)
    · exact lv_tableIn (off := 1577) (tgt := 1616) hx hb dL_law_39 (by decide) (by decide) (by decide) (by decide) (op_hasGap C hi4 hI9 hS hl (by omega) (by omega) hcont)
    · refine lv_tableOut (tgt := 1679) hx hb dL_law_39 (Or.inr (by rw [nI_toInt (by omega)]; omega)) (by decide) ?_
      exact W.widen (k := cells + 4) (n := slots + 24) (by omega) (by omega) (hcont σ H locs ls hI9 hS hl)
