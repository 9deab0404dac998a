theorem ex_row {σ : St} (hI : Inv σ) (x y : Int32) : ∃ v9, eRow σ x y = 0 → isRow σ (ix x) (ix y) v9 := by
  by_cases h : eRow σ x y = 0
  · have h2 := h
    unfold eRow at h2
    split at h2
    · rename_i h3
      split at h2
      · rename_i h4
        obtain ⟨q, hq, -, hq2⟩ := isP_of h3
        have h8 := hI.2.2.2.2.2.2.2 q hq
        have h9 := cN_le (el σ (ix x)) (sn σ)
        have h10 := hI.1
        obtain ⟨j, hj, -, hj2⟩ := isB_of h4 (by unfold rcn; omega)
        rw [hq2] at hj ⊢
        rw [hj2]
        obtain ⟨v, hv⟩ := isRow_ex h8 hj
        exact ⟨v, fun _ => hv⟩
      · cases h2
    · cases h2
  · exact ⟨0, fun z => absurd z h⟩
theorem ex_pag (σ : St) (x y z : Int32) : ∃ r9, ePag x y z = 0 → isPag (shw σ (ix x)) (cmin (ix y) (sn σ)) (ix z) r9 := by
  by_cases h : ePag x y z = 0
  · have h2 := h
    unfold ePag at h2
    split at h2
    · split at h2
      · obtain ⟨j, hj1, hj2, -, hj4⟩ := eR_0 (by decide) (by decide) h2
        obtain ⟨r, hr⟩ := isPag_ex (shw σ (ix x)) (cmin (ix y) (sn σ)) (ix z) (by omega)
        exact ⟨r, fun _ => hr⟩
      · cases h2
    · cases h2
  · exact ⟨0, fun z => absurd z h⟩
theorem nx_follow {σ : St} (hI : Inv σ) (hSd : Setd σ) {x y : Int32} (h : eFol σ x y = 0) : Inv (nFol σ x y) ∧ Setd (nFol σ x y) := ⟨Inv_stl (Inv_uF hI _), Setd_stl (Inv_uF hI _)⟩
theorem nx_unfollow {σ : St} (hI : Inv σ) (hSd : Setd σ) {x y : Int32} (h : eUnf σ x y = 0) : Inv (nUnf σ x y) ∧ Setd (nUnf σ x y) := ⟨Inv_stl (Inv_uF hI _), Setd_stl (Inv_uF hI _)⟩
theorem nx_mute {σ : St} (hI : Inv σ) (hSd : Setd σ) {x y : Int32} {v : Bool} (h : eMut x y = 0) : Inv (nMut σ x y v) ∧ Setd (nMut σ x y v) := ⟨Inv_uM hI _, hSd⟩
theorem nx_block {σ : St} (hI : Inv σ) (hSd : Setd σ) {x y : Int32} {v : Bool} (h : eMut x y = 0) : Inv (nBlk σ x y v) ∧ Setd (nBlk σ x y v) := by
  cases v with
  | true => exact ⟨Inv_stl (Inv_uF (Inv_uB hI _) _), Setd_stl (Inv_uF (Inv_uB hI _) _)⟩
  | false => exact ⟨Inv_uB hI _, hSd⟩
theorem nx_post {σ : St} (hI : Inv σ) (hSd : Setd σ) {x : Int32} (h : ePst σ x = 0) : Inv (nPst σ x) ∧ Setd (nPst σ x) := by
  unfold ePst at h
  split at h
  · rename_i h1
    split at h
    · rename_i h2
      obtain ⟨q, hq, -, hq2⟩ := isP_of h1
      have h3 := Inv_uE (a := ix x) (o := sn σ) hI h2 (by omega) (Nat.le_refl _)
      exact ⟨Inv_stl h3, Setd_stl h3⟩
    · cases h
  · cases h
theorem nx_repost {σ : St} (hI : Inv σ) (hSd : Setd σ) {x y : Int32} (h : eRep σ x y = 0) : Inv (nRep σ x y) ∧ Setd (nRep σ x y) := by
  unfold eRep at h
  split at h
  · rename_i h1
    split at h
    · rename_i h2
      split at h
      · rename_i h3
        obtain ⟨q, hq, -, hq2⟩ := isP_of h1
        obtain ⟨j, hj, -, hj2⟩ := isB_of h2 (by omega)
        have h5 := hI.2.2.2.2.2.2.1 (ix y) (by omega)
        have h6 := Inv_uE (a := ix x) (o := so σ (ix y)) hI h3 (by omega) (by omega)
        exact ⟨Inv_stl h6, Setd_stl h6⟩
      · cases h
    · cases h
  · cases h
theorem nx_delete {σ : St} (hI : Inv σ) (hSd : Setd σ) {x : Int32} (h : eDel σ x = 0) : Inv (nDel σ x) ∧ Setd (nDel σ x) := ⟨Inv_stl (Inv_uD hI _), Setd_stl (Inv_uD hI _)⟩
theorem nx_setMark {σ : St} (hI : Inv σ) (hSd : Setd σ) {x : Int32} (h : eR 0 8 x = 0) : Inv (nMrk σ x) ∧ Setd (nMrk σ x) := by
  obtain ⟨j, hj1, hj2, -, hj4⟩ := eR_0 (by decide) (by decide) h
  have h3 := Inv_uK (x := ix x) hI (by omega)
  exact ⟨Inv_stl h3, Setd_stl h3⟩
theorem nx_setRoom {σ : St} (hI : Inv σ) (hSd : Setd σ) {x : Int32} (h : eR 1 40 x = 0) : Inv (nRom σ x) ∧ Setd (nRom σ x) := by
  obtain ⟨j, hj1, hj2, -, hj4⟩ := eR_0 (by decide) (by decide) h
  have h3 := Inv_uR (x := ix x) hI (by omega) (by omega)
  exact ⟨Inv_stl h3, Setd_stl h3⟩
set_option maxHeartbeats 4000000 in
set_option maxRecDepth 100000 in
/-- a turn of the loop: follow -/
theorem op_follow {p : Program} {l : Launch} {en : Env} {s : State} {m : MethodId} {below : List Frame} {meth : Method} {c : Code} {b L : Nat} {xs : Nat → Int32} {g : GT} {ad am : Nat → Nat} {o : Nat} (C : lwC p l s m c b L xs g ad am o) {i : Nat} {H : Heap} {locs : List Loc} {cells slots : Nat} {Q : State → Prop} {σ : St} {ls : Array Slot} (hi : i + 4 ≤ L) (hI9 : lwI g ad am o σ H) (hS : va_S (frA s) s.heap H locs) (hl : lv_has ls 7 [(0, .ref (b)), (1, .ref (ad 0)), (2, .ref (am 0)), (3, .ref (o)), (4, .int (nI (i)))]) (hc : cells + 10 ≤ 601024) (hs : slots + 60 ≤ 7293034) (kk : ∀ (σ' : St) (H : Heap) (locs : List Loc) (ls : Array Slot), lwI g ad am o σ' H → va_S (frA s) s.heap H locs → lv_has ls 7 [(0, .ref (b)), (1, .ref (ad 0)), (2, .ref (am 0)), (3, .ref (o)), (4, .int (nI (i)))] → W p l en room_1 s m #[Value.ref b] below meth c H locs (cells + 4) (slots + 24) Q (F0 m 1679 ls [])) : W p l en room_1 s m #[Value.ref b] below meth c H locs cells slots Q (F0 m 148 ls []) := by
  obtain ⟨hx, hb, hml, hown, hts, hX, hbl, hL, hlf, hE, hxv0, hN, hM, ho, ho2, hdis, hfa, hma, hoa⟩ := C
  obtain ⟨hI, hSd, ⟨τ, hF, hR, hT⟩, ⟨th, hMd⟩, fn, hO⟩ := hI9
  refine lv_aload_n hx hb dL_law_148 rfl (lv_at hl 1 rfl) ?_
  refine lv_aload_n hx hb dL_law_149 rfl (lv_at hl 0 rfl) ?_
  refine lv_iload hx hb dL_law_150 (lv_at hl 4 rfl) ?_
  refine lv_iconst (v := nI (1)) hx hb dL_law_152 (by decide) ?_
  refine lv_iadd hx hb dL_law_153 ?_
  refine tp_i (nI_add _ _) ?_
  refine lw_ld (j := i + 1) hx hb hX hbl hS (by omega) hL dL_law_154 ?_
  refine lv_aload_n hx hb dL_law_155 rfl (lv_at hl 0 rfl) ?_
  refine lv_iload hx hb dL_law_156 (lv_at hl 4 rfl) ?_
  refine lv_iconst (v := nI (2)) hx hb dL_law_158 (by decide) ?_
  refine lv_iadd hx hb dL_law_159 ?_
  refine tp_i (nI_add _ _) ?_
  refine lw_ld (j := i + 2) hx hb hX hbl hS (by omega) hL dL_law_160 ?_
  refine lv_aload_n hx hb dL_law_161 rfl (lv_at hl 3 rfl) ?_
  refine lw_go (xn_SX ⟨hx, hb, hml, hown, hts⟩ (c_L_follow l hlf g hI hN hR hSd hT ho (o := o) (fn := fn) (x := xs (i + 1)) (y := xs (i + 2))) gL_law_L_follow rfl qL_follow ⟨Nat.le_of_ble_eq_true rfl, Nat.le_of_ble_eq_true rfl⟩ ⟨(show cells + 4 ≤ 601024 by omega), (show slots + 24 ≤ 7293034 by omega)⟩ (gP_app hO hF) hE (xv_fr hxv0 hS) rfl hl.1 rfl (Nat.le_of_ble_eq_true rfl) dL_law_162) hS (List.forall_mem_cons.mpr ⟨hoa, hfa⟩) (fun H locs fn9 hO hfn hF hk hS => ?_)
  have hMd := wM_keepO ho2 hdis hMd hk
  clear hk
  have he3 : (eFol σ (xs (i + 1)) (xs (i + 2))) ≤ 3 := by
    unfold eFol; (repeat' split) <;> omega
  refine lv_istore (lv' := [(5, .int (nI (eFol σ (xs (i + 1)) (xs (i + 2))))), (0, .ref (b)), (1, .ref (ad 0)), (2, .ref (am 0)), (3, .ref (o)), (4, .int (nI (i)))]) hx hb dL_law_165 hl (by decide) rfl (fun ls hl => ?_)
  refine lv_aload_n hx hb dL_law_167 rfl (lv_at hl 3 rfl) ?_
  refine lv_aload_n hx hb dL_law_168 rfl (lv_at hl 1 rfl) ?_
  refine lv_iload hx hb dL_law_169 (lv_at hl 5 rfl) ?_
  refine lv_iconst (v := nI (1)) hx hb dL_law_171 (by decide) ?_
  refine lv_iadd hx hb dL_law_172 ?_
  refine tp_i (nI_add _ _) ?_
  refine lw_ld (j := i + 1) hx hb hX hbl hS (by omega) hL dL_law_173 ?_
  refine lv_aload_n hx hb dL_law_174 rfl (lv_at hl 1 rfl) ?_
  refine lv_iload hx hb dL_law_175 (lv_at hl 5 rfl) ?_
  refine lv_iconst (v := nI (2)) hx hb dL_law_177 (by decide) ?_
  refine lv_iadd hx hb dL_law_178 ?_
  refine tp_i (nI_add _ _) ?_
  refine lw_ld (j := i + 2) hx hb hX hbl hS (by omega) hL dL_law_179 ?_
  refine wr_goS (rn_V ⟨hx, hb, hml, hown, hts⟩ (c_X5_follow l g (σ := σ) hI hM (x := xs (i + 1)) (y := xs (i + 2))) gL_law_X5_follow rfl pX5_follow ⟨Nat.le_of_ble_eq_true rfl, Nat.le_of_ble_eq_true rfl⟩ ⟨(show cells + 4 ≤ 601024 by omega), (show slots + 24 ≤ 7293034 by omega)⟩ hMd hE rfl rfl rfl hl.1 rfl (Nat.le_of_ble_eq_true rfl) dL_law_180) hS hma (fun H locs hB hz hk hS => ?_)
  have hMd : gP g (wM g am (oS (eFol σ (xs (i + 1)) (xs (i + 2))) (nFol σ (xs (i + 1)) (xs (i + 2))) σ) (eFol σ (xs (i + 1)) (xs (i + 2)))) H := hB
  have hF := FWq_keepM hdis hF hk
  have hO := wO_keepM ho2 hO hk
  clear hB hk hz
  refine lv_istore (lv' := [(6, .int (oI (eFol σ (xs (i + 1)) (xs (i + 2))) (nI (rFol σ (xs (i + 1)) (xs (i + 2)))))), (5, .int (nI (eFol σ (xs (i + 1)) (xs (i + 2))))), (0, .ref (b)), (1, .ref (ad 0)), (2, .ref (am 0)), (3, .ref (o)), (4, .int (nI (i)))]) hx hb dL_law_183 hl (by decide) rfl (fun ls hl => ?_)
  refine lv_aload_n hx hb dL_law_185 rfl (lv_at hl 4 rfl) ?_
  refine rd_goS (rn_V ⟨hx, hb, hml, hown, hts⟩ (c_X5_thrown l g) gL_law_X5_thrown rfl pX5_thrown ⟨Nat.le_of_ble_eq_true rfl, Nat.le_of_ble_eq_true rfl⟩ ⟨(show cells + 4 ≤ 601024 by omega), (show slots + 24 ≤ 7293034 by omega)⟩ hMd hE rfl rfl rfl hl.1 rfl (Nat.le_of_ble_eq_true rfl) dL_law_186) ?_
  refine lv_iload hx hb dL_law_189 (lv_at hl 1 rfl) ?_
  refine lv_icmp_eq (tgt := 196) hx hb dL_law_191 (by decide) (fun _ => ?_) (fun h9 => absurd rfl h9)
  refine lv_iload hx hb dL_law_196 (lv_at hl 1 rfl) ?_
  refine lv_if_ne (tgt := 213) hx hb dL_law_198 (by decide) (fun hne => ?_) (fun heq => ?_)
  · refine lv_goto (tgt := 1679) hx hb dL_law_213 (by decide) ?_
    exact W.widen (k := cells + 4) (n := slots + 24) (by omega) (by omega) (kk (oS (eFol σ (xs (i + 1)) (xs (i + 2))) (nFol σ (xs (i + 1)) (xs (i + 2))) σ) H locs ls ⟨(Inv_oS (fun z => (nx_follow hI hSd z).1) hI), (Setd_oS (fun z => (nx_follow hI hSd z).2) hSd), hF, ⟨_, hMd⟩, _, hO⟩ hS (lv_sub hl [2, 3, 4, 5, 6] rfl))
  · have he0 : (eFol σ (xs (i + 1)) (xs (i + 2))) = 0 := (nI_z he3 heq)
    refine lv_aload_n hx hb dL_law_201 rfl (lv_at hl 5 rfl) ?_
    refine lv_iconst (v := nI (0)) hx hb dL_law_202 (by decide) ?_
    refine lw_lald hx hb hE hO (hfn he0) dL_law_203 ?_
    refine lv_iload hx hb dL_law_204 (lv_at hl 0 rfl) ?_
    refine lv_i2l hx hb dL_law_206 rfl ?_
    refine lw_lcmp0 hx hb (by rw [he0]; try rfl) dL_law_207 ?_
    refine br_eq0 (a := 0) (tgt := 213) hx hb (by decide) dL_law_208 (by decide) (fun h351 => ?_) (fun h351 => ?_)
    · refine lv_goto (tgt := 1679) hx hb dL_law_213 (by decide) ?_
      exact W.widen (k := cells + 4) (n := slots + 24) (by omega) (by omega) (kk (oS (eFol σ (xs (i + 1)) (xs (i + 2))) (nFol σ (xs (i + 1)) (xs (i + 2))) σ) H locs ls ⟨(Inv_oS (fun z => (nx_follow hI hSd z).1) hI), (Setd_oS (fun z => (nx_follow hI hSd z).2) hSd), hF, ⟨_, hMd⟩, _, hO⟩ hS (lv_sub hl [2, 3, 4, 5, 6] rfl))
    · exact absurd h351 (by decide)
set_option maxHeartbeats 4000000 in
set_option maxRecDepth 100000 in
/-- a turn of the loop: unfollow -/
theorem op_unfollow {p : Program} {l : Launch} {en : Env} {s : State} {m : MethodId} {below : List Frame} {meth : Method} {c : Code} {b L : Nat} {xs : Nat → Int32} {g : GT} {ad am : Nat → Nat} {o : Nat} (C : lwC p l s m c b L xs g ad am o) {i : Nat} {H : Heap} {locs : List Loc} {cells slots : Nat} {Q : State → Prop} {σ : St} {ls : Array Slot} (hi : i + 4 ≤ L) (hI9 : lwI g ad am o σ H) (hS : va_S (frA s) s.heap H locs) (hl : lv_has ls 7 [(0, .ref (b)), (1, .ref (ad 0)), (2, .ref (am 0)), (3, .ref (o)), (4, .int (nI (i)))]) (hc : cells + 10 ≤ 601024) (hs : slots + 60 ≤ 7293034) (kk : ∀ (σ' : St) (H : Heap) (locs : List Loc) (ls : Array Slot), lwI g ad am o σ' H → va_S (frA s) s.heap H locs → lv_has ls 7 [(0, .ref (b)), (1, .ref (ad 0)), (2, .ref (am 0)), (3, .ref (o)), (4, .int (nI (i)))] → W p l en room_1 s m #[Value.ref b] below meth c H locs (cells + 4) (slots + 24) Q (F0 m 1679 ls [])) : W p l en room_1 s m #[Value.ref b] below meth c H locs cells slots Q (F0 m 216 ls []) := by
  obtain ⟨hx, hb, hml, hown, hts, hX, hbl, hL, hlf, hE, hxv0, hN, hM, ho, ho2, hdis, hfa, hma, hoa⟩ := C
  obtain ⟨hI, hSd, ⟨τ, hF, hR, hT⟩, ⟨th, hMd⟩, fn, hO⟩ := hI9
  refine lv_aload_n hx hb dL_law_216 rfl (lv_at hl 1 rfl) ?_
  refine lv_aload_n hx hb dL_law_217 rfl (lv_at hl 0 rfl) ?_
  refine lv_iload hx hb dL_law_218 (lv_at hl 4 rfl) ?_
  refine lv_iconst (v := nI (1)) hx hb dL_law_220 (by decide) ?_
  refine lv_iadd hx hb dL_law_221 ?_
  refine tp_i (nI_add _ _) ?_
  refine lw_ld (j := i + 1) hx hb hX hbl hS (by omega) hL dL_law_222 ?_
  refine lv_aload_n hx hb dL_law_223 rfl (lv_at hl 0 rfl) ?_
  refine lv_iload hx hb dL_law_224 (lv_at hl 4 rfl) ?_
  refine lv_iconst (v := nI (2)) hx hb dL_law_226 (by decide) ?_
  refine lv_iadd hx hb dL_law_227 ?_
  refine tp_i (nI_add _ _) ?_
  refine lw_ld (j := i + 2) hx hb hX hbl hS (by omega) hL dL_law_228 ?_
  refine lv_aload_n hx hb dL_law_229 rfl (lv_at hl 3 rfl) ?_
  refine lw_go (xn_SX ⟨hx, hb, hml, hown, hts⟩ (c_L_unfollow l hlf g hI hN hR hSd hT ho (o := o) (fn := fn) (x := xs (i + 1)) (y := xs (i + 2))) gL_law_L_unfollow rfl qL_unfollow ⟨Nat.le_of_ble_eq_true rfl, Nat.le_of_ble_eq_true rfl⟩ ⟨(show cells + 3 ≤ 601024 by omega), (show slots + 18 ≤ 7293034 by omega)⟩ (gP_app hO hF) hE (xv_fr hxv0 hS) rfl hl.1 rfl (Nat.le_of_ble_eq_true rfl) dL_law_230) hS (List.forall_mem_cons.mpr ⟨hoa, hfa⟩) (fun H locs fn9 hO hfn hF hk hS => ?_)
  have hMd := wM_keepO ho2 hdis hMd hk
  clear hk
  have he3 : (eUnf σ (xs (i + 1)) (xs (i + 2))) ≤ 3 := by
    unfold eUnf; (repeat' split) <;> omega
  refine lv_istore (lv' := [(5, .int (nI (pl2 (eUnf σ (xs (i + 1)) (xs (i + 2)))))), (0, .ref (b)), (1, .ref (ad 0)), (2, .ref (am 0)), (3, .ref (o)), (4, .int (nI (i)))]) hx hb dL_law_233 hl (by decide) rfl (fun ls hl => ?_)
  refine lv_aload_n hx hb dL_law_235 rfl (lv_at hl 3 rfl) ?_
  refine lv_aload_n hx hb dL_law_236 rfl (lv_at hl 1 rfl) ?_
  refine lv_iload hx hb dL_law_237 (lv_at hl 5 rfl) ?_
  refine lv_iconst (v := nI (1)) hx hb dL_law_239 (by decide) ?_
  refine lv_iadd hx hb dL_law_240 ?_
  refine tp_i (nI_add _ _) ?_
  refine lw_ld (j := i + 1) hx hb hX hbl hS (by omega) hL dL_law_241 ?_
  refine lv_aload_n hx hb dL_law_242 rfl (lv_at hl 1 rfl) ?_
  refine lv_iload hx hb dL_law_243 (lv_at hl 5 rfl) ?_
  refine lv_iconst (v := nI (2)) hx hb dL_law_245 (by decide) ?_
  refine lv_iadd hx hb dL_law_246 ?_
  refine tp_i (nI_add _ _) ?_
  refine lw_ld (j := i + 2) hx hb hX hbl hS (by omega) hL dL_law_247 ?_
  refine wr_goS (rn_V ⟨hx, hb, hml, hown, hts⟩ (c_X5_unfollow l g (σ := σ) hI hM (x := xs (i + 1)) (y := xs (i + 2))) gL_law_X5_unfollow rfl pX5_unfollow ⟨Nat.le_of_ble_eq_true rfl, Nat.le_of_ble_eq_true rfl⟩ ⟨(show cells + 3 ≤ 601024 by omega), (show slots + 18 ≤ 7293034 by omega)⟩ hMd hE rfl rfl rfl hl.1 rfl (Nat.le_of_ble_eq_true rfl) dL_law_248) hS hma (fun H locs hB hz hk hS => ?_)
  have hMd : gP g (wM g am (oS (eUnf σ (xs (i + 1)) (xs (i + 2))) (nUnf σ (xs (i + 1)) (xs (i + 2))) σ) (pl2 (eUnf σ (xs (i + 1)) (xs (i + 2))))) H := hB
  have hF := FWq_keepM hdis hF hk
  have hO := wO_keepM ho2 hO hk
  clear hB hk hz
  refine lv_istore (lv' := [(6, .int (oI (eUnf σ (xs (i + 1)) (xs (i + 2))) (nI (rUnf σ (xs (i + 1)) (xs (i + 2)))))), (5, .int (nI (pl2 (eUnf σ (xs (i + 1)) (xs (i + 2)))))), (0, .ref (b)), (1, .ref (ad 0)), (2, .ref (am 0)), (3, .ref (o)), (4, .int (nI (i)))]) hx hb dL_law_251 hl (by decide) rfl (fun ls hl => ?_)
  refine lv_aload_n hx hb dL_law_253 rfl (lv_at hl 4 rfl) ?_
  refine rd_goS (rn_V ⟨hx, hb, hml, hown, hts⟩ (c_X5_thrown l g) gL_law_X5_thrown rfl pX5_thrown ⟨Nat.le_of_ble_eq_true rfl, Nat.le_of_ble_eq_true rfl⟩ ⟨(show cells + 3 ≤ 601024 by omega), (show slots + 18 ≤ 7293034 by omega)⟩ hMd hE rfl rfl rfl hl.1 rfl (Nat.le_of_ble_eq_true rfl) dL_law_254) ?_
  refine lv_iload hx hb dL_law_257 (lv_at hl 1 rfl) ?_
  refine lv_icmp_eq (tgt := 264) hx hb dL_law_259 (by decide) (fun _ => ?_) (fun h9 => absurd rfl h9)
  refine lv_iload hx hb dL_law_264 (lv_at hl 1 rfl) ?_
  refine lv_if_ne (tgt := 281) hx hb dL_law_266 (by decide) (fun hne => ?_) (fun heq => ?_)
  · refine lv_goto (tgt := 1679) hx hb dL_law_281 (by decide) ?_
    exact W.widen (k := cells + 4) (n := slots + 24) (by omega) (by omega) (kk (oS (eUnf σ (xs (i + 1)) (xs (i + 2))) (nUnf σ (xs (i + 1)) (xs (i + 2))) σ) H locs ls ⟨(Inv_oS (fun z => (nx_unfollow hI hSd z).1) hI), (Setd_oS (fun z => (nx_unfollow hI hSd z).2) hSd), hF, ⟨_, hMd⟩, _, hO⟩ hS (lv_sub hl [2, 3, 4, 5, 6] rfl))
  · have he0 : (eUnf σ (xs (i + 1)) (xs (i + 2))) = 0 := (pl2_z (nI_z (pl2_le he3) heq))
    refine lv_aload_n hx hb dL_law_269 rfl (lv_at hl 5 rfl) ?_
    refine lv_iconst (v := nI (0)) hx hb dL_law_270 (by decide) ?_
    refine lw_lald hx hb hE hO (hfn he0) dL_law_271 ?_
    refine lv_iload hx hb dL_law_272 (lv_at hl 0 rfl) ?_
    refine lv_i2l hx hb dL_law_274 rfl ?_
    refine lw_lcmp0 hx hb (by rw [he0]; try rfl) dL_law_275 ?_
    refine br_eq0 (a := 0) (tgt := 281) hx hb (by decide) dL_law_276 (by decide) (fun h352 => ?_) (fun h352 => ?_)
    · refine lv_goto (tgt := 1679) hx hb dL_law_281 (by decide) ?_
      exact W.widen (k := cells + 4) (n := slots + 24) (by omega) (by omega) (kk (oS (eUnf σ (xs (i + 1)) (xs (i + 2))) (nUnf σ (xs (i + 1)) (xs (i + 2))) σ) H locs ls ⟨(Inv_oS (fun z => (nx_unfollow hI hSd z).1) hI), (Setd_oS (fun z => (nx_unfollow hI hSd z).2) hSd), hF, ⟨_, hMd⟩, _, hO⟩ hS (lv_sub hl [2, 3, 4, 5, 6] rfl))
    · exact absurd h352 (by decide)
set_option maxHeartbeats 4000000 in
set_option maxRecDepth 100000 in
/-- a turn of the loop: mute -/
theorem op_mute {p : Program} {l : Launch} {en : Env} {s : State} {m : MethodId} {below : List Frame} {meth : Method} {c : Code} {b L : Nat} {xs : Nat → Int32} {g : GT} {ad am : Nat → Nat} {o : Nat} (C : lwC p l s m c b L xs g ad am o) {i : Nat} {H : Heap} {locs : List Loc} {cells slots : Nat} {Q : State → Prop} {σ : St} {ls : Array Slot} (hi : i + 4 ≤ L) (hI9 : lwI g ad am o σ H) (hS : va_S (frA s) s.heap H locs) (hl : lv_has ls 7 [(0, .ref (b)), (1, .ref (ad 0)), (2, .ref (am 0)), (3, .ref (o)), (4, .int (nI (i)))]) (hc : cells + 10 ≤ 601024) (hs : slots + 60 ≤ 7293034) (kk : ∀ (σ' : St) (H : Heap) (locs : List Loc) (ls : Array Slot), lwI g ad am o σ' H → va_S (frA s) s.heap H locs → lv_has ls 7 [(0, .ref (b)), (1, .ref (ad 0)), (2, .ref (am 0)), (3, .ref (o)), (4, .int (nI (i)))] → W p l en room_1 s m #[Value.ref b] below meth c H locs (cells + 4) (slots + 24) Q (F0 m 1679 ls [])) : W p l en room_1 s m #[Value.ref b] below meth c H locs cells slots Q (F0 m 284 ls []) := by
  obtain ⟨hx, hb, hml, hown, hts, hX, hbl, hL, hlf, hE, hxv0, hN, hM, ho, ho2, hdis, hfa, hma, hoa⟩ := C
  obtain ⟨hI, hSd, ⟨τ, hF, hR, hT⟩, ⟨th, hMd⟩, fn, hO⟩ := hI9
  refine lv_aload_n hx hb dL_law_284 rfl (lv_at hl 1 rfl) ?_
  refine lv_aload_n hx hb dL_law_285 rfl (lv_at hl 0 rfl) ?_
  refine lv_iload hx hb dL_law_286 (lv_at hl 4 rfl) ?_
  refine lv_iconst (v := nI (1)) hx hb dL_law_288 (by decide) ?_
  refine lv_iadd hx hb dL_law_289 ?_
  refine tp_i (nI_add _ _) ?_
  refine lw_ld (j := i + 1) hx hb hX hbl hS (by omega) hL dL_law_290 ?_
  refine lv_aload_n hx hb dL_law_291 rfl (lv_at hl 0 rfl) ?_
  refine lv_iload hx hb dL_law_292 (lv_at hl 4 rfl) ?_
  refine lv_iconst (v := nI (2)) hx hb dL_law_294 (by decide) ?_
  refine lv_iadd hx hb dL_law_295 ?_
  refine tp_i (nI_add _ _) ?_
  refine lw_ld (j := i + 2) hx hb hX hbl hS (by omega) hL dL_law_296 ?_
  refine lv_aload_n hx hb dL_law_297 rfl (lv_at hl 0 rfl) ?_
  refine lv_iload hx hb dL_law_298 (lv_at hl 4 rfl) ?_
  refine lv_iconst (v := nI (3)) hx hb dL_law_300 (by decide) ?_
  refine lv_iadd hx hb dL_law_301 ?_
  refine tp_i (nI_add _ _) ?_
  refine lw_ld (j := i + 3) hx hb hX hbl hS (by omega) hL dL_law_302 ?_
  refine lv_if_eq (tgt := 310) hx hb dL_law_303 (by decide) (fun h353 => ?_) (fun h353 => ?_)
  · refine lv_iconst (v := bI (false)) hx hb dL_law_310 (by decide) ?_
    refine lv_aload_n hx hb dL_law_311 rfl (lv_at hl 3 rfl) ?_
    refine lw_go (xn_SX ⟨hx, hb, hml, hown, hts⟩ (c_L_mute l hlf g hI hN hR hSd hT ho (o := o) (fn := fn) (x := xs (i + 1)) (y := xs (i + 2)) (v := false)) gL_law_L_mute rfl qL_mute ⟨Nat.le_of_ble_eq_true rfl, Nat.le_of_ble_eq_true rfl⟩ ⟨(show cells + 3 ≤ 601024 by omega), (show slots + 18 ≤ 7293034 by omega)⟩ (gP_app hO hF) hE (xv_fr hxv0 hS) rfl hl.1 rfl (Nat.le_of_ble_eq_true rfl) dL_law_312) hS (List.forall_mem_cons.mpr ⟨hoa, hfa⟩) (fun H locs fn9 hO hfn hF hk hS => ?_)
    have hMd := wM_keepO ho2 hdis hMd hk
    clear hk
    have he3 : (eMut (xs (i + 1)) (xs (i + 2))) ≤ 3 := by
      unfold eMut; (repeat' split) <;> omega
    refine lv_istore (lv' := [(5, .int (nI (eMut (xs (i + 1)) (xs (i + 2))))), (0, .ref (b)), (1, .ref (ad 0)), (2, .ref (am 0)), (3, .ref (o)), (4, .int (nI (i)))]) hx hb dL_law_315 hl (by decide) rfl (fun ls hl => ?_)
    refine lv_aload_n hx hb dL_law_317 rfl (lv_at hl 3 rfl) ?_
    refine lv_aload_n hx hb dL_law_318 rfl (lv_at hl 1 rfl) ?_
    refine lv_iload hx hb dL_law_319 (lv_at hl 5 rfl) ?_
    refine lv_iconst (v := nI (1)) hx hb dL_law_321 (by decide) ?_
    refine lv_iadd hx hb dL_law_322 ?_
    refine tp_i (nI_add _ _) ?_
    refine lw_ld (j := i + 1) hx hb hX hbl hS (by omega) hL dL_law_323 ?_
    refine lv_aload_n hx hb dL_law_324 rfl (lv_at hl 1 rfl) ?_
    refine lv_iload hx hb dL_law_325 (lv_at hl 5 rfl) ?_
    refine lv_iconst (v := nI (2)) hx hb dL_law_327 (by decide) ?_
    refine lv_iadd hx hb dL_law_328 ?_
    refine tp_i (nI_add _ _) ?_
    refine lw_ld (j := i + 2) hx hb hX hbl hS (by omega) hL dL_law_329 ?_
    refine lv_aload_n hx hb dL_law_330 rfl (lv_at hl 1 rfl) ?_
    refine lv_iload hx hb dL_law_331 (lv_at hl 5 rfl) ?_
    refine lv_iconst (v := nI (3)) hx hb dL_law_333 (by decide) ?_
    refine lv_iadd hx hb dL_law_334 ?_
    refine tp_i (nI_add _ _) ?_
    refine lw_ld (j := i + 3) hx hb hX hbl hS (by omega) hL dL_law_335 ?_
    refine lv_if_eq (tgt := 343) hx hb dL_law_336 (by decide) (fun h354 => ?_) (fun h354 => ?_)
    · refine lv_iconst (v := bI (false)) hx hb dL_law_343 (by decide) ?_
      refine wr_goS (rn_V ⟨hx, hb, hml, hown, hts⟩ (c_X5_mute l g (σ := σ) hI hM (x := xs (i + 1)) (y := xs (i + 2)) (v := false)) gL_law_X5_mute rfl pX5_mute ⟨Nat.le_of_ble_eq_true rfl, Nat.le_of_ble_eq_true rfl⟩ ⟨(show cells + 3 ≤ 601024 by omega), (show slots + 18 ≤ 7293034 by omega)⟩ hMd hE rfl rfl rfl hl.1 rfl (Nat.le_of_ble_eq_true rfl) dL_law_344) hS hma (fun H locs hB hz hk hS => ?_)
      have hMd : gP g (wM g am (oS (eMut (xs (i + 1)) (xs (i + 2))) (nMut σ (xs (i + 1)) (xs (i + 2)) (false)) σ) (eMut (xs (i + 1)) (xs (i + 2)))) H := hB
      have hF := FWq_keepM hdis hF hk
      have hO := wO_keepM ho2 hO hk
      clear hB hk hz
      refine lv_istore (lv' := [(6, .int (bI (oB (eMut (xs (i + 1)) (xs (i + 2))) (sM σ (8 * ix (xs (i + 1)) + ix (xs (i + 2))))))), (5, .int (nI (eMut (xs (i + 1)) (xs (i + 2))))), (0, .ref (b)), (1, .ref (ad 0)), (2, .ref (am 0)), (3, .ref (o)), (4, .int (nI (i)))]) hx hb dL_law_347 hl (by decide) rfl (fun ls hl => ?_)
      refine lv_aload_n hx hb dL_law_349 rfl (lv_at hl 4 rfl) ?_
      refine rd_goS (rn_V ⟨hx, hb, hml, hown, hts⟩ (c_X5_thrown l g) gL_law_X5_thrown rfl pX5_thrown ⟨Nat.le_of_ble_eq_true rfl, Nat.le_of_ble_eq_true rfl⟩ ⟨(show cells + 3 ≤ 601024 by omega), (show slots + 18 ≤ 7293034 by omega)⟩ hMd hE rfl rfl rfl hl.1 rfl (Nat.le_of_ble_eq_true rfl) dL_law_350) ?_
      refine lv_iload hx hb dL_law_353 (lv_at hl 1 rfl) ?_
      refine lv_icmp_eq (tgt := 360) hx hb dL_law_355 (by decide) (fun _ => ?_) (fun h9 => absurd rfl h9)
      refine lv_iload hx hb dL_law_360 (lv_at hl 1 rfl) ?_
      refine lv_if_ne (tgt := 384) hx hb dL_law_362 (by decide) (fun hne => ?_) (fun heq => ?_)
      · refine lv_goto (tgt := 1679) hx hb dL_law_384 (by decide) ?_
        exact W.widen (k := cells + 4) (n := slots + 24) (by omega) (by omega) (kk (oS (eMut (xs (i + 1)) (xs (i + 2))) (nMut σ (xs (i + 1)) (xs (i + 2)) (false)) σ) H locs ls ⟨(Inv_oS (fun z => (nx_mute hI hSd z).1) hI), (Setd_oS (fun z => (nx_mute hI hSd z).2) hSd), hF, ⟨_, hMd⟩, _, hO⟩ hS (lv_sub hl [2, 3, 4, 5, 6] rfl))
      · have he0 : (eMut (xs (i + 1)) (xs (i + 2))) = 0 := (nI_z he3 heq)
        refine lv_aload_n hx hb dL_law_365 rfl (lv_at hl 5 rfl) ?_
        refine lv_iconst (v := nI (0)) hx hb dL_law_366 (by decide) ?_
        refine lw_lald hx hb hE hO (hfn he0) dL_law_367 ?_
        refine lv_iload hx hb dL_law_368 (lv_at hl 0 rfl) ?_
        refine br_eqB (tgt := 377) hx hb dL_law_370 (by decide) (fun h355 => ?_) (fun h355 => ?_)
        · refine lv_lconst (v := 0) hx hb dL_law_377 (by decide) ?_
          refine lw_lcmp0 hx hb (by rw [he0] at h355; rw [show sM σ (8 * ix (xs (i + 1)) + ix (xs (i + 2))) = false from h355]; try rfl) dL_law_378 ?_
          refine br_eq0 (a := 0) (tgt := 384) hx hb (by decide) dL_law_379 (by decide) (fun h356 => ?_) (fun h356 => ?_)
          · refine lv_goto (tgt := 1679) hx hb dL_law_384 (by decide) ?_
            exact W.widen (k := cells + 4) (n := slots + 24) (by omega) (by omega) (kk (oS (eMut (xs (i + 1)) (xs (i + 2))) (nMut σ (xs (i + 1)) (xs (i + 2)) (false)) σ) H locs ls ⟨(Inv_oS (fun z => (nx_mute hI hSd z).1) hI), (Setd_oS (fun z => (nx_mute hI hSd z).2) hSd), hF, ⟨_, hMd⟩, _, hO⟩ hS (lv_sub hl [2, 3, 4, 5, 6] rfl))
          · exact absurd h356 (by decide)
        · refine lv_lconst (v := 1) hx hb dL_law_373 (by decide) ?_
          refine lv_goto (tgt := 378) hx hb dL_law_374 (by decide) ?_
          refine lw_lcmp0 hx hb (by rw [he0] at h355; rw [show sM σ (8 * ix (xs (i + 1)) + ix (xs (i + 2))) = true from h355]; try rfl) dL_law_378 ?_
          refine br_eq0 (a := 0) (tgt := 384) hx hb (by decide) dL_law_379 (by decide) (fun h357 => ?_) (fun h357 => ?_)
          · refine lv_goto (tgt := 1679) hx hb dL_law_384 (by decide) ?_
            exact W.widen (k := cells + 4) (n := slots + 24) (by omega) (by omega) (kk (oS (eMut (xs (i + 1)) (xs (i + 2))) (nMut σ (xs (i + 1)) (xs (i + 2)) (false)) σ) H locs ls ⟨(Inv_oS (fun z => (nx_mute hI hSd z).1) hI), (Setd_oS (fun z => (nx_mute hI hSd z).2) hSd), hF, ⟨_, hMd⟩, _, hO⟩ hS (lv_sub hl [2, 3, 4, 5, 6] rfl))
          · exact absurd h357 (by decide)
    · exact absurd h353 h354
  · refine lv_iconst (v := bI (true)) hx hb dL_law_306 (by decide) ?_
    refine lv_goto (tgt := 311) hx hb dL_law_307 (by decide) ?_
    refine lv_aload_n hx hb dL_law_311 rfl (lv_at hl 3 rfl) ?_
    refine lw_go (xn_SX ⟨hx, hb, hml, hown, hts⟩ (c_L_mute l hlf g hI hN hR hSd hT ho (o := o) (fn := fn) (x := xs (i + 1)) (y := xs (i + 2)) (v := true)) gL_law_L_mute rfl qL_mute ⟨Nat.le_of_ble_eq_true rfl, Nat.le_of_ble_eq_true rfl⟩ ⟨(show cells + 3 ≤ 601024 by omega), (show slots + 18 ≤ 7293034 by omega)⟩ (gP_app hO hF) hE (xv_fr hxv0 hS) rfl hl.1 rfl (Nat.le_of_ble_eq_true rfl) dL_law_312) hS (List.forall_mem_cons.mpr ⟨hoa, hfa⟩) (fun H locs fn9 hO hfn hF hk hS => ?_)
    have hMd := wM_keepO ho2 hdis hMd hk
    clear hk
    have he3 : (eMut (xs (i + 1)) (xs (i + 2))) ≤ 3 := by
      unfold eMut; (repeat' split) <;> omega
    refine lv_istore (lv' := [(5, .int (nI (eMut (xs (i + 1)) (xs (i + 2))))), (0, .ref (b)), (1, .ref (ad 0)), (2, .ref (am 0)), (3, .ref (o)), (4, .int (nI (i)))]) hx hb dL_law_315 hl (by decide) rfl (fun ls hl => ?_)
    refine lv_aload_n hx hb dL_law_317 rfl (lv_at hl 3 rfl) ?_
    refine lv_aload_n hx hb dL_law_318 rfl (lv_at hl 1 rfl) ?_
    refine lv_iload hx hb dL_law_319 (lv_at hl 5 rfl) ?_
    refine lv_iconst (v := nI (1)) hx hb dL_law_321 (by decide) ?_
    refine lv_iadd hx hb dL_law_322 ?_
    refine tp_i (nI_add _ _) ?_
    refine lw_ld (j := i + 1) hx hb hX hbl hS (by omega) hL dL_law_323 ?_
    refine lv_aload_n hx hb dL_law_324 rfl (lv_at hl 1 rfl) ?_
    refine lv_iload hx hb dL_law_325 (lv_at hl 5 rfl) ?_
    refine lv_iconst (v := nI (2)) hx hb dL_law_327 (by decide) ?_
    refine lv_iadd hx hb dL_law_328 ?_
    refine tp_i (nI_add _ _) ?_
    refine lw_ld (j := i + 2) hx hb hX hbl hS (by omega) hL dL_law_329 ?_
    refine lv_aload_n hx hb dL_law_330 rfl (lv_at hl 1 rfl) ?_
    refine lv_iload hx hb dL_law_331 (lv_at hl 5 rfl) ?_
    refine lv_iconst (v := nI (3)) hx hb dL_law_333 (by decide) ?_
    refine lv_iadd hx hb dL_law_334 ?_
    refine tp_i (nI_add _ _) ?_
    refine lw_ld (j := i + 3) hx hb hX hbl hS (by omega) hL dL_law_335 ?_
    refine lv_if_eq (tgt := 343) hx hb dL_law_336 (by decide) (fun h358 => ?_) (fun h358 => ?_)
    · exact absurd h358 h353
    · refine lv_iconst (v := bI (true)) hx hb dL_law_339 (by decide) ?_
      refine lv_goto (tgt := 344) hx hb dL_law_340 (by decide) ?_
      refine wr_goS (rn_V ⟨hx, hb, hml, hown, hts⟩ (c_X5_mute l g (σ := σ) hI hM (x := xs (i + 1)) (y := xs (i + 2)) (v := true)) gL_law_X5_mute rfl pX5_mute ⟨Nat.le_of_ble_eq_true rfl, Nat.le_of_ble_eq_true rfl⟩ ⟨(show cells + 3 ≤ 601024 by omega), (show slots + 18 ≤ 7293034 by omega)⟩ hMd hE rfl rfl rfl hl.1 rfl (Nat.le_of_ble_eq_true rfl) dL_law_344) hS hma (fun H locs hB hz hk hS => ?_)
      have hMd : gP g (wM g am (oS (eMut (xs (i + 1)) (xs (i + 2))) (nMut σ (xs (i + 1)) (xs (i + 2)) (true)) σ) (eMut (xs (i + 1)) (xs (i + 2)))) H := hB
      have hF := FWq_keepM hdis hF hk
      have hO := wO_keepM ho2 hO hk
      clear hB hk hz
      refine lv_istore (lv' := [(6, .int (bI (oB (eMut (xs (i + 1)) (xs (i + 2))) (sM σ (8 * ix (xs (i + 1)) + ix (xs (i + 2))))))), (5, .int (nI (eMut (xs (i + 1)) (xs (i + 2))))), (0, .ref (b)), (1, .ref (ad 0)), (2, .ref (am 0)), (3, .ref (o)), (4, .int (nI (i)))]) hx hb dL_law_347 hl (by decide) rfl (fun ls hl => ?_)
      refine lv_aload_n hx hb dL_law_349 rfl (lv_at hl 4 rfl) ?_
      refine rd_goS (rn_V ⟨hx, hb, hml, hown, hts⟩ (c_X5_thrown l g) gL_law_X5_thrown rfl pX5_thrown ⟨Nat.le_of_ble_eq_true rfl, Nat.le_of_ble_eq_true rfl⟩ ⟨(show cells + 3 ≤ 601024 by omega), (show slots + 18 ≤ 7293034 by omega)⟩ hMd hE rfl rfl rfl hl.1 rfl (Nat.le_of_ble_eq_true rfl) dL_law_350) ?_
      refine lv_iload hx hb dL_law_353 (lv_at hl 1 rfl) ?_
      refine lv_icmp_eq (tgt := 360) hx hb dL_law_355 (by decide) (fun _ => ?_) (fun h9 => absurd rfl h9)
      refine lv_iload hx hb dL_law_360 (lv_at hl 1 rfl) ?_
      refine lv_if_ne (tgt := 384) hx hb dL_law_362 (by decide) (fun hne => ?_) (fun heq => ?_)
      · refine lv_goto (tgt := 1679) hx hb dL_law_384 (by decide) ?_
        exact W.widen (k := cells + 4) (n := slots + 24) (by omega) (by omega) (kk (oS (eMut (xs (i + 1)) (xs (i + 2))) (nMut σ (xs (i + 1)) (xs (i + 2)) (true)) σ) H locs ls ⟨(Inv_oS (fun z => (nx_mute hI hSd z).1) hI), (Setd_oS (fun z => (nx_mute hI hSd z).2) hSd), hF, ⟨_, hMd⟩, _, hO⟩ hS (lv_sub hl [2, 3, 4, 5, 6] rfl))
      · have he0 : (eMut (xs (i + 1)) (xs (i + 2))) = 0 := (nI_z he3 heq)
        refine lv_aload_n hx hb dL_law_365 rfl (lv_at hl 5 rfl) ?_
        refine lv_iconst (v := nI (0)) hx hb dL_law_366 (by decide) ?_
        refine lw_lald hx hb hE hO (hfn he0) dL_law_367 ?_
        refine lv_iload hx hb dL_law_368 (lv_at hl 0 rfl) ?_
        refine br_eqB (tgt := 377) hx hb dL_law_370 (by decide) (fun h359 => ?_) (fun h359 => ?_)
        · refine lv_lconst (v := 0) hx hb dL_law_377 (by decide) ?_
          refine lw_lcmp0 hx hb (by rw [he0] at h359; rw [show sM σ (8 * ix (xs (i + 1)) + ix (xs (i + 2))) = false from h359]; try rfl) dL_law_378 ?_
          refine br_eq0 (a := 0) (tgt := 384) hx hb (by decide) dL_law_379 (by decide) (fun h360 => ?_) (fun h360 => ?_)
          · refine lv_goto (tgt := 1679) hx hb dL_law_384 (by decide) ?_
            exact W.widen (k := cells + 4) (n := slots + 24) (by omega) (by omega) (kk (oS (eMut (xs (i + 1)) (xs (i + 2))) (nMut σ (xs (i + 1)) (xs (i + 2)) (true)) σ) H locs ls ⟨(Inv_oS (fun z => (nx_mute hI hSd z).1) hI), (Setd_oS (fun z => (nx_mute hI hSd z).2) hSd), hF, ⟨_, hMd⟩, _, hO⟩ hS (lv_sub hl [2, 3, 4, 5, 6] rfl))
          · exact absurd h360 (by decide)
        · refine lv_lconst (v := 1) hx hb dL_law_373 (by decide) ?_
          refine lv_goto (tgt := 378) hx hb dL_law_374 (by decide) ?_
          refine lw_lcmp0 hx hb (by rw [he0] at h359; rw [show sM σ (8 * ix (xs (i + 1)) + ix (xs (i + 2))) = true from h359]; try rfl) dL_law_378 ?_
          refine br_eq0 (a := 0) (tgt := 384) hx hb (by decide) dL_law_379 (by decide) (fun h361 => ?_) (fun h361 => ?_)
          · refine lv_goto (tgt := 1679) hx hb dL_law_384 (by decide) ?_
            exact W.widen (k := cells + 4) (n := slots + 24) (by omega) (by omega) (kk (oS (eMut (xs (i + 1)) (xs (i + 2))) (nMut σ (xs (i + 1)) (xs (i + 2)) (true)) σ) H locs ls ⟨(Inv_oS (fun z => (nx_mute hI hSd z).1) hI), (Setd_oS (fun z => (nx_mute hI hSd z).2) hSd), hF, ⟨_, hMd⟩, _, hO⟩ hS (lv_sub hl [2, 3, 4, 5, 6] rfl))
          · exact absurd h361 (by decide)
set_option maxHeartbeats 4000000 in
set_option maxRecDepth 100000 in
/-- a turn of the loop: block -/
theorem op_block {p : Program} {l : Launch} {en : Env} {s : State} {m : MethodId} {below : List Frame} {meth : Method} {c : Code} {b L : Nat} {xs : Nat → Int32} {g : GT} {ad am : Nat → Nat} {o : Nat} (C : lwC p l s m c b L xs g ad am o) {i : Nat} {H : Heap} {locs : List Loc} {cells slots : Nat} {Q : State → Prop} {σ : St} {ls : Array Slot} (hi : i + 4 ≤ L) (hI9 : lwI g ad am o σ H) (hS : va_S (frA s) s.heap H locs) (hl : lv_has ls 7 [(0, .ref (b)), (1, .ref (ad 0)), (2, .ref (am 0)), (3, .ref (o)), (4, .int (nI (i)))]) (hc : cells + 10 ≤ 601024) (hs : slots + 60 ≤ 7293034) (kk : ∀ (σ' : St) (H : Heap) (locs : List Loc) (ls : Array Slot), lwI g ad am o σ' H → va_S (frA s) s.heap H locs → lv_has ls 7 [(0, .ref (b)), (1, .ref (ad 0)), (2, .ref (am 0)), (3, .ref (o)), (4, .int (nI (i)))] → W p l en room_1 s m #[Value.ref b] below meth c H locs (cells + 4) (slots + 24) Q (F0 m 1679 ls [])) : W p l en room_1 s m #[Value.ref b] below meth c H locs cells slots Q (F0 m 387 ls []) := by
  obtain ⟨hx, hb, hml, hown, hts, hX, hbl, hL, hlf, hE, hxv0, hN, hM, ho, ho2, hdis, hfa, hma, hoa⟩ := C
  obtain ⟨hI, hSd, ⟨τ, hF, hR, hT⟩, ⟨th, hMd⟩, fn, hO⟩ := hI9
  refine lv_aload_n hx hb dL_law_387 rfl (lv_at hl 1 rfl) ?_
  refine lv_aload_n hx hb dL_law_388 rfl (lv_at hl 0 rfl) ?_
  refine lv_iload hx hb dL_law_389 (lv_at hl 4 rfl) ?_
  refine lv_iconst (v := nI (1)) hx hb dL_law_391 (by decide) ?_
  refine lv_iadd hx hb dL_law_392 ?_
  refine tp_i (nI_add _ _) ?_
  refine lw_ld (j := i + 1) hx hb hX hbl hS (by omega) hL dL_law_393 ?_
  refine lv_aload_n hx hb dL_law_394 rfl (lv_at hl 0 rfl) ?_
  refine lv_iload hx hb dL_law_395 (lv_at hl 4 rfl) ?_
  refine lv_iconst (v := nI (2)) hx hb dL_law_397 (by decide) ?_
  refine lv_iadd hx hb dL_law_398 ?_
  refine tp_i (nI_add _ _) ?_
  refine lw_ld (j := i + 2) hx hb hX hbl hS (by omega) hL dL_law_399 ?_
  refine lv_aload_n hx hb dL_law_400 rfl (lv_at hl 0 rfl) ?_
  refine lv_iload hx hb dL_law_401 (lv_at hl 4 rfl) ?_
  refine lv_iconst (v := nI (3)) hx hb dL_law_403 (by decide) ?_
  refine lv_iadd hx hb dL_law_404 ?_
  refine tp_i (nI_add _ _) ?_
  refine lw_ld (j := i + 3) hx hb hX hbl hS (by omega) hL dL_law_405 ?_
  refine lv_if_eq (tgt := 413) hx hb dL_law_406 (by decide) (fun h362 => ?_) (fun h362 => ?_)
  · refine lv_iconst (v := bI (false)) hx hb dL_law_413 (by decide) ?_
    refine lv_aload_n hx hb dL_law_414 rfl (lv_at hl 3 rfl) ?_
    refine lw_go (xn_SX ⟨hx, hb, hml, hown, hts⟩ (c_L_block l hlf g hI hN hR hSd hT ho (o := o) (fn := fn) (x := xs (i + 1)) (y := xs (i + 2)) (v := false)) gL_law_L_block rfl qL_block ⟨Nat.le_of_ble_eq_true rfl, Nat.le_of_ble_eq_true rfl⟩ ⟨(show cells + 3 ≤ 601024 by omega), (show slots + 18 ≤ 7293034 by omega)⟩ (gP_app hO hF) hE (xv_fr hxv0 hS) rfl hl.1 rfl (Nat.le_of_ble_eq_true rfl) dL_law_415) hS (List.forall_mem_cons.mpr ⟨hoa, hfa⟩) (fun H locs fn9 hO hfn hF hk hS => ?_)
    have hMd := wM_keepO ho2 hdis hMd hk
    clear hk
    have he3 : (eMut (xs (i + 1)) (xs (i + 2))) ≤ 3 := by
      unfold eMut; (repeat' split) <;> omega
    refine lv_istore (lv' := [(5, .int (nI (eMut (xs (i + 1)) (xs (i + 2))))), (0, .ref (b)), (1, .ref (ad 0)), (2, .ref (am 0)), (3, .ref (o)), (4, .int (nI (i)))]) hx hb dL_law_418 hl (by decide) rfl (fun ls hl => ?_)
    refine lv_aload_n hx hb dL_law_420 rfl (lv_at hl 3 rfl) ?_
    refine lv_aload_n hx hb dL_law_421 rfl (lv_at hl 1 rfl) ?_
    refine lv_iload hx hb dL_law_422 (lv_at hl 5 rfl) ?_
    refine lv_iconst (v := nI (1)) hx hb dL_law_424 (by decide) ?_
    refine lv_iadd hx hb dL_law_425 ?_
    refine tp_i (nI_add _ _) ?_
    refine lw_ld (j := i + 1) hx hb hX hbl hS (by omega) hL dL_law_426 ?_
    refine lv_aload_n hx hb dL_law_427 rfl (lv_at hl 1 rfl) ?_
    refine lv_iload hx hb dL_law_428 (lv_at hl 5 rfl) ?_
    refine lv_iconst (v := nI (2)) hx hb dL_law_430 (by decide) ?_
    refine lv_iadd hx hb dL_law_431 ?_
    refine tp_i (nI_add _ _) ?_
    refine lw_ld (j := i + 2) hx hb hX hbl hS (by omega) hL dL_law_432 ?_
    refine lv_aload_n hx hb dL_law_433 rfl (lv_at hl 1 rfl) ?_
    refine lv_iload hx hb dL_law_434 (lv_at hl 5 rfl) ?_
    refine lv_iconst (v := nI (3)) hx hb dL_law_436 (by decide) ?_
    refine lv_iadd hx hb dL_law_437 ?_
    refine tp_i (nI_add _ _) ?_
    refine lw_ld (j := i + 3) hx hb hX hbl hS (by omega) hL dL_law_438 ?_
    refine lv_if_eq (tgt := 446) hx hb dL_law_439 (by decide) (fun h363 => ?_) (fun h363 => ?_)
    · refine lv_iconst (v := bI (false)) hx hb dL_law_446 (by decide) ?_
      refine wr_goS (rn_V ⟨hx, hb, hml, hown, hts⟩ (c_X5_block l g (σ := σ) hI hM  hSd (x := xs (i + 1)) (y := xs (i + 2)) (v := false)) gL_law_X5_block rfl pX5_block ⟨Nat.le_of_ble_eq_true rfl, Nat.le_of_ble_eq_true rfl⟩ ⟨(show cells + 3 ≤ 601024 by omega), (show slots + 18 ≤ 7293034 by omega)⟩ hMd hE rfl rfl rfl hl.1 rfl (Nat.le_of_ble_eq_true rfl) dL_law_447) hS hma (fun H locs hB hz hk hS => ?_)
      have hMd : gP g (wM g am (oS (eMut (xs (i + 1)) (xs (i + 2))) (nBlk σ (xs (i + 1)) (xs (i + 2)) (false)) σ) (eMut (xs (i + 1)) (xs (i + 2)))) H := hB
      have hF := FWq_keepM hdis hF hk
      have hO := wO_keepM ho2 hO hk
      clear hB hk hz
      refine lv_istore (lv' := [(6, .int (bI (oB (eMut (xs (i + 1)) (xs (i + 2))) (sB σ (8 * ix (xs (i + 1)) + ix (xs (i + 2))))))), (5, .int (nI (eMut (xs (i + 1)) (xs (i + 2))))), (0, .ref (b)), (1, .ref (ad 0)), (2, .ref (am 0)), (3, .ref (o)), (4, .int (nI (i)))]) hx hb dL_law_450 hl (by decide) rfl (fun ls hl => ?_)
      refine lv_aload_n hx hb dL_law_452 rfl (lv_at hl 4 rfl) ?_
      refine rd_goS (rn_V ⟨hx, hb, hml, hown, hts⟩ (c_X5_thrown l g) gL_law_X5_thrown rfl pX5_thrown ⟨Nat.le_of_ble_eq_true rfl, Nat.le_of_ble_eq_true rfl⟩ ⟨(show cells + 3 ≤ 601024 by omega), (show slots + 18 ≤ 7293034 by omega)⟩ hMd hE rfl rfl rfl hl.1 rfl (Nat.le_of_ble_eq_true rfl) dL_law_453) ?_
      refine lv_iload hx hb dL_law_456 (lv_at hl 1 rfl) ?_
      refine lv_icmp_eq (tgt := 463) hx hb dL_law_458 (by decide) (fun _ => ?_) (fun h9 => absurd rfl h9)
      refine lv_iload hx hb dL_law_463 (lv_at hl 1 rfl) ?_
      refine lv_if_ne (tgt := 487) hx hb dL_law_465 (by decide) (fun hne => ?_) (fun heq => ?_)
      · refine lv_goto (tgt := 1679) hx hb dL_law_487 (by decide) ?_
        exact W.widen (k := cells + 4) (n := slots + 24) (by omega) (by omega) (kk (oS (eMut (xs (i + 1)) (xs (i + 2))) (nBlk σ (xs (i + 1)) (xs (i + 2)) (false)) σ) H locs ls ⟨(Inv_oS (fun z => (nx_block hI hSd z).1) hI), (Setd_oS (fun z => (nx_block hI hSd z).2) hSd), hF, ⟨_, hMd⟩, _, hO⟩ hS (lv_sub hl [2, 3, 4, 5, 6] rfl))
      · have he0 : (eMut (xs (i + 1)) (xs (i + 2))) = 0 := (nI_z he3 heq)
        refine lv_aload_n hx hb dL_law_468 rfl (lv_at hl 5 rfl) ?_
        refine lv_iconst (v := nI (0)) hx hb dL_law_469 (by decide) ?_
        refine lw_lald hx hb hE hO (hfn he0) dL_law_470 ?_
        refine lv_iload hx hb dL_law_471 (lv_at hl 0 rfl) ?_
        refine br_eqB (tgt := 480) hx hb dL_law_473 (by decide) (fun h364 => ?_) (fun h364 => ?_)
        · refine lv_lconst (v := 0) hx hb dL_law_480 (by decide) ?_
          refine lw_lcmp0 hx hb (by rw [he0] at h364; rw [show sB σ (8 * ix (xs (i + 1)) + ix (xs (i + 2))) = false from h364]; try rfl) dL_law_481 ?_
          refine br_eq0 (a := 0) (tgt := 487) hx hb (by decide) dL_law_482 (by decide) (fun h365 => ?_) (fun h365 => ?_)
          · refine lv_goto (tgt := 1679) hx hb dL_law_487 (by decide) ?_
            exact W.widen (k := cells + 4) (n := slots + 24) (by omega) (by omega) (kk (oS (eMut (xs (i + 1)) (xs (i + 2))) (nBlk σ (xs (i + 1)) (xs (i + 2)) (false)) σ) H locs ls ⟨(Inv_oS (fun z => (nx_block hI hSd z).1) hI), (Setd_oS (fun z => (nx_block hI hSd z).2) hSd), hF, ⟨_, hMd⟩, _, hO⟩ hS (lv_sub hl [2, 3, 4, 5, 6] rfl))
          · exact absurd h365 (by decide)
        · refine lv_lconst (v := 1) hx hb dL_law_476 (by decide) ?_
          refine lv_goto (tgt := 481) hx hb dL_law_477 (by decide) ?_
          refine lw_lcmp0 hx hb (by rw [he0] at h364; rw [show sB σ (8 * ix (xs (i + 1)) + ix (xs (i + 2))) = true from h364]; try rfl) dL_law_481 ?_
          refine br_eq0 (a := 0) (tgt := 487) hx hb (by decide) dL_law_482 (by decide) (fun h366 => ?_) (fun h366 => ?_)
          · refine lv_goto (tgt := 1679) hx hb dL_law_487 (by decide) ?_
            exact W.widen (k := cells + 4) (n := slots + 24) (by omega) (by omega) (kk (oS (eMut (xs (i + 1)) (xs (i + 2))) (nBlk σ (xs (i + 1)) (xs (i + 2)) (false)) σ) H locs ls ⟨(Inv_oS (fun z => (nx_block hI hSd z).1) hI), (Setd_oS (fun z => (nx_block hI hSd z).2) hSd), hF, ⟨_, hMd⟩, _, hO⟩ hS (lv_sub hl [2, 3, 4, 5, 6] rfl))
          · exact absurd h366 (by decide)
    · exact absurd h362 h363
  · refine lv_iconst (v := bI (true)) hx hb dL_law_409 (by decide) ?_
    refine lv_goto (tgt := 414) hx hb dL_law_410 (by decide) ?_
    refine lv_aload_n hx hb dL_law_414 rfl (lv_at hl 3 rfl) ?_
    refine lw_go (xn_SX ⟨hx, hb, hml, hown, hts⟩ (c_L_block l hlf g hI hN hR hSd hT ho (o := o) (fn := fn) (x := xs (i + 1)) (y := xs (i + 2)) (v := true)) gL_law_L_block rfl qL_block ⟨Nat.le_of_ble_eq_true rfl, Nat.le_of_ble_eq_true rfl⟩ ⟨(show cells + 3 ≤ 601024 by omega), (show slots + 18 ≤ 7293034 by omega)⟩ (gP_app hO hF) hE (xv_fr hxv0 hS) rfl hl.1 rfl (Nat.le_of_ble_eq_true rfl) dL_law_415) hS (List.forall_mem_cons.mpr ⟨hoa, hfa⟩) (fun H locs fn9 hO hfn hF hk hS => ?_)
    have hMd := wM_keepO ho2 hdis hMd hk
    clear hk
    have he3 : (eMut (xs (i + 1)) (xs (i + 2))) ≤ 3 := by
      unfold eMut; (repeat' split) <;> omega
    refine lv_istore (lv' := [(5, .int (nI (eMut (xs (i + 1)) (xs (i + 2))))), (0, .ref (b)), (1, .ref (ad 0)), (2, .ref (am 0)), (3, .ref (o)), (4, .int (nI (i)))]) hx hb dL_law_418 hl (by decide) rfl (fun ls hl => ?_)
    refine lv_aload_n hx hb dL_law_420 rfl (lv_at hl 3 rfl) ?_
    refine lv_aload_n hx hb dL_law_421 rfl (lv_at hl 1 rfl) ?_
    refine lv_iload hx hb dL_law_422 (lv_at hl 5 rfl) ?_
    refine lv_iconst (v := nI (1)) hx hb dL_law_424 (by decide) ?_
    refine lv_iadd hx hb dL_law_425 ?_
    refine tp_i (nI_add _ _) ?_
    refine lw_ld (j := i + 1) hx hb hX hbl hS (by omega) hL dL_law_426 ?_
    refine lv_aload_n hx hb dL_law_427 rfl (lv_at hl 1 rfl) ?_
    refine lv_iload hx hb dL_law_428 (lv_at hl 5 rfl) ?_
    refine lv_iconst (v := nI (2)) hx hb dL_law_430 (by decide) ?_
    refine lv_iadd hx hb dL_law_431 ?_
    refine tp_i (nI_add _ _) ?_
    refine lw_ld (j := i + 2) hx hb hX hbl hS (by omega) hL dL_law_432 ?_
    refine lv_aload_n hx hb dL_law_433 rfl (lv_at hl 1 rfl) ?_
    refine lv_iload hx hb dL_law_434 (lv_at hl 5 rfl) ?_
    refine lv_iconst (v := nI (3)) hx hb dL_law_436 (by decide) ?_
    refine lv_iadd hx hb dL_law_437 ?_
    refine tp_i (nI_add _ _) ?_
    refine lw_ld (j := i + 3) hx hb hX hbl hS (by omega) hL dL_law_438 ?_
    refine lv_if_eq (tgt := 446) hx hb dL_law_439 (by decide) (fun h367 => ?_) (fun h367 => ?_)
    · exact absurd h367 h362
    · refine lv_iconst (v := bI (true)) hx hb dL_law_442 (by decide) ?_
      refine lv_goto (tgt := 447) hx hb dL_law_443 (by decide) ?_
      refine wr_goS (rn_V ⟨hx, hb, hml, hown, hts⟩ (c_X5_block l g (σ := σ) hI hM  hSd (x := xs (i + 1)) (y := xs (i + 2)) (v := true)) gL_law_X5_block rfl pX5_block ⟨Nat.le_of_ble_eq_true rfl, Nat.le_of_ble_eq_true rfl⟩ ⟨(show cells + 3 ≤ 601024 by omega), (show slots + 18 ≤ 7293034 by omega)⟩ hMd hE rfl rfl rfl hl.1 rfl (Nat.le_of_ble_eq_true rfl) dL_law_447) hS hma (fun H locs hB hz hk hS => ?_)
      have hMd : gP g (wM g am (oS (eMut (xs (i + 1)) (xs (i + 2))) (nBlk σ (xs (i + 1)) (xs (i + 2)) (true)) σ) (eMut (xs (i + 1)) (xs (i + 2)))) H := hB
      have hF := FWq_keepM hdis hF hk
      have hO := wO_keepM ho2 hO hk
      clear hB hk hz
      refine lv_istore (lv' := [(6, .int (bI (oB (eMut (xs (i + 1)) (xs (i + 2))) (sB σ (8 * ix (xs (i + 1)) + ix (xs (i + 2))))))), (5, .int (nI (eMut (xs (i + 1)) (xs (i + 2))))), (0, .ref (b)), (1, .ref (ad 0)), (2, .ref (am 0)), (3, .ref (o)), (4, .int (nI (i)))]) hx hb dL_law_450 hl (by decide) rfl (fun ls hl => ?_)
      refine lv_aload_n hx hb dL_law_452 rfl (lv_at hl 4 rfl) ?_
      refine rd_goS (rn_V ⟨hx, hb, hml, hown, hts⟩ (c_X5_thrown l g) gL_law_X5_thrown rfl pX5_thrown ⟨Nat.le_of_ble_eq_true rfl, Nat.le_of_ble_eq_true rfl⟩ ⟨(show cells + 3 ≤ 601024 by omega), (show slots + 18 ≤ 7293034 by omega)⟩ hMd hE rfl rfl rfl hl.1 rfl (Nat.le_of_ble_eq_true rfl) dL_law_453) ?_
      refine lv_iload hx hb dL_law_456 (lv_at hl 1 rfl) ?_
      refine lv_icmp_eq (tgt := 463) hx hb dL_law_458 (by decide) (fun _ => ?_) (fun h9 => absurd rfl h9)
      refine lv_iload hx hb dL_law_463 (lv_at hl 1 rfl) ?_
      refine lv_if_ne (tgt := 487) hx hb dL_law_465 (by decide) (fun hne => ?_) (fun heq => ?_)
      · refine lv_goto (tgt := 1679) hx hb dL_law_487 (by decide) ?_
        exact W.widen (k := cells + 4) (n := slots + 24) (by omega) (by omega) (kk (oS (eMut (xs (i + 1)) (xs (i + 2))) (nBlk σ (xs (i + 1)) (xs (i + 2)) (true)) σ) H locs ls ⟨(Inv_oS (fun z => (nx_block hI hSd z).1) hI), (Setd_oS (fun z => (nx_block hI hSd z).2) hSd), hF, ⟨_, hMd⟩, _, hO⟩ hS (lv_sub hl [2, 3, 4, 5, 6] rfl))
      · have he0 : (eMut (xs (i + 1)) (xs (i + 2))) = 0 := (nI_z he3 heq)
        refine lv_aload_n hx hb dL_law_468 rfl (lv_at hl 5 rfl) ?_
        refine lv_iconst (v := nI (0)) hx hb dL_law_469 (by decide) ?_
        refine lw_lald hx hb hE hO (hfn he0) dL_law_470 ?_
        refine lv_iload hx hb dL_law_471 (lv_at hl 0 rfl) ?_
        refine br_eqB (tgt := 480) hx hb dL_law_473 (by decide) (fun h368 => ?_) (fun h368 => ?_)
        · refine lv_lconst (v := 0) hx hb dL_law_480 (by decide) ?_
          refine lw_lcmp0 hx hb (by rw [he0] at h368; rw [show sB σ (8 * ix (xs (i + 1)) + ix (xs (i + 2))) = false from h368]; try rfl) dL_law_481 ?_
          refine br_eq0 (a := 0) (tgt := 487) hx hb (by decide) dL_law_482 (by decide) (fun h369 => ?_) (fun h369 => ?_)
          · refine lv_goto (tgt := 1679) hx hb dL_law_487 (by decide) ?_
            exact W.widen (k := cells + 4) (n := slots + 24) (by omega) (by omega) (kk (oS (eMut (xs (i + 1)) (xs (i + 2))) (nBlk σ (xs (i + 1)) (xs (i + 2)) (true)) σ) H locs ls ⟨(Inv_oS (fun z => (nx_block hI hSd z).1) hI), (Setd_oS (fun z => (nx_block hI hSd z).2) hSd), hF, ⟨_, hMd⟩, _, hO⟩ hS (lv_sub hl [2, 3, 4, 5, 6] rfl))
          · exact absurd h369 (by decide)
        · refine lv_lconst (v := 1) hx hb dL_law_476 (by decide) ?_
          refine lv_goto (tgt := 481) hx hb dL_law_477 (by decide) ?_
          refine lw_lcmp0 hx hb (by rw [he0] at h368; rw [show sB σ (8 * ix (xs (i + 1)) + ix (xs (i + 2))) = true from h368]; try rfl) dL_law_481 ?_
          refine br_eq0 (a := 0) (tgt := 487) hx hb (by decide) dL_law_482 (by decide) (fun h370 => ?_) (fun h370 => ?_)
          · refine lv_goto (tgt := 1679) hx hb dL_law_487 (by decide) ?_
            exact W.widen (k := cells + 4) (n := slots + 24) (by omega) (by omega) (kk (oS (eMut (xs (i + 1)) (xs (i + 2))) (nBlk σ (xs (i + 1)) (xs (i + 2)) (true)) σ) H locs ls ⟨(Inv_oS (fun z => (nx_block hI hSd z).1) hI), (Setd_oS (fun z => (nx_block hI hSd z).2) hSd), hF, ⟨_, hMd⟩, _, hO⟩ hS (lv_sub hl [2, 3, 4, 5, 6] rfl))
          · exact absurd h370 (by decide)
set_option maxHeartbeats 4000000 in
set_option maxRecDepth 100000 in
/-- a turn of the loop: post -/
theorem op_post {p : Program} {l : Launch} {en : Env} {s : State} {m : MethodId} {below : List Frame} {meth : Method} {c : Code} {b L : Nat} {xs : Nat → Int32} {g : GT} {ad am : Nat → Nat} {o : Nat} (C : lwC p l s m c b L xs g ad am o) {i : Nat} {H : Heap} {locs : List Loc} {cells slots : Nat} {Q : State → Prop} {σ : St} {ls : Array Slot} (hi : i + 4 ≤ L) (hI9 : lwI g ad am o σ H) (hS : va_S (frA s) s.heap H locs) (hl : lv_has ls 7 [(0, .ref (b)), (1, .ref (ad 0)), (2, .ref (am 0)), (3, .ref (o)), (4, .int (nI (i)))]) (hc : cells + 10 ≤ 601024) (hs : slots + 60 ≤ 7293034) (kk : ∀ (σ' : St) (H : Heap) (locs : List Loc) (ls : Array Slot), lwI g ad am o σ' H → va_S (frA s) s.heap H locs → lv_has ls 7 [(0, .ref (b)), (1, .ref (ad 0)), (2, .ref (am 0)), (3, .ref (o)), (4, .int (nI (i)))] → W p l en room_1 s m #[Value.ref b] below meth c H locs (cells + 4) (slots + 24) Q (F0 m 1679 ls [])) : W p l en room_1 s m #[Value.ref b] below meth c H locs cells slots Q (F0 m 490 ls []) := by
  obtain ⟨hx, hb, hml, hown, hts, hX, hbl, hL, hlf, hE, hxv0, hN, hM, ho, ho2, hdis, hfa, hma, hoa⟩ := C
  obtain ⟨hI, hSd, ⟨τ, hF, hR, hT⟩, ⟨th, hMd⟩, fn, hO⟩ := hI9
  refine lv_aload_n hx hb dL_law_490 rfl (lv_at hl 1 rfl) ?_
  refine lv_aload_n hx hb dL_law_491 rfl (lv_at hl 0 rfl) ?_
  refine lv_iload hx hb dL_law_492 (lv_at hl 4 rfl) ?_
  refine lv_iconst (v := nI (1)) hx hb dL_law_494 (by decide) ?_
  refine lv_iadd hx hb dL_law_495 ?_
  refine tp_i (nI_add _ _) ?_
  refine lw_ld (j := i + 1) hx hb hX hbl hS (by omega) hL dL_law_496 ?_
  refine lv_aload_n hx hb dL_law_497 rfl (lv_at hl 3 rfl) ?_
  refine lw_go (xn_SX ⟨hx, hb, hml, hown, hts⟩ (c_L_post l hlf g hI hN hR hSd hT ho (o := o) (fn := fn) (x := xs (i + 1))) gL_law_L_post rfl qL_post ⟨Nat.le_of_ble_eq_true rfl, Nat.le_of_ble_eq_true rfl⟩ ⟨(show cells + 2 ≤ 601024 by omega), (show slots + 12 ≤ 7293034 by omega)⟩ (gP_app hO hF) hE (xv_fr hxv0 hS) rfl hl.1 rfl (Nat.le_of_ble_eq_true rfl) dL_law_498) hS (List.forall_mem_cons.mpr ⟨hoa, hfa⟩) (fun H locs fn9 hO hfn hF hk hS => ?_)
  have hMd := wM_keepO ho2 hdis hMd hk
  clear hk
  have he3 : (ePst σ (xs (i + 1))) ≤ 3 := by
    unfold ePst; (repeat' split) <;> omega
  refine lv_istore (lv' := [(5, .int (nI (pl2 (ePst σ (xs (i + 1)))))), (0, .ref (b)), (1, .ref (ad 0)), (2, .ref (am 0)), (3, .ref (o)), (4, .int (nI (i)))]) hx hb dL_law_501 hl (by decide) rfl (fun ls hl => ?_)
  refine lv_aload_n hx hb dL_law_503 rfl (lv_at hl 3 rfl) ?_
  refine lv_aload_n hx hb dL_law_504 rfl (lv_at hl 1 rfl) ?_
  refine lv_iload hx hb dL_law_505 (lv_at hl 5 rfl) ?_
  refine lv_iconst (v := nI (1)) hx hb dL_law_507 (by decide) ?_
  refine lv_iadd hx hb dL_law_508 ?_
  refine tp_i (nI_add _ _) ?_
  refine lw_ld (j := i + 1) hx hb hX hbl hS (by omega) hL dL_law_509 ?_
  refine wr_goS (rn_V ⟨hx, hb, hml, hown, hts⟩ (c_X5_post l g (σ := σ) hI hM (x := xs (i + 1))) gL_law_X5_post rfl pX5_post ⟨Nat.le_of_ble_eq_true rfl, Nat.le_of_ble_eq_true rfl⟩ ⟨(show cells + 2 ≤ 601024 by omega), (show slots + 12 ≤ 7293034 by omega)⟩ hMd hE rfl rfl rfl hl.1 rfl (Nat.le_of_ble_eq_true rfl) dL_law_510) hS hma (fun H locs hB hz hk hS => ?_)
  have hMd : gP g (wM g am (oS (ePst σ (xs (i + 1))) (nPst σ (xs (i + 1))) σ) (pl2 (ePst σ (xs (i + 1))))) H := hB
  have hF := FWq_keepM hdis hF hk
  have hO := wO_keepM ho2 hO hk
  clear hB hk hz
  refine lv_istore (lv' := [(6, .int (oI (ePst σ (xs (i + 1))) (nI (sn σ)))), (5, .int (nI (pl2 (ePst σ (xs (i + 1)))))), (0, .ref (b)), (1, .ref (ad 0)), (2, .ref (am 0)), (3, .ref (o)), (4, .int (nI (i)))]) hx hb dL_law_513 hl (by decide) rfl (fun ls hl => ?_)
  refine lv_aload_n hx hb dL_law_515 rfl (lv_at hl 4 rfl) ?_
  refine rd_goS (rn_V ⟨hx, hb, hml, hown, hts⟩ (c_X5_thrown l g) gL_law_X5_thrown rfl pX5_thrown ⟨Nat.le_of_ble_eq_true rfl, Nat.le_of_ble_eq_true rfl⟩ ⟨(show cells + 2 ≤ 601024 by omega), (show slots + 12 ≤ 7293034 by omega)⟩ hMd hE rfl rfl rfl hl.1 rfl (Nat.le_of_ble_eq_true rfl) dL_law_516) ?_
  refine lv_iload hx hb dL_law_519 (lv_at hl 1 rfl) ?_
  refine lv_icmp_eq (tgt := 526) hx hb dL_law_521 (by decide) (fun _ => ?_) (fun h9 => absurd rfl h9)
  refine lv_iload hx hb dL_law_526 (lv_at hl 1 rfl) ?_
  refine lv_if_ne (tgt := 543) hx hb dL_law_528 (by decide) (fun hne => ?_) (fun heq => ?_)
  · refine lv_goto (tgt := 1679) hx hb dL_law_543 (by decide) ?_
    exact W.widen (k := cells + 4) (n := slots + 24) (by omega) (by omega) (kk (oS (ePst σ (xs (i + 1))) (nPst σ (xs (i + 1))) σ) H locs ls ⟨(Inv_oS (fun z => (nx_post hI hSd z).1) hI), (Setd_oS (fun z => (nx_post hI hSd z).2) hSd), hF, ⟨_, hMd⟩, _, hO⟩ hS (lv_sub hl [2, 3, 4, 5, 6] rfl))
  · have he0 : (ePst σ (xs (i + 1))) = 0 := (pl2_z (nI_z (pl2_le he3) heq))
    refine lv_aload_n hx hb dL_law_531 rfl (lv_at hl 5 rfl) ?_
    refine lv_iconst (v := nI (0)) hx hb dL_law_532 (by decide) ?_
    refine lw_lald hx hb hE hO (hfn he0) dL_law_533 ?_
    refine lv_iload hx hb dL_law_534 (lv_at hl 0 rfl) ?_
    refine lv_i2l hx hb dL_law_536 rfl ?_
    refine lw_lcmp0 hx hb (by rw [he0]; try rfl) dL_law_537 ?_
    refine br_eq0 (a := 0) (tgt := 543) hx hb (by decide) dL_law_538 (by decide) (fun h371 => ?_) (fun h371 => ?_)
    · refine lv_goto (tgt := 1679) hx hb dL_law_543 (by decide) ?_
      exact W.widen (k := cells + 4) (n := slots + 24) (by omega) (by omega) (kk (oS (ePst σ (xs (i + 1))) (nPst σ (xs (i + 1))) σ) H locs ls ⟨(Inv_oS (fun z => (nx_post hI hSd z).1) hI), (Setd_oS (fun z => (nx_post hI hSd z).2) hSd), hF, ⟨_, hMd⟩, _, hO⟩ hS (lv_sub hl [2, 3, 4, 5, 6] rfl))
    · exact absurd h371 (by decide)
set_option maxHeartbeats 4000000 in
set_option maxRecDepth 100000 in
/-- a turn of the loop: repost -/
theorem op_repost {p : Program} {l : Launch} {en : Env} {s : State} {m : MethodId} {below : List Frame} {meth : Method} {c : Code} {b L : Nat} {xs : Nat → Int32} {g : GT} {ad am : Nat → Nat} {o : Nat} (C : lwC p l s m c b L xs g ad am o) {i : Nat} {H : Heap} {locs : List Loc} {cells slots : Nat} {Q : State → Prop} {σ : St} {ls : Array Slot} (hi : i + 4 ≤ L) (hI9 : lwI g ad am o σ H) (hS : va_S (frA s) s.heap H locs) (hl : lv_has ls 7 [(0, .ref (b)), (1, .ref (ad 0)), (2, .ref (am 0)), (3, .ref (o)), (4, .int (nI (i)))]) (hc : cells + 10 ≤ 601024) (hs : slots + 60 ≤ 7293034) (kk : ∀ (σ' : St) (H : Heap) (locs : List Loc) (ls : Array Slot), lwI g ad am o σ' H → va_S (frA s) s.heap H locs → lv_has ls 7 [(0, .ref (b)), (1, .ref (ad 0)), (2, .ref (am 0)), (3, .ref (o)), (4, .int (nI (i)))] → W p l en room_1 s m #[Value.ref b] below meth c H locs (cells + 4) (slots + 24) Q (F0 m 1679 ls [])) : W p l en room_1 s m #[Value.ref b] below meth c H locs cells slots Q (F0 m 546 ls []) := by
  obtain ⟨hx, hb, hml, hown, hts, hX, hbl, hL, hlf, hE, hxv0, hN, hM, ho, ho2, hdis, hfa, hma, hoa⟩ := C
  obtain ⟨hI, hSd, ⟨τ, hF, hR, hT⟩, ⟨th, hMd⟩, fn, hO⟩ := hI9
  refine lv_aload_n hx hb dL_law_546 rfl (lv_at hl 1 rfl) ?_
  refine lv_aload_n hx hb dL_law_547 rfl (lv_at hl 0 rfl) ?_
  refine lv_iload hx hb dL_law_548 (lv_at hl 4 rfl) ?_
  refine lv_iconst (v := nI (1)) hx hb dL_law_550 (by decide) ?_
  refine lv_iadd hx hb dL_law_551 ?_
  refine tp_i (nI_add _ _) ?_
  refine lw_ld (j := i + 1) hx hb hX hbl hS (by omega) hL dL_law_552 ?_
  refine lv_aload_n hx hb dL_law_553 rfl (lv_at hl 0 rfl) ?_
  refine lv_iload hx hb dL_law_554 (lv_at hl 4 rfl) ?_
  refine lv_iconst (v := nI (2)) hx hb dL_law_556 (by decide) ?_
  refine lv_iadd hx hb dL_law_557 ?_
  refine tp_i (nI_add _ _) ?_
  refine lw_ld (j := i + 2) hx hb hX hbl hS (by omega) hL dL_law_558 ?_
  refine lv_aload_n hx hb dL_law_559 rfl (lv_at hl 3 rfl) ?_
  refine lw_go (xn_SX ⟨hx, hb, hml, hown, hts⟩ (c_L_repost l hlf g hI hN hR hSd hT ho (o := o) (fn := fn) (x := xs (i + 1)) (y := xs (i + 2))) gL_law_L_repost rfl qL_repost ⟨Nat.le_of_ble_eq_true rfl, Nat.le_of_ble_eq_true rfl⟩ ⟨(show cells + 4 ≤ 601024 by omega), (show slots + 24 ≤ 7293034 by omega)⟩ (gP_app hO hF) hE (xv_fr hxv0 hS) rfl hl.1 rfl (Nat.le_of_ble_eq_true rfl) dL_law_560) hS (List.forall_mem_cons.mpr ⟨hoa, hfa⟩) (fun H locs fn9 hO hfn hF hk hS => ?_)
  have hMd := wM_keepO ho2 hdis hMd hk
  clear hk
  have he3 : (eRep σ (xs (i + 1)) (xs (i + 2))) ≤ 3 := by
    unfold eRep; (repeat' split) <;> omega
  refine lv_istore (lv' := [(5, .int (nI (pl2 (eRep σ (xs (i + 1)) (xs (i + 2)))))), (0, .ref (b)), (1, .ref (ad 0)), (2, .ref (am 0)), (3, .ref (o)), (4, .int (nI (i)))]) hx hb dL_law_563 hl (by decide) rfl (fun ls hl => ?_)
  refine lv_aload_n hx hb dL_law_565 rfl (lv_at hl 3 rfl) ?_
  refine lv_aload_n hx hb dL_law_566 rfl (lv_at hl 1 rfl) ?_
  refine lv_iload hx hb dL_law_567 (lv_at hl 5 rfl) ?_
  refine lv_iconst (v := nI (1)) hx hb dL_law_569 (by decide) ?_
  refine lv_iadd hx hb dL_law_570 ?_
  refine tp_i (nI_add _ _) ?_
  refine lw_ld (j := i + 1) hx hb hX hbl hS (by omega) hL dL_law_571 ?_
  refine lv_aload_n hx hb dL_law_572 rfl (lv_at hl 1 rfl) ?_
  refine lv_iload hx hb dL_law_573 (lv_at hl 5 rfl) ?_
  refine lv_iconst (v := nI (2)) hx hb dL_law_575 (by decide) ?_
  refine lv_iadd hx hb dL_law_576 ?_
  refine tp_i (nI_add _ _) ?_
  refine lw_ld (j := i + 2) hx hb hX hbl hS (by omega) hL dL_law_577 ?_
  refine wr_goS (rn_V ⟨hx, hb, hml, hown, hts⟩ (c_X5_repost l g (σ := σ) hI hM (x := xs (i + 1)) (y := xs (i + 2))) gL_law_X5_repost rfl pX5_repost ⟨Nat.le_of_ble_eq_true rfl, Nat.le_of_ble_eq_true rfl⟩ ⟨(show cells + 4 ≤ 601024 by omega), (show slots + 24 ≤ 7293034 by omega)⟩ hMd hE rfl rfl rfl hl.1 rfl (Nat.le_of_ble_eq_true rfl) dL_law_578) hS hma (fun H locs hB hz hk hS => ?_)
  have hMd : gP g (wM g am (oS (eRep σ (xs (i + 1)) (xs (i + 2))) (nRep σ (xs (i + 1)) (xs (i + 2))) σ) (pl2 (eRep σ (xs (i + 1)) (xs (i + 2))))) H := hB
  have hF := FWq_keepM hdis hF hk
  have hO := wO_keepM ho2 hO hk
  clear hB hk hz
  refine lv_istore (lv' := [(6, .int (oI (eRep σ (xs (i + 1)) (xs (i + 2))) (nI (sn σ)))), (5, .int (nI (pl2 (eRep σ (xs (i + 1)) (xs (i + 2)))))), (0, .ref (b)), (1, .ref (ad 0)), (2, .ref (am 0)), (3, .ref (o)), (4, .int (nI (i)))]) hx hb dL_law_581 hl (by decide) rfl (fun ls hl => ?_)
  refine lv_aload_n hx hb dL_law_583 rfl (lv_at hl 4 rfl) ?_
  refine rd_goS (rn_V ⟨hx, hb, hml, hown, hts⟩ (c_X5_thrown l g) gL_law_X5_thrown rfl pX5_thrown ⟨Nat.le_of_ble_eq_true rfl, Nat.le_of_ble_eq_true rfl⟩ ⟨(show cells + 4 ≤ 601024 by omega), (show slots + 24 ≤ 7293034 by omega)⟩ hMd hE rfl rfl rfl hl.1 rfl (Nat.le_of_ble_eq_true rfl) dL_law_584) ?_
  refine lv_iload hx hb dL_law_587 (lv_at hl 1 rfl) ?_
  refine lv_icmp_eq (tgt := 594) hx hb dL_law_589 (by decide) (fun _ => ?_) (fun h9 => absurd rfl h9)
  refine lv_iload hx hb dL_law_594 (lv_at hl 1 rfl) ?_
  refine lv_if_ne (tgt := 611) hx hb dL_law_596 (by decide) (fun hne => ?_) (fun heq => ?_)
  · refine lv_goto (tgt := 1679) hx hb dL_law_611 (by decide) ?_
    exact W.widen (k := cells + 4) (n := slots + 24) (by omega) (by omega) (kk (oS (eRep σ (xs (i + 1)) (xs (i + 2))) (nRep σ (xs (i + 1)) (xs (i + 2))) σ) H locs ls ⟨(Inv_oS (fun z => (nx_repost hI hSd z).1) hI), (Setd_oS (fun z => (nx_repost hI hSd z).2) hSd), hF, ⟨_, hMd⟩, _, hO⟩ hS (lv_sub hl [2, 3, 4, 5, 6] rfl))
  · have he0 : (eRep σ (xs (i + 1)) (xs (i + 2))) = 0 := (pl2_z (nI_z (pl2_le he3) heq))
    refine lv_aload_n hx hb dL_law_599 rfl (lv_at hl 5 rfl) ?_
    refine lv_iconst (v := nI (0)) hx hb dL_law_600 (by decide) ?_
    refine lw_lald hx hb hE hO (hfn he0) dL_law_601 ?_
    refine lv_iload hx hb dL_law_602 (lv_at hl 0 rfl) ?_
    refine lv_i2l hx hb dL_law_604 rfl ?_
    refine lw_lcmp0 hx hb (by rw [he0]; try rfl) dL_law_605 ?_
    refine br_eq0 (a := 0) (tgt := 611) hx hb (by decide) dL_law_606 (by decide) (fun h372 => ?_) (fun h372 => ?_)
    · refine lv_goto (tgt := 1679) hx hb dL_law_611 (by decide) ?_
      exact W.widen (k := cells + 4) (n := slots + 24) (by omega) (by omega) (kk (oS (eRep σ (xs (i + 1)) (xs (i + 2))) (nRep σ (xs (i + 1)) (xs (i + 2))) σ) H locs ls ⟨(Inv_oS (fun z => (nx_repost hI hSd z).1) hI), (Setd_oS (fun z => (nx_repost hI hSd z).2) hSd), hF, ⟨_, hMd⟩, _, hO⟩ hS (lv_sub hl [2, 3, 4, 5, 6] rfl))
    · exact absurd h372 (by decide)
set_option maxHeartbeats 4000000 in
set_option maxRecDepth 100000 in
/-- a turn of the loop: delete -/
theorem op_delete {p : Program} {l : Launch} {en : Env} {s : State} {m : MethodId} {below : List Frame} {meth : Method} {c : Code} {b L : Nat} {xs : Nat → Int32} {g : GT} {ad am : Nat → Nat} {o : Nat} (C : lwC p l s m c b L xs g ad am o) {i : Nat} {H : Heap} {locs : List Loc} {cells slots : Nat} {Q : State → Prop} {σ : St} {ls : Array Slot} (hi : i + 4 ≤ L) (hI9 : lwI g ad am o σ H) (hS : va_S (frA s) s.heap H locs) (hl : lv_has ls 7 [(0, .ref (b)), (1, .ref (ad 0)), (2, .ref (am 0)), (3, .ref (o)), (4, .int (nI (i)))]) (hc : cells + 10 ≤ 601024) (hs : slots + 60 ≤ 7293034) (kk : ∀ (σ' : St) (H : Heap) (locs : List Loc) (ls : Array Slot), lwI g ad am o σ' H → va_S (frA s) s.heap H locs → lv_has ls 7 [(0, .ref (b)), (1, .ref (ad 0)), (2, .ref (am 0)), (3, .ref (o)), (4, .int (nI (i)))] → W p l en room_1 s m #[Value.ref b] below meth c H locs (cells + 4) (slots + 24) Q (F0 m 1679 ls [])) : W p l en room_1 s m #[Value.ref b] below meth c H locs cells slots Q (F0 m 614 ls []) := by
  obtain ⟨hx, hb, hml, hown, hts, hX, hbl, hL, hlf, hE, hxv0, hN, hM, ho, ho2, hdis, hfa, hma, hoa⟩ := C
  obtain ⟨hI, hSd, ⟨τ, hF, hR, hT⟩, ⟨th, hMd⟩, fn, hO⟩ := hI9
  refine lv_aload_n hx hb dL_law_614 rfl (lv_at hl 1 rfl) ?_
  refine lv_aload_n hx hb dL_law_615 rfl (lv_at hl 0 rfl) ?_
  refine lv_iload hx hb dL_law_616 (lv_at hl 4 rfl) ?_
  refine lv_iconst (v := nI (1)) hx hb dL_law_618 (by decide) ?_
  refine lv_iadd hx hb dL_law_619 ?_
  refine tp_i (nI_add _ _) ?_
  refine lw_ld (j := i + 1) hx hb hX hbl hS (by omega) hL dL_law_620 ?_
  refine lv_aload_n hx hb dL_law_621 rfl (lv_at hl 3 rfl) ?_
  refine lw_go (xn_SX ⟨hx, hb, hml, hown, hts⟩ (c_L_delete l hlf g hI hN hR hSd hT ho (o := o) (fn := fn) (x := xs (i + 1))) gL_law_L_delete rfl qL_delete ⟨Nat.le_of_ble_eq_true rfl, Nat.le_of_ble_eq_true rfl⟩ ⟨(show cells + 2 ≤ 601024 by omega), (show slots + 12 ≤ 7293034 by omega)⟩ (gP_app hO hF) hE (xv_fr hxv0 hS) rfl hl.1 rfl (Nat.le_of_ble_eq_true rfl) dL_law_622) hS (List.forall_mem_cons.mpr ⟨hoa, hfa⟩) (fun H locs fn9 hO hfn hF hk hS => ?_)
  have hMd := wM_keepO ho2 hdis hMd hk
  clear hk
  have he3 : (eDel σ (xs (i + 1))) ≤ 3 := by
    unfold eDel; (repeat' split) <;> omega
  refine lv_istore (lv' := [(5, .int (nI (pl2 (eDel σ (xs (i + 1)))))), (0, .ref (b)), (1, .ref (ad 0)), (2, .ref (am 0)), (3, .ref (o)), (4, .int (nI (i)))]) hx hb dL_law_625 hl (by decide) rfl (fun ls hl => ?_)
  refine lv_aload_n hx hb dL_law_627 rfl (lv_at hl 3 rfl) ?_
  refine lv_aload_n hx hb dL_law_628 rfl (lv_at hl 1 rfl) ?_
  refine lv_iload hx hb dL_law_629 (lv_at hl 5 rfl) ?_
  refine lv_iconst (v := nI (1)) hx hb dL_law_631 (by decide) ?_
  refine lv_iadd hx hb dL_law_632 ?_
  refine tp_i (nI_add _ _) ?_
  refine lw_ld (j := i + 1) hx hb hX hbl hS (by omega) hL dL_law_633 ?_
  refine wr_goS (rn_V ⟨hx, hb, hml, hown, hts⟩ (c_X5_delete l g (σ := σ) hI hM (x := xs (i + 1))) gL_law_X5_delete rfl pX5_delete ⟨Nat.le_of_ble_eq_true rfl, Nat.le_of_ble_eq_true rfl⟩ ⟨(show cells + 2 ≤ 601024 by omega), (show slots + 12 ≤ 7293034 by omega)⟩ hMd hE rfl rfl rfl hl.1 rfl (Nat.le_of_ble_eq_true rfl) dL_law_634) hS hma (fun H locs hB hz hk hS => ?_)
  have hMd : gP g (wM g am (oS (eDel σ (xs (i + 1))) (nDel σ (xs (i + 1))) σ) (pl2 (eDel σ (xs (i + 1))))) H := hB
  have hF := FWq_keepM hdis hF hk
  have hO := wO_keepM ho2 hO hk
  clear hB hk hz
  refine lv_istore (lv' := [(6, .int (oI (eDel σ (xs (i + 1))) (nI (rDel σ (xs (i + 1)))))), (5, .int (nI (pl2 (eDel σ (xs (i + 1)))))), (0, .ref (b)), (1, .ref (ad 0)), (2, .ref (am 0)), (3, .ref (o)), (4, .int (nI (i)))]) hx hb dL_law_637 hl (by decide) rfl (fun ls hl => ?_)
  refine lv_aload_n hx hb dL_law_639 rfl (lv_at hl 4 rfl) ?_
  refine rd_goS (rn_V ⟨hx, hb, hml, hown, hts⟩ (c_X5_thrown l g) gL_law_X5_thrown rfl pX5_thrown ⟨Nat.le_of_ble_eq_true rfl, Nat.le_of_ble_eq_true rfl⟩ ⟨(show cells + 2 ≤ 601024 by omega), (show slots + 12 ≤ 7293034 by omega)⟩ hMd hE rfl rfl rfl hl.1 rfl (Nat.le_of_ble_eq_true rfl) dL_law_640) ?_
  refine lv_iload hx hb dL_law_643 (lv_at hl 1 rfl) ?_
  refine lv_icmp_eq (tgt := 650) hx hb dL_law_645 (by decide) (fun _ => ?_) (fun h9 => absurd rfl h9)
  refine lv_iload hx hb dL_law_650 (lv_at hl 1 rfl) ?_
  refine lv_if_ne (tgt := 667) hx hb dL_law_652 (by decide) (fun hne => ?_) (fun heq => ?_)
  · refine lv_goto (tgt := 1679) hx hb dL_law_667 (by decide) ?_
    exact W.widen (k := cells + 4) (n := slots + 24) (by omega) (by omega) (kk (oS (eDel σ (xs (i + 1))) (nDel σ (xs (i + 1))) σ) H locs ls ⟨(Inv_oS (fun z => (nx_delete hI hSd z).1) hI), (Setd_oS (fun z => (nx_delete hI hSd z).2) hSd), hF, ⟨_, hMd⟩, _, hO⟩ hS (lv_sub hl [2, 3, 4, 5, 6] rfl))
  · have he0 : (eDel σ (xs (i + 1))) = 0 := (pl2_z (nI_z (pl2_le he3) heq))
    refine lv_aload_n hx hb dL_law_655 rfl (lv_at hl 5 rfl) ?_
    refine lv_iconst (v := nI (0)) hx hb dL_law_656 (by decide) ?_
    refine lw_lald hx hb hE hO (hfn he0) dL_law_657 ?_
    refine lv_iload hx hb dL_law_658 (lv_at hl 0 rfl) ?_
    refine lv_i2l hx hb dL_law_660 rfl ?_
    refine lw_lcmp0 hx hb (by rw [he0]; try rfl) dL_law_661 ?_
    refine br_eq0 (a := 0) (tgt := 667) hx hb (by decide) dL_law_662 (by decide) (fun h373 => ?_) (fun h373 => ?_)
    · refine lv_goto (tgt := 1679) hx hb dL_law_667 (by decide) ?_
      exact W.widen (k := cells + 4) (n := slots + 24) (by omega) (by omega) (kk (oS (eDel σ (xs (i + 1))) (nDel σ (xs (i + 1))) σ) H locs ls ⟨(Inv_oS (fun z => (nx_delete hI hSd z).1) hI), (Setd_oS (fun z => (nx_delete hI hSd z).2) hSd), hF, ⟨_, hMd⟩, _, hO⟩ hS (lv_sub hl [2, 3, 4, 5, 6] rfl))
    · exact absurd h373 (by decide)
set_option maxHeartbeats 4000000 in
set_option maxRecDepth 100000 in
/-- a turn of the loop: setMark -/
theorem op_setMark {p : Program} {l : Launch} {en : Env} {s : State} {m : MethodId} {below : List Frame} {meth : Method} {c : Code} {b L : Nat} {xs : Nat → Int32} {g : GT} {ad am : Nat → Nat} {o : Nat} (C : lwC p l s m c b L xs g ad am o) {i : Nat} {H : Heap} {locs : List Loc} {cells slots : Nat} {Q : State → Prop} {σ : St} {ls : Array Slot} (hi : i + 4 ≤ L) (hI9 : lwI g ad am o σ H) (hS : va_S (frA s) s.heap H locs) (hl : lv_has ls 7 [(0, .ref (b)), (1, .ref (ad 0)), (2, .ref (am 0)), (3, .ref (o)), (4, .int (nI (i)))]) (hc : cells + 10 ≤ 601024) (hs : slots + 60 ≤ 7293034) (kk : ∀ (σ' : St) (H : Heap) (locs : List Loc) (ls : Array Slot), lwI g ad am o σ' H → va_S (frA s) s.heap H locs → lv_has ls 7 [(0, .ref (b)), (1, .ref (ad 0)), (2, .ref (am 0)), (3, .ref (o)), (4, .int (nI (i)))] → W p l en room_1 s m #[Value.ref b] below meth c H locs (cells + 4) (slots + 24) Q (F0 m 1679 ls [])) : W p l en room_1 s m #[Value.ref b] below meth c H locs cells slots Q (F0 m 670 ls []) := by
  obtain ⟨hx, hb, hml, hown, hts, hX, hbl, hL, hlf, hE, hxv0, hN, hM, ho, ho2, hdis, hfa, hma, hoa⟩ := C
  obtain ⟨hI, hSd, ⟨τ, hF, hR, hT⟩, ⟨th, hMd⟩, fn, hO⟩ := hI9
  refine lv_aload_n hx hb dL_law_670 rfl (lv_at hl 1 rfl) ?_
  refine lv_aload_n hx hb dL_law_671 rfl (lv_at hl 0 rfl) ?_
  refine lv_iload hx hb dL_law_672 (lv_at hl 4 rfl) ?_
  refine lv_iconst (v := nI (1)) hx hb dL_law_674 (by decide) ?_
  refine lv_iadd hx hb dL_law_675 ?_
  refine tp_i (nI_add _ _) ?_
  refine lw_ld (j := i + 1) hx hb hX hbl hS (by omega) hL dL_law_676 ?_
  refine lv_aload_n hx hb dL_law_677 rfl (lv_at hl 3 rfl) ?_
  refine lw_go (xn_SX ⟨hx, hb, hml, hown, hts⟩ (c_L_setMark l hlf g hI hN hR hSd hT ho (o := o) (fn := fn) (x := xs (i + 1))) gL_law_L_setMark rfl qL_setMark ⟨Nat.le_of_ble_eq_true rfl, Nat.le_of_ble_eq_true rfl⟩ ⟨(show cells + 1 ≤ 601024 by omega), (show slots + 6 ≤ 7293034 by omega)⟩ (gP_app hO hF) hE (xv_fr hxv0 hS) rfl hl.1 rfl (Nat.le_of_ble_eq_true rfl) dL_law_678) hS (List.forall_mem_cons.mpr ⟨hoa, hfa⟩) (fun H locs fn9 hO hfn hF hk hS => ?_)
  have hMd := wM_keepO ho2 hdis hMd hk
  clear hk
  have he3 : (eR 0 8 (xs (i + 1))) ≤ 3 := by
    unfold eR; (repeat' split) <;> omega
  refine lv_istore (lv' := [(5, .int (nI (pl1 (eR 0 8 (xs (i + 1)))))), (0, .ref (b)), (1, .ref (ad 0)), (2, .ref (am 0)), (3, .ref (o)), (4, .int (nI (i)))]) hx hb dL_law_681 hl (by decide) rfl (fun ls hl => ?_)
  refine lv_aload_n hx hb dL_law_683 rfl (lv_at hl 3 rfl) ?_
  refine lv_aload_n hx hb dL_law_684 rfl (lv_at hl 1 rfl) ?_
  refine lv_iload hx hb dL_law_685 (lv_at hl 5 rfl) ?_
  refine lv_iconst (v := nI (1)) hx hb dL_law_687 (by decide) ?_
  refine lv_iadd hx hb dL_law_688 ?_
  refine tp_i (nI_add _ _) ?_
  refine lw_ld (j := i + 1) hx hb hX hbl hS (by omega) hL dL_law_689 ?_
  refine wr_goS (rn_V ⟨hx, hb, hml, hown, hts⟩ (c_X5_setMark l g (σ := σ) hI hM (x := xs (i + 1))) gL_law_X5_setMark rfl pX5_setMark ⟨Nat.le_of_ble_eq_true rfl, Nat.le_of_ble_eq_true rfl⟩ ⟨(show cells + 1 ≤ 601024 by omega), (show slots + 6 ≤ 7293034 by omega)⟩ hMd hE rfl rfl rfl hl.1 rfl (Nat.le_of_ble_eq_true rfl) dL_law_690) hS hma (fun H locs hB hz hk hS => ?_)
  have hMd : gP g (wM g am (oS (eR 0 8 (xs (i + 1))) (nMrk σ (xs (i + 1))) σ) (pl1 (eR 0 8 (xs (i + 1))))) H := hB
  have hF := FWq_keepM hdis hF hk
  have hO := wO_keepM ho2 hO hk
  clear hB hk hz
  refine lv_istore (lv' := [(6, .int (oI (eR 0 8 (xs (i + 1))) (nI (rMrk σ (xs (i + 1)))))), (5, .int (nI (pl1 (eR 0 8 (xs (i + 1)))))), (0, .ref (b)), (1, .ref (ad 0)), (2, .ref (am 0)), (3, .ref (o)), (4, .int (nI (i)))]) hx hb dL_law_693 hl (by decide) rfl (fun ls hl => ?_)
  refine lv_aload_n hx hb dL_law_695 rfl (lv_at hl 4 rfl) ?_
  refine rd_goS (rn_V ⟨hx, hb, hml, hown, hts⟩ (c_X5_thrown l g) gL_law_X5_thrown rfl pX5_thrown ⟨Nat.le_of_ble_eq_true rfl, Nat.le_of_ble_eq_true rfl⟩ ⟨(show cells + 1 ≤ 601024 by omega), (show slots + 6 ≤ 7293034 by omega)⟩ hMd hE rfl rfl rfl hl.1 rfl (Nat.le_of_ble_eq_true rfl) dL_law_696) ?_
  refine lv_iload hx hb dL_law_699 (lv_at hl 1 rfl) ?_
  refine lv_icmp_eq (tgt := 706) hx hb dL_law_701 (by decide) (fun _ => ?_) (fun h9 => absurd rfl h9)
  refine lv_iload hx hb dL_law_706 (lv_at hl 1 rfl) ?_
  refine lv_if_ne (tgt := 723) hx hb dL_law_708 (by decide) (fun hne => ?_) (fun heq => ?_)
  · refine lv_goto (tgt := 1679) hx hb dL_law_723 (by decide) ?_
    exact W.widen (k := cells + 4) (n := slots + 24) (by omega) (by omega) (kk (oS (eR 0 8 (xs (i + 1))) (nMrk σ (xs (i + 1))) σ) H locs ls ⟨(Inv_oS (fun z => (nx_setMark hI hSd z).1) hI), (Setd_oS (fun z => (nx_setMark hI hSd z).2) hSd), hF, ⟨_, hMd⟩, _, hO⟩ hS (lv_sub hl [2, 3, 4, 5, 6] rfl))
  · have he0 : (eR 0 8 (xs (i + 1))) = 0 := (pl1_z (nI_z (pl1_le he3) heq))
    refine lv_aload_n hx hb dL_law_711 rfl (lv_at hl 5 rfl) ?_
    refine lv_iconst (v := nI (0)) hx hb dL_law_712 (by decide) ?_
    refine lw_lald hx hb hE hO (hfn he0) dL_law_713 ?_
    refine lv_iload hx hb dL_law_714 (lv_at hl 0 rfl) ?_
    refine lv_i2l hx hb dL_law_716 rfl ?_
    refine lw_lcmp0 hx hb (by rw [he0]; try rfl) dL_law_717 ?_
    refine br_eq0 (a := 0) (tgt := 723) hx hb (by decide) dL_law_718 (by decide) (fun h374 => ?_) (fun h374 => ?_)
    · refine lv_goto (tgt := 1679) hx hb dL_law_723 (by decide) ?_
      exact W.widen (k := cells + 4) (n := slots + 24) (by omega) (by omega) (kk (oS (eR 0 8 (xs (i + 1))) (nMrk σ (xs (i + 1))) σ) H locs ls ⟨(Inv_oS (fun z => (nx_setMark hI hSd z).1) hI), (Setd_oS (fun z => (nx_setMark hI hSd z).2) hSd), hF, ⟨_, hMd⟩, _, hO⟩ hS (lv_sub hl [2, 3, 4, 5, 6] rfl))
    · exact absurd h374 (by decide)
set_option maxHeartbeats 4000000 in
set_option maxRecDepth 100000 in
/-- a turn of the loop: setRoom -/
theorem op_setRoom {p : Program} {l : Launch} {en : Env} {s : State} {m : MethodId} {below : List Frame} {meth : Method} {c : Code} {b L : Nat} {xs : Nat → Int32} {g : GT} {ad am : Nat → Nat} {o : Nat} (C : lwC p l s m c b L xs g ad am o) {i : Nat} {H : Heap} {locs : List Loc} {cells slots : Nat} {Q : State → Prop} {σ : St} {ls : Array Slot} (hi : i + 4 ≤ L) (hI9 : lwI g ad am o σ H) (hS : va_S (frA s) s.heap H locs) (hl : lv_has ls 7 [(0, .ref (b)), (1, .ref (ad 0)), (2, .ref (am 0)), (3, .ref (o)), (4, .int (nI (i)))]) (hc : cells + 10 ≤ 601024) (hs : slots + 60 ≤ 7293034) (kk : ∀ (σ' : St) (H : Heap) (locs : List Loc) (ls : Array Slot), lwI g ad am o σ' H → va_S (frA s) s.heap H locs → lv_has ls 7 [(0, .ref (b)), (1, .ref (ad 0)), (2, .ref (am 0)), (3, .ref (o)), (4, .int (nI (i)))] → W p l en room_1 s m #[Value.ref b] below meth c H locs (cells + 4) (slots + 24) Q (F0 m 1679 ls [])) : W p l en room_1 s m #[Value.ref b] below meth c H locs cells slots Q (F0 m 726 ls []) := by
  obtain ⟨hx, hb, hml, hown, hts, hX, hbl, hL, hlf, hE, hxv0, hN, hM, ho, ho2, hdis, hfa, hma, hoa⟩ := C
  obtain ⟨hI, hSd, ⟨τ, hF, hR, hT⟩, ⟨th, hMd⟩, fn, hO⟩ := hI9
  refine lv_aload_n hx hb dL_law_726 rfl (lv_at hl 1 rfl) ?_
  refine lv_aload_n hx hb dL_law_727 rfl (lv_at hl 0 rfl) ?_
  refine lv_iload hx hb dL_law_728 (lv_at hl 4 rfl) ?_
  refine lv_iconst (v := nI (1)) hx hb dL_law_730 (by decide) ?_
  refine lv_iadd hx hb dL_law_731 ?_
  refine tp_i (nI_add _ _) ?_
  refine lw_ld (j := i + 1) hx hb hX hbl hS (by omega) hL dL_law_732 ?_
  refine lv_aload_n hx hb dL_law_733 rfl (lv_at hl 3 rfl) ?_
  refine lw_go (xn_SX ⟨hx, hb, hml, hown, hts⟩ (c_L_setRoom l hlf g hI hN hR hSd hT ho (o := o) (fn := fn) (x := xs (i + 1))) gL_law_L_setRoom rfl qL_setRoom ⟨Nat.le_of_ble_eq_true rfl, Nat.le_of_ble_eq_true rfl⟩ ⟨(show cells + 1 ≤ 601024 by omega), (show slots + 6 ≤ 7293034 by omega)⟩ (gP_app hO hF) hE (xv_fr hxv0 hS) rfl hl.1 rfl (Nat.le_of_ble_eq_true rfl) dL_law_734) hS (List.forall_mem_cons.mpr ⟨hoa, hfa⟩) (fun H locs fn9 hO hfn hF hk hS => ?_)
  have hMd := wM_keepO ho2 hdis hMd hk
  clear hk
  have he3 : (eR 1 40 (xs (i + 1))) ≤ 3 := by
    unfold eR; (repeat' split) <;> omega
  refine lv_istore (lv' := [(5, .int (nI (pl1 (eR 1 40 (xs (i + 1)))))), (0, .ref (b)), (1, .ref (ad 0)), (2, .ref (am 0)), (3, .ref (o)), (4, .int (nI (i)))]) hx hb dL_law_737 hl (by decide) rfl (fun ls hl => ?_)
  refine lv_aload_n hx hb dL_law_739 rfl (lv_at hl 3 rfl) ?_
  refine lv_aload_n hx hb dL_law_740 rfl (lv_at hl 1 rfl) ?_
  refine lv_iload hx hb dL_law_741 (lv_at hl 5 rfl) ?_
  refine lv_iconst (v := nI (1)) hx hb dL_law_743 (by decide) ?_
  refine lv_iadd hx hb dL_law_744 ?_
  refine tp_i (nI_add _ _) ?_
  refine lw_ld (j := i + 1) hx hb hX hbl hS (by omega) hL dL_law_745 ?_
  refine wr_goS (rn_V ⟨hx, hb, hml, hown, hts⟩ (c_X5_setRoom l g (σ := σ) hI hM (x := xs (i + 1))) gL_law_X5_setRoom rfl pX5_setRoom ⟨Nat.le_of_ble_eq_true rfl, Nat.le_of_ble_eq_true rfl⟩ ⟨(show cells + 1 ≤ 601024 by omega), (show slots + 6 ≤ 7293034 by omega)⟩ hMd hE rfl rfl rfl hl.1 rfl (Nat.le_of_ble_eq_true rfl) dL_law_746) hS hma (fun H locs hB hz hk hS => ?_)
  have hMd : gP g (wM g am (oS (eR 1 40 (xs (i + 1))) (nRom σ (xs (i + 1))) σ) (pl1 (eR 1 40 (xs (i + 1))))) H := hB
  have hF := FWq_keepM hdis hF hk
  have hO := wO_keepM ho2 hO hk
  clear hB hk hz
  refine lv_istore (lv' := [(6, .int (oI (eR 1 40 (xs (i + 1))) (nI (sr σ)))), (5, .int (nI (pl1 (eR 1 40 (xs (i + 1)))))), (0, .ref (b)), (1, .ref (ad 0)), (2, .ref (am 0)), (3, .ref (o)), (4, .int (nI (i)))]) hx hb dL_law_749 hl (by decide) rfl (fun ls hl => ?_)
  refine lv_aload_n hx hb dL_law_751 rfl (lv_at hl 4 rfl) ?_
  refine rd_goS (rn_V ⟨hx, hb, hml, hown, hts⟩ (c_X5_thrown l g) gL_law_X5_thrown rfl pX5_thrown ⟨Nat.le_of_ble_eq_true rfl, Nat.le_of_ble_eq_true rfl⟩ ⟨(show cells + 1 ≤ 601024 by omega), (show slots + 6 ≤ 7293034 by omega)⟩ hMd hE rfl rfl rfl hl.1 rfl (Nat.le_of_ble_eq_true rfl) dL_law_752) ?_
  refine lv_iload hx hb dL_law_755 (lv_at hl 1 rfl) ?_
  refine lv_icmp_eq (tgt := 762) hx hb dL_law_757 (by decide) (fun _ => ?_) (fun h9 => absurd rfl h9)
  refine lv_iload hx hb dL_law_762 (lv_at hl 1 rfl) ?_
  refine lv_if_ne (tgt := 779) hx hb dL_law_764 (by decide) (fun hne => ?_) (fun heq => ?_)
  · refine lv_goto (tgt := 1679) hx hb dL_law_779 (by decide) ?_
    exact W.widen (k := cells + 4) (n := slots + 24) (by omega) (by omega) (kk (oS (eR 1 40 (xs (i + 1))) (nRom σ (xs (i + 1))) σ) H locs ls ⟨(Inv_oS (fun z => (nx_setRoom hI hSd z).1) hI), (Setd_oS (fun z => (nx_setRoom hI hSd z).2) hSd), hF, ⟨_, hMd⟩, _, hO⟩ hS (lv_sub hl [2, 3, 4, 5, 6] rfl))
  · have he0 : (eR 1 40 (xs (i + 1))) = 0 := (pl1_z (nI_z (pl1_le he3) heq))
    refine lv_aload_n hx hb dL_law_767 rfl (lv_at hl 5 rfl) ?_
    refine lv_iconst (v := nI (0)) hx hb dL_law_768 (by decide) ?_
    refine lw_lald hx hb hE hO (hfn he0) dL_law_769 ?_
    refine lv_iload hx hb dL_law_770 (lv_at hl 0 rfl) ?_
    refine lv_i2l hx hb dL_law_772 rfl ?_
    refine lw_lcmp0 hx hb (by rw [he0]; try rfl) dL_law_773 ?_
    refine br_eq0 (a := 0) (tgt := 779) hx hb (by decide) dL_law_774 (by decide) (fun h375 => ?_) (fun h375 => ?_)
    · refine lv_goto (tgt := 1679) hx hb dL_law_779 (by decide) ?_
      exact W.widen (k := cells + 4) (n := slots + 24) (by omega) (by omega) (kk (oS (eR 1 40 (xs (i + 1))) (nRom σ (xs (i + 1))) σ) H locs ls ⟨(Inv_oS (fun z => (nx_setRoom hI hSd z).1) hI), (Setd_oS (fun z => (nx_setRoom hI hSd z).2) hSd), hF, ⟨_, hMd⟩, _, hO⟩ hS (lv_sub hl [2, 3, 4, 5, 6] rfl))
    · exact absurd h375 (by decide)
set_option maxHeartbeats 4000000 in
set_option maxRecDepth 100000 in
/-- a turn of the loop: entries -/
theorem op_entries {p : Program} {l : Launch} {en : Env} {s : State} {m : MethodId} {below : List Frame} {meth : Method} {c : Code} {b L : Nat} {xs : Nat → Int32} {g : GT} {ad am : Nat → Nat} {o : Nat} (C : lwC p l s m c b L xs g ad am o) {i : Nat} {H : Heap} {locs : List Loc} {cells slots : Nat} {Q : State → Prop} {σ : St} {ls : Array Slot} (hi : i + 4 ≤ L) (hI9 : lwI g ad am o σ H) (hS : va_S (frA s) s.heap H locs) (hl : lv_has ls 7 [(0, .ref (b)), (1, .ref (ad 0)), (2, .ref (am 0)), (3, .ref (o)), (4, .int (nI (i)))]) (hc : cells + 10 ≤ 601024) (hs : slots + 60 ≤ 7293034) (kk : ∀ (σ' : St) (H : Heap) (locs : List Loc) (ls : Array Slot), lwI g ad am o σ' H → va_S (frA s) s.heap H locs → lv_has ls 7 [(0, .ref (b)), (1, .ref (ad 0)), (2, .ref (am 0)), (3, .ref (o)), (4, .int (nI (i)))] → W p l en room_1 s m #[Value.ref b] below meth c H locs (cells + 4) (slots + 24) Q (F0 m 1679 ls [])) : W p l en room_1 s m #[Value.ref b] below meth c H locs cells slots Q (F0 m 782 ls []) := by
  obtain ⟨hx, hb, hml, hown, hts, hX, hbl, hL, hlf, hE, hxv0, hN, hM, ho, ho2, hdis, hfa, hma, hoa⟩ := C
  obtain ⟨hI, hSd, ⟨τ, hF, hR, hT⟩, ⟨th, hMd⟩, fn, hO⟩ := hI9
  refine lv_aload_n hx hb dL_law_782 rfl (lv_at hl 1 rfl) ?_
  refine rd_goS (rn_V ⟨hx, hb, hml, hown, hts⟩ (c_X4_entries l g hI) gL_law_X4_entries rfl pX4_entries ⟨Nat.le_of_ble_eq_true rfl, Nat.le_of_ble_eq_true rfl⟩ ⟨(show cells + 0 ≤ 601024 by omega), (show slots + 0 ≤ 7293034 by omega)⟩ hF hE rfl rfl rfl hl.1 rfl (Nat.le_of_ble_eq_true rfl) dL_law_783) ?_
  refine lv_aload_n hx hb dL_law_786 rfl (lv_at hl 2 rfl) ?_
  refine wr_goS (rn_V ⟨hx, hb, hml, hown, hts⟩ (c_X5_entries l g hI hM) gL_law_X5_entries rfl pX5_entries ⟨Nat.le_of_ble_eq_true rfl, Nat.le_of_ble_eq_true rfl⟩ ⟨(show cells + 0 ≤ 601024 by omega), (show slots + 0 ≤ 7293034 by omega)⟩ hMd hE rfl rfl rfl hl.1 rfl (Nat.le_of_ble_eq_true rfl) dL_law_787) hS hma (fun H locs hB hz hk hS => ?_)
  have hMd : gP g (wM g am σ 0) H := hB
  have hF := FWq_keepM hdis ⟨τ, hF, hR, hT⟩ hk
  have hO := wO_keepM ho2 hO hk
  clear hB hk hz
  refine lv_icmp_eq (tgt := 1679) hx hb dL_law_790 (by decide) (fun _ => ?_) (fun h9 => absurd rfl h9)
  exact W.widen (k := cells + 4) (n := slots + 24) (by omega) (by omega) (kk σ H locs ls ⟨hI, hSd, hF, ⟨_, hMd⟩, _, hO⟩ hS (lv_sub hl [0, 1, 2, 3, 4] rfl))
set_option maxHeartbeats 4000000 in
set_option maxRecDepth 100000 in
/-- a turn of the loop: authorOf -/
theorem op_authorOf {p : Program} {l : Launch} {en : Env} {s : State} {m : MethodId} {below : List Frame} {meth : Method} {c : Code} {b L : Nat} {xs : Nat → Int32} {g : GT} {ad am : Nat → Nat} {o : Nat} (C : lwC p l s m c b L xs g ad am o) {i : Nat} {H : Heap} {locs : List Loc} {cells slots : Nat} {Q : State → Prop} {σ : St} {ls : Array Slot} (hi : i + 4 ≤ L) (hI9 : lwI g ad am o σ H) (hS : va_S (frA s) s.heap H locs) (hl : lv_has ls 7 [(0, .ref (b)), (1, .ref (ad 0)), (2, .ref (am 0)), (3, .ref (o)), (4, .int (nI (i)))]) (hc : cells + 10 ≤ 601024) (hs : slots + 60 ≤ 7293034) (kk : ∀ (σ' : St) (H : Heap) (locs : List Loc) (ls : Array Slot), lwI g ad am o σ' H → va_S (frA s) s.heap H locs → lv_has ls 7 [(0, .ref (b)), (1, .ref (ad 0)), (2, .ref (am 0)), (3, .ref (o)), (4, .int (nI (i)))] → W p l en room_1 s m #[Value.ref b] below meth c H locs (cells + 4) (slots + 24) Q (F0 m 1679 ls [])) : W p l en room_1 s m #[Value.ref b] below meth c H locs cells slots Q (F0 m 795 ls []) := by
  obtain ⟨hx, hb, hml, hown, hts, hX, hbl, hL, hlf, hE, hxv0, hN, hM, ho, ho2, hdis, hfa, hma, hoa⟩ := C
  obtain ⟨hI, hSd, ⟨τ, hF, hR, hT⟩, ⟨th, hMd⟩, fn, hO⟩ := hI9
  refine lv_aload_n hx hb dL_law_795 rfl (lv_at hl 1 rfl) ?_
  refine lv_aload_n hx hb dL_law_796 rfl (lv_at hl 0 rfl) ?_
  refine lv_iload hx hb dL_law_797 (lv_at hl 4 rfl) ?_
  refine lv_iconst (v := nI (1)) hx hb dL_law_799 (by decide) ?_
  refine lv_iadd hx hb dL_law_800 ?_
  refine tp_i (nI_add _ _) ?_
  refine lw_ld (j := i + 1) hx hb hX hbl hS (by omega) hL dL_law_801 ?_
  refine lv_aload_n hx hb dL_law_802 rfl (lv_at hl 3 rfl) ?_
  refine lw_go (xn_SX ⟨hx, hb, hml, hown, hts⟩ (c_L_authorOf l hlf g hI hN hR hSd hT ho (o := o) (fn := fn) (x := xs (i + 1))) gL_law_L_authorOf rfl qL_authorOf ⟨Nat.le_of_ble_eq_true rfl, Nat.le_of_ble_eq_true rfl⟩ ⟨(show cells + 1 ≤ 601024 by omega), (show slots + 6 ≤ 7293034 by omega)⟩ (gP_app hO hF) hE (xv_fr hxv0 hS) rfl hl.1 rfl (Nat.le_of_ble_eq_true rfl) dL_law_803) hS (List.forall_mem_cons.mpr ⟨hoa, hfa⟩) (fun H locs fn9 hO hfn hF hk hS => ?_)
  have hMd := wM_keepO ho2 hdis hMd hk
  clear hk
  have he3 : (eE (sn σ) (xs (i + 1))) ≤ 3 := by
    unfold eE; (repeat' split) <;> omega
  refine lv_istore (lv' := [(5, .int (nI (eE (sn σ) (xs (i + 1))))), (0, .ref (b)), (1, .ref (ad 0)), (2, .ref (am 0)), (3, .ref (o)), (4, .int (nI (i)))]) hx hb dL_law_806 hl (by decide) rfl (fun ls hl => ?_)
  refine lv_aload_n hx hb dL_law_808 rfl (lv_at hl 3 rfl) ?_
  refine lv_aload_n hx hb dL_law_809 rfl (lv_at hl 1 rfl) ?_
  refine lv_iload hx hb dL_law_810 (lv_at hl 5 rfl) ?_
  refine lv_iconst (v := nI (1)) hx hb dL_law_812 (by decide) ?_
  refine lv_iadd hx hb dL_law_813 ?_
  refine tp_i (nI_add _ _) ?_
  refine lw_ld (j := i + 1) hx hb hX hbl hS (by omega) hL dL_law_814 ?_
  refine wr_goS (rn_V ⟨hx, hb, hml, hown, hts⟩ (c_X5_authorOf l g (σ := σ) hI hM (x := xs (i + 1))) gL_law_X5_authorOf rfl pX5_authorOf ⟨Nat.le_of_ble_eq_true rfl, Nat.le_of_ble_eq_true rfl⟩ ⟨(show cells + 1 ≤ 601024 by omega), (show slots + 6 ≤ 7293034 by omega)⟩ hMd hE rfl rfl rfl hl.1 rfl (Nat.le_of_ble_eq_true rfl) dL_law_815) hS hma (fun H locs hB hz hk hS => ?_)
  have hMd : gP g (wM g am (oS (eE (sn σ) (xs (i + 1))) (σ) σ) (eE (sn σ) (xs (i + 1)))) H := hB
  have hF := FWq_keepM hdis hF hk
  have hO := wO_keepM ho2 hO hk
  clear hB hk hz
  refine lv_istore (lv' := [(6, .int (oI (eE (sn σ) (xs (i + 1))) (nI (sa σ (ix (xs (i + 1))))))), (5, .int (nI (eE (sn σ) (xs (i + 1))))), (0, .ref (b)), (1, .ref (ad 0)), (2, .ref (am 0)), (3, .ref (o)), (4, .int (nI (i)))]) hx hb dL_law_818 hl (by decide) rfl (fun ls hl => ?_)
  refine lv_aload_n hx hb dL_law_820 rfl (lv_at hl 4 rfl) ?_
  refine rd_goS (rn_V ⟨hx, hb, hml, hown, hts⟩ (c_X5_thrown l g) gL_law_X5_thrown rfl pX5_thrown ⟨Nat.le_of_ble_eq_true rfl, Nat.le_of_ble_eq_true rfl⟩ ⟨(show cells + 1 ≤ 601024 by omega), (show slots + 6 ≤ 7293034 by omega)⟩ hMd hE rfl rfl rfl hl.1 rfl (Nat.le_of_ble_eq_true rfl) dL_law_821) ?_
  refine lv_iload hx hb dL_law_824 (lv_at hl 1 rfl) ?_
  refine lv_icmp_eq (tgt := 831) hx hb dL_law_826 (by decide) (fun _ => ?_) (fun h9 => absurd rfl h9)
  refine lv_iload hx hb dL_law_831 (lv_at hl 1 rfl) ?_
  refine lv_if_ne (tgt := 848) hx hb dL_law_833 (by decide) (fun hne => ?_) (fun heq => ?_)
  · refine lv_goto (tgt := 1679) hx hb dL_law_848 (by decide) ?_
    exact W.widen (k := cells + 4) (n := slots + 24) (by omega) (by omega) (kk (oS (eE (sn σ) (xs (i + 1))) (σ) σ) H locs ls ⟨(Inv_oS (fun _ => hI) hI), (Setd_oS (fun _ => hSd) hSd), hF, ⟨_, hMd⟩, _, hO⟩ hS (lv_sub hl [2, 3, 4, 5, 6] rfl))
  · have he0 : (eE (sn σ) (xs (i + 1))) = 0 := (nI_z he3 heq)
    refine lv_aload_n hx hb dL_law_836 rfl (lv_at hl 5 rfl) ?_
    refine lv_iconst (v := nI (0)) hx hb dL_law_837 (by decide) ?_
    refine lw_lald hx hb hE hO (hfn he0) dL_law_838 ?_
    refine lv_iload hx hb dL_law_839 (lv_at hl 0 rfl) ?_
    refine lv_i2l hx hb dL_law_841 rfl ?_
    refine lw_lcmp0 hx hb (by rw [he0]; try rfl) dL_law_842 ?_
    refine br_eq0 (a := 0) (tgt := 848) hx hb (by decide) dL_law_843 (by decide) (fun h376 => ?_) (fun h376 => ?_)
    · refine lv_goto (tgt := 1679) hx hb dL_law_848 (by decide) ?_
      exact W.widen (k := cells + 4) (n := slots + 24) (by omega) (by omega) (kk (oS (eE (sn σ) (xs (i + 1))) (σ) σ) H locs ls ⟨(Inv_oS (fun _ => hI) hI), (Setd_oS (fun _ => hSd) hSd), hF, ⟨_, hMd⟩, _, hO⟩ hS (lv_sub hl [2, 3, 4, 5, 6] rfl))
    · exact absurd h376 (by decide)
set_option maxHeartbeats 4000000 in
set_option maxRecDepth 100000 in
/-- a turn of the loop: originOf -/
theorem op_originOf {p : Program} {l : Launch} {en : Env} {s : State} {m : MethodId} {below : List Frame} {meth : Method} {c : Code} {b L : Nat} {xs : Nat → Int32} {g : GT} {ad am : Nat → Nat} {o : Nat} (C : lwC p l s m c b L xs g ad am o) {i : Nat} {H : Heap} {locs : List Loc} {cells slots : Nat} {Q : State → Prop} {σ : St} {ls : Array Slot} (hi : i + 4 ≤ L) (hI9 : lwI g ad am o σ H) (hS : va_S (frA s) s.heap H locs) (hl : lv_has ls 7 [(0, .ref (b)), (1, .ref (ad 0)), (2, .ref (am 0)), (3, .ref (o)), (4, .int (nI (i)))]) (hc : cells + 10 ≤ 601024) (hs : slots + 60 ≤ 7293034) (kk : ∀ (σ' : St) (H : Heap) (locs : List Loc) (ls : Array Slot), lwI g ad am o σ' H → va_S (frA s) s.heap H locs → lv_has ls 7 [(0, .ref (b)), (1, .ref (ad 0)), (2, .ref (am 0)), (3, .ref (o)), (4, .int (nI (i)))] → W p l en room_1 s m #[Value.ref b] below meth c H locs (cells + 4) (slots + 24) Q (F0 m 1679 ls [])) : W p l en room_1 s m #[Value.ref b] below meth c H locs cells slots Q (F0 m 851 ls []) := by
  obtain ⟨hx, hb, hml, hown, hts, hX, hbl, hL, hlf, hE, hxv0, hN, hM, ho, ho2, hdis, hfa, hma, hoa⟩ := C
  obtain ⟨hI, hSd, ⟨τ, hF, hR, hT⟩, ⟨th, hMd⟩, fn, hO⟩ := hI9
  refine lv_aload_n hx hb dL_law_851 rfl (lv_at hl 1 rfl) ?_
  refine lv_aload_n hx hb dL_law_852 rfl (lv_at hl 0 rfl) ?_
  refine lv_iload hx hb dL_law_853 (lv_at hl 4 rfl) ?_
  refine lv_iconst (v := nI (1)) hx hb dL_law_855 (by decide) ?_
  refine lv_iadd hx hb dL_law_856 ?_
  refine tp_i (nI_add _ _) ?_
  refine lw_ld (j := i + 1) hx hb hX hbl hS (by omega) hL dL_law_857 ?_
  refine lv_aload_n hx hb dL_law_858 rfl (lv_at hl 3 rfl) ?_
  refine lw_go (xn_SX ⟨hx, hb, hml, hown, hts⟩ (c_L_originOf l hlf g hI hN hR hSd hT ho (o := o) (fn := fn) (x := xs (i + 1))) gL_law_L_originOf rfl qL_originOf ⟨Nat.le_of_ble_eq_true rfl, Nat.le_of_ble_eq_true rfl⟩ ⟨(show cells + 1 ≤ 601024 by omega), (show slots + 6 ≤ 7293034 by omega)⟩ (gP_app hO hF) hE (xv_fr hxv0 hS) rfl hl.1 rfl (Nat.le_of_ble_eq_true rfl) dL_law_859) hS (List.forall_mem_cons.mpr ⟨hoa, hfa⟩) (fun H locs fn9 hO hfn hF hk hS => ?_)
  have hMd := wM_keepO ho2 hdis hMd hk
  clear hk
  have he3 : (eE (sn σ) (xs (i + 1))) ≤ 3 := by
    unfold eE; (repeat' split) <;> omega
  refine lv_istore (lv' := [(5, .int (nI (eE (sn σ) (xs (i + 1))))), (0, .ref (b)), (1, .ref (ad 0)), (2, .ref (am 0)), (3, .ref (o)), (4, .int (nI (i)))]) hx hb dL_law_862 hl (by decide) rfl (fun ls hl => ?_)
  refine lv_aload_n hx hb dL_law_864 rfl (lv_at hl 3 rfl) ?_
  refine lv_aload_n hx hb dL_law_865 rfl (lv_at hl 1 rfl) ?_
  refine lv_iload hx hb dL_law_866 (lv_at hl 5 rfl) ?_
  refine lv_iconst (v := nI (1)) hx hb dL_law_868 (by decide) ?_
  refine lv_iadd hx hb dL_law_869 ?_
  refine tp_i (nI_add _ _) ?_
  refine lw_ld (j := i + 1) hx hb hX hbl hS (by omega) hL dL_law_870 ?_
  refine wr_goS (rn_V ⟨hx, hb, hml, hown, hts⟩ (c_X5_originOf l g (σ := σ) hI hM (x := xs (i + 1))) gL_law_X5_originOf rfl pX5_originOf ⟨Nat.le_of_ble_eq_true rfl, Nat.le_of_ble_eq_true rfl⟩ ⟨(show cells + 1 ≤ 601024 by omega), (show slots + 6 ≤ 7293034 by omega)⟩ hMd hE rfl rfl rfl hl.1 rfl (Nat.le_of_ble_eq_true rfl) dL_law_871) hS hma (fun H locs hB hz hk hS => ?_)
  have hMd : gP g (wM g am (oS (eE (sn σ) (xs (i + 1))) (σ) σ) (eE (sn σ) (xs (i + 1)))) H := hB
  have hF := FWq_keepM hdis hF hk
  have hO := wO_keepM ho2 hO hk
  clear hB hk hz
  refine lv_istore (lv' := [(6, .int (oI (eE (sn σ) (xs (i + 1))) (nI (so σ (ix (xs (i + 1))))))), (5, .int (nI (eE (sn σ) (xs (i + 1))))), (0, .ref (b)), (1, .ref (ad 0)), (2, .ref (am 0)), (3, .ref (o)), (4, .int (nI (i)))]) hx hb dL_law_874 hl (by decide) rfl (fun ls hl => ?_)
  refine lv_aload_n hx hb dL_law_876 rfl (lv_at hl 4 rfl) ?_
  refine rd_goS (rn_V ⟨hx, hb, hml, hown, hts⟩ (c_X5_thrown l g) gL_law_X5_thrown rfl pX5_thrown ⟨Nat.le_of_ble_eq_true rfl, Nat.le_of_ble_eq_true rfl⟩ ⟨(show cells + 1 ≤ 601024 by omega), (show slots + 6 ≤ 7293034 by omega)⟩ hMd hE rfl rfl rfl hl.1 rfl (Nat.le_of_ble_eq_true rfl) dL_law_877) ?_
  refine lv_iload hx hb dL_law_880 (lv_at hl 1 rfl) ?_
  refine lv_icmp_eq (tgt := 887) hx hb dL_law_882 (by decide) (fun _ => ?_) (fun h9 => absurd rfl h9)
  refine lv_iload hx hb dL_law_887 (lv_at hl 1 rfl) ?_
  refine lv_if_ne (tgt := 904) hx hb dL_law_889 (by decide) (fun hne => ?_) (fun heq => ?_)
  · refine lv_goto (tgt := 1679) hx hb dL_law_904 (by decide) ?_
    exact W.widen (k := cells + 4) (n := slots + 24) (by omega) (by omega) (kk (oS (eE (sn σ) (xs (i + 1))) (σ) σ) H locs ls ⟨(Inv_oS (fun _ => hI) hI), (Setd_oS (fun _ => hSd) hSd), hF, ⟨_, hMd⟩, _, hO⟩ hS (lv_sub hl [2, 3, 4, 5, 6] rfl))
  · have he0 : (eE (sn σ) (xs (i + 1))) = 0 := (nI_z he3 heq)
    refine lv_aload_n hx hb dL_law_892 rfl (lv_at hl 5 rfl) ?_
    refine lv_iconst (v := nI (0)) hx hb dL_law_893 (by decide) ?_
    refine lw_lald hx hb hE hO (hfn he0) dL_law_894 ?_
    refine lv_iload hx hb dL_law_895 (lv_at hl 0 rfl) ?_
    refine lv_i2l hx hb dL_law_897 rfl ?_
    refine lw_lcmp0 hx hb (by rw [he0]; try rfl) dL_law_898 ?_
    refine br_eq0 (a := 0) (tgt := 904) hx hb (by decide) dL_law_899 (by decide) (fun h377 => ?_) (fun h377 => ?_)
    · refine lv_goto (tgt := 1679) hx hb dL_law_904 (by decide) ?_
      exact W.widen (k := cells + 4) (n := slots + 24) (by omega) (by omega) (kk (oS (eE (sn σ) (xs (i + 1))) (σ) σ) H locs ls ⟨(Inv_oS (fun _ => hI) hI), (Setd_oS (fun _ => hSd) hSd), hF, ⟨_, hMd⟩, _, hO⟩ hS (lv_sub hl [2, 3, 4, 5, 6] rfl))
    · exact absurd h377 (by decide)
set_option maxHeartbeats 4000000 in
set_option maxRecDepth 100000 in
/-- a turn of the loop: follows -/
theorem op_follows {p : Program} {l : Launch} {en : Env} {s : State} {m : MethodId} {below : List Frame} {meth : Method} {c : Code} {b L : Nat} {xs : Nat → Int32} {g : GT} {ad am : Nat → Nat} {o : Nat} (C : lwC p l s m c b L xs g ad am o) {i : Nat} {H : Heap} {locs : List Loc} {cells slots : Nat} {Q : State → Prop} {σ : St} {ls : Array Slot} (hi : i + 4 ≤ L) (hI9 : lwI g ad am o σ H) (hS : va_S (frA s) s.heap H locs) (hl : lv_has ls 7 [(0, .ref (b)), (1, .ref (ad 0)), (2, .ref (am 0)), (3, .ref (o)), (4, .int (nI (i)))]) (hc : cells + 10 ≤ 601024) (hs : slots + 60 ≤ 7293034) (kk : ∀ (σ' : St) (H : Heap) (locs : List Loc) (ls : Array Slot), lwI g ad am o σ' H → va_S (frA s) s.heap H locs → lv_has ls 7 [(0, .ref (b)), (1, .ref (ad 0)), (2, .ref (am 0)), (3, .ref (o)), (4, .int (nI (i)))] → W p l en room_1 s m #[Value.ref b] below meth c H locs (cells + 4) (slots + 24) Q (F0 m 1679 ls [])) : W p l en room_1 s m #[Value.ref b] below meth c H locs cells slots Q (F0 m 907 ls []) := by
  obtain ⟨hx, hb, hml, hown, hts, hX, hbl, hL, hlf, hE, hxv0, hN, hM, ho, ho2, hdis, hfa, hma, hoa⟩ := C
  obtain ⟨hI, hSd, ⟨τ, hF, hR, hT⟩, ⟨th, hMd⟩, fn, hO⟩ := hI9
  refine lv_aload_n hx hb dL_law_907 rfl (lv_at hl 1 rfl) ?_
  refine lv_aload_n hx hb dL_law_908 rfl (lv_at hl 0 rfl) ?_
  refine lv_iload hx hb dL_law_909 (lv_at hl 4 rfl) ?_
  refine lv_iconst (v := nI (1)) hx hb dL_law_911 (by decide) ?_
  refine lv_iadd hx hb dL_law_912 ?_
  refine tp_i (nI_add _ _) ?_
  refine lw_ld (j := i + 1) hx hb hX hbl hS (by omega) hL dL_law_913 ?_
  refine lv_aload_n hx hb dL_law_914 rfl (lv_at hl 0 rfl) ?_
  refine lv_iload hx hb dL_law_915 (lv_at hl 4 rfl) ?_
  refine lv_iconst (v := nI (2)) hx hb dL_law_917 (by decide) ?_
  refine lv_iadd hx hb dL_law_918 ?_
  refine tp_i (nI_add _ _) ?_
  refine lw_ld (j := i + 2) hx hb hX hbl hS (by omega) hL dL_law_919 ?_
  refine lv_aload_n hx hb dL_law_920 rfl (lv_at hl 3 rfl) ?_
  refine lw_go (xn_SX ⟨hx, hb, hml, hown, hts⟩ (c_L_follows l hlf g hI hN hR hSd hT ho (o := o) (fn := fn) (x := xs (i + 1)) (y := xs (i + 2))) gL_law_L_follows rfl qL_follows ⟨Nat.le_of_ble_eq_true rfl, Nat.le_of_ble_eq_true rfl⟩ ⟨(show cells + 2 ≤ 601024 by omega), (show slots + 12 ≤ 7293034 by omega)⟩ (gP_app hO hF) hE (xv_fr hxv0 hS) rfl hl.1 rfl (Nat.le_of_ble_eq_true rfl) dL_law_921) hS (List.forall_mem_cons.mpr ⟨hoa, hfa⟩) (fun H locs fn9 hO hfn hF hk hS => ?_)
  have hMd := wM_keepO ho2 hdis hMd hk
  clear hk
  have he3 : (eFls (xs (i + 1)) (xs (i + 2))) ≤ 3 := by
    unfold eFls; (repeat' split) <;> omega
  refine lv_istore (lv' := [(5, .int (nI (eFls (xs (i + 1)) (xs (i + 2))))), (0, .ref (b)), (1, .ref (ad 0)), (2, .ref (am 0)), (3, .ref (o)), (4, .int (nI (i)))]) hx hb dL_law_924 hl (by decide) rfl (fun ls hl => ?_)
  refine lv_aload_n hx hb dL_law_926 rfl (lv_at hl 3 rfl) ?_
  refine lv_aload_n hx hb dL_law_927 rfl (lv_at hl 1 rfl) ?_
  refine lv_iload hx hb dL_law_928 (lv_at hl 5 rfl) ?_
  refine lv_iconst (v := nI (1)) hx hb dL_law_930 (by decide) ?_
  refine lv_iadd hx hb dL_law_931 ?_
  refine tp_i (nI_add _ _) ?_
  refine lw_ld (j := i + 1) hx hb hX hbl hS (by omega) hL dL_law_932 ?_
  refine lv_aload_n hx hb dL_law_933 rfl (lv_at hl 1 rfl) ?_
  refine lv_iload hx hb dL_law_934 (lv_at hl 5 rfl) ?_
  refine lv_iconst (v := nI (2)) hx hb dL_law_936 (by decide) ?_
  refine lv_iadd hx hb dL_law_937 ?_
  refine tp_i (nI_add _ _) ?_
  refine lw_ld (j := i + 2) hx hb hX hbl hS (by omega) hL dL_law_938 ?_
  refine wr_goS (rn_V ⟨hx, hb, hml, hown, hts⟩ (c_X5_follows l g (σ := σ) hI hM (x := xs (i + 1)) (y := xs (i + 2))) gL_law_X5_follows rfl pX5_follows ⟨Nat.le_of_ble_eq_true rfl, Nat.le_of_ble_eq_true rfl⟩ ⟨(show cells + 2 ≤ 601024 by omega), (show slots + 12 ≤ 7293034 by omega)⟩ hMd hE rfl rfl rfl hl.1 rfl (Nat.le_of_ble_eq_true rfl) dL_law_939) hS hma (fun H locs hB hz hk hS => ?_)
  have hMd : gP g (wM g am (oS (eFls (xs (i + 1)) (xs (i + 2))) (σ) σ) (eFls (xs (i + 1)) (xs (i + 2)))) H := hB
  have hF := FWq_keepM hdis hF hk
  have hO := wO_keepM ho2 hO hk
  clear hB hk hz
  refine lv_istore (lv' := [(6, .int (bI (oB (eFls (xs (i + 1)) (xs (i + 2))) (sF σ (8 * ix (xs (i + 1)) + ix (xs (i + 2))))))), (5, .int (nI (eFls (xs (i + 1)) (xs (i + 2))))), (0, .ref (b)), (1, .ref (ad 0)), (2, .ref (am 0)), (3, .ref (o)), (4, .int (nI (i)))]) hx hb dL_law_942 hl (by decide) rfl (fun ls hl => ?_)
  refine lv_aload_n hx hb dL_law_944 rfl (lv_at hl 4 rfl) ?_
  refine rd_goS (rn_V ⟨hx, hb, hml, hown, hts⟩ (c_X5_thrown l g) gL_law_X5_thrown rfl pX5_thrown ⟨Nat.le_of_ble_eq_true rfl, Nat.le_of_ble_eq_true rfl⟩ ⟨(show cells + 2 ≤ 601024 by omega), (show slots + 12 ≤ 7293034 by omega)⟩ hMd hE rfl rfl rfl hl.1 rfl (Nat.le_of_ble_eq_true rfl) dL_law_945) ?_
  refine lv_iload hx hb dL_law_948 (lv_at hl 1 rfl) ?_
  refine lv_icmp_eq (tgt := 955) hx hb dL_law_950 (by decide) (fun _ => ?_) (fun h9 => absurd rfl h9)
  refine lv_iload hx hb dL_law_955 (lv_at hl 1 rfl) ?_
  refine lv_if_ne (tgt := 979) hx hb dL_law_957 (by decide) (fun hne => ?_) (fun heq => ?_)
  · refine lv_goto (tgt := 1679) hx hb dL_law_979 (by decide) ?_
    exact W.widen (k := cells + 4) (n := slots + 24) (by omega) (by omega) (kk (oS (eFls (xs (i + 1)) (xs (i + 2))) (σ) σ) H locs ls ⟨(Inv_oS (fun _ => hI) hI), (Setd_oS (fun _ => hSd) hSd), hF, ⟨_, hMd⟩, _, hO⟩ hS (lv_sub hl [2, 3, 4, 5, 6] rfl))
  · have he0 : (eFls (xs (i + 1)) (xs (i + 2))) = 0 := (nI_z he3 heq)
    refine lv_aload_n hx hb dL_law_960 rfl (lv_at hl 5 rfl) ?_
    refine lv_iconst (v := nI (0)) hx hb dL_law_961 (by decide) ?_
    refine lw_lald hx hb hE hO (hfn he0) dL_law_962 ?_
    refine lv_iload hx hb dL_law_963 (lv_at hl 0 rfl) ?_
    refine br_eqB (tgt := 972) hx hb dL_law_965 (by decide) (fun h378 => ?_) (fun h378 => ?_)
    · refine lv_lconst (v := 0) hx hb dL_law_972 (by decide) ?_
      refine lw_lcmp0 hx hb (by rw [he0] at h378; rw [show sF σ (8 * ix (xs (i + 1)) + ix (xs (i + 2))) = false from h378]; try rfl) dL_law_973 ?_
      refine br_eq0 (a := 0) (tgt := 979) hx hb (by decide) dL_law_974 (by decide) (fun h379 => ?_) (fun h379 => ?_)
      · refine lv_goto (tgt := 1679) hx hb dL_law_979 (by decide) ?_
        exact W.widen (k := cells + 4) (n := slots + 24) (by omega) (by omega) (kk (oS (eFls (xs (i + 1)) (xs (i + 2))) (σ) σ) H locs ls ⟨(Inv_oS (fun _ => hI) hI), (Setd_oS (fun _ => hSd) hSd), hF, ⟨_, hMd⟩, _, hO⟩ hS (lv_sub hl [2, 3, 4, 5, 6] rfl))
      · exact absurd h379 (by decide)
    · refine lv_lconst (v := 1) hx hb dL_law_968 (by decide) ?_
      refine lv_goto (tgt := 973) hx hb dL_law_969 (by decide) ?_
      refine lw_lcmp0 hx hb (by rw [he0] at h378; rw [show sF σ (8 * ix (xs (i + 1)) + ix (xs (i + 2))) = true from h378]; try rfl) dL_law_973 ?_
      refine br_eq0 (a := 0) (tgt := 979) hx hb (by decide) dL_law_974 (by decide) (fun h380 => ?_) (fun h380 => ?_)
      · refine lv_goto (tgt := 1679) hx hb dL_law_979 (by decide) ?_
        exact W.widen (k := cells + 4) (n := slots + 24) (by omega) (by omega) (kk (oS (eFls (xs (i + 1)) (xs (i + 2))) (σ) σ) H locs ls ⟨(Inv_oS (fun _ => hI) hI), (Setd_oS (fun _ => hSd) hSd), hF, ⟨_, hMd⟩, _, hO⟩ hS (lv_sub hl [2, 3, 4, 5, 6] rfl))
      · exact absurd h380 (by decide)
set_option maxHeartbeats 4000000 in
set_option maxRecDepth 100000 in
/-- a turn of the loop: followers -/
theorem op_followers {p : Program} {l : Launch} {en : Env} {s : State} {m : MethodId} {below : List Frame} {meth : Method} {c : Code} {b L : Nat} {xs : Nat → Int32} {g : GT} {ad am : Nat → Nat} {o : Nat} (C : lwC p l s m c b L xs g ad am o) {i : Nat} {H : Heap} {locs : List Loc} {cells slots : Nat} {Q : State → Prop} {σ : St} {ls : Array Slot} (hi : i + 4 ≤ L) (hI9 : lwI g ad am o σ H) (hS : va_S (frA s) s.heap H locs) (hl : lv_has ls 7 [(0, .ref (b)), (1, .ref (ad 0)), (2, .ref (am 0)), (3, .ref (o)), (4, .int (nI (i)))]) (hc : cells + 10 ≤ 601024) (hs : slots + 60 ≤ 7293034) (kk : ∀ (σ' : St) (H : Heap) (locs : List Loc) (ls : Array Slot), lwI g ad am o σ' H → va_S (frA s) s.heap H locs → lv_has ls 7 [(0, .ref (b)), (1, .ref (ad 0)), (2, .ref (am 0)), (3, .ref (o)), (4, .int (nI (i)))] → W p l en room_1 s m #[Value.ref b] below meth c H locs (cells + 4) (slots + 24) Q (F0 m 1679 ls [])) : W p l en room_1 s m #[Value.ref b] below meth c H locs cells slots Q (F0 m 982 ls []) := by
  obtain ⟨hx, hb, hml, hown, hts, hX, hbl, hL, hlf, hE, hxv0, hN, hM, ho, ho2, hdis, hfa, hma, hoa⟩ := C
  obtain ⟨hI, hSd, ⟨τ, hF, hR, hT⟩, ⟨th, hMd⟩, fn, hO⟩ := hI9
  refine lv_aload_n hx hb dL_law_982 rfl (lv_at hl 1 rfl) ?_
  refine lv_aload_n hx hb dL_law_983 rfl (lv_at hl 0 rfl) ?_
  refine lv_iload hx hb dL_law_984 (lv_at hl 4 rfl) ?_
  refine lv_iconst (v := nI (1)) hx hb dL_law_986 (by decide) ?_
  refine lv_iadd hx hb dL_law_987 ?_
  refine tp_i (nI_add _ _) ?_
  refine lw_ld (j := i + 1) hx hb hX hbl hS (by omega) hL dL_law_988 ?_
  refine lv_aload_n hx hb dL_law_989 rfl (lv_at hl 3 rfl) ?_
  refine lw_go (xn_SX ⟨hx, hb, hml, hown, hts⟩ (c_L_followers l hlf g hI hN hR hSd hT ho (o := o) (fn := fn) (x := xs (i + 1))) gL_law_L_followers rfl qL_followers ⟨Nat.le_of_ble_eq_true rfl, Nat.le_of_ble_eq_true rfl⟩ ⟨(show cells + 1 ≤ 601024 by omega), (show slots + 6 ≤ 7293034 by omega)⟩ (gP_app hO hF) hE (xv_fr hxv0 hS) rfl hl.1 rfl (Nat.le_of_ble_eq_true rfl) dL_law_990) hS (List.forall_mem_cons.mpr ⟨hoa, hfa⟩) (fun H locs fn9 hO hfn hF hk hS => ?_)
  have hMd := wM_keepO ho2 hdis hMd hk
  clear hk
  have he3 : (eP (xs (i + 1))) ≤ 3 := by
    unfold eP; (repeat' split) <;> omega
  refine lv_istore (lv' := [(5, .int (nI (eP (xs (i + 1))))), (0, .ref (b)), (1, .ref (ad 0)), (2, .ref (am 0)), (3, .ref (o)), (4, .int (nI (i)))]) hx hb dL_law_993 hl (by decide) rfl (fun ls hl => ?_)
  refine lv_aload_n hx hb dL_law_995 rfl (lv_at hl 3 rfl) ?_
  refine lv_aload_n hx hb dL_law_996 rfl (lv_at hl 1 rfl) ?_
  refine lv_iload hx hb dL_law_997 (lv_at hl 5 rfl) ?_
  refine lv_iconst (v := nI (1)) hx hb dL_law_999 (by decide) ?_
  refine lv_iadd hx hb dL_law_1000 ?_
  refine tp_i (nI_add _ _) ?_
  refine lw_ld (j := i + 1) hx hb hX hbl hS (by omega) hL dL_law_1001 ?_
  refine wr_goS (rn_V ⟨hx, hb, hml, hown, hts⟩ (c_X5_followers l g (σ := σ) hI hM (x := xs (i + 1))) gL_law_X5_followers rfl pX5_followers ⟨Nat.le_of_ble_eq_true rfl, Nat.le_of_ble_eq_true rfl⟩ ⟨(show cells + 1 ≤ 601024 by omega), (show slots + 6 ≤ 7293034 by omega)⟩ hMd hE rfl rfl rfl hl.1 rfl (Nat.le_of_ble_eq_true rfl) dL_law_1002) hS hma (fun H locs hB hz hk hS => ?_)
  have hMd : gP g (wM g am (oS (eP (xs (i + 1))) (σ) σ) (eP (xs (i + 1)))) H := hB
  have hF := FWq_keepM hdis hF hk
  have hO := wO_keepM ho2 hO hk
  clear hB hk hz
  refine lv_istore (lv' := [(6, .int (oI (eP (xs (i + 1))) (nI (fcnt (sF σ) (ix (xs (i + 1))))))), (5, .int (nI (eP (xs (i + 1))))), (0, .ref (b)), (1, .ref (ad 0)), (2, .ref (am 0)), (3, .ref (o)), (4, .int (nI (i)))]) hx hb dL_law_1005 hl (by decide) rfl (fun ls hl => ?_)
  refine lv_aload_n hx hb dL_law_1007 rfl (lv_at hl 4 rfl) ?_
  refine rd_goS (rn_V ⟨hx, hb, hml, hown, hts⟩ (c_X5_thrown l g) gL_law_X5_thrown rfl pX5_thrown ⟨Nat.le_of_ble_eq_true rfl, Nat.le_of_ble_eq_true rfl⟩ ⟨(show cells + 1 ≤ 601024 by omega), (show slots + 6 ≤ 7293034 by omega)⟩ hMd hE rfl rfl rfl hl.1 rfl (Nat.le_of_ble_eq_true rfl) dL_law_1008) ?_
  refine lv_iload hx hb dL_law_1011 (lv_at hl 1 rfl) ?_
  refine lv_icmp_eq (tgt := 1018) hx hb dL_law_1013 (by decide) (fun _ => ?_) (fun h9 => absurd rfl h9)
  refine lv_iload hx hb dL_law_1018 (lv_at hl 1 rfl) ?_
  refine lv_if_ne (tgt := 1035) hx hb dL_law_1020 (by decide) (fun hne => ?_) (fun heq => ?_)
  · refine lv_goto (tgt := 1679) hx hb dL_law_1035 (by decide) ?_
    exact W.widen (k := cells + 4) (n := slots + 24) (by omega) (by omega) (kk (oS (eP (xs (i + 1))) (σ) σ) H locs ls ⟨(Inv_oS (fun _ => hI) hI), (Setd_oS (fun _ => hSd) hSd), hF, ⟨_, hMd⟩, _, hO⟩ hS (lv_sub hl [2, 3, 4, 5, 6] rfl))
  · have he0 : (eP (xs (i + 1))) = 0 := (nI_z he3 heq)
    refine lv_aload_n hx hb dL_law_1023 rfl (lv_at hl 5 rfl) ?_
    refine lv_iconst (v := nI (0)) hx hb dL_law_1024 (by decide) ?_
    refine lw_lald hx hb hE hO (hfn he0) dL_law_1025 ?_
    refine lv_iload hx hb dL_law_1026 (lv_at hl 0 rfl) ?_
    refine lv_i2l hx hb dL_law_1028 rfl ?_
    refine lw_lcmp0 hx hb (by rw [he0]; try rfl) dL_law_1029 ?_
    refine br_eq0 (a := 0) (tgt := 1035) hx hb (by decide) dL_law_1030 (by decide) (fun h381 => ?_) (fun h381 => ?_)
    · refine lv_goto (tgt := 1679) hx hb dL_law_1035 (by decide) ?_
      exact W.widen (k := cells + 4) (n := slots + 24) (by omega) (by omega) (kk (oS (eP (xs (i + 1))) (σ) σ) H locs ls ⟨(Inv_oS (fun _ => hI) hI), (Setd_oS (fun _ => hSd) hSd), hF, ⟨_, hMd⟩, _, hO⟩ hS (lv_sub hl [2, 3, 4, 5, 6] rfl))
    · exact absurd h381 (by decide)
set_option maxHeartbeats 4000000 in
set_option maxRecDepth 100000 in
/-- a turn of the loop: isLarge -/
theorem op_isLarge {p : Program} {l : Launch} {en : Env} {s : State} {m : MethodId} {below : List Frame} {meth : Method} {c : Code} {b L : Nat} {xs : Nat → Int32} {g : GT} {ad am : Nat → Nat} {o : Nat} (C : lwC p l s m c b L xs g ad am o) {i : Nat} {H : Heap} {locs : List Loc} {cells slots : Nat} {Q : State → Prop} {σ : St} {ls : Array Slot} (hi : i + 4 ≤ L) (hI9 : lwI g ad am o σ H) (hS : va_S (frA s) s.heap H locs) (hl : lv_has ls 7 [(0, .ref (b)), (1, .ref (ad 0)), (2, .ref (am 0)), (3, .ref (o)), (4, .int (nI (i)))]) (hc : cells + 10 ≤ 601024) (hs : slots + 60 ≤ 7293034) (kk : ∀ (σ' : St) (H : Heap) (locs : List Loc) (ls : Array Slot), lwI g ad am o σ' H → va_S (frA s) s.heap H locs → lv_has ls 7 [(0, .ref (b)), (1, .ref (ad 0)), (2, .ref (am 0)), (3, .ref (o)), (4, .int (nI (i)))] → W p l en room_1 s m #[Value.ref b] below meth c H locs (cells + 4) (slots + 24) Q (F0 m 1679 ls [])) : W p l en room_1 s m #[Value.ref b] below meth c H locs cells slots Q (F0 m 1038 ls []) := by
  obtain ⟨hx, hb, hml, hown, hts, hX, hbl, hL, hlf, hE, hxv0, hN, hM, ho, ho2, hdis, hfa, hma, hoa⟩ := C
  obtain ⟨hI, hSd, ⟨τ, hF, hR, hT⟩, ⟨th, hMd⟩, fn, hO⟩ := hI9
  refine lv_aload_n hx hb dL_law_1038 rfl (lv_at hl 1 rfl) ?_
  refine lv_aload_n hx hb dL_law_1039 rfl (lv_at hl 0 rfl) ?_
  refine lv_iload hx hb dL_law_1040 (lv_at hl 4 rfl) ?_
  refine lv_iconst (v := nI (1)) hx hb dL_law_1042 (by decide) ?_
  refine lv_iadd hx hb dL_law_1043 ?_
  refine tp_i (nI_add _ _) ?_
  refine lw_ld (j := i + 1) hx hb hX hbl hS (by omega) hL dL_law_1044 ?_
  refine lv_aload_n hx hb dL_law_1045 rfl (lv_at hl 3 rfl) ?_
  refine lw_go (xn_SX ⟨hx, hb, hml, hown, hts⟩ (c_L_isLarge l hlf g hI hN hR hSd hT ho (o := o) (fn := fn) (x := xs (i + 1))) gL_law_L_isLarge rfl qL_isLarge ⟨Nat.le_of_ble_eq_true rfl, Nat.le_of_ble_eq_true rfl⟩ ⟨(show cells + 1 ≤ 601024 by omega), (show slots + 6 ≤ 7293034 by omega)⟩ (gP_app hO hF) hE (xv_fr hxv0 hS) rfl hl.1 rfl (Nat.le_of_ble_eq_true rfl) dL_law_1046) hS (List.forall_mem_cons.mpr ⟨hoa, hfa⟩) (fun H locs fn9 hO hfn hF hk hS => ?_)
  have hMd := wM_keepO ho2 hdis hMd hk
  clear hk
  have he3 : (eP (xs (i + 1))) ≤ 3 := by
    unfold eP; (repeat' split) <;> omega
  refine lv_istore (lv' := [(5, .int (nI (eP (xs (i + 1))))), (0, .ref (b)), (1, .ref (ad 0)), (2, .ref (am 0)), (3, .ref (o)), (4, .int (nI (i)))]) hx hb dL_law_1049 hl (by decide) rfl (fun ls hl => ?_)
  refine lv_aload_n hx hb dL_law_1051 rfl (lv_at hl 3 rfl) ?_
  refine lv_aload_n hx hb dL_law_1052 rfl (lv_at hl 1 rfl) ?_
  refine lv_iload hx hb dL_law_1053 (lv_at hl 5 rfl) ?_
  refine lv_iconst (v := nI (1)) hx hb dL_law_1055 (by decide) ?_
  refine lv_iadd hx hb dL_law_1056 ?_
  refine tp_i (nI_add _ _) ?_
  refine lw_ld (j := i + 1) hx hb hX hbl hS (by omega) hL dL_law_1057 ?_
  refine wr_goS (rn_V ⟨hx, hb, hml, hown, hts⟩ (c_X5_isLarge l g (σ := σ) hI hM (x := xs (i + 1))) gL_law_X5_isLarge rfl pX5_isLarge ⟨Nat.le_of_ble_eq_true rfl, Nat.le_of_ble_eq_true rfl⟩ ⟨(show cells + 1 ≤ 601024 by omega), (show slots + 6 ≤ 7293034 by omega)⟩ hMd hE rfl rfl rfl hl.1 rfl (Nat.le_of_ble_eq_true rfl) dL_law_1058) hS hma (fun H locs hB hz hk hS => ?_)
  have hMd : gP g (wM g am (oS (eP (xs (i + 1))) (σ) σ) (eP (xs (i + 1)))) H := hB
  have hF := FWq_keepM hdis hF hk
  have hO := wO_keepM ho2 hO hk
  clear hB hk hz
  refine lv_istore (lv' := [(6, .int (bI (oB (eP (xs (i + 1))) (lg σ (ix (xs (i + 1))))))), (5, .int (nI (eP (xs (i + 1))))), (0, .ref (b)), (1, .ref (ad 0)), (2, .ref (am 0)), (3, .ref (o)), (4, .int (nI (i)))]) hx hb dL_law_1061 hl (by decide) rfl (fun ls hl => ?_)
  refine lv_aload_n hx hb dL_law_1063 rfl (lv_at hl 4 rfl) ?_
  refine rd_goS (rn_V ⟨hx, hb, hml, hown, hts⟩ (c_X5_thrown l g) gL_law_X5_thrown rfl pX5_thrown ⟨Nat.le_of_ble_eq_true rfl, Nat.le_of_ble_eq_true rfl⟩ ⟨(show cells + 1 ≤ 601024 by omega), (show slots + 6 ≤ 7293034 by omega)⟩ hMd hE rfl rfl rfl hl.1 rfl (Nat.le_of_ble_eq_true rfl) dL_law_1064) ?_
  refine lv_iload hx hb dL_law_1067 (lv_at hl 1 rfl) ?_
  refine lv_icmp_eq (tgt := 1074) hx hb dL_law_1069 (by decide) (fun _ => ?_) (fun h9 => absurd rfl h9)
  refine lv_iload hx hb dL_law_1074 (lv_at hl 1 rfl) ?_
  refine lv_if_ne (tgt := 1098) hx hb dL_law_1076 (by decide) (fun hne => ?_) (fun heq => ?_)
  · refine lv_goto (tgt := 1679) hx hb dL_law_1098 (by decide) ?_
    exact W.widen (k := cells + 4) (n := slots + 24) (by omega) (by omega) (kk (oS (eP (xs (i + 1))) (σ) σ) H locs ls ⟨(Inv_oS (fun _ => hI) hI), (Setd_oS (fun _ => hSd) hSd), hF, ⟨_, hMd⟩, _, hO⟩ hS (lv_sub hl [2, 3, 4, 5, 6] rfl))
  · have he0 : (eP (xs (i + 1))) = 0 := (nI_z he3 heq)
    refine lv_aload_n hx hb dL_law_1079 rfl (lv_at hl 5 rfl) ?_
    refine lv_iconst (v := nI (0)) hx hb dL_law_1080 (by decide) ?_
    refine lw_lald hx hb hE hO (hfn he0) dL_law_1081 ?_
    refine lv_iload hx hb dL_law_1082 (lv_at hl 0 rfl) ?_
    refine br_eqB (tgt := 1091) hx hb dL_law_1084 (by decide) (fun h382 => ?_) (fun h382 => ?_)
    · refine lv_lconst (v := 0) hx hb dL_law_1091 (by decide) ?_
      refine lw_lcmp0 hx hb (by rw [he0] at h382; rw [show lg σ (ix (xs (i + 1))) = false from h382]; try rfl) dL_law_1092 ?_
      refine br_eq0 (a := 0) (tgt := 1098) hx hb (by decide) dL_law_1093 (by decide) (fun h383 => ?_) (fun h383 => ?_)
      · refine lv_goto (tgt := 1679) hx hb dL_law_1098 (by decide) ?_
        exact W.widen (k := cells + 4) (n := slots + 24) (by omega) (by omega) (kk (oS (eP (xs (i + 1))) (σ) σ) H locs ls ⟨(Inv_oS (fun _ => hI) hI), (Setd_oS (fun _ => hSd) hSd), hF, ⟨_, hMd⟩, _, hO⟩ hS (lv_sub hl [2, 3, 4, 5, 6] rfl))
      · exact absurd h383 (by decide)
    · refine lv_lconst (v := 1) hx hb dL_law_1087 (by decide) ?_
      refine lv_goto (tgt := 1092) hx hb dL_law_1088 (by decide) ?_
      refine lw_lcmp0 hx hb (by rw [he0] at h382; rw [show lg σ (ix (xs (i + 1))) = true from h382]; try rfl) dL_law_1092 ?_
      refine br_eq0 (a := 0) (tgt := 1098) hx hb (by decide) dL_law_1093 (by decide) (fun h384 => ?_) (fun h384 => ?_)
      · refine lv_goto (tgt := 1679) hx hb dL_law_1098 (by decide) ?_
        exact W.widen (k := cells + 4) (n := slots + 24) (by omega) (by omega) (kk (oS (eP (xs (i + 1))) (σ) σ) H locs ls ⟨(Inv_oS (fun _ => hI) hI), (Setd_oS (fun _ => hSd) hSd), hF, ⟨_, hMd⟩, _, hO⟩ hS (lv_sub hl [2, 3, 4, 5, 6] rfl))
      · exact absurd h384 (by decide)
set_option maxHeartbeats 4000000 in
set_option maxRecDepth 100000 in
/-- a turn of the loop: inRow -/
theorem op_inRow {p : Program} {l : Launch} {en : Env} {s : State} {m : MethodId} {below : List Frame} {meth : Method} {c : Code} {b L : Nat} {xs : Nat → Int32} {g : GT} {ad am : Nat → Nat} {o : Nat} (C : lwC p l s m c b L xs g ad am o) {i : Nat} {H : Heap} {locs : List Loc} {cells slots : Nat} {Q : State → Prop} {σ : St} {ls : Array Slot} (hi : i + 4 ≤ L) (hI9 : lwI g ad am o σ H) (hS : va_S (frA s) s.heap H locs) (hl : lv_has ls 7 [(0, .ref (b)), (1, .ref (ad 0)), (2, .ref (am 0)), (3, .ref (o)), (4, .int (nI (i)))]) (hc : cells + 10 ≤ 601024) (hs : slots + 60 ≤ 7293034) (kk : ∀ (σ' : St) (H : Heap) (locs : List Loc) (ls : Array Slot), lwI g ad am o σ' H → va_S (frA s) s.heap H locs → lv_has ls 7 [(0, .ref (b)), (1, .ref (ad 0)), (2, .ref (am 0)), (3, .ref (o)), (4, .int (nI (i)))] → W p l en room_1 s m #[Value.ref b] below meth c H locs (cells + 4) (slots + 24) Q (F0 m 1679 ls [])) : W p l en room_1 s m #[Value.ref b] below meth c H locs cells slots Q (F0 m 1101 ls []) := by
  obtain ⟨hx, hb, hml, hown, hts, hX, hbl, hL, hlf, hE, hxv0, hN, hM, ho, ho2, hdis, hfa, hma, hoa⟩ := C
  obtain ⟨hI, hSd, ⟨τ, hF, hR, hT⟩, ⟨th, hMd⟩, fn, hO⟩ := hI9
  refine lv_aload_n hx hb dL_law_1101 rfl (lv_at hl 1 rfl) ?_
  refine lv_aload_n hx hb dL_law_1102 rfl (lv_at hl 0 rfl) ?_
  refine lv_iload hx hb dL_law_1103 (lv_at hl 4 rfl) ?_
  refine lv_iconst (v := nI (1)) hx hb dL_law_1105 (by decide) ?_
  refine lv_iadd hx hb dL_law_1106 ?_
  refine tp_i (nI_add _ _) ?_
  refine lw_ld (j := i + 1) hx hb hX hbl hS (by omega) hL dL_law_1107 ?_
  refine lv_aload_n hx hb dL_law_1108 rfl (lv_at hl 3 rfl) ?_
  refine lw_go (xn_SX ⟨hx, hb, hml, hown, hts⟩ (c_L_inRow l hlf g hI hN hR hSd hT ho (o := o) (fn := fn) (x := xs (i + 1))) gL_law_L_inRow rfl qL_inRow ⟨Nat.le_of_ble_eq_true rfl, Nat.le_of_ble_eq_true rfl⟩ ⟨(show cells + 1 ≤ 601024 by omega), (show slots + 6 ≤ 7293034 by omega)⟩ (gP_app hO hF) hE (xv_fr hxv0 hS) rfl hl.1 rfl (Nat.le_of_ble_eq_true rfl) dL_law_1109) hS (List.forall_mem_cons.mpr ⟨hoa, hfa⟩) (fun H locs fn9 hO hfn hF hk hS => ?_)
  have hMd := wM_keepO ho2 hdis hMd hk
  clear hk
  have he3 : (eP (xs (i + 1))) ≤ 3 := by
    unfold eP; (repeat' split) <;> omega
  refine lv_istore (lv' := [(5, .int (nI (eP (xs (i + 1))))), (0, .ref (b)), (1, .ref (ad 0)), (2, .ref (am 0)), (3, .ref (o)), (4, .int (nI (i)))]) hx hb dL_law_1112 hl (by decide) rfl (fun ls hl => ?_)
  refine lv_aload_n hx hb dL_law_1114 rfl (lv_at hl 3 rfl) ?_
  refine lv_aload_n hx hb dL_law_1115 rfl (lv_at hl 1 rfl) ?_
  refine lv_iload hx hb dL_law_1116 (lv_at hl 5 rfl) ?_
  refine lv_iconst (v := nI (1)) hx hb dL_law_1118 (by decide) ?_
  refine lv_iadd hx hb dL_law_1119 ?_
  refine tp_i (nI_add _ _) ?_
  refine lw_ld (j := i + 1) hx hb hX hbl hS (by omega) hL dL_law_1120 ?_
  refine wr_goS (rn_V ⟨hx, hb, hml, hown, hts⟩ (c_X5_inRow l g (σ := σ) hI hM (x := xs (i + 1))) gL_law_X5_inRow rfl pX5_inRow ⟨Nat.le_of_ble_eq_true rfl, Nat.le_of_ble_eq_true rfl⟩ ⟨(show cells + 1 ≤ 601024 by omega), (show slots + 6 ≤ 7293034 by omega)⟩ hMd hE rfl rfl rfl hl.1 rfl (Nat.le_of_ble_eq_true rfl) dL_law_1121) hS hma (fun H locs hB hz hk hS => ?_)
  have hMd : gP g (wM g am (oS (eP (xs (i + 1))) (σ) σ) (eP (xs (i + 1)))) H := hB
  have hF := FWq_keepM hdis hF hk
  have hO := wO_keepM ho2 hO hk
  clear hB hk hz
  refine lv_istore (lv' := [(6, .int (oI (eP (xs (i + 1))) (nI (rcn σ (ix (xs (i + 1))))))), (5, .int (nI (eP (xs (i + 1))))), (0, .ref (b)), (1, .ref (ad 0)), (2, .ref (am 0)), (3, .ref (o)), (4, .int (nI (i)))]) hx hb dL_law_1124 hl (by decide) rfl (fun ls hl => ?_)
  refine lv_aload_n hx hb dL_law_1126 rfl (lv_at hl 4 rfl) ?_
  refine rd_goS (rn_V ⟨hx, hb, hml, hown, hts⟩ (c_X5_thrown l g) gL_law_X5_thrown rfl pX5_thrown ⟨Nat.le_of_ble_eq_true rfl, Nat.le_of_ble_eq_true rfl⟩ ⟨(show cells + 1 ≤ 601024 by omega), (show slots + 6 ≤ 7293034 by omega)⟩ hMd hE rfl rfl rfl hl.1 rfl (Nat.le_of_ble_eq_true rfl) dL_law_1127) ?_
  refine lv_iload hx hb dL_law_1130 (lv_at hl 1 rfl) ?_
  refine lv_icmp_eq (tgt := 1137) hx hb dL_law_1132 (by decide) (fun _ => ?_) (fun h9 => absurd rfl h9)
  refine lv_iload hx hb dL_law_1137 (lv_at hl 1 rfl) ?_
  refine lv_if_ne (tgt := 1154) hx hb dL_law_1139 (by decide) (fun hne => ?_) (fun heq => ?_)
  · refine lv_goto (tgt := 1679) hx hb dL_law_1154 (by decide) ?_
    exact W.widen (k := cells + 4) (n := slots + 24) (by omega) (by omega) (kk (oS (eP (xs (i + 1))) (σ) σ) H locs ls ⟨(Inv_oS (fun _ => hI) hI), (Setd_oS (fun _ => hSd) hSd), hF, ⟨_, hMd⟩, _, hO⟩ hS (lv_sub hl [2, 3, 4, 5, 6] rfl))
  · have he0 : (eP (xs (i + 1))) = 0 := (nI_z he3 heq)
    refine lv_aload_n hx hb dL_law_1142 rfl (lv_at hl 5 rfl) ?_
    refine lv_iconst (v := nI (0)) hx hb dL_law_1143 (by decide) ?_
    refine lw_lald hx hb hE hO (hfn he0) dL_law_1144 ?_
    refine lv_iload hx hb dL_law_1145 (lv_at hl 0 rfl) ?_
    refine lv_i2l hx hb dL_law_1147 rfl ?_
    refine lw_lcmp0 hx hb (by rw [he0]; try rfl) dL_law_1148 ?_
    refine br_eq0 (a := 0) (tgt := 1154) hx hb (by decide) dL_law_1149 (by decide) (fun h385 => ?_) (fun h385 => ?_)
    · refine lv_goto (tgt := 1679) hx hb dL_law_1154 (by decide) ?_
      exact W.widen (k := cells + 4) (n := slots + 24) (by omega) (by omega) (kk (oS (eP (xs (i + 1))) (σ) σ) H locs ls ⟨(Inv_oS (fun _ => hI) hI), (Setd_oS (fun _ => hSd) hSd), hF, ⟨_, hMd⟩, _, hO⟩ hS (lv_sub hl [2, 3, 4, 5, 6] rfl))
    · exact absurd h385 (by decide)
set_option maxHeartbeats 4000000 in
set_option maxRecDepth 100000 in
/-- a turn of the loop: rowAt -/
theorem op_rowAt {p : Program} {l : Launch} {en : Env} {s : State} {m : MethodId} {below : List Frame} {meth : Method} {c : Code} {b L : Nat} {xs : Nat → Int32} {g : GT} {ad am : Nat → Nat} {o : Nat} (C : lwC p l s m c b L xs g ad am o) {i : Nat} {H : Heap} {locs : List Loc} {cells slots : Nat} {Q : State → Prop} {σ : St} {ls : Array Slot} (hi : i + 4 ≤ L) (hI9 : lwI g ad am o σ H) (hS : va_S (frA s) s.heap H locs) (hl : lv_has ls 7 [(0, .ref (b)), (1, .ref (ad 0)), (2, .ref (am 0)), (3, .ref (o)), (4, .int (nI (i)))]) (hc : cells + 10 ≤ 601024) (hs : slots + 60 ≤ 7293034) (kk : ∀ (σ' : St) (H : Heap) (locs : List Loc) (ls : Array Slot), lwI g ad am o σ' H → va_S (frA s) s.heap H locs → lv_has ls 7 [(0, .ref (b)), (1, .ref (ad 0)), (2, .ref (am 0)), (3, .ref (o)), (4, .int (nI (i)))] → W p l en room_1 s m #[Value.ref b] below meth c H locs (cells + 4) (slots + 24) Q (F0 m 1679 ls [])) : W p l en room_1 s m #[Value.ref b] below meth c H locs cells slots Q (F0 m 1157 ls []) := by
  obtain ⟨hx, hb, hml, hown, hts, hX, hbl, hL, hlf, hE, hxv0, hN, hM, ho, ho2, hdis, hfa, hma, hoa⟩ := C
  obtain ⟨hI, hSd, ⟨τ, hF, hR, hT⟩, ⟨th, hMd⟩, fn, hO⟩ := hI9
  refine lv_aload_n hx hb dL_law_1157 rfl (lv_at hl 1 rfl) ?_
  refine lv_aload_n hx hb dL_law_1158 rfl (lv_at hl 0 rfl) ?_
  refine lv_iload hx hb dL_law_1159 (lv_at hl 4 rfl) ?_
  refine lv_iconst (v := nI (1)) hx hb dL_law_1161 (by decide) ?_
  refine lv_iadd hx hb dL_law_1162 ?_
  refine tp_i (nI_add _ _) ?_
  refine lw_ld (j := i + 1) hx hb hX hbl hS (by omega) hL dL_law_1163 ?_
  refine lv_aload_n hx hb dL_law_1164 rfl (lv_at hl 0 rfl) ?_
  refine lv_iload hx hb dL_law_1165 (lv_at hl 4 rfl) ?_
  refine lv_iconst (v := nI (2)) hx hb dL_law_1167 (by decide) ?_
  refine lv_iadd hx hb dL_law_1168 ?_
  refine tp_i (nI_add _ _) ?_
  refine lw_ld (j := i + 2) hx hb hX hbl hS (by omega) hL dL_law_1169 ?_
  refine lv_aload_n hx hb dL_law_1170 rfl (lv_at hl 3 rfl) ?_
  obtain ⟨v9, hv⟩ := ex_row hI (xs (i + 1)) (xs (i + 2))
  refine lw_go (xn_SX ⟨hx, hb, hml, hown, hts⟩ (c_L_rowAt l hlf g hI hN hR hSd hT ho (o := o) (fn := fn) (x := xs (i + 1)) (y := xs (i + 2)) hv) gL_law_L_rowAt rfl qL_rowAt ⟨Nat.le_of_ble_eq_true rfl, Nat.le_of_ble_eq_true rfl⟩ ⟨(show cells + 2 ≤ 601024 by omega), (show slots + 12 ≤ 7293034 by omega)⟩ (gP_app hO hF) hE (xv_fr hxv0 hS) rfl hl.1 rfl (Nat.le_of_ble_eq_true rfl) dL_law_1171) hS (List.forall_mem_cons.mpr ⟨hoa, hfa⟩) (fun H locs fn9 hO hfn hF hk hS => ?_)
  have hMd := wM_keepO ho2 hdis hMd hk
  clear hk
  have he3 : (eRow σ (xs (i + 1)) (xs (i + 2))) ≤ 3 := by
    unfold eRow; (repeat' split) <;> omega
  refine lv_istore (lv' := [(5, .int (nI (eRow σ (xs (i + 1)) (xs (i + 2))))), (0, .ref (b)), (1, .ref (ad 0)), (2, .ref (am 0)), (3, .ref (o)), (4, .int (nI (i)))]) hx hb dL_law_1174 hl (by decide) rfl (fun ls hl => ?_)
  refine lv_aload_n hx hb dL_law_1176 rfl (lv_at hl 3 rfl) ?_
  refine lv_aload_n hx hb dL_law_1177 rfl (lv_at hl 1 rfl) ?_
  refine lv_iload hx hb dL_law_1178 (lv_at hl 5 rfl) ?_
  refine lv_iconst (v := nI (1)) hx hb dL_law_1180 (by decide) ?_
  refine lv_iadd hx hb dL_law_1181 ?_
  refine tp_i (nI_add _ _) ?_
  refine lw_ld (j := i + 1) hx hb hX hbl hS (by omega) hL dL_law_1182 ?_
  refine lv_aload_n hx hb dL_law_1183 rfl (lv_at hl 1 rfl) ?_
  refine lv_iload hx hb dL_law_1184 (lv_at hl 5 rfl) ?_
  refine lv_iconst (v := nI (2)) hx hb dL_law_1186 (by decide) ?_
  refine lv_iadd hx hb dL_law_1187 ?_
  refine tp_i (nI_add _ _) ?_
  refine lw_ld (j := i + 2) hx hb hX hbl hS (by omega) hL dL_law_1188 ?_
  refine wr_goS (rn_V ⟨hx, hb, hml, hown, hts⟩ (c_X5_rowAt l g (σ := σ) hI hM (x := xs (i + 1)) (y := xs (i + 2)) hv) gL_law_X5_rowAt rfl pX5_rowAt ⟨Nat.le_of_ble_eq_true rfl, Nat.le_of_ble_eq_true rfl⟩ ⟨(show cells + 2 ≤ 601024 by omega), (show slots + 12 ≤ 7293034 by omega)⟩ hMd hE rfl rfl rfl hl.1 rfl (Nat.le_of_ble_eq_true rfl) dL_law_1189) hS hma (fun H locs hB hz hk hS => ?_)
  have hMd : gP g (wM g am (oS (eRow σ (xs (i + 1)) (xs (i + 2))) (σ) σ) (eRow σ (xs (i + 1)) (xs (i + 2)))) H := hB
  have hF := FWq_keepM hdis hF hk
  have hO := wO_keepM ho2 hO hk
  clear hB hk hz
  refine lv_istore (lv' := [(6, .int (oI (eRow σ (xs (i + 1)) (xs (i + 2))) (nI (v9)))), (5, .int (nI (eRow σ (xs (i + 1)) (xs (i + 2))))), (0, .ref (b)), (1, .ref (ad 0)), (2, .ref (am 0)), (3, .ref (o)), (4, .int (nI (i)))]) hx hb dL_law_1192 hl (by decide) rfl (fun ls hl => ?_)
  refine lv_aload_n hx hb dL_law_1194 rfl (lv_at hl 4 rfl) ?_
  refine rd_goS (rn_V ⟨hx, hb, hml, hown, hts⟩ (c_X5_thrown l g) gL_law_X5_thrown rfl pX5_thrown ⟨Nat.le_of_ble_eq_true rfl, Nat.le_of_ble_eq_true rfl⟩ ⟨(show cells + 2 ≤ 601024 by omega), (show slots + 12 ≤ 7293034 by omega)⟩ hMd hE rfl rfl rfl hl.1 rfl (Nat.le_of_ble_eq_true rfl) dL_law_1195) ?_
  refine lv_iload hx hb dL_law_1198 (lv_at hl 1 rfl) ?_
  refine lv_icmp_eq (tgt := 1205) hx hb dL_law_1200 (by decide) (fun _ => ?_) (fun h9 => absurd rfl h9)
  refine lv_iload hx hb dL_law_1205 (lv_at hl 1 rfl) ?_
  refine lv_if_ne (tgt := 1222) hx hb dL_law_1207 (by decide) (fun hne => ?_) (fun heq => ?_)
  · refine lv_goto (tgt := 1679) hx hb dL_law_1222 (by decide) ?_
    exact W.widen (k := cells + 4) (n := slots + 24) (by omega) (by omega) (kk (oS (eRow σ (xs (i + 1)) (xs (i + 2))) (σ) σ) H locs ls ⟨(Inv_oS (fun _ => hI) hI), (Setd_oS (fun _ => hSd) hSd), hF, ⟨_, hMd⟩, _, hO⟩ hS (lv_sub hl [2, 3, 4, 5, 6] rfl))
  · have he0 : (eRow σ (xs (i + 1)) (xs (i + 2))) = 0 := (nI_z he3 heq)
    refine lv_aload_n hx hb dL_law_1210 rfl (lv_at hl 5 rfl) ?_
    refine lv_iconst (v := nI (0)) hx hb dL_law_1211 (by decide) ?_
    refine lw_lald hx hb hE hO (hfn he0) dL_law_1212 ?_
    refine lv_iload hx hb dL_law_1213 (lv_at hl 0 rfl) ?_
    refine lv_i2l hx hb dL_law_1215 rfl ?_
    refine lw_lcmp0 hx hb (by rw [he0]; try rfl) dL_law_1216 ?_
    refine br_eq0 (a := 0) (tgt := 1222) hx hb (by decide) dL_law_1217 (by decide) (fun h386 => ?_) (fun h386 => ?_)
    · refine lv_goto (tgt := 1679) hx hb dL_law_1222 (by decide) ?_
      exact W.widen (k := cells + 4) (n := slots + 24) (by omega) (by omega) (kk (oS (eRow σ (xs (i + 1)) (xs (i + 2))) (σ) σ) H locs ls ⟨(Inv_oS (fun _ => hI) hI), (Setd_oS (fun _ => hSd) hSd), hF, ⟨_, hMd⟩, _, hO⟩ hS (lv_sub hl [2, 3, 4, 5, 6] rfl))
    · exact absurd h386 (by decide)
set_option maxHeartbeats 4000000 in
set_option maxRecDepth 100000 in
/-- a turn of the loop: floorOf -/
theorem op_floorOf {p : Program} {l : Launch} {en : Env} {s : State} {m : MethodId} {below : List Frame} {meth : Method} {c : Code} {b L : Nat} {xs : Nat → Int32} {g : GT} {ad am : Nat → Nat} {o : Nat} (C : lwC p l s m c b L xs g ad am o) {i : Nat} {H : Heap} {locs : List Loc} {cells slots : Nat} {Q : State → Prop} {σ : St} {ls : Array Slot} (hi : i + 4 ≤ L) (hI9 : lwI g ad am o σ H) (hS : va_S (frA s) s.heap H locs) (hl : lv_has ls 7 [(0, .ref (b)), (1, .ref (ad 0)), (2, .ref (am 0)), (3, .ref (o)), (4, .int (nI (i)))]) (hc : cells + 10 ≤ 601024) (hs : slots + 60 ≤ 7293034) (kk : ∀ (σ' : St) (H : Heap) (locs : List Loc) (ls : Array Slot), lwI g ad am o σ' H → va_S (frA s) s.heap H locs → lv_has ls 7 [(0, .ref (b)), (1, .ref (ad 0)), (2, .ref (am 0)), (3, .ref (o)), (4, .int (nI (i)))] → W p l en room_1 s m #[Value.ref b] below meth c H locs (cells + 4) (slots + 24) Q (F0 m 1679 ls [])) : W p l en room_1 s m #[Value.ref b] below meth c H locs cells slots Q (F0 m 1225 ls []) := by
  obtain ⟨hx, hb, hml, hown, hts, hX, hbl, hL, hlf, hE, hxv0, hN, hM, ho, ho2, hdis, hfa, hma, hoa⟩ := C
  obtain ⟨hI, hSd, ⟨τ, hF, hR, hT⟩, ⟨th, hMd⟩, fn, hO⟩ := hI9
  refine lv_aload_n hx hb dL_law_1225 rfl (lv_at hl 1 rfl) ?_
  refine lv_aload_n hx hb dL_law_1226 rfl (lv_at hl 0 rfl) ?_
  refine lv_iload hx hb dL_law_1227 (lv_at hl 4 rfl) ?_
  refine lv_iconst (v := nI (1)) hx hb dL_law_1229 (by decide) ?_
  refine lv_iadd hx hb dL_law_1230 ?_
  refine tp_i (nI_add _ _) ?_
  refine lw_ld (j := i + 1) hx hb hX hbl hS (by omega) hL dL_law_1231 ?_
  refine lv_aload_n hx hb dL_law_1232 rfl (lv_at hl 3 rfl) ?_
  refine lw_go (xn_SX ⟨hx, hb, hml, hown, hts⟩ (c_L_floorOf l hlf g hI hN hR hSd hT ho (o := o) (fn := fn) (x := xs (i + 1))) gL_law_L_floorOf rfl qL_floorOf ⟨Nat.le_of_ble_eq_true rfl, Nat.le_of_ble_eq_true rfl⟩ ⟨(show cells + 1 ≤ 601024 by omega), (show slots + 6 ≤ 7293034 by omega)⟩ (gP_app hO hF) hE (xv_fr hxv0 hS) rfl hl.1 rfl (Nat.le_of_ble_eq_true rfl) dL_law_1233) hS (List.forall_mem_cons.mpr ⟨hoa, hfa⟩) (fun H locs fn9 hO hfn hF hk hS => ?_)
  have hMd := wM_keepO ho2 hdis hMd hk
  clear hk
  have he3 : (eP (xs (i + 1))) ≤ 3 := by
    unfold eP; (repeat' split) <;> omega
  refine lv_istore (lv' := [(5, .int (nI (eP (xs (i + 1))))), (0, .ref (b)), (1, .ref (ad 0)), (2, .ref (am 0)), (3, .ref (o)), (4, .int (nI (i)))]) hx hb dL_law_1236 hl (by decide) rfl (fun ls hl => ?_)
  refine lv_aload_n hx hb dL_law_1238 rfl (lv_at hl 3 rfl) ?_
  refine lv_aload_n hx hb dL_law_1239 rfl (lv_at hl 1 rfl) ?_
  refine lv_iload hx hb dL_law_1240 (lv_at hl 5 rfl) ?_
  refine lv_iconst (v := nI (1)) hx hb dL_law_1242 (by decide) ?_
  refine lv_iadd hx hb dL_law_1243 ?_
  refine tp_i (nI_add _ _) ?_
  refine lw_ld (j := i + 1) hx hb hX hbl hS (by omega) hL dL_law_1244 ?_
  refine wr_goS (rn_V ⟨hx, hb, hml, hown, hts⟩ (c_X5_floorOf l g (σ := σ) hI hM (x := xs (i + 1))) gL_law_X5_floorOf rfl pX5_floorOf ⟨Nat.le_of_ble_eq_true rfl, Nat.le_of_ble_eq_true rfl⟩ ⟨(show cells + 1 ≤ 601024 by omega), (show slots + 6 ≤ 7293034 by omega)⟩ hMd hE rfl rfl rfl hl.1 rfl (Nat.le_of_ble_eq_true rfl) dL_law_1245) hS hma (fun H locs hB hz hk hS => ?_)
  have hMd : gP g (wM g am (oS (eP (xs (i + 1))) (σ) σ) (eP (xs (i + 1)))) H := hB
  have hF := FWq_keepM hdis hF hk
  have hO := wO_keepM ho2 hO hk
  clear hB hk hz
  refine lv_istore (lv' := [(6, .int (oI (eP (xs (i + 1))) (fI (sf σ (ix (xs (i + 1))))))), (5, .int (nI (eP (xs (i + 1))))), (0, .ref (b)), (1, .ref (ad 0)), (2, .ref (am 0)), (3, .ref (o)), (4, .int (nI (i)))]) hx hb dL_law_1248 hl (by decide) rfl (fun ls hl => ?_)
  refine lv_aload_n hx hb dL_law_1250 rfl (lv_at hl 4 rfl) ?_
  refine rd_goS (rn_V ⟨hx, hb, hml, hown, hts⟩ (c_X5_thrown l g) gL_law_X5_thrown rfl pX5_thrown ⟨Nat.le_of_ble_eq_true rfl, Nat.le_of_ble_eq_true rfl⟩ ⟨(show cells + 1 ≤ 601024 by omega), (show slots + 6 ≤ 7293034 by omega)⟩ hMd hE rfl rfl rfl hl.1 rfl (Nat.le_of_ble_eq_true rfl) dL_law_1251) ?_
  refine lv_iload hx hb dL_law_1254 (lv_at hl 1 rfl) ?_
  refine lv_icmp_eq (tgt := 1261) hx hb dL_law_1256 (by decide) (fun _ => ?_) (fun h9 => absurd rfl h9)
  refine lv_iload hx hb dL_law_1261 (lv_at hl 1 rfl) ?_
  refine lv_if_ne (tgt := 1278) hx hb dL_law_1263 (by decide) (fun hne => ?_) (fun heq => ?_)
  · refine lv_goto (tgt := 1679) hx hb dL_law_1278 (by decide) ?_
    exact W.widen (k := cells + 4) (n := slots + 24) (by omega) (by omega) (kk (oS (eP (xs (i + 1))) (σ) σ) H locs ls ⟨(Inv_oS (fun _ => hI) hI), (Setd_oS (fun _ => hSd) hSd), hF, ⟨_, hMd⟩, _, hO⟩ hS (lv_sub hl [2, 3, 4, 5, 6] rfl))
  · have he0 : (eP (xs (i + 1))) = 0 := (nI_z he3 heq)
    refine lv_aload_n hx hb dL_law_1266 rfl (lv_at hl 5 rfl) ?_
    refine lv_iconst (v := nI (0)) hx hb dL_law_1267 (by decide) ?_
    refine lw_lald hx hb hE hO (hfn he0) dL_law_1268 ?_
    refine lv_iload hx hb dL_law_1269 (lv_at hl 0 rfl) ?_
    refine lv_i2l hx hb dL_law_1271 rfl ?_
    refine lw_lcmp0 hx hb (by rw [he0]; try rfl) dL_law_1272 ?_
    refine br_eq0 (a := 0) (tgt := 1278) hx hb (by decide) dL_law_1273 (by decide) (fun h387 => ?_) (fun h387 => ?_)
    · refine lv_goto (tgt := 1679) hx hb dL_law_1278 (by decide) ?_
      exact W.widen (k := cells + 4) (n := slots + 24) (by omega) (by omega) (kk (oS (eP (xs (i + 1))) (σ) σ) H locs ls ⟨(Inv_oS (fun _ => hI) hI), (Setd_oS (fun _ => hSd) hSd), hF, ⟨_, hMd⟩, _, hO⟩ hS (lv_sub hl [2, 3, 4, 5, 6] rfl))
    · exact absurd h387 (by decide)
set_option maxHeartbeats 4000000 in
set_option maxRecDepth 100000 in
/-- a turn of the loop: shows -/
theorem op_shows {p : Program} {l : Launch} {en : Env} {s : State} {m : MethodId} {below : List Frame} {meth : Method} {c : Code} {b L : Nat} {xs : Nat → Int32} {g : GT} {ad am : Nat → Nat} {o : Nat} (C : lwC p l s m c b L xs g ad am o) {i : Nat} {H : Heap} {locs : List Loc} {cells slots : Nat} {Q : State → Prop} {σ : St} {ls : Array Slot} (hi : i + 4 ≤ L) (hI9 : lwI g ad am o σ H) (hS : va_S (frA s) s.heap H locs) (hl : lv_has ls 7 [(0, .ref (b)), (1, .ref (ad 0)), (2, .ref (am 0)), (3, .ref (o)), (4, .int (nI (i)))]) (hc : cells + 10 ≤ 601024) (hs : slots + 60 ≤ 7293034) (kk : ∀ (σ' : St) (H : Heap) (locs : List Loc) (ls : Array Slot), lwI g ad am o σ' H → va_S (frA s) s.heap H locs → lv_has ls 7 [(0, .ref (b)), (1, .ref (ad 0)), (2, .ref (am 0)), (3, .ref (o)), (4, .int (nI (i)))] → W p l en room_1 s m #[Value.ref b] below meth c H locs (cells + 4) (slots + 24) Q (F0 m 1679 ls [])) : W p l en room_1 s m #[Value.ref b] below meth c H locs cells slots Q (F0 m 1281 ls []) := by
  obtain ⟨hx, hb, hml, hown, hts, hX, hbl, hL, hlf, hE, hxv0, hN, hM, ho, ho2, hdis, hfa, hma, hoa⟩ := C
  obtain ⟨hI, hSd, ⟨τ, hF, hR, hT⟩, ⟨th, hMd⟩, fn, hO⟩ := hI9
  refine lv_aload_n hx hb dL_law_1281 rfl (lv_at hl 1 rfl) ?_
  refine lv_aload_n hx hb dL_law_1282 rfl (lv_at hl 0 rfl) ?_
  refine lv_iload hx hb dL_law_1283 (lv_at hl 4 rfl) ?_
  refine lv_iconst (v := nI (1)) hx hb dL_law_1285 (by decide) ?_
  refine lv_iadd hx hb dL_law_1286 ?_
  refine tp_i (nI_add _ _) ?_
  refine lw_ld (j := i + 1) hx hb hX hbl hS (by omega) hL dL_law_1287 ?_
  refine lv_aload_n hx hb dL_law_1288 rfl (lv_at hl 0 rfl) ?_
  refine lv_iload hx hb dL_law_1289 (lv_at hl 4 rfl) ?_
  refine lv_iconst (v := nI (2)) hx hb dL_law_1291 (by decide) ?_
  refine lv_iadd hx hb dL_law_1292 ?_
  refine tp_i (nI_add _ _) ?_
  refine lw_ld (j := i + 2) hx hb hX hbl hS (by omega) hL dL_law_1293 ?_
  refine lv_aload_n hx hb dL_law_1294 rfl (lv_at hl 3 rfl) ?_
  refine lw_go (xn_SX ⟨hx, hb, hml, hown, hts⟩ (c_L_shows l hlf g hI hN hR hSd hT ho (o := o) (fn := fn) (x := xs (i + 1)) (y := xs (i + 2))) gL_law_L_shows rfl qL_shows ⟨Nat.le_of_ble_eq_true rfl, Nat.le_of_ble_eq_true rfl⟩ ⟨(show cells + 2 ≤ 601024 by omega), (show slots + 12 ≤ 7293034 by omega)⟩ (gP_app hO hF) hE (xv_fr hxv0 hS) rfl hl.1 rfl (Nat.le_of_ble_eq_true rfl) dL_law_1295) hS (List.forall_mem_cons.mpr ⟨hoa, hfa⟩) (fun H locs fn9 hO hfn hF hk hS => ?_)
  have hMd := wM_keepO ho2 hdis hMd hk
  clear hk
  have he3 : (eShw σ (xs (i + 1)) (xs (i + 2))) ≤ 3 := by
    unfold eShw; (repeat' split) <;> omega
  refine lv_istore (lv' := [(5, .int (nI (eShw σ (xs (i + 1)) (xs (i + 2))))), (0, .ref (b)), (1, .ref (ad 0)), (2, .ref (am 0)), (3, .ref (o)), (4, .int (nI (i)))]) hx hb dL_law_1298 hl (by decide) rfl (fun ls hl => ?_)
  refine lv_aload_n hx hb dL_law_1300 rfl (lv_at hl 3 rfl) ?_
  refine lv_aload_n hx hb dL_law_1301 rfl (lv_at hl 1 rfl) ?_
  refine lv_iload hx hb dL_law_1302 (lv_at hl 5 rfl) ?_
  refine lv_iconst (v := nI (1)) hx hb dL_law_1304 (by decide) ?_
  refine lv_iadd hx hb dL_law_1305 ?_
  refine tp_i (nI_add _ _) ?_
  refine lw_ld (j := i + 1) hx hb hX hbl hS (by omega) hL dL_law_1306 ?_
  refine lv_aload_n hx hb dL_law_1307 rfl (lv_at hl 1 rfl) ?_
  refine lv_iload hx hb dL_law_1308 (lv_at hl 5 rfl) ?_
  refine lv_iconst (v := nI (2)) hx hb dL_law_1310 (by decide) ?_
  refine lv_iadd hx hb dL_law_1311 ?_
  refine tp_i (nI_add _ _) ?_
  refine lw_ld (j := i + 2) hx hb hX hbl hS (by omega) hL dL_law_1312 ?_
  refine wr_goS (rn_V ⟨hx, hb, hml, hown, hts⟩ (c_X5_shows l g (σ := σ) hI hM (x := xs (i + 1)) (y := xs (i + 2))) gL_law_X5_shows rfl pX5_shows ⟨Nat.le_of_ble_eq_true rfl, Nat.le_of_ble_eq_true rfl⟩ ⟨(show cells + 2 ≤ 601024 by omega), (show slots + 12 ≤ 7293034 by omega)⟩ hMd hE rfl rfl rfl hl.1 rfl (Nat.le_of_ble_eq_true rfl) dL_law_1313) hS hma (fun H locs hB hz hk hS => ?_)
  have hMd : gP g (wM g am (oS (eShw σ (xs (i + 1)) (xs (i + 2))) (σ) σ) (eShw σ (xs (i + 1)) (xs (i + 2)))) H := hB
  have hF := FWq_keepM hdis hF hk
  have hO := wO_keepM ho2 hO hk
  clear hB hk hz
  refine lv_istore (lv' := [(6, .int (bI (oB (eShw σ (xs (i + 1)) (xs (i + 2))) (shw σ (ix (xs (i + 1))) (ix (xs (i + 2))))))), (5, .int (nI (eShw σ (xs (i + 1)) (xs (i + 2))))), (0, .ref (b)), (1, .ref (ad 0)), (2, .ref (am 0)), (3, .ref (o)), (4, .int (nI (i)))]) hx hb dL_law_1316 hl (by decide) rfl (fun ls hl => ?_)
  refine lv_aload_n hx hb dL_law_1318 rfl (lv_at hl 4 rfl) ?_
  refine rd_goS (rn_V ⟨hx, hb, hml, hown, hts⟩ (c_X5_thrown l g) gL_law_X5_thrown rfl pX5_thrown ⟨Nat.le_of_ble_eq_true rfl, Nat.le_of_ble_eq_true rfl⟩ ⟨(show cells + 2 ≤ 601024 by omega), (show slots + 12 ≤ 7293034 by omega)⟩ hMd hE rfl rfl rfl hl.1 rfl (Nat.le_of_ble_eq_true rfl) dL_law_1319) ?_
  refine lv_iload hx hb dL_law_1322 (lv_at hl 1 rfl) ?_
  refine lv_icmp_eq (tgt := 1329) hx hb dL_law_1324 (by decide) (fun _ => ?_) (fun h9 => absurd rfl h9)
  refine lv_iload hx hb dL_law_1329 (lv_at hl 1 rfl) ?_
  refine lv_if_ne (tgt := 1353) hx hb dL_law_1331 (by decide) (fun hne => ?_) (fun heq => ?_)
  · refine lv_goto (tgt := 1679) hx hb dL_law_1353 (by decide) ?_
    exact W.widen (k := cells + 4) (n := slots + 24) (by omega) (by omega) (kk (oS (eShw σ (xs (i + 1)) (xs (i + 2))) (σ) σ) H locs ls ⟨(Inv_oS (fun _ => hI) hI), (Setd_oS (fun _ => hSd) hSd), hF, ⟨_, hMd⟩, _, hO⟩ hS (lv_sub hl [2, 3, 4, 5, 6] rfl))
  · have he0 : (eShw σ (xs (i + 1)) (xs (i + 2))) = 0 := (nI_z he3 heq)
    refine lv_aload_n hx hb dL_law_1334 rfl (lv_at hl 5 rfl) ?_
    refine lv_iconst (v := nI (0)) hx hb dL_law_1335 (by decide) ?_
    refine lw_lald hx hb hE hO (hfn he0) dL_law_1336 ?_
    refine lv_iload hx hb dL_law_1337 (lv_at hl 0 rfl) ?_
    refine br_eqB (tgt := 1346) hx hb dL_law_1339 (by decide) (fun h388 => ?_) (fun h388 => ?_)
    · refine lv_lconst (v := 0) hx hb dL_law_1346 (by decide) ?_
      refine lw_lcmp0 hx hb (by rw [he0] at h388; rw [show shw σ (ix (xs (i + 1))) (ix (xs (i + 2))) = false from h388]; try rfl) dL_law_1347 ?_
      refine br_eq0 (a := 0) (tgt := 1353) hx hb (by decide) dL_law_1348 (by decide) (fun h389 => ?_) (fun h389 => ?_)
      · refine lv_goto (tgt := 1679) hx hb dL_law_1353 (by decide) ?_
        exact W.widen (k := cells + 4) (n := slots + 24) (by omega) (by omega) (kk (oS (eShw σ (xs (i + 1)) (xs (i + 2))) (σ) σ) H locs ls ⟨(Inv_oS (fun _ => hI) hI), (Setd_oS (fun _ => hSd) hSd), hF, ⟨_, hMd⟩, _, hO⟩ hS (lv_sub hl [2, 3, 4, 5, 6] rfl))
      · exact absurd h389 (by decide)
    · refine lv_lconst (v := 1) hx hb dL_law_1342 (by decide) ?_
      refine lv_goto (tgt := 1347) hx hb dL_law_1343 (by decide) ?_
      refine lw_lcmp0 hx hb (by rw [he0] at h388; rw [show shw σ (ix (xs (i + 1))) (ix (xs (i + 2))) = true from h388]; try rfl) dL_law_1347 ?_
      refine br_eq0 (a := 0) (tgt := 1353) hx hb (by decide) dL_law_1348 (by decide) (fun h390 => ?_) (fun h390 => ?_)
      · refine lv_goto (tgt := 1679) hx hb dL_law_1353 (by decide) ?_
        exact W.widen (k := cells + 4) (n := slots + 24) (by omega) (by omega) (kk (oS (eShw σ (xs (i + 1)) (xs (i + 2))) (σ) σ) H locs ls ⟨(Inv_oS (fun _ => hI) hI), (Setd_oS (fun _ => hSd) hSd), hF, ⟨_, hMd⟩, _, hO⟩ hS (lv_sub hl [2, 3, 4, 5, 6] rfl))
      · exact absurd h390 (by decide)
set_option maxHeartbeats 4000000 in
set_option maxRecDepth 100000 in
/-- a turn of the loop: next -/
theorem op_next {p : Program} {l : Launch} {en : Env} {s : State} {m : MethodId} {below : List Frame} {meth : Method} {c : Code} {b L : Nat} {xs : Nat → Int32} {g : GT} {ad am : Nat → Nat} {o : Nat} (C : lwC p l s m c b L xs g ad am o) {i : Nat} {H : Heap} {locs : List Loc} {cells slots : Nat} {Q : State → Prop} {σ : St} {ls : Array Slot} (hi : i + 4 ≤ L) (hI9 : lwI g ad am o σ H) (hS : va_S (frA s) s.heap H locs) (hl : lv_has ls 7 [(0, .ref (b)), (1, .ref (ad 0)), (2, .ref (am 0)), (3, .ref (o)), (4, .int (nI (i)))]) (hc : cells + 10 ≤ 601024) (hs : slots + 60 ≤ 7293034) (kk : ∀ (σ' : St) (H : Heap) (locs : List Loc) (ls : Array Slot), lwI g ad am o σ' H → va_S (frA s) s.heap H locs → lv_has ls 7 [(0, .ref (b)), (1, .ref (ad 0)), (2, .ref (am 0)), (3, .ref (o)), (4, .int (nI (i)))] → W p l en room_1 s m #[Value.ref b] below meth c H locs (cells + 4) (slots + 24) Q (F0 m 1679 ls [])) : W p l en room_1 s m #[Value.ref b] below meth c H locs cells slots Q (F0 m 1356 ls []) := by
  obtain ⟨hx, hb, hml, hown, hts, hX, hbl, hL, hlf, hE, hxv0, hN, hM, ho, ho2, hdis, hfa, hma, hoa⟩ := C
  obtain ⟨hI, hSd, ⟨τ, hF, hR, hT⟩, ⟨th, hMd⟩, fn, hO⟩ := hI9
  refine lv_aload_n hx hb dL_law_1356 rfl (lv_at hl 1 rfl) ?_
  refine lv_aload_n hx hb dL_law_1357 rfl (lv_at hl 0 rfl) ?_
  refine lv_iload hx hb dL_law_1358 (lv_at hl 4 rfl) ?_
  refine lv_iconst (v := nI (1)) hx hb dL_law_1360 (by decide) ?_
  refine lv_iadd hx hb dL_law_1361 ?_
  refine tp_i (nI_add _ _) ?_
  refine lw_ld (j := i + 1) hx hb hX hbl hS (by omega) hL dL_law_1362 ?_
  refine lv_aload_n hx hb dL_law_1363 rfl (lv_at hl 0 rfl) ?_
  refine lv_iload hx hb dL_law_1364 (lv_at hl 4 rfl) ?_
  refine lv_iconst (v := nI (2)) hx hb dL_law_1366 (by decide) ?_
  refine lv_iadd hx hb dL_law_1367 ?_
  refine tp_i (nI_add _ _) ?_
  refine lw_ld (j := i + 2) hx hb hX hbl hS (by omega) hL dL_law_1368 ?_
  refine lv_aload_n hx hb dL_law_1369 rfl (lv_at hl 3 rfl) ?_
  refine lw_go (xn_SX ⟨hx, hb, hml, hown, hts⟩ (c_L_next l hlf g hI hN hR hSd hT ho (o := o) (fn := fn) (x := xs (i + 1)) (y := xs (i + 2))) gL_law_L_next rfl qL_next ⟨Nat.le_of_ble_eq_true rfl, Nat.le_of_ble_eq_true rfl⟩ ⟨(show cells + 2 ≤ 601024 by omega), (show slots + 12 ≤ 7293034 by omega)⟩ (gP_app hO hF) hE (xv_fr hxv0 hS) rfl hl.1 rfl (Nat.le_of_ble_eq_true rfl) dL_law_1370) hS (List.forall_mem_cons.mpr ⟨hoa, hfa⟩) (fun H locs fn9 hO hfn hF hk hS => ?_)
  have hMd := wM_keepO ho2 hdis hMd hk
  clear hk
  have he3 : (eNxt (xs (i + 1)) (xs (i + 2))) ≤ 3 := by
    unfold eNxt eR; (repeat' split) <;> omega
  refine lv_istore (lv' := [(5, .int (nI (eNxt (xs (i + 1)) (xs (i + 2))))), (0, .ref (b)), (1, .ref (ad 0)), (2, .ref (am 0)), (3, .ref (o)), (4, .int (nI (i)))]) hx hb dL_law_1373 hl (by decide) rfl (fun ls hl => ?_)
  refine lv_aload_n hx hb dL_law_1375 rfl (lv_at hl 3 rfl) ?_
  refine lv_aload_n hx hb dL_law_1376 rfl (lv_at hl 1 rfl) ?_
  refine lv_iload hx hb dL_law_1377 (lv_at hl 5 rfl) ?_
  refine lv_iconst (v := nI (1)) hx hb dL_law_1379 (by decide) ?_
  refine lv_iadd hx hb dL_law_1380 ?_
  refine tp_i (nI_add _ _) ?_
  refine lw_ld (j := i + 1) hx hb hX hbl hS (by omega) hL dL_law_1381 ?_
  refine lv_aload_n hx hb dL_law_1382 rfl (lv_at hl 1 rfl) ?_
  refine lv_iload hx hb dL_law_1383 (lv_at hl 5 rfl) ?_
  refine lv_iconst (v := nI (2)) hx hb dL_law_1385 (by decide) ?_
  refine lv_iadd hx hb dL_law_1386 ?_
  refine tp_i (nI_add _ _) ?_
  refine lw_ld (j := i + 2) hx hb hX hbl hS (by omega) hL dL_law_1387 ?_
  refine wr_goS (rn_V ⟨hx, hb, hml, hown, hts⟩ (c_X5_next l g (σ := σ) hI hM (x := xs (i + 1)) (y := xs (i + 2))) gL_law_X5_next rfl pX5_next ⟨Nat.le_of_ble_eq_true rfl, Nat.le_of_ble_eq_true rfl⟩ ⟨(show cells + 2 ≤ 601024 by omega), (show slots + 12 ≤ 7293034 by omega)⟩ hMd hE rfl rfl rfl hl.1 rfl (Nat.le_of_ble_eq_true rfl) dL_law_1388) hS hma (fun H locs hB hz hk hS => ?_)
  have hMd : gP g (wM g am (oS (eNxt (xs (i + 1)) (xs (i + 2))) (σ) σ) (eNxt (xs (i + 1)) (xs (i + 2)))) H := hB
  have hF := FWq_keepM hdis hF hk
  have hO := wO_keepM ho2 hO hk
  clear hB hk hz
  refine lv_istore (lv' := [(6, .int (oI (eNxt (xs (i + 1)) (xs (i + 2))) (fI (rNxt σ (ix (xs (i + 1))) (ix (xs (i + 2))))))), (5, .int (nI (eNxt (xs (i + 1)) (xs (i + 2))))), (0, .ref (b)), (1, .ref (ad 0)), (2, .ref (am 0)), (3, .ref (o)), (4, .int (nI (i)))]) hx hb dL_law_1391 hl (by decide) rfl (fun ls hl => ?_)
  refine lv_aload_n hx hb dL_law_1393 rfl (lv_at hl 4 rfl) ?_
  refine rd_goS (rn_V ⟨hx, hb, hml, hown, hts⟩ (c_X5_thrown l g) gL_law_X5_thrown rfl pX5_thrown ⟨Nat.le_of_ble_eq_true rfl, Nat.le_of_ble_eq_true rfl⟩ ⟨(show cells + 2 ≤ 601024 by omega), (show slots + 12 ≤ 7293034 by omega)⟩ hMd hE rfl rfl rfl hl.1 rfl (Nat.le_of_ble_eq_true rfl) dL_law_1394) ?_
  refine lv_iload hx hb dL_law_1397 (lv_at hl 1 rfl) ?_
  refine lv_icmp_eq (tgt := 1404) hx hb dL_law_1399 (by decide) (fun _ => ?_) (fun h9 => absurd rfl h9)
  refine lv_iload hx hb dL_law_1404 (lv_at hl 1 rfl) ?_
  refine lv_if_ne (tgt := 1421) hx hb dL_law_1406 (by decide) (fun hne => ?_) (fun heq => ?_)
  · refine lv_goto (tgt := 1679) hx hb dL_law_1421 (by decide) ?_
    exact W.widen (k := cells + 4) (n := slots + 24) (by omega) (by omega) (kk (oS (eNxt (xs (i + 1)) (xs (i + 2))) (σ) σ) H locs ls ⟨(Inv_oS (fun _ => hI) hI), (Setd_oS (fun _ => hSd) hSd), hF, ⟨_, hMd⟩, _, hO⟩ hS (lv_sub hl [2, 3, 4, 5, 6] rfl))
  · have he0 : (eNxt (xs (i + 1)) (xs (i + 2))) = 0 := (nI_z he3 heq)
    refine lv_aload_n hx hb dL_law_1409 rfl (lv_at hl 5 rfl) ?_
    refine lv_iconst (v := nI (0)) hx hb dL_law_1410 (by decide) ?_
    refine lw_lald hx hb hE hO (hfn he0) dL_law_1411 ?_
    refine lv_iload hx hb dL_law_1412 (lv_at hl 0 rfl) ?_
    refine lv_i2l hx hb dL_law_1414 rfl ?_
    refine lw_lcmp0 hx hb (by rw [he0]; try rfl) dL_law_1415 ?_
    refine br_eq0 (a := 0) (tgt := 1421) hx hb (by decide) dL_law_1416 (by decide) (fun h391 => ?_) (fun h391 => ?_)
    · refine lv_goto (tgt := 1679) hx hb dL_law_1421 (by decide) ?_
      exact W.widen (k := cells + 4) (n := slots + 24) (by omega) (by omega) (kk (oS (eNxt (xs (i + 1)) (xs (i + 2))) (σ) σ) H locs ls ⟨(Inv_oS (fun _ => hI) hI), (Setd_oS (fun _ => hSd) hSd), hF, ⟨_, hMd⟩, _, hO⟩ hS (lv_sub hl [2, 3, 4, 5, 6] rfl))
    · exact absurd h391 (by decide)
set_option maxHeartbeats 4000000 in
set_option maxRecDepth 100000 in
/-- a turn of the loop: pageEnd -/
theorem op_pageEnd {p : Program} {l : Launch} {en : Env} {s : State} {m : MethodId} {below : List Frame} {meth : Method} {c : Code} {b L : Nat} {xs : Nat → Int32} {g : GT} {ad am : Nat → Nat} {o : Nat} (C : lwC p l s m c b L xs g ad am o) {i : Nat} {H : Heap} {locs : List Loc} {cells slots : Nat} {Q : State → Prop} {σ : St} {ls : Array Slot} (hi : i + 4 ≤ L) (hI9 : lwI g ad am o σ H) (hS : va_S (frA s) s.heap H locs) (hl : lv_has ls 7 [(0, .ref (b)), (1, .ref (ad 0)), (2, .ref (am 0)), (3, .ref (o)), (4, .int (nI (i)))]) (hc : cells + 10 ≤ 601024) (hs : slots + 60 ≤ 7293034) (kk : ∀ (σ' : St) (H : Heap) (locs : List Loc) (ls : Array Slot), lwI g ad am o σ' H → va_S (frA s) s.heap H locs → lv_has ls 7 [(0, .ref (b)), (1, .ref (ad 0)), (2, .ref (am 0)), (3, .ref (o)), (4, .int (nI (i)))] → W p l en room_1 s m #[Value.ref b] below meth c H locs (cells + 4) (slots + 24) Q (F0 m 1679 ls [])) : W p l en room_1 s m #[Value.ref b] below meth c H locs cells slots Q (F0 m 1424 ls []) := by
  obtain ⟨hx, hb, hml, hown, hts, hX, hbl, hL, hlf, hE, hxv0, hN, hM, ho, ho2, hdis, hfa, hma, hoa⟩ := C
  obtain ⟨hI, hSd, ⟨τ, hF, hR, hT⟩, ⟨th, hMd⟩, fn, hO⟩ := hI9
  refine lv_aload_n hx hb dL_law_1424 rfl (lv_at hl 1 rfl) ?_
  refine lv_aload_n hx hb dL_law_1425 rfl (lv_at hl 0 rfl) ?_
  refine lv_iload hx hb dL_law_1426 (lv_at hl 4 rfl) ?_
  refine lv_iconst (v := nI (1)) hx hb dL_law_1428 (by decide) ?_
  refine lv_iadd hx hb dL_law_1429 ?_
  refine tp_i (nI_add _ _) ?_
  refine lw_ld (j := i + 1) hx hb hX hbl hS (by omega) hL dL_law_1430 ?_
  refine lv_aload_n hx hb dL_law_1431 rfl (lv_at hl 0 rfl) ?_
  refine lv_iload hx hb dL_law_1432 (lv_at hl 4 rfl) ?_
  refine lv_iconst (v := nI (2)) hx hb dL_law_1434 (by decide) ?_
  refine lv_iadd hx hb dL_law_1435 ?_
  refine tp_i (nI_add _ _) ?_
  refine lw_ld (j := i + 2) hx hb hX hbl hS (by omega) hL dL_law_1436 ?_
  refine lv_aload_n hx hb dL_law_1437 rfl (lv_at hl 0 rfl) ?_
  refine lv_iload hx hb dL_law_1438 (lv_at hl 4 rfl) ?_
  refine lv_iconst (v := nI (3)) hx hb dL_law_1440 (by decide) ?_
  refine lv_iadd hx hb dL_law_1441 ?_
  refine tp_i (nI_add _ _) ?_
  refine lw_ld (j := i + 3) hx hb hX hbl hS (by omega) hL dL_law_1442 ?_
  refine lv_aload_n hx hb dL_law_1443 rfl (lv_at hl 3 rfl) ?_
  obtain ⟨r9, hv⟩ := ex_pag σ (xs (i + 1)) (xs (i + 2)) (xs (i + 3))
  refine lw_go (xn_SX ⟨hx, hb, hml, hown, hts⟩ (c_L_pageEnd l hlf g hI hN hR hSd hT ho (o := o) (fn := fn) (x := xs (i + 1)) (y := xs (i + 2)) (z := xs (i + 3)) hv) gL_law_L_pageEnd rfl qL_pageEnd ⟨Nat.le_of_ble_eq_true rfl, Nat.le_of_ble_eq_true rfl⟩ ⟨(show cells + 3 ≤ 601024 by omega), (show slots + 18 ≤ 7293034 by omega)⟩ (gP_app hO hF) hE (xv_fr hxv0 hS) rfl hl.1 rfl (Nat.le_of_ble_eq_true rfl) dL_law_1444) hS (List.forall_mem_cons.mpr ⟨hoa, hfa⟩) (fun H locs fn9 hO hfn hF hk hS => ?_)
  have hMd := wM_keepO ho2 hdis hMd hk
  clear hk
  have he3 : (ePag (xs (i + 1)) (xs (i + 2)) (xs (i + 3))) ≤ 3 := by
    unfold ePag eR; (repeat' split) <;> omega
  refine lv_istore (lv' := [(5, .int (nI (ePag (xs (i + 1)) (xs (i + 2)) (xs (i + 3))))), (0, .ref (b)), (1, .ref (ad 0)), (2, .ref (am 0)), (3, .ref (o)), (4, .int (nI (i)))]) hx hb dL_law_1447 hl (by decide) rfl (fun ls hl => ?_)
  refine lv_aload_n hx hb dL_law_1449 rfl (lv_at hl 3 rfl) ?_
  refine lv_aload_n hx hb dL_law_1450 rfl (lv_at hl 1 rfl) ?_
  refine lv_iload hx hb dL_law_1451 (lv_at hl 5 rfl) ?_
  refine lv_iconst (v := nI (1)) hx hb dL_law_1453 (by decide) ?_
  refine lv_iadd hx hb dL_law_1454 ?_
  refine tp_i (nI_add _ _) ?_
  refine lw_ld (j := i + 1) hx hb hX hbl hS (by omega) hL dL_law_1455 ?_
  refine lv_aload_n hx hb dL_law_1456 rfl (lv_at hl 1 rfl) ?_
  refine lv_iload hx hb dL_law_1457 (lv_at hl 5 rfl) ?_
  refine lv_iconst (v := nI (2)) hx hb dL_law_1459 (by decide) ?_
  refine lv_iadd hx hb dL_law_1460 ?_
  refine tp_i (nI_add _ _) ?_
  refine lw_ld (j := i + 2) hx hb hX hbl hS (by omega) hL dL_law_1461 ?_
  refine lv_aload_n hx hb dL_law_1462 rfl (lv_at hl 1 rfl) ?_
  refine lv_iload hx hb dL_law_1463 (lv_at hl 5 rfl) ?_
  refine lv_iconst (v := nI (3)) hx hb dL_law_1465 (by decide) ?_
  refine lv_iadd hx hb dL_law_1466 ?_
  refine tp_i (nI_add _ _) ?_
  refine lw_ld (j := i + 3) hx hb hX hbl hS (by omega) hL dL_law_1467 ?_
  refine wr_goS (rn_V ⟨hx, hb, hml, hown, hts⟩ (c_X5_pageEnd l g (σ := σ) hI hM (x := xs (i + 1)) (y := xs (i + 2)) (z := xs (i + 3)) hv) gL_law_X5_pageEnd rfl pX5_pageEnd ⟨Nat.le_of_ble_eq_true rfl, Nat.le_of_ble_eq_true rfl⟩ ⟨(show cells + 3 ≤ 601024 by omega), (show slots + 18 ≤ 7293034 by omega)⟩ hMd hE rfl rfl rfl hl.1 rfl (Nat.le_of_ble_eq_true rfl) dL_law_1468) hS hma (fun H locs hB hz hk hS => ?_)
  have hMd : gP g (wM g am (oS (ePag (xs (i + 1)) (xs (i + 2)) (xs (i + 3))) (σ) σ) (ePag (xs (i + 1)) (xs (i + 2)) (xs (i + 3)))) H := hB
  have hF := FWq_keepM hdis hF hk
  have hO := wO_keepM ho2 hO hk
  clear hB hk hz
  refine lv_istore (lv' := [(6, .int (oI (ePag (xs (i + 1)) (xs (i + 2)) (xs (i + 3))) (fI (r9)))), (5, .int (nI (ePag (xs (i + 1)) (xs (i + 2)) (xs (i + 3))))), (0, .ref (b)), (1, .ref (ad 0)), (2, .ref (am 0)), (3, .ref (o)), (4, .int (nI (i)))]) hx hb dL_law_1471 hl (by decide) rfl (fun ls hl => ?_)
  refine lv_aload_n hx hb dL_law_1473 rfl (lv_at hl 4 rfl) ?_
  refine rd_goS (rn_V ⟨hx, hb, hml, hown, hts⟩ (c_X5_thrown l g) gL_law_X5_thrown rfl pX5_thrown ⟨Nat.le_of_ble_eq_true rfl, Nat.le_of_ble_eq_true rfl⟩ ⟨(show cells + 3 ≤ 601024 by omega), (show slots + 18 ≤ 7293034 by omega)⟩ hMd hE rfl rfl rfl hl.1 rfl (Nat.le_of_ble_eq_true rfl) dL_law_1474) ?_
  refine lv_iload hx hb dL_law_1477 (lv_at hl 1 rfl) ?_
  refine lv_icmp_eq (tgt := 1484) hx hb dL_law_1479 (by decide) (fun _ => ?_) (fun h9 => absurd rfl h9)
  refine lv_iload hx hb dL_law_1484 (lv_at hl 1 rfl) ?_
  refine lv_if_ne (tgt := 1501) hx hb dL_law_1486 (by decide) (fun hne => ?_) (fun heq => ?_)
  · refine lv_goto (tgt := 1679) hx hb dL_law_1501 (by decide) ?_
    exact W.widen (k := cells + 4) (n := slots + 24) (by omega) (by omega) (kk (oS (ePag (xs (i + 1)) (xs (i + 2)) (xs (i + 3))) (σ) σ) H locs ls ⟨(Inv_oS (fun _ => hI) hI), (Setd_oS (fun _ => hSd) hSd), hF, ⟨_, hMd⟩, _, hO⟩ hS (lv_sub hl [2, 3, 4, 5, 6] rfl))
  · have he0 : (ePag (xs (i + 1)) (xs (i + 2)) (xs (i + 3))) = 0 := (nI_z he3 heq)
    refine lv_aload_n hx hb dL_law_1489 rfl (lv_at hl 5 rfl) ?_
    refine lv_iconst (v := nI (0)) hx hb dL_law_1490 (by decide) ?_
    refine lw_lald hx hb hE hO (hfn he0) dL_law_1491 ?_
    refine lv_iload hx hb dL_law_1492 (lv_at hl 0 rfl) ?_
    refine lv_i2l hx hb dL_law_1494 rfl ?_
    refine lw_lcmp0 hx hb (by rw [he0]; try rfl) dL_law_1495 ?_
    refine br_eq0 (a := 0) (tgt := 1501) hx hb (by decide) dL_law_1496 (by decide) (fun h392 => ?_) (fun h392 => ?_)
    · refine lv_goto (tgt := 1679) hx hb dL_law_1501 (by decide) ?_
      exact W.widen (k := cells + 4) (n := slots + 24) (by omega) (by omega) (kk (oS (ePag (xs (i + 1)) (xs (i + 2)) (xs (i + 3))) (σ) σ) H locs ls ⟨(Inv_oS (fun _ => hI) hI), (Setd_oS (fun _ => hSd) hSd), hF, ⟨_, hMd⟩, _, hO⟩ hS (lv_sub hl [2, 3, 4, 5, 6] rfl))
    · exact absurd h392 (by decide)
set_option maxHeartbeats 4000000 in
set_option maxRecDepth 100000 in
/-- a turn of the loop: length -/
theorem op_length {p : Program} {l : Launch} {en : Env} {s : State} {m : MethodId} {below : List Frame} {meth : Method} {c : Code} {b L : Nat} {xs : Nat → Int32} {g : GT} {ad am : Nat → Nat} {o : Nat} (C : lwC p l s m c b L xs g ad am o) {i : Nat} {H : Heap} {locs : List Loc} {cells slots : Nat} {Q : State → Prop} {σ : St} {ls : Array Slot} (hi : i + 4 ≤ L) (hI9 : lwI g ad am o σ H) (hS : va_S (frA s) s.heap H locs) (hl : lv_has ls 7 [(0, .ref (b)), (1, .ref (ad 0)), (2, .ref (am 0)), (3, .ref (o)), (4, .int (nI (i)))]) (hc : cells + 10 ≤ 601024) (hs : slots + 60 ≤ 7293034) (kk : ∀ (σ' : St) (H : Heap) (locs : List Loc) (ls : Array Slot), lwI g ad am o σ' H → va_S (frA s) s.heap H locs → lv_has ls 7 [(0, .ref (b)), (1, .ref (ad 0)), (2, .ref (am 0)), (3, .ref (o)), (4, .int (nI (i)))] → W p l en room_1 s m #[Value.ref b] below meth c H locs (cells + 4) (slots + 24) Q (F0 m 1679 ls [])) : W p l en room_1 s m #[Value.ref b] below meth c H locs cells slots Q (F0 m 1504 ls []) := by
  obtain ⟨hx, hb, hml, hown, hts, hX, hbl, hL, hlf, hE, hxv0, hN, hM, ho, ho2, hdis, hfa, hma, hoa⟩ := C
  obtain ⟨hI, hSd, ⟨τ, hF, hR, hT⟩, ⟨th, hMd⟩, fn, hO⟩ := hI9
  refine lv_aload_n hx hb dL_law_1504 rfl (lv_at hl 1 rfl) ?_
  refine lv_aload_n hx hb dL_law_1505 rfl (lv_at hl 0 rfl) ?_
  refine lv_iload hx hb dL_law_1506 (lv_at hl 4 rfl) ?_
  refine lv_iconst (v := nI (1)) hx hb dL_law_1508 (by decide) ?_
  refine lv_iadd hx hb dL_law_1509 ?_
  refine tp_i (nI_add _ _) ?_
  refine lw_ld (j := i + 1) hx hb hX hbl hS (by omega) hL dL_law_1510 ?_
  refine lv_aload_n hx hb dL_law_1511 rfl (lv_at hl 3 rfl) ?_
  refine lw_go (xn_SX ⟨hx, hb, hml, hown, hts⟩ (c_L_length l hlf g hI hN hR hSd hT ho (o := o) (fn := fn) (x := xs (i + 1))) gL_law_L_length rfl qL_length ⟨Nat.le_of_ble_eq_true rfl, Nat.le_of_ble_eq_true rfl⟩ ⟨(show cells + 1 ≤ 601024 by omega), (show slots + 6 ≤ 7293034 by omega)⟩ (gP_app hO hF) hE (xv_fr hxv0 hS) rfl hl.1 rfl (Nat.le_of_ble_eq_true rfl) dL_law_1512) hS (List.forall_mem_cons.mpr ⟨hoa, hfa⟩) (fun H locs fn9 hO hfn hF hk hS => ?_)
  have hMd := wM_keepO ho2 hdis hMd hk
  clear hk
  have he3 : (eP (xs (i + 1))) ≤ 3 := by
    unfold eP; (repeat' split) <;> omega
  refine lv_istore (lv' := [(5, .int (nI (eP (xs (i + 1))))), (0, .ref (b)), (1, .ref (ad 0)), (2, .ref (am 0)), (3, .ref (o)), (4, .int (nI (i)))]) hx hb dL_law_1515 hl (by decide) rfl (fun ls hl => ?_)
  refine lv_aload_n hx hb dL_law_1517 rfl (lv_at hl 3 rfl) ?_
  refine lv_aload_n hx hb dL_law_1518 rfl (lv_at hl 1 rfl) ?_
  refine lv_iload hx hb dL_law_1519 (lv_at hl 5 rfl) ?_
  refine lv_iconst (v := nI (1)) hx hb dL_law_1521 (by decide) ?_
  refine lv_iadd hx hb dL_law_1522 ?_
  refine tp_i (nI_add _ _) ?_
  refine lw_ld (j := i + 1) hx hb hX hbl hS (by omega) hL dL_law_1523 ?_
  refine wr_goS (rn_V ⟨hx, hb, hml, hown, hts⟩ (c_X5_length l g (σ := σ) hI hM (x := xs (i + 1))) gL_law_X5_length rfl pX5_length ⟨Nat.le_of_ble_eq_true rfl, Nat.le_of_ble_eq_true rfl⟩ ⟨(show cells + 1 ≤ 601024 by omega), (show slots + 6 ≤ 7293034 by omega)⟩ hMd hE rfl rfl rfl hl.1 rfl (Nat.le_of_ble_eq_true rfl) dL_law_1524) hS hma (fun H locs hB hz hk hS => ?_)
  have hMd : gP g (wM g am (oS (eP (xs (i + 1))) (σ) σ) (eP (xs (i + 1)))) H := hB
  have hF := FWq_keepM hdis hF hk
  have hO := wO_keepM ho2 hO hk
  clear hB hk hz
  refine lv_istore (lv' := [(6, .int (oI (eP (xs (i + 1))) (nI (cN (shw σ (ix (xs (i + 1)))) (sn σ))))), (5, .int (nI (eP (xs (i + 1))))), (0, .ref (b)), (1, .ref (ad 0)), (2, .ref (am 0)), (3, .ref (o)), (4, .int (nI (i)))]) hx hb dL_law_1527 hl (by decide) rfl (fun ls hl => ?_)
  refine lv_aload_n hx hb dL_law_1529 rfl (lv_at hl 4 rfl) ?_
  refine rd_goS (rn_V ⟨hx, hb, hml, hown, hts⟩ (c_X5_thrown l g) gL_law_X5_thrown rfl pX5_thrown ⟨Nat.le_of_ble_eq_true rfl, Nat.le_of_ble_eq_true rfl⟩ ⟨(show cells + 1 ≤ 601024 by omega), (show slots + 6 ≤ 7293034 by omega)⟩ hMd hE rfl rfl rfl hl.1 rfl (Nat.le_of_ble_eq_true rfl) dL_law_1530) ?_
  refine lv_iload hx hb dL_law_1533 (lv_at hl 1 rfl) ?_
  refine lv_icmp_eq (tgt := 1540) hx hb dL_law_1535 (by decide) (fun _ => ?_) (fun h9 => absurd rfl h9)
  refine lv_iload hx hb dL_law_1540 (lv_at hl 1 rfl) ?_
  refine lv_if_ne (tgt := 1557) hx hb dL_law_1542 (by decide) (fun hne => ?_) (fun heq => ?_)
  · refine lv_goto (tgt := 1679) hx hb dL_law_1557 (by decide) ?_
    exact W.widen (k := cells + 4) (n := slots + 24) (by omega) (by omega) (kk (oS (eP (xs (i + 1))) (σ) σ) H locs ls ⟨(Inv_oS (fun _ => hI) hI), (Setd_oS (fun _ => hSd) hSd), hF, ⟨_, hMd⟩, _, hO⟩ hS (lv_sub hl [2, 3, 4, 5, 6] rfl))
  · have he0 : (eP (xs (i + 1))) = 0 := (nI_z he3 heq)
    refine lv_aload_n hx hb dL_law_1545 rfl (lv_at hl 5 rfl) ?_
    refine lv_iconst (v := nI (0)) hx hb dL_law_1546 (by decide) ?_
    refine lw_lald hx hb hE hO (hfn he0) dL_law_1547 ?_
    refine lv_iload hx hb dL_law_1548 (lv_at hl 0 rfl) ?_
    refine lv_i2l hx hb dL_law_1550 rfl ?_
    refine lw_lcmp0 hx hb (by rw [he0]; try rfl) dL_law_1551 ?_
    refine br_eq0 (a := 0) (tgt := 1557) hx hb (by decide) dL_law_1552 (by decide) (fun h393 => ?_) (fun h393 => ?_)
    · refine lv_goto (tgt := 1679) hx hb dL_law_1557 (by decide) ?_
      exact W.widen (k := cells + 4) (n := slots + 24) (by omega) (by omega) (kk (oS (eP (xs (i + 1))) (σ) σ) H locs ls ⟨(Inv_oS (fun _ => hI) hI), (Setd_oS (fun _ => hSd) hSd), hF, ⟨_, hMd⟩, _, hO⟩ hS (lv_sub hl [2, 3, 4, 5, 6] rfl))
    · exact absurd h393 (by decide)
set_option maxHeartbeats 4000000 in
set_option maxRecDepth 100000 in
/-- a turn of the loop: lengthByMerging -/
theorem op_lengthByMerging {p : Program} {l : Launch} {en : Env} {s : State} {m : MethodId} {below : List Frame} {meth : Method} {c : Code} {b L : Nat} {xs : Nat → Int32} {g : GT} {ad am : Nat → Nat} {o : Nat} (C : lwC p l s m c b L xs g ad am o) {i : Nat} {H : Heap} {locs : List Loc} {cells slots : Nat} {Q : State → Prop} {σ : St} {ls : Array Slot} (hi : i + 4 ≤ L) (hI9 : lwI g ad am o σ H) (hS : va_S (frA s) s.heap H locs) (hl : lv_has ls 7 [(0, .ref (b)), (1, .ref (ad 0)), (2, .ref (am 0)), (3, .ref (o)), (4, .int (nI (i)))]) (hc : cells + 10 ≤ 601024) (hs : slots + 60 ≤ 7293034) (kk : ∀ (σ' : St) (H : Heap) (locs : List Loc) (ls : Array Slot), lwI g ad am o σ' H → va_S (frA s) s.heap H locs → lv_has ls 7 [(0, .ref (b)), (1, .ref (ad 0)), (2, .ref (am 0)), (3, .ref (o)), (4, .int (nI (i)))] → W p l en room_1 s m #[Value.ref b] below meth c H locs (cells + 4) (slots + 24) Q (F0 m 1679 ls [])) : W p l en room_1 s m #[Value.ref b] below meth c H locs cells slots Q (F0 m 1560 ls []) := by
  obtain ⟨hx, hb, hml, hown, hts, hX, hbl, hL, hlf, hE, hxv0, hN, hM, ho, ho2, hdis, hfa, hma, hoa⟩ := C
  obtain ⟨hI, hSd, ⟨τ, hF, hR, hT⟩, ⟨th, hMd⟩, fn, hO⟩ := hI9
  refine lv_aload_n hx hb dL_law_1560 rfl (lv_at hl 1 rfl) ?_
  refine lv_aload_n hx hb dL_law_1561 rfl (lv_at hl 0 rfl) ?_
  refine lv_iload hx hb dL_law_1562 (lv_at hl 4 rfl) ?_
  refine lv_iconst (v := nI (1)) hx hb dL_law_1564 (by decide) ?_
  refine lv_iadd hx hb dL_law_1565 ?_
  refine tp_i (nI_add _ _) ?_
  refine lw_ld (j := i + 1) hx hb hX hbl hS (by omega) hL dL_law_1566 ?_
  refine lv_aload_n hx hb dL_law_1567 rfl (lv_at hl 3 rfl) ?_
  refine lw_go (xn_SX ⟨hx, hb, hml, hown, hts⟩ (c_L_lengthByMerging l hlf g hI hN hR hSd hT ho (o := o) (fn := fn) (x := xs (i + 1))) gL_law_L_lengthByMerging rfl qL_lengthByMerging ⟨Nat.le_of_ble_eq_true rfl, Nat.le_of_ble_eq_true rfl⟩ ⟨(show cells + 1 ≤ 601024 by omega), (show slots + 6 ≤ 7293034 by omega)⟩ (gP_app hO hF) hE (xv_fr hxv0 hS) rfl hl.1 rfl (Nat.le_of_ble_eq_true rfl) dL_law_1568) hS (List.forall_mem_cons.mpr ⟨hoa, hfa⟩) (fun H locs fn9 hO hfn hF hk hS => ?_)
  have hMd := wM_keepO ho2 hdis hMd hk
  clear hk
  have he3 : (eP (xs (i + 1))) ≤ 3 := by
    unfold eP; (repeat' split) <;> omega
  refine lv_istore (lv' := [(5, .int (nI (eP (xs (i + 1))))), (0, .ref (b)), (1, .ref (ad 0)), (2, .ref (am 0)), (3, .ref (o)), (4, .int (nI (i)))]) hx hb dL_law_1571 hl (by decide) rfl (fun ls hl => ?_)
  refine lv_aload_n hx hb dL_law_1573 rfl (lv_at hl 3 rfl) ?_
  refine lv_aload_n hx hb dL_law_1574 rfl (lv_at hl 1 rfl) ?_
  refine lv_iload hx hb dL_law_1575 (lv_at hl 5 rfl) ?_
  refine lv_iconst (v := nI (1)) hx hb dL_law_1577 (by decide) ?_
  refine lv_iadd hx hb dL_law_1578 ?_
  refine tp_i (nI_add _ _) ?_
  refine lw_ld (j := i + 1) hx hb hX hbl hS (by omega) hL dL_law_1579 ?_
  refine wr_goS (rn_V ⟨hx, hb, hml, hown, hts⟩ (c_X5_lengthByMerging l g (σ := σ) hI hM (x := xs (i + 1))) gL_law_X5_lengthByMerging rfl pX5_lengthByMerging ⟨Nat.le_of_ble_eq_true rfl, Nat.le_of_ble_eq_true rfl⟩ ⟨(show cells + 1 ≤ 601024 by omega), (show slots + 6 ≤ 7293034 by omega)⟩ hMd hE rfl rfl rfl hl.1 rfl (Nat.le_of_ble_eq_true rfl) dL_law_1580) hS hma (fun H locs hB hz hk hS => ?_)
  have hMd : gP g (wM g am (oS (eP (xs (i + 1))) (σ) σ) (eP (xs (i + 1)))) H := hB
  have hF := FWq_keepM hdis hF hk
  have hO := wO_keepM ho2 hO hk
  clear hB hk hz
  refine lv_istore (lv' := [(6, .int (oI (eP (xs (i + 1))) (nI (cN (shw σ (ix (xs (i + 1)))) (sn σ))))), (5, .int (nI (eP (xs (i + 1))))), (0, .ref (b)), (1, .ref (ad 0)), (2, .ref (am 0)), (3, .ref (o)), (4, .int (nI (i)))]) hx hb dL_law_1583 hl (by decide) rfl (fun ls hl => ?_)
  refine lv_aload_n hx hb dL_law_1585 rfl (lv_at hl 4 rfl) ?_
  refine rd_goS (rn_V ⟨hx, hb, hml, hown, hts⟩ (c_X5_thrown l g) gL_law_X5_thrown rfl pX5_thrown ⟨Nat.le_of_ble_eq_true rfl, Nat.le_of_ble_eq_true rfl⟩ ⟨(show cells + 1 ≤ 601024 by omega), (show slots + 6 ≤ 7293034 by omega)⟩ hMd hE rfl rfl rfl hl.1 rfl (Nat.le_of_ble_eq_true rfl) dL_law_1586) ?_
  refine lv_iload hx hb dL_law_1589 (lv_at hl 1 rfl) ?_
  refine lv_icmp_eq (tgt := 1596) hx hb dL_law_1591 (by decide) (fun _ => ?_) (fun h9 => absurd rfl h9)
  refine lv_iload hx hb dL_law_1596 (lv_at hl 1 rfl) ?_
  refine lv_if_ne (tgt := 1613) hx hb dL_law_1598 (by decide) (fun hne => ?_) (fun heq => ?_)
  · refine lv_goto (tgt := 1679) hx hb dL_law_1613 (by decide) ?_
    exact W.widen (k := cells + 4) (n := slots + 24) (by omega) (by omega) (kk (oS (eP (xs (i + 1))) (σ) σ) H locs ls ⟨(Inv_oS (fun _ => hI) hI), (Setd_oS (fun _ => hSd) hSd), hF, ⟨_, hMd⟩, _, hO⟩ hS (lv_sub hl [2, 3, 4, 5, 6] rfl))
  · have he0 : (eP (xs (i + 1))) = 0 := (nI_z he3 heq)
    refine lv_aload_n hx hb dL_law_1601 rfl (lv_at hl 5 rfl) ?_
    refine lv_iconst (v := nI (0)) hx hb dL_law_1602 (by decide) ?_
    refine lw_lald hx hb hE hO (hfn he0) dL_law_1603 ?_
    refine lv_iload hx hb dL_law_1604 (lv_at hl 0 rfl) ?_
    refine lv_i2l hx hb dL_law_1606 rfl ?_
    refine lw_lcmp0 hx hb (by rw [he0]; try rfl) dL_law_1607 ?_
    refine br_eq0 (a := 0) (tgt := 1613) hx hb (by decide) dL_law_1608 (by decide) (fun h394 => ?_) (fun h394 => ?_)
    · refine lv_goto (tgt := 1679) hx hb dL_law_1613 (by decide) ?_
      exact W.widen (k := cells + 4) (n := slots + 24) (by omega) (by omega) (kk (oS (eP (xs (i + 1))) (σ) σ) H locs ls ⟨(Inv_oS (fun _ => hI) hI), (Setd_oS (fun _ => hSd) hSd), hF, ⟨_, hMd⟩, _, hO⟩ hS (lv_sub hl [2, 3, 4, 5, 6] rfl))
    · exact absurd h394 (by decide)
set_option maxHeartbeats 4000000 in
set_option maxRecDepth 100000 in
/-- a turn of the loop: hasGap -/
theorem op_hasGap {p : Program} {l : Launch} {en : Env} {s : State} {m : MethodId} {below : List Frame} {meth : Method} {c : Code} {b L : Nat} {xs : Nat → Int32} {g : GT} {ad am : Nat → Nat} {o : Nat} (C : lwC p l s m c b L xs g ad am o) {i : Nat} {H : Heap} {locs : List Loc} {cells slots : Nat} {Q : State → Prop} {σ : St} {ls : Array Slot} (hi : i + 4 ≤ L) (hI9 : lwI g ad am o σ H) (hS : va_S (frA s) s.heap H locs) (hl : lv_has ls 7 [(0, .ref (b)), (1, .ref (ad 0)), (2, .ref (am 0)), (3, .ref (o)), (4, .int (nI (i)))]) (hc : cells + 10 ≤ 601024) (hs : slots + 60 ≤ 7293034) (kk : ∀ (σ' : St) (H : Heap) (locs : List Loc) (ls : Array Slot), lwI g ad am o σ' H → va_S (frA s) s.heap H locs → lv_has ls 7 [(0, .ref (b)), (1, .ref (ad 0)), (2, .ref (am 0)), (3, .ref (o)), (4, .int (nI (i)))] → W p l en room_1 s m #[Value.ref b] below meth c H locs (cells + 4) (slots + 24) Q (F0 m 1679 ls [])) : W p l en room_1 s m #[Value.ref b] below meth c H locs cells slots Q (F0 m 1616 ls []) := by
  obtain ⟨hx, hb, hml, hown, hts, hX, hbl, hL, hlf, hE, hxv0, hN, hM, ho, ho2, hdis, hfa, hma, hoa⟩ := C
  obtain ⟨hI, hSd, ⟨τ, hF, hR, hT⟩, ⟨th, hMd⟩, fn, hO⟩ := hI9
  refine lv_aload_n hx hb dL_law_1616 rfl (lv_at hl 1 rfl) ?_
  refine lv_aload_n hx hb dL_law_1617 rfl (lv_at hl 0 rfl) ?_
  refine lv_iload hx hb dL_law_1618 (lv_at hl 4 rfl) ?_
  refine lv_iconst (v := nI (1)) hx hb dL_law_1620 (by decide) ?_
  refine lv_iadd hx hb dL_law_1621 ?_
  refine tp_i (nI_add _ _) ?_
  refine lw_ld (j := i + 1) hx hb hX hbl hS (by omega) hL dL_law_1622 ?_
  refine lv_aload_n hx hb dL_law_1623 rfl (lv_at hl 3 rfl) ?_
  refine lw_go (xn_SX ⟨hx, hb, hml, hown, hts⟩ (c_L_hasGap l hlf g hI hN hR hSd hT ho (o := o) (fn := fn) (x := xs (i + 1))) gL_law_L_hasGap rfl qL_hasGap ⟨Nat.le_of_ble_eq_true rfl, Nat.le_of_ble_eq_true rfl⟩ ⟨(show cells + 1 ≤ 601024 by omega), (show slots + 6 ≤ 7293034 by omega)⟩ (gP_app hO hF) hE (xv_fr hxv0 hS) rfl hl.1 rfl (Nat.le_of_ble_eq_true rfl) dL_law_1624) hS (List.forall_mem_cons.mpr ⟨hoa, hfa⟩) (fun H locs fn9 hO hfn hF hk hS => ?_)
  have hMd := wM_keepO ho2 hdis hMd hk
  clear hk
  have he3 : (eP (xs (i + 1))) ≤ 3 := by
    unfold eP; (repeat' split) <;> omega
  refine lv_istore (lv' := [(5, .int (nI (eP (xs (i + 1))))), (0, .ref (b)), (1, .ref (ad 0)), (2, .ref (am 0)), (3, .ref (o)), (4, .int (nI (i)))]) hx hb dL_law_1627 hl (by decide) rfl (fun ls hl => ?_)
  refine lv_aload_n hx hb dL_law_1629 rfl (lv_at hl 3 rfl) ?_
  refine lv_aload_n hx hb dL_law_1630 rfl (lv_at hl 1 rfl) ?_
  refine lv_iload hx hb dL_law_1631 (lv_at hl 5 rfl) ?_
  refine lv_iconst (v := nI (1)) hx hb dL_law_1633 (by decide) ?_
  refine lv_iadd hx hb dL_law_1634 ?_
  refine tp_i (nI_add _ _) ?_
  refine lw_ld (j := i + 1) hx hb hX hbl hS (by omega) hL dL_law_1635 ?_
  refine wr_goS (rn_V ⟨hx, hb, hml, hown, hts⟩ (c_X5_hasGap l g (σ := σ) hI hM (x := xs (i + 1))) gL_law_X5_hasGap rfl pX5_hasGap ⟨Nat.le_of_ble_eq_true rfl, Nat.le_of_ble_eq_true rfl⟩ ⟨(show cells + 1 ≤ 601024 by omega), (show slots + 6 ≤ 7293034 by omega)⟩ hMd hE rfl rfl rfl hl.1 rfl (Nat.le_of_ble_eq_true rfl) dL_law_1636) hS hma (fun H locs hB hz hk hS => ?_)
  have hMd : gP g (wM g am (oS (eP (xs (i + 1))) (σ) σ) (eP (xs (i + 1)))) H := hB
  have hF := FWq_keepM hdis hF hk
  have hO := wO_keepM ho2 hO hk
  clear hB hk hz
  refine lv_istore (lv' := [(6, .int (bI (oB (eP (xs (i + 1))) (rGap σ (ix (xs (i + 1))))))), (5, .int (nI (eP (xs (i + 1))))), (0, .ref (b)), (1, .ref (ad 0)), (2, .ref (am 0)), (3, .ref (o)), (4, .int (nI (i)))]) hx hb dL_law_1639 hl (by decide) rfl (fun ls hl => ?_)
  refine lv_aload_n hx hb dL_law_1641 rfl (lv_at hl 4 rfl) ?_
  refine rd_goS (rn_V ⟨hx, hb, hml, hown, hts⟩ (c_X5_thrown l g) gL_law_X5_thrown rfl pX5_thrown ⟨Nat.le_of_ble_eq_true rfl, Nat.le_of_ble_eq_true rfl⟩ ⟨(show cells + 1 ≤ 601024 by omega), (show slots + 6 ≤ 7293034 by omega)⟩ hMd hE rfl rfl rfl hl.1 rfl (Nat.le_of_ble_eq_true rfl) dL_law_1642) ?_
  refine lv_iload hx hb dL_law_1645 (lv_at hl 1 rfl) ?_
  refine lv_icmp_eq (tgt := 1652) hx hb dL_law_1647 (by decide) (fun _ => ?_) (fun h9 => absurd rfl h9)
  refine lv_iload hx hb dL_law_1652 (lv_at hl 1 rfl) ?_
  refine lv_if_ne (tgt := 1676) hx hb dL_law_1654 (by decide) (fun hne => ?_) (fun heq => ?_)
  · refine lv_goto (tgt := 1679) hx hb dL_law_1676 (by decide) ?_
    exact W.widen (k := cells + 4) (n := slots + 24) (by omega) (by omega) (kk (oS (eP (xs (i + 1))) (σ) σ) H locs ls ⟨(Inv_oS (fun _ => hI) hI), (Setd_oS (fun _ => hSd) hSd), hF, ⟨_, hMd⟩, _, hO⟩ hS (lv_sub hl [2, 3, 4, 5, 6] rfl))
  · have he0 : (eP (xs (i + 1))) = 0 := (nI_z he3 heq)
    refine lv_aload_n hx hb dL_law_1657 rfl (lv_at hl 5 rfl) ?_
    refine lv_iconst (v := nI (0)) hx hb dL_law_1658 (by decide) ?_
    refine lw_lald hx hb hE hO (hfn he0) dL_law_1659 ?_
    refine lv_iload hx hb dL_law_1660 (lv_at hl 0 rfl) ?_
    refine br_eqB (tgt := 1669) hx hb dL_law_1662 (by decide) (fun h395 => ?_) (fun h395 => ?_)
    · refine lv_lconst (v := 0) hx hb dL_law_1669 (by decide) ?_
      refine lw_lcmp0 hx hb (by rw [he0] at h395; rw [show rGap σ (ix (xs (i + 1))) = false from h395]; try rfl) dL_law_1670 ?_
      refine br_eq0 (a := 0) (tgt := 1676) hx hb (by decide) dL_law_1671 (by decide) (fun h396 => ?_) (fun h396 => ?_)
      · refine lv_goto (tgt := 1679) hx hb dL_law_1676 (by decide) ?_
        exact W.widen (k := cells + 4) (n := slots + 24) (by omega) (by omega) (kk (oS (eP (xs (i + 1))) (σ) σ) H locs ls ⟨(Inv_oS (fun _ => hI) hI), (Setd_oS (fun _ => hSd) hSd), hF, ⟨_, hMd⟩, _, hO⟩ hS (lv_sub hl [2, 3, 4, 5, 6] rfl))
      · exact absurd h396 (by decide)
    · refine lv_lconst (v := 1) hx hb dL_law_1665 (by decide) ?_
      refine lv_goto (tgt := 1670) hx hb dL_law_1666 (by decide) ?_
      refine lw_lcmp0 hx hb (by rw [he0] at h395; rw [show rGap σ (ix (xs (i + 1))) = true from h395]; try rfl) dL_law_1670 ?_
      refine br_eq0 (a := 0) (tgt := 1676) hx hb (by decide) dL_law_1671 (by decide) (fun h397 => ?_) (fun h397 => ?_)
      · refine lv_goto (tgt := 1679) hx hb dL_law_1676 (by decide) ?_
        exact W.widen (k := cells + 4) (n := slots + 24) (by omega) (by omega) (kk (oS (eP (xs (i + 1))) (σ) σ) H locs ls ⟨(Inv_oS (fun _ => hI) hI), (Setd_oS (fun _ => hSd) hSd), hF, ⟨_, hMd⟩, _, hO⟩ hS (lv_sub hl [2, 3, 4, 5, 6] rfl))
      · exact absurd h397 (by decide)
