theorem tp_j {p : Program} {l : Launch} {e : Env} {R : Room} {s : State} {m : MethodId} {args : Array Value} {below : List Frame} {meth : Method} {c : Code} {H : Heap} {locs : List Loc} {cells slots : Nat} {Q : State → Prop} {pc : Nat} {a b : Int64} {ls : Array Slot} {rest : List Value} (h : a = b) (k : W p l e R s m args below meth c H locs cells slots Q (F0 m pc ls (.long b :: rest))) : W p l e R s m args below meth c H locs cells slots Q (F0 m pc ls (.long a :: rest)) := by
  rw [h]; exact k
theorem lw_apart {g : GT} {ad : Nat → Nat} {o : Nat} {fn : Nat → Int64} (ho : ¬ o ∈ fA ad) : ∀ z ∈ adr (wO g o fn), z ∉ fA ad := fun z hz => by
  have h9 : z = o := by simpa [wO, adr] using hz
  rw [h9]; exact ho
set_option maxHeartbeats 4000000 in
set_option maxRecDepth 100000 in
/-- follow of the law: calls, catches, tells the place -/
theorem c_L_follow (l : Launch) (hlf : l.stackTraces = false) (g : GT) {ad : Nat → Nat} {σ : St} {τ : Sc} (hI : Inv σ) (hN : FN ad 31) (hR : rowsOk σ τ 8) (hSd : Setd σ) (hT : tc τ ≤ 150) {o : Nat} {fn : Nat → Int64} (ho : ¬ o ∈ fA ad) {x y : Int32} : lwM l g yL_follow wsL_follow 8 178 4 24 [.ref (ad 0), .int (x), .int (y), .ref (o)] ad o fn σ τ (eFol σ x y) (eFol σ x y) (oS (eFol σ x y) (nFol σ x y) σ) ((nI (rFol σ x y)).toInt64) := by
  refine lw_of (cc := cL_follow) (maxL := 5) (ret := (some .int)) (by decide) rfl (Nat.le_of_ble_eq_true rfl) (fun p en s m below meth c ls hx hb hr hml hts hown hlocks htab hl hP hE hxv hS => ?_)
  have hl : lv_has ls 5 [(0, .ref (ad 0)), (1, .int (x)), (2, .int (y)), (3, .ref (o))] := hl
  have hown : s.vm.findClass RL = some m.cls := hown
  refine lv_aload_n hx hb dL_follow_0 rfl (lv_at hl 3 rfl) ?_
  refine lv_iconst (v := nI (0)) hx hb dL_follow_1 (by decide) ?_
  refine lv_aload_n hx hb dL_follow_2 rfl (lv_at hl 0 rfl) ?_
  refine lv_iload_n hx hb dL_follow_3 rfl (lv_at hl 1 rfl) ?_
  refine lv_iload_n hx hb dL_follow_4 rfl (lv_at hl 2 rfl) ?_
  refine lw_goW (xn_V ⟨hx, hb, hml, hown, hts⟩ (c_X4_follow l hlf g hI hN hR hSd hT (x := x) (y := y)) gL_follow_X4_follow rfl pX4_follow ⟨Nat.le_of_ble_eq_true rfl, Nat.le_of_ble_eq_true rfl⟩ ⟨Nat.le_of_ble_eq_true rfl, Nat.le_of_ble_eq_true rfl⟩ (gP_r hP) hE hxv rfl rfl rfl hl.1 rfl (Nat.le_of_ble_eq_true rfl) dL_follow_5) hS (fun z h => List.mem_cons_of_mem _ h) (fun he0 H locs hB hz hk hS => ?_) (fun he0 H locs q ce hz hk hS hce hcv hcl => ?_)
  · have hO : gP g (wO g o fn) H := P_keep (gP_l hP) (lw_apart ho) hk
    have hF : FWq g ad (oS (eFol σ x y) (nFol σ x y) σ) H := by
      unfold oS; rw [if_pos he0]; exact hB
    refine lv_i2l hx hb dL_follow_8 rfl ?_
    refine lw_last hx hb hE hN ho hO hF hS dL_follow_9 (fun H locs fn9 hO hfn hF hS => ?_)
    refine lv_goto (tgt := 25) hx hb dL_follow_10 (by decide) ?_
    refine lv_iconst (v := nI (0)) hx hb dL_follow_25 (by decide) ?_
    exact lwo_ret hx hb hr hlocks hS hO (fun _ => hfn) hF (by rw [he0]; try rfl) (Nat.le_of_ble_eq_true rfl) (Nat.le_of_ble_eq_true rfl) dL_follow_26
  · have hO := gP_same (gP_l hP) hk
    have hF : FWq g ad (oS (eFol σ x y) (nFol σ x y) σ) H := by
      unfold oS; rw [if_neg he0]; exact ⟨τ, gP_same (gP_r hP) hk, hR, hT⟩
    have h8 : (eFol σ x y) = 0 ∨ (eFol σ x y) = 1 ∨ (eFol σ x y) = 2 ∨ (eFol σ x y) = 3 := by
      unfold eFol; (repeat' split) <;> omega
    rcases h8 with h8 | h8 | h8 | h8
    · exact absurd h8 he0
    · rw [h8] at hcl
      refine vx_catch (E := exN 1) (name := exN 1) (own := RL) hown [] { startPc := 0, endPc := 10, handlerPc := 13, catchType := 13 } [{ startPc := 0, endPc := 10, handlerPc := 17, catchType := 15 }, { startPc := 0, endPc := 10, handlerPc := 21, catchType := 17 }] htab (fun z hz => by cases hz) rfl (by decide) (hts (.classLink RL 13 (exN 1)) (by decide +kernel)) (lw_cast hE (Or.inl rfl)) hce hcv hcl ?_
      refine lv_astore (lv' := [(4, .ref (q)), (0, .ref (ad 0)), (1, .int (x)), (2, .int (y)), (3, .ref (o))]) hx hb dL_follow_13 hl (by decide) rfl (fun ls hl => ?_)
      refine lv_iconst (v := nI (1)) hx hb dL_follow_15 (by decide) ?_
      exact lwo_ret hx hb hr hlocks hS hO (fun z => absurd z he0) hF (by rw [h8]; try rfl) (Nat.le_of_ble_eq_true rfl) (Nat.le_of_ble_eq_true rfl) dL_follow_16
    · rw [h8] at hcl
      refine vx_catch (E := exN 2) (name := exN 2) (own := RL) hown [{ startPc := 0, endPc := 10, handlerPc := 13, catchType := 13 }] { startPc := 0, endPc := 10, handlerPc := 17, catchType := 15 } [{ startPc := 0, endPc := 10, handlerPc := 21, catchType := 17 }] htab (List.forall_mem_cons.mpr ⟨Or.inr ⟨by decide, exN 1, hts (.classLink RL 13 (exN 1)) (by decide +kernel), hE.2.2.2.2 (exN 2, exN 1) (by decide +kernel)⟩, (fun z hz => by cases hz)⟩) rfl (by decide) (hts (.classLink RL 15 (exN 2)) (by decide +kernel)) (lw_cast hE (Or.inr (Or.inl rfl))) hce hcv hcl ?_
      refine lv_astore (lv' := [(4, .ref (q)), (0, .ref (ad 0)), (1, .int (x)), (2, .int (y)), (3, .ref (o))]) hx hb dL_follow_17 hl (by decide) rfl (fun ls hl => ?_)
      refine lv_iconst (v := nI (2)) hx hb dL_follow_19 (by decide) ?_
      exact lwo_ret hx hb hr hlocks hS hO (fun z => absurd z he0) hF (by rw [h8]; try rfl) (Nat.le_of_ble_eq_true rfl) (Nat.le_of_ble_eq_true rfl) dL_follow_20
    · rw [h8] at hcl
      refine vx_catch (E := exN 3) (name := exN 3) (own := RL) hown [{ startPc := 0, endPc := 10, handlerPc := 13, catchType := 13 }, { startPc := 0, endPc := 10, handlerPc := 17, catchType := 15 }] { startPc := 0, endPc := 10, handlerPc := 21, catchType := 17 } [] htab (List.forall_mem_cons.mpr ⟨Or.inr ⟨by decide, exN 1, hts (.classLink RL 13 (exN 1)) (by decide +kernel), hE.2.2.2.2 (exN 3, exN 1) (by decide +kernel)⟩, (List.forall_mem_cons.mpr ⟨Or.inr ⟨by decide, exN 2, hts (.classLink RL 15 (exN 2)) (by decide +kernel), hE.2.2.2.2 (exN 3, exN 2) (by decide +kernel)⟩, (fun z hz => by cases hz)⟩)⟩) rfl (by decide) (hts (.classLink RL 17 (exN 3)) (by decide +kernel)) (lw_cast hE (Or.inr (Or.inr rfl))) hce hcv hcl ?_
      refine lv_astore (lv' := [(4, .ref (q)), (0, .ref (ad 0)), (1, .int (x)), (2, .int (y)), (3, .ref (o))]) hx hb dL_follow_21 hl (by decide) rfl (fun ls hl => ?_)
      refine lv_iconst (v := nI (3)) hx hb dL_follow_23 (by decide) ?_
      exact lwo_ret hx hb hr hlocks hS hO (fun z => absurd z he0) hF (by rw [h8]; try rfl) (Nat.le_of_ble_eq_true rfl) (Nat.le_of_ble_eq_true rfl) dL_follow_24
set_option maxHeartbeats 4000000 in
set_option maxRecDepth 100000 in
/-- unfollow of the law: calls, catches, tells the place -/
theorem c_L_unfollow (l : Launch) (hlf : l.stackTraces = false) (g : GT) {ad : Nat → Nat} {σ : St} {τ : Sc} (hI : Inv σ) (hN : FN ad 31) (hR : rowsOk σ τ 8) (hSd : Setd σ) (hT : tc τ ≤ 150) {o : Nat} {fn : Nat → Int64} (ho : ¬ o ∈ fA ad) {x y : Int32} : lwM l g yL_unfollow wsL_unfollow 8 178 3 18 [.ref (ad 0), .int (x), .int (y), .ref (o)] ad o fn σ τ (eUnf σ x y) (pl2 (eUnf σ x y)) (oS (eUnf σ x y) (nUnf σ x y) σ) ((nI (rUnf σ x y)).toInt64) := by
  refine lw_of (cc := cL_unfollow) (maxL := 5) (ret := (some .int)) (by decide) rfl (Nat.le_of_ble_eq_true rfl) (fun p en s m below meth c ls hx hb hr hml hts hown hlocks htab hl hP hE hxv hS => ?_)
  have hl : lv_has ls 5 [(0, .ref (ad 0)), (1, .int (x)), (2, .int (y)), (3, .ref (o))] := hl
  have hown : s.vm.findClass RL = some m.cls := hown
  refine lv_aload_n hx hb dL_unfollow_0 rfl (lv_at hl 3 rfl) ?_
  refine lv_iconst (v := nI (0)) hx hb dL_unfollow_1 (by decide) ?_
  refine lv_aload_n hx hb dL_unfollow_2 rfl (lv_at hl 0 rfl) ?_
  refine lv_iload_n hx hb dL_unfollow_3 rfl (lv_at hl 1 rfl) ?_
  refine lv_iload_n hx hb dL_unfollow_4 rfl (lv_at hl 2 rfl) ?_
  refine lw_goW (xn_V ⟨hx, hb, hml, hown, hts⟩ (c_X4_unfollow l hlf g hI hN hR hSd hT (x := x) (y := y)) gL_unfollow_X4_unfollow rfl pX4_unfollow ⟨Nat.le_of_ble_eq_true rfl, Nat.le_of_ble_eq_true rfl⟩ ⟨Nat.le_of_ble_eq_true rfl, Nat.le_of_ble_eq_true rfl⟩ (gP_r hP) hE hxv rfl rfl rfl hl.1 rfl (Nat.le_of_ble_eq_true rfl) dL_unfollow_5) hS (fun z h => List.mem_cons_of_mem _ h) (fun he0 H locs hB hz hk hS => ?_) (fun he0 H locs q ce hz hk hS hce hcv hcl => ?_)
  · have hO : gP g (wO g o fn) H := P_keep (gP_l hP) (lw_apart ho) hk
    have hF : FWq g ad (oS (eUnf σ x y) (nUnf σ x y) σ) H := by
      unfold oS; rw [if_pos he0]; exact hB
    refine lv_i2l hx hb dL_unfollow_8 rfl ?_
    refine lw_last hx hb hE hN ho hO hF hS dL_unfollow_9 (fun H locs fn9 hO hfn hF hS => ?_)
    refine lv_goto (tgt := 21) hx hb dL_unfollow_10 (by decide) ?_
    refine lv_iconst (v := nI (0)) hx hb dL_unfollow_21 (by decide) ?_
    exact lwo_ret hx hb hr hlocks hS hO (fun _ => hfn) hF (by rw [he0]; try rfl) (Nat.le_of_ble_eq_true rfl) (Nat.le_of_ble_eq_true rfl) dL_unfollow_22
  · have hO := gP_same (gP_l hP) hk
    have hF : FWq g ad (oS (eUnf σ x y) (nUnf σ x y) σ) H := by
      unfold oS; rw [if_neg he0]; exact ⟨τ, gP_same (gP_r hP) hk, hR, hT⟩
    have h8 : (eUnf σ x y) = 0 ∨ (eUnf σ x y) = 1 ∨ (eUnf σ x y) = 3 := by
      unfold eUnf; (repeat' split) <;> omega
    rcases h8 with h8 | h8 | h8
    · exact absurd h8 he0
    · rw [h8] at hcl
      refine vx_catch (E := exN 1) (name := exN 1) (own := RL) hown [] { startPc := 0, endPc := 10, handlerPc := 13, catchType := 13 } [{ startPc := 0, endPc := 10, handlerPc := 17, catchType := 17 }] htab (fun z hz => by cases hz) rfl (by decide) (hts (.classLink RL 13 (exN 1)) (by decide +kernel)) (lw_cast hE (Or.inl rfl)) hce hcv hcl ?_
      refine lv_astore (lv' := [(4, .ref (q)), (0, .ref (ad 0)), (1, .int (x)), (2, .int (y)), (3, .ref (o))]) hx hb dL_unfollow_13 hl (by decide) rfl (fun ls hl => ?_)
      refine lv_iconst (v := nI (1)) hx hb dL_unfollow_15 (by decide) ?_
      exact lwo_ret hx hb hr hlocks hS hO (fun z => absurd z he0) hF (by rw [h8]; try rfl) (Nat.le_of_ble_eq_true rfl) (Nat.le_of_ble_eq_true rfl) dL_unfollow_16
    · rw [h8] at hcl
      refine vx_catch (E := exN 3) (name := exN 3) (own := RL) hown [{ startPc := 0, endPc := 10, handlerPc := 13, catchType := 13 }] { startPc := 0, endPc := 10, handlerPc := 17, catchType := 17 } [] htab (List.forall_mem_cons.mpr ⟨Or.inr ⟨by decide, exN 1, hts (.classLink RL 13 (exN 1)) (by decide +kernel), hE.2.2.2.2 (exN 3, exN 1) (by decide +kernel)⟩, (fun z hz => by cases hz)⟩) rfl (by decide) (hts (.classLink RL 17 (exN 3)) (by decide +kernel)) (lw_cast hE (Or.inr (Or.inr rfl))) hce hcv hcl ?_
      refine lv_astore (lv' := [(4, .ref (q)), (0, .ref (ad 0)), (1, .int (x)), (2, .int (y)), (3, .ref (o))]) hx hb dL_unfollow_17 hl (by decide) rfl (fun ls hl => ?_)
      refine lv_iconst (v := nI (2)) hx hb dL_unfollow_19 (by decide) ?_
      exact lwo_ret hx hb hr hlocks hS hO (fun z => absurd z he0) hF (by rw [h8]; try rfl) (Nat.le_of_ble_eq_true rfl) (Nat.le_of_ble_eq_true rfl) dL_unfollow_20
set_option maxHeartbeats 4000000 in
set_option maxRecDepth 100000 in
/-- mute of the law: calls, catches, tells the place -/
theorem c_L_mute (l : Launch) (hlf : l.stackTraces = false) (g : GT) {ad : Nat → Nat} {σ : St} {τ : Sc} (hI : Inv σ) (hN : FN ad 31) (hR : rowsOk σ τ 8) (hSd : Setd σ) (hT : tc τ ≤ 150) {o : Nat} {fn : Nat → Int64} (ho : ¬ o ∈ fA ad) {x y : Int32} {v : Bool} : lwM l g yL_mute wsL_mute 8 135 3 18 [.ref (ad 0), .int (x), .int (y), .int (bI (v)), .ref (o)] ad o fn σ τ (eMut x y) (eMut x y) (oS (eMut x y) (nMut σ x y v) σ) (bL (sM σ (8 * ix x + ix y))) := by
  refine lw_of (cc := cL_mute) (maxL := 6) (ret := (some .int)) (by decide) rfl (Nat.le_of_ble_eq_true rfl) (fun p en s m below meth c ls hx hb hr hml hts hown hlocks htab hl hP hE hxv hS => ?_)
  have hl : lv_has ls 6 [(0, .ref (ad 0)), (1, .int (x)), (2, .int (y)), (3, .int (bI (v))), (4, .ref (o))] := hl
  have hown : s.vm.findClass RL = some m.cls := hown
  refine lv_aload hx hb dL_mute_0 (lv_at hl 4 rfl) ?_
  refine lv_iconst (v := nI (0)) hx hb dL_mute_2 (by decide) ?_
  refine lv_aload_n hx hb dL_mute_3 rfl (lv_at hl 0 rfl) ?_
  refine lv_iload_n hx hb dL_mute_4 rfl (lv_at hl 1 rfl) ?_
  refine lv_iload_n hx hb dL_mute_5 rfl (lv_at hl 2 rfl) ?_
  refine lv_iload_n hx hb dL_mute_6 rfl (lv_at hl 3 rfl) ?_
  refine lw_goW (xn_V ⟨hx, hb, hml, hown, hts⟩ (c_X4_mute l hlf g hI hN hR hSd hT (x := x) (y := y) (v := v)) gL_mute_X4_mute rfl pX4_mute ⟨Nat.le_of_ble_eq_true rfl, Nat.le_of_ble_eq_true rfl⟩ ⟨Nat.le_of_ble_eq_true rfl, Nat.le_of_ble_eq_true rfl⟩ (gP_r hP) hE hxv rfl rfl rfl hl.1 rfl (Nat.le_of_ble_eq_true rfl) dL_mute_7) hS (fun z h => List.mem_cons_of_mem _ h) (fun he0 H locs hB hz hk hS => ?_) (fun he0 H locs q ce hz hk hS hce hcv hcl => ?_)
  · have hO : gP g (wO g o fn) H := P_keep (gP_l hP) (lw_apart ho) hk
    have hF : FWq g ad (oS (eMut x y) (nMut σ x y v) σ) H := by
      unfold oS; rw [if_pos he0]; exact hB
    refine br_eqB (tgt := 17) hx hb dL_mute_10 (by decide) (fun h345 => ?_) (fun h345 => ?_)
    · refine lv_lconst (v := 0) hx hb dL_mute_17 (by decide) ?_
      refine tp_j (b := bL (sM σ (8 * ix x + ix y))) (by rw [h345]; try rfl) ?_
      refine lw_last hx hb hE hN ho hO hF hS dL_mute_18 (fun H locs fn9 hO hfn hF hS => ?_)
      refine lv_goto (tgt := 30) hx hb dL_mute_19 (by decide) ?_
      refine lv_iconst (v := nI (0)) hx hb dL_mute_30 (by decide) ?_
      exact lwo_ret hx hb hr hlocks hS hO (fun _ => hfn) hF (by rw [he0]; try rfl) (Nat.le_of_ble_eq_true rfl) (Nat.le_of_ble_eq_true rfl) dL_mute_31
    · refine lv_lconst (v := 1) hx hb dL_mute_13 (by decide) ?_
      refine lv_goto (tgt := 18) hx hb dL_mute_14 (by decide) ?_
      refine tp_j (b := bL (sM σ (8 * ix x + ix y))) (by rw [h345]; try rfl) ?_
      refine lw_last hx hb hE hN ho hO hF hS dL_mute_18 (fun H locs fn9 hO hfn hF hS => ?_)
      refine lv_goto (tgt := 30) hx hb dL_mute_19 (by decide) ?_
      refine lv_iconst (v := nI (0)) hx hb dL_mute_30 (by decide) ?_
      exact lwo_ret hx hb hr hlocks hS hO (fun _ => hfn) hF (by rw [he0]; try rfl) (Nat.le_of_ble_eq_true rfl) (Nat.le_of_ble_eq_true rfl) dL_mute_31
  · have hO := gP_same (gP_l hP) hk
    have hF : FWq g ad (oS (eMut x y) (nMut σ x y v) σ) H := by
      unfold oS; rw [if_neg he0]; exact ⟨τ, gP_same (gP_r hP) hk, hR, hT⟩
    have h8 : (eMut x y) = 0 ∨ (eMut x y) = 1 ∨ (eMut x y) = 2 := by
      unfold eMut; (repeat' split) <;> omega
    rcases h8 with h8 | h8 | h8
    · exact absurd h8 he0
    · rw [h8] at hcl
      refine vx_catch (E := exN 1) (name := exN 1) (own := RL) hown [] { startPc := 0, endPc := 19, handlerPc := 22, catchType := 13 } [{ startPc := 0, endPc := 19, handlerPc := 26, catchType := 15 }] htab (fun z hz => by cases hz) rfl (by decide) (hts (.classLink RL 13 (exN 1)) (by decide +kernel)) (lw_cast hE (Or.inl rfl)) hce hcv hcl ?_
      refine lv_astore (lv' := [(5, .ref (q)), (0, .ref (ad 0)), (1, .int (x)), (2, .int (y)), (3, .int (bI (v))), (4, .ref (o))]) hx hb dL_mute_22 hl (by decide) rfl (fun ls hl => ?_)
      refine lv_iconst (v := nI (1)) hx hb dL_mute_24 (by decide) ?_
      exact lwo_ret hx hb hr hlocks hS hO (fun z => absurd z he0) hF (by rw [h8]; try rfl) (Nat.le_of_ble_eq_true rfl) (Nat.le_of_ble_eq_true rfl) dL_mute_25
    · rw [h8] at hcl
      refine vx_catch (E := exN 2) (name := exN 2) (own := RL) hown [{ startPc := 0, endPc := 19, handlerPc := 22, catchType := 13 }] { startPc := 0, endPc := 19, handlerPc := 26, catchType := 15 } [] htab (List.forall_mem_cons.mpr ⟨Or.inr ⟨by decide, exN 1, hts (.classLink RL 13 (exN 1)) (by decide +kernel), hE.2.2.2.2 (exN 2, exN 1) (by decide +kernel)⟩, (fun z hz => by cases hz)⟩) rfl (by decide) (hts (.classLink RL 15 (exN 2)) (by decide +kernel)) (lw_cast hE (Or.inr (Or.inl rfl))) hce hcv hcl ?_
      refine lv_astore (lv' := [(5, .ref (q)), (0, .ref (ad 0)), (1, .int (x)), (2, .int (y)), (3, .int (bI (v))), (4, .ref (o))]) hx hb dL_mute_26 hl (by decide) rfl (fun ls hl => ?_)
      refine lv_iconst (v := nI (2)) hx hb dL_mute_28 (by decide) ?_
      exact lwo_ret hx hb hr hlocks hS hO (fun z => absurd z he0) hF (by rw [h8]; try rfl) (Nat.le_of_ble_eq_true rfl) (Nat.le_of_ble_eq_true rfl) dL_mute_29
set_option maxHeartbeats 4000000 in
set_option maxRecDepth 100000 in
/-- block of the law: calls, catches, tells the place -/
theorem c_L_block (l : Launch) (hlf : l.stackTraces = false) (g : GT) {ad : Nat → Nat} {σ : St} {τ : Sc} (hI : Inv σ) (hN : FN ad 31) (hR : rowsOk σ τ 8) (hSd : Setd σ) (hT : tc τ ≤ 150) {o : Nat} {fn : Nat → Int64} (ho : ¬ o ∈ fA ad) {x y : Int32} {v : Bool} : lwM l g yL_block wsL_block 8 180 3 18 [.ref (ad 0), .int (x), .int (y), .int (bI (v)), .ref (o)] ad o fn σ τ (eMut x y) (eMut x y) (oS (eMut x y) (nBlk σ x y v) σ) (bL (sB σ (8 * ix x + ix y))) := by
  refine lw_of (cc := cL_block) (maxL := 6) (ret := (some .int)) (by decide) rfl (Nat.le_of_ble_eq_true rfl) (fun p en s m below meth c ls hx hb hr hml hts hown hlocks htab hl hP hE hxv hS => ?_)
  have hl : lv_has ls 6 [(0, .ref (ad 0)), (1, .int (x)), (2, .int (y)), (3, .int (bI (v))), (4, .ref (o))] := hl
  have hown : s.vm.findClass RL = some m.cls := hown
  refine lv_aload hx hb dL_block_0 (lv_at hl 4 rfl) ?_
  refine lv_iconst (v := nI (0)) hx hb dL_block_2 (by decide) ?_
  refine lv_aload_n hx hb dL_block_3 rfl (lv_at hl 0 rfl) ?_
  refine lv_iload_n hx hb dL_block_4 rfl (lv_at hl 1 rfl) ?_
  refine lv_iload_n hx hb dL_block_5 rfl (lv_at hl 2 rfl) ?_
  refine lv_iload_n hx hb dL_block_6 rfl (lv_at hl 3 rfl) ?_
  refine lw_goW (xn_V ⟨hx, hb, hml, hown, hts⟩ (c_X4_block l hlf g hI hN hR hSd hT (x := x) (y := y) (v := v)) gL_block_X4_block rfl pX4_block ⟨Nat.le_of_ble_eq_true rfl, Nat.le_of_ble_eq_true rfl⟩ ⟨Nat.le_of_ble_eq_true rfl, Nat.le_of_ble_eq_true rfl⟩ (gP_r hP) hE hxv rfl rfl rfl hl.1 rfl (Nat.le_of_ble_eq_true rfl) dL_block_7) hS (fun z h => List.mem_cons_of_mem _ h) (fun he0 H locs hB hz hk hS => ?_) (fun he0 H locs q ce hz hk hS hce hcv hcl => ?_)
  · have hO : gP g (wO g o fn) H := P_keep (gP_l hP) (lw_apart ho) hk
    have hF : FWq g ad (oS (eMut x y) (nBlk σ x y v) σ) H := by
      unfold oS; rw [if_pos he0]; exact hB
    refine br_eqB (tgt := 17) hx hb dL_block_10 (by decide) (fun h346 => ?_) (fun h346 => ?_)
    · refine lv_lconst (v := 0) hx hb dL_block_17 (by decide) ?_
      refine tp_j (b := bL (sB σ (8 * ix x + ix y))) (by rw [h346]; try rfl) ?_
      refine lw_last hx hb hE hN ho hO hF hS dL_block_18 (fun H locs fn9 hO hfn hF hS => ?_)
      refine lv_goto (tgt := 30) hx hb dL_block_19 (by decide) ?_
      refine lv_iconst (v := nI (0)) hx hb dL_block_30 (by decide) ?_
      exact lwo_ret hx hb hr hlocks hS hO (fun _ => hfn) hF (by rw [he0]; try rfl) (Nat.le_of_ble_eq_true rfl) (Nat.le_of_ble_eq_true rfl) dL_block_31
    · refine lv_lconst (v := 1) hx hb dL_block_13 (by decide) ?_
      refine lv_goto (tgt := 18) hx hb dL_block_14 (by decide) ?_
      refine tp_j (b := bL (sB σ (8 * ix x + ix y))) (by rw [h346]; try rfl) ?_
      refine lw_last hx hb hE hN ho hO hF hS dL_block_18 (fun H locs fn9 hO hfn hF hS => ?_)
      refine lv_goto (tgt := 30) hx hb dL_block_19 (by decide) ?_
      refine lv_iconst (v := nI (0)) hx hb dL_block_30 (by decide) ?_
      exact lwo_ret hx hb hr hlocks hS hO (fun _ => hfn) hF (by rw [he0]; try rfl) (Nat.le_of_ble_eq_true rfl) (Nat.le_of_ble_eq_true rfl) dL_block_31
  · have hO := gP_same (gP_l hP) hk
    have hF : FWq g ad (oS (eMut x y) (nBlk σ x y v) σ) H := by
      unfold oS; rw [if_neg he0]; exact ⟨τ, gP_same (gP_r hP) hk, hR, hT⟩
    have h8 : (eMut x y) = 0 ∨ (eMut x y) = 1 ∨ (eMut x y) = 2 := by
      unfold eMut; (repeat' split) <;> omega
    rcases h8 with h8 | h8 | h8
    · exact absurd h8 he0
    · rw [h8] at hcl
      refine vx_catch (E := exN 1) (name := exN 1) (own := RL) hown [] { startPc := 0, endPc := 19, handlerPc := 22, catchType := 13 } [{ startPc := 0, endPc := 19, handlerPc := 26, catchType := 15 }] htab (fun z hz => by cases hz) rfl (by decide) (hts (.classLink RL 13 (exN 1)) (by decide +kernel)) (lw_cast hE (Or.inl rfl)) hce hcv hcl ?_
      refine lv_astore (lv' := [(5, .ref (q)), (0, .ref (ad 0)), (1, .int (x)), (2, .int (y)), (3, .int (bI (v))), (4, .ref (o))]) hx hb dL_block_22 hl (by decide) rfl (fun ls hl => ?_)
      refine lv_iconst (v := nI (1)) hx hb dL_block_24 (by decide) ?_
      exact lwo_ret hx hb hr hlocks hS hO (fun z => absurd z he0) hF (by rw [h8]; try rfl) (Nat.le_of_ble_eq_true rfl) (Nat.le_of_ble_eq_true rfl) dL_block_25
    · rw [h8] at hcl
      refine vx_catch (E := exN 2) (name := exN 2) (own := RL) hown [{ startPc := 0, endPc := 19, handlerPc := 22, catchType := 13 }] { startPc := 0, endPc := 19, handlerPc := 26, catchType := 15 } [] htab (List.forall_mem_cons.mpr ⟨Or.inr ⟨by decide, exN 1, hts (.classLink RL 13 (exN 1)) (by decide +kernel), hE.2.2.2.2 (exN 2, exN 1) (by decide +kernel)⟩, (fun z hz => by cases hz)⟩) rfl (by decide) (hts (.classLink RL 15 (exN 2)) (by decide +kernel)) (lw_cast hE (Or.inr (Or.inl rfl))) hce hcv hcl ?_
      refine lv_astore (lv' := [(5, .ref (q)), (0, .ref (ad 0)), (1, .int (x)), (2, .int (y)), (3, .int (bI (v))), (4, .ref (o))]) hx hb dL_block_26 hl (by decide) rfl (fun ls hl => ?_)
      refine lv_iconst (v := nI (2)) hx hb dL_block_28 (by decide) ?_
      exact lwo_ret hx hb hr hlocks hS hO (fun z => absurd z he0) hF (by rw [h8]; try rfl) (Nat.le_of_ble_eq_true rfl) (Nat.le_of_ble_eq_true rfl) dL_block_29
set_option maxHeartbeats 4000000 in
set_option maxRecDepth 100000 in
/-- post of the law: calls, catches, tells the place -/
theorem c_L_post (l : Launch) (hlf : l.stackTraces = false) (g : GT) {ad : Nat → Nat} {σ : St} {τ : Sc} (hI : Inv σ) (hN : FN ad 31) (hR : rowsOk σ τ 8) (hSd : Setd σ) (hT : tc τ ≤ 150) {o : Nat} {fn : Nat → Int64} (ho : ¬ o ∈ fA ad) {x : Int32} : lwM l g yL_post wsL_post 8 178 2 12 [.ref (ad 0), .int (x), .ref (o)] ad o fn σ τ (ePst σ x) (pl2 (ePst σ x)) (oS (ePst σ x) (nPst σ x) σ) ((nI (sn σ)).toInt64) := by
  refine lw_of (cc := cL_post) (maxL := 4) (ret := (some .int)) (by decide) rfl (Nat.le_of_ble_eq_true rfl) (fun p en s m below meth c ls hx hb hr hml hts hown hlocks htab hl hP hE hxv hS => ?_)
  have hl : lv_has ls 4 [(0, .ref (ad 0)), (1, .int (x)), (2, .ref (o))] := hl
  have hown : s.vm.findClass RL = some m.cls := hown
  refine lv_aload_n hx hb dL_post_0 rfl (lv_at hl 2 rfl) ?_
  refine lv_iconst (v := nI (0)) hx hb dL_post_1 (by decide) ?_
  refine lv_aload_n hx hb dL_post_2 rfl (lv_at hl 0 rfl) ?_
  refine lv_iload_n hx hb dL_post_3 rfl (lv_at hl 1 rfl) ?_
  refine lw_goW (xn_V ⟨hx, hb, hml, hown, hts⟩ (c_X4_post l hlf g hI hN hR hSd hT (x := x)) gL_post_X4_post rfl pX4_post ⟨Nat.le_of_ble_eq_true rfl, Nat.le_of_ble_eq_true rfl⟩ ⟨Nat.le_of_ble_eq_true rfl, Nat.le_of_ble_eq_true rfl⟩ (gP_r hP) hE hxv rfl rfl rfl hl.1 rfl (Nat.le_of_ble_eq_true rfl) dL_post_4) hS (fun z h => List.mem_cons_of_mem _ h) (fun he0 H locs hB hz hk hS => ?_) (fun he0 H locs q ce hz hk hS hce hcv hcl => ?_)
  · have hO : gP g (wO g o fn) H := P_keep (gP_l hP) (lw_apart ho) hk
    have hF : FWq g ad (oS (ePst σ x) (nPst σ x) σ) H := by
      unfold oS; rw [if_pos he0]; exact hB
    refine lv_i2l hx hb dL_post_7 rfl ?_
    refine lw_last hx hb hE hN ho hO hF hS dL_post_8 (fun H locs fn9 hO hfn hF hS => ?_)
    refine lv_goto (tgt := 18) hx hb dL_post_9 (by decide) ?_
    refine lv_iconst (v := nI (0)) hx hb dL_post_18 (by decide) ?_
    exact lwo_ret hx hb hr hlocks hS hO (fun _ => hfn) hF (by rw [he0]; try rfl) (Nat.le_of_ble_eq_true rfl) (Nat.le_of_ble_eq_true rfl) dL_post_19
  · have hO := gP_same (gP_l hP) hk
    have hF : FWq g ad (oS (ePst σ x) (nPst σ x) σ) H := by
      unfold oS; rw [if_neg he0]; exact ⟨τ, gP_same (gP_r hP) hk, hR, hT⟩
    have h8 : (ePst σ x) = 0 ∨ (ePst σ x) = 1 ∨ (ePst σ x) = 3 := by
      unfold ePst; (repeat' split) <;> omega
    rcases h8 with h8 | h8 | h8
    · exact absurd h8 he0
    · rw [h8] at hcl
      refine vx_catch (E := exN 1) (name := exN 1) (own := RL) hown [] { startPc := 0, endPc := 9, handlerPc := 12, catchType := 13 } [{ startPc := 0, endPc := 9, handlerPc := 15, catchType := 17 }] htab (fun z hz => by cases hz) rfl (by decide) (hts (.classLink RL 13 (exN 1)) (by decide +kernel)) (lw_cast hE (Or.inl rfl)) hce hcv hcl ?_
      refine lv_astore_n (lv' := [(3, .ref (q)), (0, .ref (ad 0)), (1, .int (x)), (2, .ref (o))]) hx hb dL_post_12 rfl hl (by decide) rfl (fun ls hl => ?_)
      refine lv_iconst (v := nI (1)) hx hb dL_post_13 (by decide) ?_
      exact lwo_ret hx hb hr hlocks hS hO (fun z => absurd z he0) hF (by rw [h8]; try rfl) (Nat.le_of_ble_eq_true rfl) (Nat.le_of_ble_eq_true rfl) dL_post_14
    · rw [h8] at hcl
      refine vx_catch (E := exN 3) (name := exN 3) (own := RL) hown [{ startPc := 0, endPc := 9, handlerPc := 12, catchType := 13 }] { startPc := 0, endPc := 9, handlerPc := 15, catchType := 17 } [] htab (List.forall_mem_cons.mpr ⟨Or.inr ⟨by decide, exN 1, hts (.classLink RL 13 (exN 1)) (by decide +kernel), hE.2.2.2.2 (exN 3, exN 1) (by decide +kernel)⟩, (fun z hz => by cases hz)⟩) rfl (by decide) (hts (.classLink RL 17 (exN 3)) (by decide +kernel)) (lw_cast hE (Or.inr (Or.inr rfl))) hce hcv hcl ?_
      refine lv_astore_n (lv' := [(3, .ref (q)), (0, .ref (ad 0)), (1, .int (x)), (2, .ref (o))]) hx hb dL_post_15 rfl hl (by decide) rfl (fun ls hl => ?_)
      refine lv_iconst (v := nI (2)) hx hb dL_post_16 (by decide) ?_
      exact lwo_ret hx hb hr hlocks hS hO (fun z => absurd z he0) hF (by rw [h8]; try rfl) (Nat.le_of_ble_eq_true rfl) (Nat.le_of_ble_eq_true rfl) dL_post_17
set_option maxHeartbeats 4000000 in
set_option maxRecDepth 100000 in
/-- repost of the law: calls, catches, tells the place -/
theorem c_L_repost (l : Launch) (hlf : l.stackTraces = false) (g : GT) {ad : Nat → Nat} {σ : St} {τ : Sc} (hI : Inv σ) (hN : FN ad 31) (hR : rowsOk σ τ 8) (hSd : Setd σ) (hT : tc τ ≤ 150) {o : Nat} {fn : Nat → Int64} (ho : ¬ o ∈ fA ad) {x y : Int32} : lwM l g yL_repost wsL_repost 8 180 4 24 [.ref (ad 0), .int (x), .int (y), .ref (o)] ad o fn σ τ (eRep σ x y) (pl2 (eRep σ x y)) (oS (eRep σ x y) (nRep σ x y) σ) ((nI (sn σ)).toInt64) := by
  refine lw_of (cc := cL_repost) (maxL := 5) (ret := (some .int)) (by decide) rfl (Nat.le_of_ble_eq_true rfl) (fun p en s m below meth c ls hx hb hr hml hts hown hlocks htab hl hP hE hxv hS => ?_)
  have hl : lv_has ls 5 [(0, .ref (ad 0)), (1, .int (x)), (2, .int (y)), (3, .ref (o))] := hl
  have hown : s.vm.findClass RL = some m.cls := hown
  refine lv_aload_n hx hb dL_repost_0 rfl (lv_at hl 3 rfl) ?_
  refine lv_iconst (v := nI (0)) hx hb dL_repost_1 (by decide) ?_
  refine lv_aload_n hx hb dL_repost_2 rfl (lv_at hl 0 rfl) ?_
  refine lv_iload_n hx hb dL_repost_3 rfl (lv_at hl 1 rfl) ?_
  refine lv_iload_n hx hb dL_repost_4 rfl (lv_at hl 2 rfl) ?_
  refine lw_goW (xn_V ⟨hx, hb, hml, hown, hts⟩ (c_X4_repost l hlf g hI hN hR hSd hT (x := x) (y := y)) gL_repost_X4_repost rfl pX4_repost ⟨Nat.le_of_ble_eq_true rfl, Nat.le_of_ble_eq_true rfl⟩ ⟨Nat.le_of_ble_eq_true rfl, Nat.le_of_ble_eq_true rfl⟩ (gP_r hP) hE hxv rfl rfl rfl hl.1 rfl (Nat.le_of_ble_eq_true rfl) dL_repost_5) hS (fun z h => List.mem_cons_of_mem _ h) (fun he0 H locs hB hz hk hS => ?_) (fun he0 H locs q ce hz hk hS hce hcv hcl => ?_)
  · have hO : gP g (wO g o fn) H := P_keep (gP_l hP) (lw_apart ho) hk
    have hF : FWq g ad (oS (eRep σ x y) (nRep σ x y) σ) H := by
      unfold oS; rw [if_pos he0]; exact hB
    refine lv_i2l hx hb dL_repost_8 rfl ?_
    refine lw_last hx hb hE hN ho hO hF hS dL_repost_9 (fun H locs fn9 hO hfn hF hS => ?_)
    refine lv_goto (tgt := 21) hx hb dL_repost_10 (by decide) ?_
    refine lv_iconst (v := nI (0)) hx hb dL_repost_21 (by decide) ?_
    exact lwo_ret hx hb hr hlocks hS hO (fun _ => hfn) hF (by rw [he0]; try rfl) (Nat.le_of_ble_eq_true rfl) (Nat.le_of_ble_eq_true rfl) dL_repost_22
  · have hO := gP_same (gP_l hP) hk
    have hF : FWq g ad (oS (eRep σ x y) (nRep σ x y) σ) H := by
      unfold oS; rw [if_neg he0]; exact ⟨τ, gP_same (gP_r hP) hk, hR, hT⟩
    have h8 : (eRep σ x y) = 0 ∨ (eRep σ x y) = 1 ∨ (eRep σ x y) = 3 := by
      unfold eRep; (repeat' split) <;> omega
    rcases h8 with h8 | h8 | h8
    · exact absurd h8 he0
    · rw [h8] at hcl
      refine vx_catch (E := exN 1) (name := exN 1) (own := RL) hown [] { startPc := 0, endPc := 10, handlerPc := 13, catchType := 13 } [{ startPc := 0, endPc := 10, handlerPc := 17, catchType := 17 }] htab (fun z hz => by cases hz) rfl (by decide) (hts (.classLink RL 13 (exN 1)) (by decide +kernel)) (lw_cast hE (Or.inl rfl)) hce hcv hcl ?_
      refine lv_astore (lv' := [(4, .ref (q)), (0, .ref (ad 0)), (1, .int (x)), (2, .int (y)), (3, .ref (o))]) hx hb dL_repost_13 hl (by decide) rfl (fun ls hl => ?_)
      refine lv_iconst (v := nI (1)) hx hb dL_repost_15 (by decide) ?_
      exact lwo_ret hx hb hr hlocks hS hO (fun z => absurd z he0) hF (by rw [h8]; try rfl) (Nat.le_of_ble_eq_true rfl) (Nat.le_of_ble_eq_true rfl) dL_repost_16
    · rw [h8] at hcl
      refine vx_catch (E := exN 3) (name := exN 3) (own := RL) hown [{ startPc := 0, endPc := 10, handlerPc := 13, catchType := 13 }] { startPc := 0, endPc := 10, handlerPc := 17, catchType := 17 } [] htab (List.forall_mem_cons.mpr ⟨Or.inr ⟨by decide, exN 1, hts (.classLink RL 13 (exN 1)) (by decide +kernel), hE.2.2.2.2 (exN 3, exN 1) (by decide +kernel)⟩, (fun z hz => by cases hz)⟩) rfl (by decide) (hts (.classLink RL 17 (exN 3)) (by decide +kernel)) (lw_cast hE (Or.inr (Or.inr rfl))) hce hcv hcl ?_
      refine lv_astore (lv' := [(4, .ref (q)), (0, .ref (ad 0)), (1, .int (x)), (2, .int (y)), (3, .ref (o))]) hx hb dL_repost_17 hl (by decide) rfl (fun ls hl => ?_)
      refine lv_iconst (v := nI (2)) hx hb dL_repost_19 (by decide) ?_
      exact lwo_ret hx hb hr hlocks hS hO (fun z => absurd z he0) hF (by rw [h8]; try rfl) (Nat.le_of_ble_eq_true rfl) (Nat.le_of_ble_eq_true rfl) dL_repost_20
set_option maxHeartbeats 4000000 in
set_option maxRecDepth 100000 in
/-- delete of the law: calls, catches, tells the place -/
theorem c_L_delete (l : Launch) (hlf : l.stackTraces = false) (g : GT) {ad : Nat → Nat} {σ : St} {τ : Sc} (hI : Inv σ) (hN : FN ad 31) (hR : rowsOk σ τ 8) (hSd : Setd σ) (hT : tc τ ≤ 150) {o : Nat} {fn : Nat → Int64} (ho : ¬ o ∈ fA ad) {x : Int32} : lwM l g yL_delete wsL_delete 8 177 2 12 [.ref (ad 0), .int (x), .ref (o)] ad o fn σ τ (eDel σ x) (pl2 (eDel σ x)) (oS (eDel σ x) (nDel σ x) σ) ((nI (rDel σ x)).toInt64) := by
  refine lw_of (cc := cL_delete) (maxL := 4) (ret := (some .int)) (by decide) rfl (Nat.le_of_ble_eq_true rfl) (fun p en s m below meth c ls hx hb hr hml hts hown hlocks htab hl hP hE hxv hS => ?_)
  have hl : lv_has ls 4 [(0, .ref (ad 0)), (1, .int (x)), (2, .ref (o))] := hl
  have hown : s.vm.findClass RL = some m.cls := hown
  refine lv_aload_n hx hb dL_delete_0 rfl (lv_at hl 2 rfl) ?_
  refine lv_iconst (v := nI (0)) hx hb dL_delete_1 (by decide) ?_
  refine lv_aload_n hx hb dL_delete_2 rfl (lv_at hl 0 rfl) ?_
  refine lv_iload_n hx hb dL_delete_3 rfl (lv_at hl 1 rfl) ?_
  refine lw_goW (xn_V ⟨hx, hb, hml, hown, hts⟩ (c_X4_delete l hlf g hI hN hR hSd hT (x := x)) gL_delete_X4_delete rfl pX4_delete ⟨Nat.le_of_ble_eq_true rfl, Nat.le_of_ble_eq_true rfl⟩ ⟨Nat.le_of_ble_eq_true rfl, Nat.le_of_ble_eq_true rfl⟩ (gP_r hP) hE hxv rfl rfl rfl hl.1 rfl (Nat.le_of_ble_eq_true rfl) dL_delete_4) hS (fun z h => List.mem_cons_of_mem _ h) (fun he0 H locs hB hz hk hS => ?_) (fun he0 H locs q ce hz hk hS hce hcv hcl => ?_)
  · have hO : gP g (wO g o fn) H := P_keep (gP_l hP) (lw_apart ho) hk
    have hF : FWq g ad (oS (eDel σ x) (nDel σ x) σ) H := by
      unfold oS; rw [if_pos he0]; exact hB
    refine lv_i2l hx hb dL_delete_7 rfl ?_
    refine lw_last hx hb hE hN ho hO hF hS dL_delete_8 (fun H locs fn9 hO hfn hF hS => ?_)
    refine lv_goto (tgt := 18) hx hb dL_delete_9 (by decide) ?_
    refine lv_iconst (v := nI (0)) hx hb dL_delete_18 (by decide) ?_
    exact lwo_ret hx hb hr hlocks hS hO (fun _ => hfn) hF (by rw [he0]; try rfl) (Nat.le_of_ble_eq_true rfl) (Nat.le_of_ble_eq_true rfl) dL_delete_19
  · have hO := gP_same (gP_l hP) hk
    have hF : FWq g ad (oS (eDel σ x) (nDel σ x) σ) H := by
      unfold oS; rw [if_neg he0]; exact ⟨τ, gP_same (gP_r hP) hk, hR, hT⟩
    have h8 : (eDel σ x) = 0 ∨ (eDel σ x) = 1 ∨ (eDel σ x) = 3 := by
      unfold eDel; (repeat' split) <;> omega
    rcases h8 with h8 | h8 | h8
    · exact absurd h8 he0
    · rw [h8] at hcl
      refine vx_catch (E := exN 1) (name := exN 1) (own := RL) hown [] { startPc := 0, endPc := 9, handlerPc := 12, catchType := 13 } [{ startPc := 0, endPc := 9, handlerPc := 15, catchType := 17 }] htab (fun z hz => by cases hz) rfl (by decide) (hts (.classLink RL 13 (exN 1)) (by decide +kernel)) (lw_cast hE (Or.inl rfl)) hce hcv hcl ?_
      refine lv_astore_n (lv' := [(3, .ref (q)), (0, .ref (ad 0)), (1, .int (x)), (2, .ref (o))]) hx hb dL_delete_12 rfl hl (by decide) rfl (fun ls hl => ?_)
      refine lv_iconst (v := nI (1)) hx hb dL_delete_13 (by decide) ?_
      exact lwo_ret hx hb hr hlocks hS hO (fun z => absurd z he0) hF (by rw [h8]; try rfl) (Nat.le_of_ble_eq_true rfl) (Nat.le_of_ble_eq_true rfl) dL_delete_14
    · rw [h8] at hcl
      refine vx_catch (E := exN 3) (name := exN 3) (own := RL) hown [{ startPc := 0, endPc := 9, handlerPc := 12, catchType := 13 }] { startPc := 0, endPc := 9, handlerPc := 15, catchType := 17 } [] htab (List.forall_mem_cons.mpr ⟨Or.inr ⟨by decide, exN 1, hts (.classLink RL 13 (exN 1)) (by decide +kernel), hE.2.2.2.2 (exN 3, exN 1) (by decide +kernel)⟩, (fun z hz => by cases hz)⟩) rfl (by decide) (hts (.classLink RL 17 (exN 3)) (by decide +kernel)) (lw_cast hE (Or.inr (Or.inr rfl))) hce hcv hcl ?_
      refine lv_astore_n (lv' := [(3, .ref (q)), (0, .ref (ad 0)), (1, .int (x)), (2, .ref (o))]) hx hb dL_delete_15 rfl hl (by decide) rfl (fun ls hl => ?_)
      refine lv_iconst (v := nI (2)) hx hb dL_delete_16 (by decide) ?_
      exact lwo_ret hx hb hr hlocks hS hO (fun z => absurd z he0) hF (by rw [h8]; try rfl) (Nat.le_of_ble_eq_true rfl) (Nat.le_of_ble_eq_true rfl) dL_delete_17
set_option maxHeartbeats 4000000 in
set_option maxRecDepth 100000 in
/-- setMark of the law: calls, catches, tells the place -/
theorem c_L_setMark (l : Launch) (hlf : l.stackTraces = false) (g : GT) {ad : Nat → Nat} {σ : St} {τ : Sc} (hI : Inv σ) (hN : FN ad 31) (hR : rowsOk σ τ 8) (hSd : Setd σ) (hT : tc τ ≤ 150) {o : Nat} {fn : Nat → Int64} (ho : ¬ o ∈ fA ad) {x : Int32} : lwM l g yL_setMark wsL_setMark 8 177 1 6 [.ref (ad 0), .int (x), .ref (o)] ad o fn σ τ (eR 0 8 x) (pl1 (eR 0 8 x)) (oS (eR 0 8 x) (nMrk σ x) σ) ((nI (rMrk σ x)).toInt64) := by
  refine lw_of (cc := cL_setMark) (maxL := 4) (ret := (some .int)) (by decide) rfl (Nat.le_of_ble_eq_true rfl) (fun p en s m below meth c ls hx hb hr hml hts hown hlocks htab hl hP hE hxv hS => ?_)
  have hl : lv_has ls 4 [(0, .ref (ad 0)), (1, .int (x)), (2, .ref (o))] := hl
  have hown : s.vm.findClass RL = some m.cls := hown
  refine lv_aload_n hx hb dL_setMark_0 rfl (lv_at hl 2 rfl) ?_
  refine lv_iconst (v := nI (0)) hx hb dL_setMark_1 (by decide) ?_
  refine lv_aload_n hx hb dL_setMark_2 rfl (lv_at hl 0 rfl) ?_
  refine lv_iload_n hx hb dL_setMark_3 rfl (lv_at hl 1 rfl) ?_
  refine lw_goW (xn_V ⟨hx, hb, hml, hown, hts⟩ (c_X4_setMark l hlf g hI hN hR hSd hT (x := x)) gL_setMark_X4_setMark rfl pX4_setMark ⟨Nat.le_of_ble_eq_true rfl, Nat.le_of_ble_eq_true rfl⟩ ⟨Nat.le_of_ble_eq_true rfl, Nat.le_of_ble_eq_true rfl⟩ (gP_r hP) hE hxv rfl rfl rfl hl.1 rfl (Nat.le_of_ble_eq_true rfl) dL_setMark_4) hS (fun z h => List.mem_cons_of_mem _ h) (fun he0 H locs hB hz hk hS => ?_) (fun he0 H locs q ce hz hk hS hce hcv hcl => ?_)
  · have hO : gP g (wO g o fn) H := P_keep (gP_l hP) (lw_apart ho) hk
    have hF : FWq g ad (oS (eR 0 8 x) (nMrk σ x) σ) H := by
      unfold oS; rw [if_pos he0]; exact hB
    refine lv_i2l hx hb dL_setMark_7 rfl ?_
    refine lw_last hx hb hE hN ho hO hF hS dL_setMark_8 (fun H locs fn9 hO hfn hF hS => ?_)
    refine lv_goto (tgt := 15) hx hb dL_setMark_9 (by decide) ?_
    refine lv_iconst (v := nI (0)) hx hb dL_setMark_15 (by decide) ?_
    exact lwo_ret hx hb hr hlocks hS hO (fun _ => hfn) hF (by rw [he0]; try rfl) (Nat.le_of_ble_eq_true rfl) (Nat.le_of_ble_eq_true rfl) dL_setMark_16
  · have hO := gP_same (gP_l hP) hk
    have hF : FWq g ad (oS (eR 0 8 x) (nMrk σ x) σ) H := by
      unfold oS; rw [if_neg he0]; exact ⟨τ, gP_same (gP_r hP) hk, hR, hT⟩
    have h8 : (eR 0 8 x) = 0 ∨ (eR 0 8 x) = 2 := by
      unfold eR; (repeat' split) <;> omega
    rcases h8 with h8 | h8
    · exact absurd h8 he0
    · rw [h8] at hcl
      refine vx_catch (E := exN 2) (name := exN 2) (own := RL) hown [] { startPc := 0, endPc := 9, handlerPc := 12, catchType := 15 } [] htab (fun z hz => by cases hz) rfl (by decide) (hts (.classLink RL 15 (exN 2)) (by decide +kernel)) (lw_cast hE (Or.inr (Or.inl rfl))) hce hcv hcl ?_
      refine lv_astore_n (lv' := [(3, .ref (q)), (0, .ref (ad 0)), (1, .int (x)), (2, .ref (o))]) hx hb dL_setMark_12 rfl hl (by decide) rfl (fun ls hl => ?_)
      refine lv_iconst (v := nI (1)) hx hb dL_setMark_13 (by decide) ?_
      exact lwo_ret hx hb hr hlocks hS hO (fun z => absurd z he0) hF (by rw [h8]; try rfl) (Nat.le_of_ble_eq_true rfl) (Nat.le_of_ble_eq_true rfl) dL_setMark_14
set_option maxHeartbeats 4000000 in
set_option maxRecDepth 100000 in
/-- setRoom of the law: calls, catches, tells the place -/
theorem c_L_setRoom (l : Launch) (hlf : l.stackTraces = false) (g : GT) {ad : Nat → Nat} {σ : St} {τ : Sc} (hI : Inv σ) (hN : FN ad 31) (hR : rowsOk σ τ 8) (hSd : Setd σ) (hT : tc τ ≤ 150) {o : Nat} {fn : Nat → Int64} (ho : ¬ o ∈ fA ad) {x : Int32} : lwM l g yL_setRoom wsL_setRoom 8 178 1 6 [.ref (ad 0), .int (x), .ref (o)] ad o fn σ τ (eR 1 40 x) (pl1 (eR 1 40 x)) (oS (eR 1 40 x) (nRom σ x) σ) ((nI (sr σ)).toInt64) := by
  refine lw_of (cc := cL_setRoom) (maxL := 4) (ret := (some .int)) (by decide) rfl (Nat.le_of_ble_eq_true rfl) (fun p en s m below meth c ls hx hb hr hml hts hown hlocks htab hl hP hE hxv hS => ?_)
  have hl : lv_has ls 4 [(0, .ref (ad 0)), (1, .int (x)), (2, .ref (o))] := hl
  have hown : s.vm.findClass RL = some m.cls := hown
  refine lv_aload_n hx hb dL_setRoom_0 rfl (lv_at hl 2 rfl) ?_
  refine lv_iconst (v := nI (0)) hx hb dL_setRoom_1 (by decide) ?_
  refine lv_aload_n hx hb dL_setRoom_2 rfl (lv_at hl 0 rfl) ?_
  refine lv_iload_n hx hb dL_setRoom_3 rfl (lv_at hl 1 rfl) ?_
  refine lw_goW (xn_V ⟨hx, hb, hml, hown, hts⟩ (c_X4_setRoom l hlf g hI hN hR hSd hT (x := x)) gL_setRoom_X4_setRoom rfl pX4_setRoom ⟨Nat.le_of_ble_eq_true rfl, Nat.le_of_ble_eq_true rfl⟩ ⟨Nat.le_of_ble_eq_true rfl, Nat.le_of_ble_eq_true rfl⟩ (gP_r hP) hE hxv rfl rfl rfl hl.1 rfl (Nat.le_of_ble_eq_true rfl) dL_setRoom_4) hS (fun z h => List.mem_cons_of_mem _ h) (fun he0 H locs hB hz hk hS => ?_) (fun he0 H locs q ce hz hk hS hce hcv hcl => ?_)
  · have hO : gP g (wO g o fn) H := P_keep (gP_l hP) (lw_apart ho) hk
    have hF : FWq g ad (oS (eR 1 40 x) (nRom σ x) σ) H := by
      unfold oS; rw [if_pos he0]; exact hB
    refine lv_i2l hx hb dL_setRoom_7 rfl ?_
    refine lw_last hx hb hE hN ho hO hF hS dL_setRoom_8 (fun H locs fn9 hO hfn hF hS => ?_)
    refine lv_goto (tgt := 15) hx hb dL_setRoom_9 (by decide) ?_
    refine lv_iconst (v := nI (0)) hx hb dL_setRoom_15 (by decide) ?_
    exact lwo_ret hx hb hr hlocks hS hO (fun _ => hfn) hF (by rw [he0]; try rfl) (Nat.le_of_ble_eq_true rfl) (Nat.le_of_ble_eq_true rfl) dL_setRoom_16
  · have hO := gP_same (gP_l hP) hk
    have hF : FWq g ad (oS (eR 1 40 x) (nRom σ x) σ) H := by
      unfold oS; rw [if_neg he0]; exact ⟨τ, gP_same (gP_r hP) hk, hR, hT⟩
    have h8 : (eR 1 40 x) = 0 ∨ (eR 1 40 x) = 2 := by
      unfold eR; (repeat' split) <;> omega
    rcases h8 with h8 | h8
    · exact absurd h8 he0
    · rw [h8] at hcl
      refine vx_catch (E := exN 2) (name := exN 2) (own := RL) hown [] { startPc := 0, endPc := 9, handlerPc := 12, catchType := 15 } [] htab (fun z hz => by cases hz) rfl (by decide) (hts (.classLink RL 15 (exN 2)) (by decide +kernel)) (lw_cast hE (Or.inr (Or.inl rfl))) hce hcv hcl ?_
      refine lv_astore_n (lv' := [(3, .ref (q)), (0, .ref (ad 0)), (1, .int (x)), (2, .ref (o))]) hx hb dL_setRoom_12 rfl hl (by decide) rfl (fun ls hl => ?_)
      refine lv_iconst (v := nI (1)) hx hb dL_setRoom_13 (by decide) ?_
      exact lwo_ret hx hb hr hlocks hS hO (fun z => absurd z he0) hF (by rw [h8]; try rfl) (Nat.le_of_ble_eq_true rfl) (Nat.le_of_ble_eq_true rfl) dL_setRoom_14
set_option maxHeartbeats 4000000 in
set_option maxRecDepth 100000 in
/-- authorOf of the law: calls, catches, tells the place -/
theorem c_L_authorOf (l : Launch) (hlf : l.stackTraces = false) (g : GT) {ad : Nat → Nat} {σ : St} {τ : Sc} (hI : Inv σ) (hN : FN ad 31) (hR : rowsOk σ τ 8) (hSd : Setd σ) (hT : tc τ ≤ 150) {o : Nat} {fn : Nat → Int64} (ho : ¬ o ∈ fA ad) {x : Int32} : lwM l g yL_authorOf wsL_authorOf 8 132 1 6 [.ref (ad 0), .int (x), .ref (o)] ad o fn σ τ (eE (sn σ) x) (eE (sn σ) x) (oS (eE (sn σ) x) (σ) σ) ((nI (sa σ (ix x))).toInt64) := by
  refine lw_of (cc := cL_authorOf) (maxL := 4) (ret := (some .int)) (by decide) rfl (Nat.le_of_ble_eq_true rfl) (fun p en s m below meth c ls hx hb hr hml hts hown hlocks htab hl hP hE hxv hS => ?_)
  have hl : lv_has ls 4 [(0, .ref (ad 0)), (1, .int (x)), (2, .ref (o))] := hl
  have hown : s.vm.findClass RL = some m.cls := hown
  refine lv_aload_n hx hb dL_authorOf_0 rfl (lv_at hl 2 rfl) ?_
  refine lv_iconst (v := nI (0)) hx hb dL_authorOf_1 (by decide) ?_
  refine lv_aload_n hx hb dL_authorOf_2 rfl (lv_at hl 0 rfl) ?_
  refine lv_iload_n hx hb dL_authorOf_3 rfl (lv_at hl 1 rfl) ?_
  refine lw_goR (xn_V ⟨hx, hb, hml, hown, hts⟩ (c_X4_authorOf l hlf g hI (x := x)) gL_authorOf_X4_authorOf rfl pX4_authorOf ⟨Nat.le_of_ble_eq_true rfl, Nat.le_of_ble_eq_true rfl⟩ ⟨Nat.le_of_ble_eq_true rfl, Nat.le_of_ble_eq_true rfl⟩ (gP_r hP) hE hxv rfl rfl rfl hl.1 rfl (Nat.le_of_ble_eq_true rfl) dL_authorOf_4) hS (fun he0 => ?_) (fun he0 H locs q ce hz hk hS hce hcv hcl => ?_)
  · have hO : gP g (wO g o fn) s.heap := gP_l hP
    have hF : FWq g ad (oS (eE (sn σ) x) (σ) σ) s.heap := by
      unfold oS; rw [if_pos he0]; exact ⟨τ, gP_r hP, hR, hT⟩
    refine lv_i2l hx hb dL_authorOf_7 rfl ?_
    refine lw_last hx hb hE hN ho hO hF hS dL_authorOf_8 (fun H locs fn9 hO hfn hF hS => ?_)
    refine lv_goto (tgt := 15) hx hb dL_authorOf_9 (by decide) ?_
    refine lv_iconst (v := nI (0)) hx hb dL_authorOf_15 (by decide) ?_
    exact lwo_ret hx hb hr hlocks hS hO (fun _ => hfn) hF (by rw [he0]; try rfl) (Nat.le_of_ble_eq_true rfl) (Nat.le_of_ble_eq_true rfl) dL_authorOf_16
  · have hO := gP_same (gP_l hP) hk
    have hF : FWq g ad (oS (eE (sn σ) x) (σ) σ) H := by
      unfold oS; rw [if_neg he0]; exact ⟨τ, gP_same (gP_r hP) hk, hR, hT⟩
    have h8 : (eE (sn σ) x) = 0 ∨ (eE (sn σ) x) = 1 := by
      unfold eE; (repeat' split) <;> omega
    rcases h8 with h8 | h8
    · exact absurd h8 he0
    · rw [h8] at hcl
      refine vx_catch (E := exN 1) (name := exN 1) (own := RL) hown [] { startPc := 0, endPc := 9, handlerPc := 12, catchType := 13 } [] htab (fun z hz => by cases hz) rfl (by decide) (hts (.classLink RL 13 (exN 1)) (by decide +kernel)) (lw_cast hE (Or.inl rfl)) hce hcv hcl ?_
      refine lv_astore_n (lv' := [(3, .ref (q)), (0, .ref (ad 0)), (1, .int (x)), (2, .ref (o))]) hx hb dL_authorOf_12 rfl hl (by decide) rfl (fun ls hl => ?_)
      refine lv_iconst (v := nI (1)) hx hb dL_authorOf_13 (by decide) ?_
      exact lwo_ret hx hb hr hlocks hS hO (fun z => absurd z he0) hF (by rw [h8]; try rfl) (Nat.le_of_ble_eq_true rfl) (Nat.le_of_ble_eq_true rfl) dL_authorOf_14
set_option maxHeartbeats 4000000 in
set_option maxRecDepth 100000 in
/-- originOf of the law: calls, catches, tells the place -/
theorem c_L_originOf (l : Launch) (hlf : l.stackTraces = false) (g : GT) {ad : Nat → Nat} {σ : St} {τ : Sc} (hI : Inv σ) (hN : FN ad 31) (hR : rowsOk σ τ 8) (hSd : Setd σ) (hT : tc τ ≤ 150) {o : Nat} {fn : Nat → Int64} (ho : ¬ o ∈ fA ad) {x : Int32} : lwM l g yL_originOf wsL_originOf 8 132 1 6 [.ref (ad 0), .int (x), .ref (o)] ad o fn σ τ (eE (sn σ) x) (eE (sn σ) x) (oS (eE (sn σ) x) (σ) σ) ((nI (so σ (ix x))).toInt64) := by
  refine lw_of (cc := cL_originOf) (maxL := 4) (ret := (some .int)) (by decide) rfl (Nat.le_of_ble_eq_true rfl) (fun p en s m below meth c ls hx hb hr hml hts hown hlocks htab hl hP hE hxv hS => ?_)
  have hl : lv_has ls 4 [(0, .ref (ad 0)), (1, .int (x)), (2, .ref (o))] := hl
  have hown : s.vm.findClass RL = some m.cls := hown
  refine lv_aload_n hx hb dL_originOf_0 rfl (lv_at hl 2 rfl) ?_
  refine lv_iconst (v := nI (0)) hx hb dL_originOf_1 (by decide) ?_
  refine lv_aload_n hx hb dL_originOf_2 rfl (lv_at hl 0 rfl) ?_
  refine lv_iload_n hx hb dL_originOf_3 rfl (lv_at hl 1 rfl) ?_
  refine lw_goR (xn_V ⟨hx, hb, hml, hown, hts⟩ (c_X4_originOf l hlf g hI (x := x)) gL_originOf_X4_originOf rfl pX4_originOf ⟨Nat.le_of_ble_eq_true rfl, Nat.le_of_ble_eq_true rfl⟩ ⟨Nat.le_of_ble_eq_true rfl, Nat.le_of_ble_eq_true rfl⟩ (gP_r hP) hE hxv rfl rfl rfl hl.1 rfl (Nat.le_of_ble_eq_true rfl) dL_originOf_4) hS (fun he0 => ?_) (fun he0 H locs q ce hz hk hS hce hcv hcl => ?_)
  · have hO : gP g (wO g o fn) s.heap := gP_l hP
    have hF : FWq g ad (oS (eE (sn σ) x) (σ) σ) s.heap := by
      unfold oS; rw [if_pos he0]; exact ⟨τ, gP_r hP, hR, hT⟩
    refine lv_i2l hx hb dL_originOf_7 rfl ?_
    refine lw_last hx hb hE hN ho hO hF hS dL_originOf_8 (fun H locs fn9 hO hfn hF hS => ?_)
    refine lv_goto (tgt := 15) hx hb dL_originOf_9 (by decide) ?_
    refine lv_iconst (v := nI (0)) hx hb dL_originOf_15 (by decide) ?_
    exact lwo_ret hx hb hr hlocks hS hO (fun _ => hfn) hF (by rw [he0]; try rfl) (Nat.le_of_ble_eq_true rfl) (Nat.le_of_ble_eq_true rfl) dL_originOf_16
  · have hO := gP_same (gP_l hP) hk
    have hF : FWq g ad (oS (eE (sn σ) x) (σ) σ) H := by
      unfold oS; rw [if_neg he0]; exact ⟨τ, gP_same (gP_r hP) hk, hR, hT⟩
    have h8 : (eE (sn σ) x) = 0 ∨ (eE (sn σ) x) = 1 := by
      unfold eE; (repeat' split) <;> omega
    rcases h8 with h8 | h8
    · exact absurd h8 he0
    · rw [h8] at hcl
      refine vx_catch (E := exN 1) (name := exN 1) (own := RL) hown [] { startPc := 0, endPc := 9, handlerPc := 12, catchType := 13 } [] htab (fun z hz => by cases hz) rfl (by decide) (hts (.classLink RL 13 (exN 1)) (by decide +kernel)) (lw_cast hE (Or.inl rfl)) hce hcv hcl ?_
      refine lv_astore_n (lv' := [(3, .ref (q)), (0, .ref (ad 0)), (1, .int (x)), (2, .ref (o))]) hx hb dL_originOf_12 rfl hl (by decide) rfl (fun ls hl => ?_)
      refine lv_iconst (v := nI (1)) hx hb dL_originOf_13 (by decide) ?_
      exact lwo_ret hx hb hr hlocks hS hO (fun z => absurd z he0) hF (by rw [h8]; try rfl) (Nat.le_of_ble_eq_true rfl) (Nat.le_of_ble_eq_true rfl) dL_originOf_14
set_option maxHeartbeats 4000000 in
set_option maxRecDepth 100000 in
/-- follows of the law: calls, catches, tells the place -/
theorem c_L_follows (l : Launch) (hlf : l.stackTraces = false) (g : GT) {ad : Nat → Nat} {σ : St} {τ : Sc} (hI : Inv σ) (hN : FN ad 31) (hR : rowsOk σ τ 8) (hSd : Setd σ) (hT : tc τ ≤ 150) {o : Nat} {fn : Nat → Int64} (ho : ¬ o ∈ fA ad) {x y : Int32} : lwM l g yL_follows wsL_follows 8 132 2 12 [.ref (ad 0), .int (x), .int (y), .ref (o)] ad o fn σ τ (eFls x y) (eFls x y) (oS (eFls x y) (σ) σ) (bL (sF σ (8 * ix x + ix y))) := by
  refine lw_of (cc := cL_follows) (maxL := 5) (ret := (some .int)) (by decide) rfl (Nat.le_of_ble_eq_true rfl) (fun p en s m below meth c ls hx hb hr hml hts hown hlocks htab hl hP hE hxv hS => ?_)
  have hl : lv_has ls 5 [(0, .ref (ad 0)), (1, .int (x)), (2, .int (y)), (3, .ref (o))] := hl
  have hown : s.vm.findClass RL = some m.cls := hown
  refine lv_aload_n hx hb dL_follows_0 rfl (lv_at hl 3 rfl) ?_
  refine lv_iconst (v := nI (0)) hx hb dL_follows_1 (by decide) ?_
  refine lv_aload_n hx hb dL_follows_2 rfl (lv_at hl 0 rfl) ?_
  refine lv_iload_n hx hb dL_follows_3 rfl (lv_at hl 1 rfl) ?_
  refine lv_iload_n hx hb dL_follows_4 rfl (lv_at hl 2 rfl) ?_
  refine lw_goR (xn_V ⟨hx, hb, hml, hown, hts⟩ (c_X4_follows l hlf g hI (x := x) (y := y)) gL_follows_X4_follows rfl pX4_follows ⟨Nat.le_of_ble_eq_true rfl, Nat.le_of_ble_eq_true rfl⟩ ⟨Nat.le_of_ble_eq_true rfl, Nat.le_of_ble_eq_true rfl⟩ (gP_r hP) hE hxv rfl rfl rfl hl.1 rfl (Nat.le_of_ble_eq_true rfl) dL_follows_5) hS (fun he0 => ?_) (fun he0 H locs q ce hz hk hS hce hcv hcl => ?_)
  · have hO : gP g (wO g o fn) s.heap := gP_l hP
    have hF : FWq g ad (oS (eFls x y) (σ) σ) s.heap := by
      unfold oS; rw [if_pos he0]; exact ⟨τ, gP_r hP, hR, hT⟩
    refine br_eqB (tgt := 15) hx hb dL_follows_8 (by decide) (fun h347 => ?_) (fun h347 => ?_)
    · refine lv_lconst (v := 0) hx hb dL_follows_15 (by decide) ?_
      refine tp_j (b := bL (sF σ (8 * ix x + ix y))) (by rw [h347]; try rfl) ?_
      refine lw_last hx hb hE hN ho hO hF hS dL_follows_16 (fun H locs fn9 hO hfn hF hS => ?_)
      refine lv_goto (tgt := 24) hx hb dL_follows_17 (by decide) ?_
      refine lv_iconst (v := nI (0)) hx hb dL_follows_24 (by decide) ?_
      exact lwo_ret hx hb hr hlocks hS hO (fun _ => hfn) hF (by rw [he0]; try rfl) (Nat.le_of_ble_eq_true rfl) (Nat.le_of_ble_eq_true rfl) dL_follows_25
    · refine lv_lconst (v := 1) hx hb dL_follows_11 (by decide) ?_
      refine lv_goto (tgt := 16) hx hb dL_follows_12 (by decide) ?_
      refine tp_j (b := bL (sF σ (8 * ix x + ix y))) (by rw [h347]; try rfl) ?_
      refine lw_last hx hb hE hN ho hO hF hS dL_follows_16 (fun H locs fn9 hO hfn hF hS => ?_)
      refine lv_goto (tgt := 24) hx hb dL_follows_17 (by decide) ?_
      refine lv_iconst (v := nI (0)) hx hb dL_follows_24 (by decide) ?_
      exact lwo_ret hx hb hr hlocks hS hO (fun _ => hfn) hF (by rw [he0]; try rfl) (Nat.le_of_ble_eq_true rfl) (Nat.le_of_ble_eq_true rfl) dL_follows_25
  · have hO := gP_same (gP_l hP) hk
    have hF : FWq g ad (oS (eFls x y) (σ) σ) H := by
      unfold oS; rw [if_neg he0]; exact ⟨τ, gP_same (gP_r hP) hk, hR, hT⟩
    have h8 : (eFls x y) = 0 ∨ (eFls x y) = 1 := by
      unfold eFls; (repeat' split) <;> omega
    rcases h8 with h8 | h8
    · exact absurd h8 he0
    · rw [h8] at hcl
      refine vx_catch (E := exN 1) (name := exN 1) (own := RL) hown [] { startPc := 0, endPc := 17, handlerPc := 20, catchType := 13 } [] htab (fun z hz => by cases hz) rfl (by decide) (hts (.classLink RL 13 (exN 1)) (by decide +kernel)) (lw_cast hE (Or.inl rfl)) hce hcv hcl ?_
      refine lv_astore (lv' := [(4, .ref (q)), (0, .ref (ad 0)), (1, .int (x)), (2, .int (y)), (3, .ref (o))]) hx hb dL_follows_20 hl (by decide) rfl (fun ls hl => ?_)
      refine lv_iconst (v := nI (1)) hx hb dL_follows_22 (by decide) ?_
      exact lwo_ret hx hb hr hlocks hS hO (fun z => absurd z he0) hF (by rw [h8]; try rfl) (Nat.le_of_ble_eq_true rfl) (Nat.le_of_ble_eq_true rfl) dL_follows_23
set_option maxHeartbeats 4000000 in
set_option maxRecDepth 100000 in
/-- followers of the law: calls, catches, tells the place -/
theorem c_L_followers (l : Launch) (hlf : l.stackTraces = false) (g : GT) {ad : Nat → Nat} {σ : St} {τ : Sc} (hI : Inv σ) (hN : FN ad 31) (hR : rowsOk σ τ 8) (hSd : Setd σ) (hT : tc τ ≤ 150) {o : Nat} {fn : Nat → Int64} (ho : ¬ o ∈ fA ad) {x : Int32} : lwM l g yL_followers wsL_followers 8 131 1 6 [.ref (ad 0), .int (x), .ref (o)] ad o fn σ τ (eP x) (eP x) (oS (eP x) (σ) σ) ((nI (fcnt (sF σ) (ix x))).toInt64) := by
  refine lw_of (cc := cL_followers) (maxL := 4) (ret := (some .int)) (by decide) rfl (Nat.le_of_ble_eq_true rfl) (fun p en s m below meth c ls hx hb hr hml hts hown hlocks htab hl hP hE hxv hS => ?_)
  have hl : lv_has ls 4 [(0, .ref (ad 0)), (1, .int (x)), (2, .ref (o))] := hl
  have hown : s.vm.findClass RL = some m.cls := hown
  refine lv_aload_n hx hb dL_followers_0 rfl (lv_at hl 2 rfl) ?_
  refine lv_iconst (v := nI (0)) hx hb dL_followers_1 (by decide) ?_
  refine lv_aload_n hx hb dL_followers_2 rfl (lv_at hl 0 rfl) ?_
  refine lv_iload_n hx hb dL_followers_3 rfl (lv_at hl 1 rfl) ?_
  refine lw_goR (xn_V ⟨hx, hb, hml, hown, hts⟩ (c_X4_followers l hlf g hI (x := x)) gL_followers_X4_followers rfl pX4_followers ⟨Nat.le_of_ble_eq_true rfl, Nat.le_of_ble_eq_true rfl⟩ ⟨Nat.le_of_ble_eq_true rfl, Nat.le_of_ble_eq_true rfl⟩ (gP_r hP) hE hxv rfl rfl rfl hl.1 rfl (Nat.le_of_ble_eq_true rfl) dL_followers_4) hS (fun he0 => ?_) (fun he0 H locs q ce hz hk hS hce hcv hcl => ?_)
  · have hO : gP g (wO g o fn) s.heap := gP_l hP
    have hF : FWq g ad (oS (eP x) (σ) σ) s.heap := by
      unfold oS; rw [if_pos he0]; exact ⟨τ, gP_r hP, hR, hT⟩
    refine lv_i2l hx hb dL_followers_7 rfl ?_
    refine lw_last hx hb hE hN ho hO hF hS dL_followers_8 (fun H locs fn9 hO hfn hF hS => ?_)
    refine lv_goto (tgt := 15) hx hb dL_followers_9 (by decide) ?_
    refine lv_iconst (v := nI (0)) hx hb dL_followers_15 (by decide) ?_
    exact lwo_ret hx hb hr hlocks hS hO (fun _ => hfn) hF (by rw [he0]; try rfl) (Nat.le_of_ble_eq_true rfl) (Nat.le_of_ble_eq_true rfl) dL_followers_16
  · have hO := gP_same (gP_l hP) hk
    have hF : FWq g ad (oS (eP x) (σ) σ) H := by
      unfold oS; rw [if_neg he0]; exact ⟨τ, gP_same (gP_r hP) hk, hR, hT⟩
    have h8 : (eP x) = 0 ∨ (eP x) = 1 := by
      unfold eP; (repeat' split) <;> omega
    rcases h8 with h8 | h8
    · exact absurd h8 he0
    · rw [h8] at hcl
      refine vx_catch (E := exN 1) (name := exN 1) (own := RL) hown [] { startPc := 0, endPc := 9, handlerPc := 12, catchType := 13 } [] htab (fun z hz => by cases hz) rfl (by decide) (hts (.classLink RL 13 (exN 1)) (by decide +kernel)) (lw_cast hE (Or.inl rfl)) hce hcv hcl ?_
      refine lv_astore_n (lv' := [(3, .ref (q)), (0, .ref (ad 0)), (1, .int (x)), (2, .ref (o))]) hx hb dL_followers_12 rfl hl (by decide) rfl (fun ls hl => ?_)
      refine lv_iconst (v := nI (1)) hx hb dL_followers_13 (by decide) ?_
      exact lwo_ret hx hb hr hlocks hS hO (fun z => absurd z he0) hF (by rw [h8]; try rfl) (Nat.le_of_ble_eq_true rfl) (Nat.le_of_ble_eq_true rfl) dL_followers_14
set_option maxHeartbeats 4000000 in
set_option maxRecDepth 100000 in
/-- isLarge of the law: calls, catches, tells the place -/
theorem c_L_isLarge (l : Launch) (hlf : l.stackTraces = false) (g : GT) {ad : Nat → Nat} {σ : St} {τ : Sc} (hI : Inv σ) (hN : FN ad 31) (hR : rowsOk σ τ 8) (hSd : Setd σ) (hT : tc τ ≤ 150) {o : Nat} {fn : Nat → Int64} (ho : ¬ o ∈ fA ad) {x : Int32} : lwM l g yL_isLarge wsL_isLarge 8 131 1 6 [.ref (ad 0), .int (x), .ref (o)] ad o fn σ τ (eP x) (eP x) (oS (eP x) (σ) σ) (bL (lg σ (ix x))) := by
  refine lw_of (cc := cL_isLarge) (maxL := 4) (ret := (some .int)) (by decide) rfl (Nat.le_of_ble_eq_true rfl) (fun p en s m below meth c ls hx hb hr hml hts hown hlocks htab hl hP hE hxv hS => ?_)
  have hl : lv_has ls 4 [(0, .ref (ad 0)), (1, .int (x)), (2, .ref (o))] := hl
  have hown : s.vm.findClass RL = some m.cls := hown
  refine lv_aload_n hx hb dL_isLarge_0 rfl (lv_at hl 2 rfl) ?_
  refine lv_iconst (v := nI (0)) hx hb dL_isLarge_1 (by decide) ?_
  refine lv_aload_n hx hb dL_isLarge_2 rfl (lv_at hl 0 rfl) ?_
  refine lv_iload_n hx hb dL_isLarge_3 rfl (lv_at hl 1 rfl) ?_
  refine lw_goR (xn_V ⟨hx, hb, hml, hown, hts⟩ (c_X4_isLarge l hlf g hI (x := x)) gL_isLarge_X4_isLarge rfl pX4_isLarge ⟨Nat.le_of_ble_eq_true rfl, Nat.le_of_ble_eq_true rfl⟩ ⟨Nat.le_of_ble_eq_true rfl, Nat.le_of_ble_eq_true rfl⟩ (gP_r hP) hE hxv rfl rfl rfl hl.1 rfl (Nat.le_of_ble_eq_true rfl) dL_isLarge_4) hS (fun he0 => ?_) (fun he0 H locs q ce hz hk hS hce hcv hcl => ?_)
  · have hO : gP g (wO g o fn) s.heap := gP_l hP
    have hF : FWq g ad (oS (eP x) (σ) σ) s.heap := by
      unfold oS; rw [if_pos he0]; exact ⟨τ, gP_r hP, hR, hT⟩
    refine br_eqB (tgt := 14) hx hb dL_isLarge_7 (by decide) (fun h348 => ?_) (fun h348 => ?_)
    · refine lv_lconst (v := 0) hx hb dL_isLarge_14 (by decide) ?_
      refine tp_j (b := bL (lg σ (ix x))) (by rw [h348]; try rfl) ?_
      refine lw_last hx hb hE hN ho hO hF hS dL_isLarge_15 (fun H locs fn9 hO hfn hF hS => ?_)
      refine lv_goto (tgt := 22) hx hb dL_isLarge_16 (by decide) ?_
      refine lv_iconst (v := nI (0)) hx hb dL_isLarge_22 (by decide) ?_
      exact lwo_ret hx hb hr hlocks hS hO (fun _ => hfn) hF (by rw [he0]; try rfl) (Nat.le_of_ble_eq_true rfl) (Nat.le_of_ble_eq_true rfl) dL_isLarge_23
    · refine lv_lconst (v := 1) hx hb dL_isLarge_10 (by decide) ?_
      refine lv_goto (tgt := 15) hx hb dL_isLarge_11 (by decide) ?_
      refine tp_j (b := bL (lg σ (ix x))) (by rw [h348]; try rfl) ?_
      refine lw_last hx hb hE hN ho hO hF hS dL_isLarge_15 (fun H locs fn9 hO hfn hF hS => ?_)
      refine lv_goto (tgt := 22) hx hb dL_isLarge_16 (by decide) ?_
      refine lv_iconst (v := nI (0)) hx hb dL_isLarge_22 (by decide) ?_
      exact lwo_ret hx hb hr hlocks hS hO (fun _ => hfn) hF (by rw [he0]; try rfl) (Nat.le_of_ble_eq_true rfl) (Nat.le_of_ble_eq_true rfl) dL_isLarge_23
  · have hO := gP_same (gP_l hP) hk
    have hF : FWq g ad (oS (eP x) (σ) σ) H := by
      unfold oS; rw [if_neg he0]; exact ⟨τ, gP_same (gP_r hP) hk, hR, hT⟩
    have h8 : (eP x) = 0 ∨ (eP x) = 1 := by
      unfold eP; (repeat' split) <;> omega
    rcases h8 with h8 | h8
    · exact absurd h8 he0
    · rw [h8] at hcl
      refine vx_catch (E := exN 1) (name := exN 1) (own := RL) hown [] { startPc := 0, endPc := 16, handlerPc := 19, catchType := 13 } [] htab (fun z hz => by cases hz) rfl (by decide) (hts (.classLink RL 13 (exN 1)) (by decide +kernel)) (lw_cast hE (Or.inl rfl)) hce hcv hcl ?_
      refine lv_astore_n (lv' := [(3, .ref (q)), (0, .ref (ad 0)), (1, .int (x)), (2, .ref (o))]) hx hb dL_isLarge_19 rfl hl (by decide) rfl (fun ls hl => ?_)
      refine lv_iconst (v := nI (1)) hx hb dL_isLarge_20 (by decide) ?_
      exact lwo_ret hx hb hr hlocks hS hO (fun z => absurd z he0) hF (by rw [h8]; try rfl) (Nat.le_of_ble_eq_true rfl) (Nat.le_of_ble_eq_true rfl) dL_isLarge_21
set_option maxHeartbeats 4000000 in
set_option maxRecDepth 100000 in
/-- inRow of the law: calls, catches, tells the place -/
theorem c_L_inRow (l : Launch) (hlf : l.stackTraces = false) (g : GT) {ad : Nat → Nat} {σ : St} {τ : Sc} (hI : Inv σ) (hN : FN ad 31) (hR : rowsOk σ τ 8) (hSd : Setd σ) (hT : tc τ ≤ 150) {o : Nat} {fn : Nat → Int64} (ho : ¬ o ∈ fA ad) {x : Int32} : lwM l g yL_inRow wsL_inRow 9 152 1 6 [.ref (ad 0), .int (x), .ref (o)] ad o fn σ τ (eP x) (eP x) (oS (eP x) (σ) σ) ((nI (rcn σ (ix x))).toInt64) := by
  refine lw_of (cc := cL_inRow) (maxL := 4) (ret := (some .int)) (by decide) rfl (Nat.le_of_ble_eq_true rfl) (fun p en s m below meth c ls hx hb hr hml hts hown hlocks htab hl hP hE hxv hS => ?_)
  have hl : lv_has ls 4 [(0, .ref (ad 0)), (1, .int (x)), (2, .ref (o))] := hl
  have hown : s.vm.findClass RL = some m.cls := hown
  refine lv_aload_n hx hb dL_inRow_0 rfl (lv_at hl 2 rfl) ?_
  refine lv_iconst (v := nI (0)) hx hb dL_inRow_1 (by decide) ?_
  refine lv_aload_n hx hb dL_inRow_2 rfl (lv_at hl 0 rfl) ?_
  refine lv_iload_n hx hb dL_inRow_3 rfl (lv_at hl 1 rfl) ?_
  refine lw_goR (xn_V ⟨hx, hb, hml, hown, hts⟩ (c_X4_inRow l hlf g hI hR (x := x)) gL_inRow_X4_inRow rfl pX4_inRow ⟨Nat.le_of_ble_eq_true rfl, Nat.le_of_ble_eq_true rfl⟩ ⟨Nat.le_of_ble_eq_true rfl, Nat.le_of_ble_eq_true rfl⟩ (gP_r hP) hE hxv rfl rfl rfl hl.1 rfl (Nat.le_of_ble_eq_true rfl) dL_inRow_4) hS (fun he0 => ?_) (fun he0 H locs q ce hz hk hS hce hcv hcl => ?_)
  · have hO : gP g (wO g o fn) s.heap := gP_l hP
    have hF : FWq g ad (oS (eP x) (σ) σ) s.heap := by
      unfold oS; rw [if_pos he0]; exact ⟨τ, gP_r hP, hR, hT⟩
    refine lv_i2l hx hb dL_inRow_7 rfl ?_
    refine lw_last hx hb hE hN ho hO hF hS dL_inRow_8 (fun H locs fn9 hO hfn hF hS => ?_)
    refine lv_goto (tgt := 15) hx hb dL_inRow_9 (by decide) ?_
    refine lv_iconst (v := nI (0)) hx hb dL_inRow_15 (by decide) ?_
    exact lwo_ret hx hb hr hlocks hS hO (fun _ => hfn) hF (by rw [he0]; try rfl) (Nat.le_of_ble_eq_true rfl) (Nat.le_of_ble_eq_true rfl) dL_inRow_16
  · have hO := gP_same (gP_l hP) hk
    have hF : FWq g ad (oS (eP x) (σ) σ) H := by
      unfold oS; rw [if_neg he0]; exact ⟨τ, gP_same (gP_r hP) hk, hR, hT⟩
    have h8 : (eP x) = 0 ∨ (eP x) = 1 := by
      unfold eP; (repeat' split) <;> omega
    rcases h8 with h8 | h8
    · exact absurd h8 he0
    · rw [h8] at hcl
      refine vx_catch (E := exN 1) (name := exN 1) (own := RL) hown [] { startPc := 0, endPc := 9, handlerPc := 12, catchType := 13 } [] htab (fun z hz => by cases hz) rfl (by decide) (hts (.classLink RL 13 (exN 1)) (by decide +kernel)) (lw_cast hE (Or.inl rfl)) hce hcv hcl ?_
      refine lv_astore_n (lv' := [(3, .ref (q)), (0, .ref (ad 0)), (1, .int (x)), (2, .ref (o))]) hx hb dL_inRow_12 rfl hl (by decide) rfl (fun ls hl => ?_)
      refine lv_iconst (v := nI (1)) hx hb dL_inRow_13 (by decide) ?_
      exact lwo_ret hx hb hr hlocks hS hO (fun z => absurd z he0) hF (by rw [h8]; try rfl) (Nat.le_of_ble_eq_true rfl) (Nat.le_of_ble_eq_true rfl) dL_inRow_14
set_option maxHeartbeats 4000000 in
set_option maxRecDepth 100000 in
/-- rowAt of the law: calls, catches, tells the place -/
theorem c_L_rowAt (l : Launch) (hlf : l.stackTraces = false) (g : GT) {ad : Nat → Nat} {σ : St} {τ : Sc} (hI : Inv σ) (hN : FN ad 31) (hR : rowsOk σ τ 8) (hSd : Setd σ) (hT : tc τ ≤ 150) {o : Nat} {fn : Nat → Int64} (ho : ¬ o ∈ fA ad) {x y : Int32} {v9 : Nat} (hv : eRow σ x y = 0 → isRow σ (ix x) (ix y) v9) : lwM l g yL_rowAt wsL_rowAt 9 154 2 12 [.ref (ad 0), .int (x), .int (y), .ref (o)] ad o fn σ τ (eRow σ x y) (eRow σ x y) (oS (eRow σ x y) (σ) σ) ((nI (v9)).toInt64) := by
  refine lw_of (cc := cL_rowAt) (maxL := 5) (ret := (some .int)) (by decide) rfl (Nat.le_of_ble_eq_true rfl) (fun p en s m below meth c ls hx hb hr hml hts hown hlocks htab hl hP hE hxv hS => ?_)
  have hl : lv_has ls 5 [(0, .ref (ad 0)), (1, .int (x)), (2, .int (y)), (3, .ref (o))] := hl
  have hown : s.vm.findClass RL = some m.cls := hown
  refine lv_aload_n hx hb dL_rowAt_0 rfl (lv_at hl 3 rfl) ?_
  refine lv_iconst (v := nI (0)) hx hb dL_rowAt_1 (by decide) ?_
  refine lv_aload_n hx hb dL_rowAt_2 rfl (lv_at hl 0 rfl) ?_
  refine lv_iload_n hx hb dL_rowAt_3 rfl (lv_at hl 1 rfl) ?_
  refine lv_iload_n hx hb dL_rowAt_4 rfl (lv_at hl 2 rfl) ?_
  refine lw_goR (xn_V ⟨hx, hb, hml, hown, hts⟩ (c_X4_rowAt l hlf g hI hR hSd (x := x) (y := y) (v9 := v9) hv) gL_rowAt_X4_rowAt rfl pX4_rowAt ⟨Nat.le_of_ble_eq_true rfl, Nat.le_of_ble_eq_true rfl⟩ ⟨Nat.le_of_ble_eq_true rfl, Nat.le_of_ble_eq_true rfl⟩ (gP_r hP) hE hxv rfl rfl rfl hl.1 rfl (Nat.le_of_ble_eq_true rfl) dL_rowAt_5) hS (fun he0 => ?_) (fun he0 H locs q ce hz hk hS hce hcv hcl => ?_)
  · have hO : gP g (wO g o fn) s.heap := gP_l hP
    have hF : FWq g ad (oS (eRow σ x y) (σ) σ) s.heap := by
      unfold oS; rw [if_pos he0]; exact ⟨τ, gP_r hP, hR, hT⟩
    refine lv_i2l hx hb dL_rowAt_8 rfl ?_
    refine lw_last hx hb hE hN ho hO hF hS dL_rowAt_9 (fun H locs fn9 hO hfn hF hS => ?_)
    refine lv_goto (tgt := 17) hx hb dL_rowAt_10 (by decide) ?_
    refine lv_iconst (v := nI (0)) hx hb dL_rowAt_17 (by decide) ?_
    exact lwo_ret hx hb hr hlocks hS hO (fun _ => hfn) hF (by rw [he0]; try rfl) (Nat.le_of_ble_eq_true rfl) (Nat.le_of_ble_eq_true rfl) dL_rowAt_18
  · have hO := gP_same (gP_l hP) hk
    have hF : FWq g ad (oS (eRow σ x y) (σ) σ) H := by
      unfold oS; rw [if_neg he0]; exact ⟨τ, gP_same (gP_r hP) hk, hR, hT⟩
    have h8 : (eRow σ x y) = 0 ∨ (eRow σ x y) = 1 := by
      unfold eRow; (repeat' split) <;> omega
    rcases h8 with h8 | h8
    · exact absurd h8 he0
    · rw [h8] at hcl
      refine vx_catch (E := exN 1) (name := exN 1) (own := RL) hown [] { startPc := 0, endPc := 10, handlerPc := 13, catchType := 13 } [] htab (fun z hz => by cases hz) rfl (by decide) (hts (.classLink RL 13 (exN 1)) (by decide +kernel)) (lw_cast hE (Or.inl rfl)) hce hcv hcl ?_
      refine lv_astore (lv' := [(4, .ref (q)), (0, .ref (ad 0)), (1, .int (x)), (2, .int (y)), (3, .ref (o))]) hx hb dL_rowAt_13 hl (by decide) rfl (fun ls hl => ?_)
      refine lv_iconst (v := nI (1)) hx hb dL_rowAt_15 (by decide) ?_
      exact lwo_ret hx hb hr hlocks hS hO (fun z => absurd z he0) hF (by rw [h8]; try rfl) (Nat.le_of_ble_eq_true rfl) (Nat.le_of_ble_eq_true rfl) dL_rowAt_16
set_option maxHeartbeats 4000000 in
set_option maxRecDepth 100000 in
/-- floorOf of the law: calls, catches, tells the place -/
theorem c_L_floorOf (l : Launch) (hlf : l.stackTraces = false) (g : GT) {ad : Nat → Nat} {σ : St} {τ : Sc} (hI : Inv σ) (hN : FN ad 31) (hR : rowsOk σ τ 8) (hSd : Setd σ) (hT : tc τ ≤ 150) {o : Nat} {fn : Nat → Int64} (ho : ¬ o ∈ fA ad) {x : Int32} : lwM l g yL_floorOf wsL_floorOf 9 152 1 6 [.ref (ad 0), .int (x), .ref (o)] ad o fn σ τ (eP x) (eP x) (oS (eP x) (σ) σ) ((fI (sf σ (ix x))).toInt64) := by
  refine lw_of (cc := cL_floorOf) (maxL := 4) (ret := (some .int)) (by decide) rfl (Nat.le_of_ble_eq_true rfl) (fun p en s m below meth c ls hx hb hr hml hts hown hlocks htab hl hP hE hxv hS => ?_)
  have hl : lv_has ls 4 [(0, .ref (ad 0)), (1, .int (x)), (2, .ref (o))] := hl
  have hown : s.vm.findClass RL = some m.cls := hown
  refine lv_aload_n hx hb dL_floorOf_0 rfl (lv_at hl 2 rfl) ?_
  refine lv_iconst (v := nI (0)) hx hb dL_floorOf_1 (by decide) ?_
  refine lv_aload_n hx hb dL_floorOf_2 rfl (lv_at hl 0 rfl) ?_
  refine lv_iload_n hx hb dL_floorOf_3 rfl (lv_at hl 1 rfl) ?_
  refine lw_goR (xn_V ⟨hx, hb, hml, hown, hts⟩ (c_X4_floorOf l hlf g hI (x := x)) gL_floorOf_X4_floorOf rfl pX4_floorOf ⟨Nat.le_of_ble_eq_true rfl, Nat.le_of_ble_eq_true rfl⟩ ⟨Nat.le_of_ble_eq_true rfl, Nat.le_of_ble_eq_true rfl⟩ (gP_r hP) hE hxv rfl rfl rfl hl.1 rfl (Nat.le_of_ble_eq_true rfl) dL_floorOf_4) hS (fun he0 => ?_) (fun he0 H locs q ce hz hk hS hce hcv hcl => ?_)
  · have hO : gP g (wO g o fn) s.heap := gP_l hP
    have hF : FWq g ad (oS (eP x) (σ) σ) s.heap := by
      unfold oS; rw [if_pos he0]; exact ⟨τ, gP_r hP, hR, hT⟩
    refine lv_i2l hx hb dL_floorOf_7 rfl ?_
    refine lw_last hx hb hE hN ho hO hF hS dL_floorOf_8 (fun H locs fn9 hO hfn hF hS => ?_)
    refine lv_goto (tgt := 15) hx hb dL_floorOf_9 (by decide) ?_
    refine lv_iconst (v := nI (0)) hx hb dL_floorOf_15 (by decide) ?_
    exact lwo_ret hx hb hr hlocks hS hO (fun _ => hfn) hF (by rw [he0]; try rfl) (Nat.le_of_ble_eq_true rfl) (Nat.le_of_ble_eq_true rfl) dL_floorOf_16
  · have hO := gP_same (gP_l hP) hk
    have hF : FWq g ad (oS (eP x) (σ) σ) H := by
      unfold oS; rw [if_neg he0]; exact ⟨τ, gP_same (gP_r hP) hk, hR, hT⟩
    have h8 : (eP x) = 0 ∨ (eP x) = 1 := by
      unfold eP; (repeat' split) <;> omega
    rcases h8 with h8 | h8
    · exact absurd h8 he0
    · rw [h8] at hcl
      refine vx_catch (E := exN 1) (name := exN 1) (own := RL) hown [] { startPc := 0, endPc := 9, handlerPc := 12, catchType := 13 } [] htab (fun z hz => by cases hz) rfl (by decide) (hts (.classLink RL 13 (exN 1)) (by decide +kernel)) (lw_cast hE (Or.inl rfl)) hce hcv hcl ?_
      refine lv_astore_n (lv' := [(3, .ref (q)), (0, .ref (ad 0)), (1, .int (x)), (2, .ref (o))]) hx hb dL_floorOf_12 rfl hl (by decide) rfl (fun ls hl => ?_)
      refine lv_iconst (v := nI (1)) hx hb dL_floorOf_13 (by decide) ?_
      exact lwo_ret hx hb hr hlocks hS hO (fun z => absurd z he0) hF (by rw [h8]; try rfl) (Nat.le_of_ble_eq_true rfl) (Nat.le_of_ble_eq_true rfl) dL_floorOf_14
set_option maxHeartbeats 4000000 in
set_option maxRecDepth 100000 in
/-- shows of the law: calls, catches, tells the place -/
theorem c_L_shows (l : Launch) (hlf : l.stackTraces = false) (g : GT) {ad : Nat → Nat} {σ : St} {τ : Sc} (hI : Inv σ) (hN : FN ad 31) (hR : rowsOk σ τ 8) (hSd : Setd σ) (hT : tc τ ≤ 150) {o : Nat} {fn : Nat → Int64} (ho : ¬ o ∈ fA ad) {x y : Int32} : lwM l g yL_shows wsL_shows 9 156 2 12 [.ref (ad 0), .int (x), .int (y), .ref (o)] ad o fn σ τ (eShw σ x y) (eShw σ x y) (oS (eShw σ x y) (σ) σ) (bL (shw σ (ix x) (ix y))) := by
  refine lw_of (cc := cL_shows) (maxL := 5) (ret := (some .int)) (by decide) rfl (Nat.le_of_ble_eq_true rfl) (fun p en s m below meth c ls hx hb hr hml hts hown hlocks htab hl hP hE hxv hS => ?_)
  have hl : lv_has ls 5 [(0, .ref (ad 0)), (1, .int (x)), (2, .int (y)), (3, .ref (o))] := hl
  have hown : s.vm.findClass RL = some m.cls := hown
  refine lv_aload_n hx hb dL_shows_0 rfl (lv_at hl 3 rfl) ?_
  refine lv_iconst (v := nI (0)) hx hb dL_shows_1 (by decide) ?_
  refine lv_aload_n hx hb dL_shows_2 rfl (lv_at hl 0 rfl) ?_
  refine lv_iload_n hx hb dL_shows_3 rfl (lv_at hl 1 rfl) ?_
  refine lv_iload_n hx hb dL_shows_4 rfl (lv_at hl 2 rfl) ?_
  refine lw_goW (xn_V ⟨hx, hb, hml, hown, hts⟩ (c_X4_shows l hlf g hI hN hR hSd hT (x := x) (y := y)) gL_shows_X4_shows rfl pX4_shows ⟨Nat.le_of_ble_eq_true rfl, Nat.le_of_ble_eq_true rfl⟩ ⟨Nat.le_of_ble_eq_true rfl, Nat.le_of_ble_eq_true rfl⟩ (gP_r hP) hE hxv rfl rfl rfl hl.1 rfl (Nat.le_of_ble_eq_true rfl) dL_shows_5) hS (fun z h => List.mem_cons_of_mem _ h) (fun he0 H locs hB hz hk hS => ?_) (fun he0 H locs q ce hz hk hS hce hcv hcl => ?_)
  · have hO : gP g (wO g o fn) H := P_keep (gP_l hP) (lw_apart ho) hk
    have hF : FWq g ad (oS (eShw σ x y) (σ) σ) H := by
      unfold oS; rw [if_pos he0]; exact hB
    refine br_eqB (tgt := 15) hx hb dL_shows_8 (by decide) (fun h349 => ?_) (fun h349 => ?_)
    · refine lv_lconst (v := 0) hx hb dL_shows_15 (by decide) ?_
      refine tp_j (b := bL (shw σ (ix x) (ix y))) (by rw [h349]; try rfl) ?_
      refine lw_last hx hb hE hN ho hO hF hS dL_shows_16 (fun H locs fn9 hO hfn hF hS => ?_)
      refine lv_goto (tgt := 24) hx hb dL_shows_17 (by decide) ?_
      refine lv_iconst (v := nI (0)) hx hb dL_shows_24 (by decide) ?_
      exact lwo_ret hx hb hr hlocks hS hO (fun _ => hfn) hF (by rw [he0]; try rfl) (Nat.le_of_ble_eq_true rfl) (Nat.le_of_ble_eq_true rfl) dL_shows_25
    · refine lv_lconst (v := 1) hx hb dL_shows_11 (by decide) ?_
      refine lv_goto (tgt := 16) hx hb dL_shows_12 (by decide) ?_
      refine tp_j (b := bL (shw σ (ix x) (ix y))) (by rw [h349]; try rfl) ?_
      refine lw_last hx hb hE hN ho hO hF hS dL_shows_16 (fun H locs fn9 hO hfn hF hS => ?_)
      refine lv_goto (tgt := 24) hx hb dL_shows_17 (by decide) ?_
      refine lv_iconst (v := nI (0)) hx hb dL_shows_24 (by decide) ?_
      exact lwo_ret hx hb hr hlocks hS hO (fun _ => hfn) hF (by rw [he0]; try rfl) (Nat.le_of_ble_eq_true rfl) (Nat.le_of_ble_eq_true rfl) dL_shows_25
  · have hO := gP_same (gP_l hP) hk
    have hF : FWq g ad (oS (eShw σ x y) (σ) σ) H := by
      unfold oS; rw [if_neg he0]; exact ⟨τ, gP_same (gP_r hP) hk, hR, hT⟩
    have h8 : (eShw σ x y) = 0 ∨ (eShw σ x y) = 1 := by
      unfold eShw; (repeat' split) <;> omega
    rcases h8 with h8 | h8
    · exact absurd h8 he0
    · rw [h8] at hcl
      refine vx_catch (E := exN 1) (name := exN 1) (own := RL) hown [] { startPc := 0, endPc := 17, handlerPc := 20, catchType := 13 } [] htab (fun z hz => by cases hz) rfl (by decide) (hts (.classLink RL 13 (exN 1)) (by decide +kernel)) (lw_cast hE (Or.inl rfl)) hce hcv hcl ?_
      refine lv_astore (lv' := [(4, .ref (q)), (0, .ref (ad 0)), (1, .int (x)), (2, .int (y)), (3, .ref (o))]) hx hb dL_shows_20 hl (by decide) rfl (fun ls hl => ?_)
      refine lv_iconst (v := nI (1)) hx hb dL_shows_22 (by decide) ?_
      exact lwo_ret hx hb hr hlocks hS hO (fun z => absurd z he0) hF (by rw [h8]; try rfl) (Nat.le_of_ble_eq_true rfl) (Nat.le_of_ble_eq_true rfl) dL_shows_23
set_option maxHeartbeats 4000000 in
set_option maxRecDepth 100000 in
/-- next of the law: calls, catches, tells the place -/
theorem c_L_next (l : Launch) (hlf : l.stackTraces = false) (g : GT) {ad : Nat → Nat} {σ : St} {τ : Sc} (hI : Inv σ) (hN : FN ad 31) (hR : rowsOk σ τ 8) (hSd : Setd σ) (hT : tc τ ≤ 150) {o : Nat} {fn : Nat → Int64} (ho : ¬ o ∈ fA ad) {x y : Int32} : lwM l g yL_next wsL_next 9 156 2 12 [.ref (ad 0), .int (x), .int (y), .ref (o)] ad o fn σ τ (eNxt x y) (eNxt x y) (oS (eNxt x y) (σ) σ) ((fI (rNxt σ (ix x) (ix y))).toInt64) := by
  refine lw_of (cc := cL_next) (maxL := 5) (ret := (some .int)) (by decide) rfl (Nat.le_of_ble_eq_true rfl) (fun p en s m below meth c ls hx hb hr hml hts hown hlocks htab hl hP hE hxv hS => ?_)
  have hl : lv_has ls 5 [(0, .ref (ad 0)), (1, .int (x)), (2, .int (y)), (3, .ref (o))] := hl
  have hown : s.vm.findClass RL = some m.cls := hown
  refine lv_aload_n hx hb dL_next_0 rfl (lv_at hl 3 rfl) ?_
  refine lv_iconst (v := nI (0)) hx hb dL_next_1 (by decide) ?_
  refine lv_aload_n hx hb dL_next_2 rfl (lv_at hl 0 rfl) ?_
  refine lv_iload_n hx hb dL_next_3 rfl (lv_at hl 1 rfl) ?_
  refine lv_iload_n hx hb dL_next_4 rfl (lv_at hl 2 rfl) ?_
  refine lw_goW (xn_V ⟨hx, hb, hml, hown, hts⟩ (c_X4_next l hlf g hI hN hR hSd hT (x := x) (y := y)) gL_next_X4_next rfl pX4_next ⟨Nat.le_of_ble_eq_true rfl, Nat.le_of_ble_eq_true rfl⟩ ⟨Nat.le_of_ble_eq_true rfl, Nat.le_of_ble_eq_true rfl⟩ (gP_r hP) hE hxv rfl rfl rfl hl.1 rfl (Nat.le_of_ble_eq_true rfl) dL_next_5) hS (fun z h => List.mem_cons_of_mem _ h) (fun he0 H locs hB hz hk hS => ?_) (fun he0 H locs q ce hz hk hS hce hcv hcl => ?_)
  · have hO : gP g (wO g o fn) H := P_keep (gP_l hP) (lw_apart ho) hk
    have hF : FWq g ad (oS (eNxt x y) (σ) σ) H := by
      unfold oS; rw [if_pos he0]; exact hB
    refine lv_i2l hx hb dL_next_8 rfl ?_
    refine lw_last hx hb hE hN ho hO hF hS dL_next_9 (fun H locs fn9 hO hfn hF hS => ?_)
    refine lv_goto (tgt := 21) hx hb dL_next_10 (by decide) ?_
    refine lv_iconst (v := nI (0)) hx hb dL_next_21 (by decide) ?_
    exact lwo_ret hx hb hr hlocks hS hO (fun _ => hfn) hF (by rw [he0]; try rfl) (Nat.le_of_ble_eq_true rfl) (Nat.le_of_ble_eq_true rfl) dL_next_22
  · have hO := gP_same (gP_l hP) hk
    have hF : FWq g ad (oS (eNxt x y) (σ) σ) H := by
      unfold oS; rw [if_neg he0]; exact ⟨τ, gP_same (gP_r hP) hk, hR, hT⟩
    have h8 : (eNxt x y) = 0 ∨ (eNxt x y) = 1 ∨ (eNxt x y) = 2 := by
      unfold eNxt eR; (repeat' split) <;> omega
    rcases h8 with h8 | h8 | h8
    · exact absurd h8 he0
    · rw [h8] at hcl
      refine vx_catch (E := exN 1) (name := exN 1) (own := RL) hown [] { startPc := 0, endPc := 10, handlerPc := 13, catchType := 13 } [{ startPc := 0, endPc := 10, handlerPc := 17, catchType := 15 }] htab (fun z hz => by cases hz) rfl (by decide) (hts (.classLink RL 13 (exN 1)) (by decide +kernel)) (lw_cast hE (Or.inl rfl)) hce hcv hcl ?_
      refine lv_astore (lv' := [(4, .ref (q)), (0, .ref (ad 0)), (1, .int (x)), (2, .int (y)), (3, .ref (o))]) hx hb dL_next_13 hl (by decide) rfl (fun ls hl => ?_)
      refine lv_iconst (v := nI (1)) hx hb dL_next_15 (by decide) ?_
      exact lwo_ret hx hb hr hlocks hS hO (fun z => absurd z he0) hF (by rw [h8]; try rfl) (Nat.le_of_ble_eq_true rfl) (Nat.le_of_ble_eq_true rfl) dL_next_16
    · rw [h8] at hcl
      refine vx_catch (E := exN 2) (name := exN 2) (own := RL) hown [{ startPc := 0, endPc := 10, handlerPc := 13, catchType := 13 }] { startPc := 0, endPc := 10, handlerPc := 17, catchType := 15 } [] htab (List.forall_mem_cons.mpr ⟨Or.inr ⟨by decide, exN 1, hts (.classLink RL 13 (exN 1)) (by decide +kernel), hE.2.2.2.2 (exN 2, exN 1) (by decide +kernel)⟩, (fun z hz => by cases hz)⟩) rfl (by decide) (hts (.classLink RL 15 (exN 2)) (by decide +kernel)) (lw_cast hE (Or.inr (Or.inl rfl))) hce hcv hcl ?_
      refine lv_astore (lv' := [(4, .ref (q)), (0, .ref (ad 0)), (1, .int (x)), (2, .int (y)), (3, .ref (o))]) hx hb dL_next_17 hl (by decide) rfl (fun ls hl => ?_)
      refine lv_iconst (v := nI (2)) hx hb dL_next_19 (by decide) ?_
      exact lwo_ret hx hb hr hlocks hS hO (fun z => absurd z he0) hF (by rw [h8]; try rfl) (Nat.le_of_ble_eq_true rfl) (Nat.le_of_ble_eq_true rfl) dL_next_20
set_option maxHeartbeats 4000000 in
set_option maxRecDepth 100000 in
/-- pageEnd of the law: calls, catches, tells the place -/
theorem c_L_pageEnd (l : Launch) (hlf : l.stackTraces = false) (g : GT) {ad : Nat → Nat} {σ : St} {τ : Sc} (hI : Inv σ) (hN : FN ad 31) (hR : rowsOk σ τ 8) (hSd : Setd σ) (hT : tc τ ≤ 150) {o : Nat} {fn : Nat → Int64} (ho : ¬ o ∈ fA ad) {x y z : Int32} {r9 : Nat} (hv : ePag x y z = 0 → isPag (shw σ (ix x)) (cmin (ix y) (sn σ)) (ix z) r9) : lwM l g yL_pageEnd wsL_pageEnd 9 158 3 18 [.ref (ad 0), .int (x), .int (y), .int (z), .ref (o)] ad o fn σ τ (ePag x y z) (ePag x y z) (oS (ePag x y z) (σ) σ) ((fI (r9)).toInt64) := by
  refine lw_of (cc := cL_pageEnd) (maxL := 6) (ret := (some .int)) (by decide) rfl (Nat.le_of_ble_eq_true rfl) (fun p en s m below meth c ls hx hb hr hml hts hown hlocks htab hl hP hE hxv hS => ?_)
  have hl : lv_has ls 6 [(0, .ref (ad 0)), (1, .int (x)), (2, .int (y)), (3, .int (z)), (4, .ref (o))] := hl
  have hown : s.vm.findClass RL = some m.cls := hown
  refine lv_aload hx hb dL_pageEnd_0 (lv_at hl 4 rfl) ?_
  refine lv_iconst (v := nI (0)) hx hb dL_pageEnd_2 (by decide) ?_
  refine lv_aload_n hx hb dL_pageEnd_3 rfl (lv_at hl 0 rfl) ?_
  refine lv_iload_n hx hb dL_pageEnd_4 rfl (lv_at hl 1 rfl) ?_
  refine lv_iload_n hx hb dL_pageEnd_5 rfl (lv_at hl 2 rfl) ?_
  refine lv_iload_n hx hb dL_pageEnd_6 rfl (lv_at hl 3 rfl) ?_
  refine lw_goW (xn_V ⟨hx, hb, hml, hown, hts⟩ (c_X4_pageEnd l hlf g hI hN hR hSd hT (x := x) (y := y) (z := z) (r9 := r9) hv) gL_pageEnd_X4_pageEnd rfl pX4_pageEnd ⟨Nat.le_of_ble_eq_true rfl, Nat.le_of_ble_eq_true rfl⟩ ⟨Nat.le_of_ble_eq_true rfl, Nat.le_of_ble_eq_true rfl⟩ (gP_r hP) hE hxv rfl rfl rfl hl.1 rfl (Nat.le_of_ble_eq_true rfl) dL_pageEnd_7) hS (fun z h => List.mem_cons_of_mem _ h) (fun he0 H locs hB hz hk hS => ?_) (fun he0 H locs q ce hz hk hS hce hcv hcl => ?_)
  · have hO : gP g (wO g o fn) H := P_keep (gP_l hP) (lw_apart ho) hk
    have hF : FWq g ad (oS (ePag x y z) (σ) σ) H := by
      unfold oS; rw [if_pos he0]; exact hB
    refine lv_i2l hx hb dL_pageEnd_10 rfl ?_
    refine lw_last hx hb hE hN ho hO hF hS dL_pageEnd_11 (fun H locs fn9 hO hfn hF hS => ?_)
    refine lv_goto (tgt := 23) hx hb dL_pageEnd_12 (by decide) ?_
    refine lv_iconst (v := nI (0)) hx hb dL_pageEnd_23 (by decide) ?_
    exact lwo_ret hx hb hr hlocks hS hO (fun _ => hfn) hF (by rw [he0]; try rfl) (Nat.le_of_ble_eq_true rfl) (Nat.le_of_ble_eq_true rfl) dL_pageEnd_24
  · have hO := gP_same (gP_l hP) hk
    have hF : FWq g ad (oS (ePag x y z) (σ) σ) H := by
      unfold oS; rw [if_neg he0]; exact ⟨τ, gP_same (gP_r hP) hk, hR, hT⟩
    have h8 : (ePag x y z) = 0 ∨ (ePag x y z) = 1 ∨ (ePag x y z) = 2 := by
      unfold ePag eR; (repeat' split) <;> omega
    rcases h8 with h8 | h8 | h8
    · exact absurd h8 he0
    · rw [h8] at hcl
      refine vx_catch (E := exN 1) (name := exN 1) (own := RL) hown [] { startPc := 0, endPc := 12, handlerPc := 15, catchType := 13 } [{ startPc := 0, endPc := 12, handlerPc := 19, catchType := 15 }] htab (fun z hz => by cases hz) rfl (by decide) (hts (.classLink RL 13 (exN 1)) (by decide +kernel)) (lw_cast hE (Or.inl rfl)) hce hcv hcl ?_
      refine lv_astore (lv' := [(5, .ref (q)), (0, .ref (ad 0)), (1, .int (x)), (2, .int (y)), (3, .int (z)), (4, .ref (o))]) hx hb dL_pageEnd_15 hl (by decide) rfl (fun ls hl => ?_)
      refine lv_iconst (v := nI (1)) hx hb dL_pageEnd_17 (by decide) ?_
      exact lwo_ret hx hb hr hlocks hS hO (fun z => absurd z he0) hF (by rw [h8]; try rfl) (Nat.le_of_ble_eq_true rfl) (Nat.le_of_ble_eq_true rfl) dL_pageEnd_18
    · rw [h8] at hcl
      refine vx_catch (E := exN 2) (name := exN 2) (own := RL) hown [{ startPc := 0, endPc := 12, handlerPc := 15, catchType := 13 }] { startPc := 0, endPc := 12, handlerPc := 19, catchType := 15 } [] htab (List.forall_mem_cons.mpr ⟨Or.inr ⟨by decide, exN 1, hts (.classLink RL 13 (exN 1)) (by decide +kernel), hE.2.2.2.2 (exN 2, exN 1) (by decide +kernel)⟩, (fun z hz => by cases hz)⟩) rfl (by decide) (hts (.classLink RL 15 (exN 2)) (by decide +kernel)) (lw_cast hE (Or.inr (Or.inl rfl))) hce hcv hcl ?_
      refine lv_astore (lv' := [(5, .ref (q)), (0, .ref (ad 0)), (1, .int (x)), (2, .int (y)), (3, .int (z)), (4, .ref (o))]) hx hb dL_pageEnd_19 hl (by decide) rfl (fun ls hl => ?_)
      refine lv_iconst (v := nI (2)) hx hb dL_pageEnd_21 (by decide) ?_
      exact lwo_ret hx hb hr hlocks hS hO (fun z => absurd z he0) hF (by rw [h8]; try rfl) (Nat.le_of_ble_eq_true rfl) (Nat.le_of_ble_eq_true rfl) dL_pageEnd_22
set_option maxHeartbeats 4000000 in
set_option maxRecDepth 100000 in
/-- length of the law: calls, catches, tells the place -/
theorem c_L_length (l : Launch) (hlf : l.stackTraces = false) (g : GT) {ad : Nat → Nat} {σ : St} {τ : Sc} (hI : Inv σ) (hN : FN ad 31) (hR : rowsOk σ τ 8) (hSd : Setd σ) (hT : tc τ ≤ 150) {o : Nat} {fn : Nat → Int64} (ho : ¬ o ∈ fA ad) {x : Int32} : lwM l g yL_length wsL_length 9 154 1 6 [.ref (ad 0), .int (x), .ref (o)] ad o fn σ τ (eP x) (eP x) (oS (eP x) (σ) σ) ((nI (cN (shw σ (ix x)) (sn σ))).toInt64) := by
  refine lw_of (cc := cL_length) (maxL := 4) (ret := (some .int)) (by decide) rfl (Nat.le_of_ble_eq_true rfl) (fun p en s m below meth c ls hx hb hr hml hts hown hlocks htab hl hP hE hxv hS => ?_)
  have hl : lv_has ls 4 [(0, .ref (ad 0)), (1, .int (x)), (2, .ref (o))] := hl
  have hown : s.vm.findClass RL = some m.cls := hown
  refine lv_aload_n hx hb dL_length_0 rfl (lv_at hl 2 rfl) ?_
  refine lv_iconst (v := nI (0)) hx hb dL_length_1 (by decide) ?_
  refine lv_aload_n hx hb dL_length_2 rfl (lv_at hl 0 rfl) ?_
  refine lv_iload_n hx hb dL_length_3 rfl (lv_at hl 1 rfl) ?_
  refine lw_goW (xn_V ⟨hx, hb, hml, hown, hts⟩ (c_X4_length l hlf g hI hN hR hSd hT (x := x)) gL_length_X4_length rfl pX4_length ⟨Nat.le_of_ble_eq_true rfl, Nat.le_of_ble_eq_true rfl⟩ ⟨Nat.le_of_ble_eq_true rfl, Nat.le_of_ble_eq_true rfl⟩ (gP_r hP) hE hxv rfl rfl rfl hl.1 rfl (Nat.le_of_ble_eq_true rfl) dL_length_4) hS (fun z h => List.mem_cons_of_mem _ h) (fun he0 H locs hB hz hk hS => ?_) (fun he0 H locs q ce hz hk hS hce hcv hcl => ?_)
  · have hO : gP g (wO g o fn) H := P_keep (gP_l hP) (lw_apart ho) hk
    have hF : FWq g ad (oS (eP x) (σ) σ) H := by
      unfold oS; rw [if_pos he0]; exact hB
    refine lv_i2l hx hb dL_length_7 rfl ?_
    refine lw_last hx hb hE hN ho hO hF hS dL_length_8 (fun H locs fn9 hO hfn hF hS => ?_)
    refine lv_goto (tgt := 15) hx hb dL_length_9 (by decide) ?_
    refine lv_iconst (v := nI (0)) hx hb dL_length_15 (by decide) ?_
    exact lwo_ret hx hb hr hlocks hS hO (fun _ => hfn) hF (by rw [he0]; try rfl) (Nat.le_of_ble_eq_true rfl) (Nat.le_of_ble_eq_true rfl) dL_length_16
  · have hO := gP_same (gP_l hP) hk
    have hF : FWq g ad (oS (eP x) (σ) σ) H := by
      unfold oS; rw [if_neg he0]; exact ⟨τ, gP_same (gP_r hP) hk, hR, hT⟩
    have h8 : (eP x) = 0 ∨ (eP x) = 1 := by
      unfold eP; (repeat' split) <;> omega
    rcases h8 with h8 | h8
    · exact absurd h8 he0
    · rw [h8] at hcl
      refine vx_catch (E := exN 1) (name := exN 1) (own := RL) hown [] { startPc := 0, endPc := 9, handlerPc := 12, catchType := 13 } [] htab (fun z hz => by cases hz) rfl (by decide) (hts (.classLink RL 13 (exN 1)) (by decide +kernel)) (lw_cast hE (Or.inl rfl)) hce hcv hcl ?_
      refine lv_astore_n (lv' := [(3, .ref (q)), (0, .ref (ad 0)), (1, .int (x)), (2, .ref (o))]) hx hb dL_length_12 rfl hl (by decide) rfl (fun ls hl => ?_)
      refine lv_iconst (v := nI (1)) hx hb dL_length_13 (by decide) ?_
      exact lwo_ret hx hb hr hlocks hS hO (fun z => absurd z he0) hF (by rw [h8]; try rfl) (Nat.le_of_ble_eq_true rfl) (Nat.le_of_ble_eq_true rfl) dL_length_14
set_option maxHeartbeats 4000000 in
set_option maxRecDepth 100000 in
/-- lengthByMerging of the law: calls, catches, tells the place -/
theorem c_L_lengthByMerging (l : Launch) (hlf : l.stackTraces = false) (g : GT) {ad : Nat → Nat} {σ : St} {τ : Sc} (hI : Inv σ) (hN : FN ad 31) (hR : rowsOk σ τ 8) (hSd : Setd σ) (hT : tc τ ≤ 150) {o : Nat} {fn : Nat → Int64} (ho : ¬ o ∈ fA ad) {x : Int32} : lwM l g yL_lengthByMerging wsL_lengthByMerging 9 152 1 6 [.ref (ad 0), .int (x), .ref (o)] ad o fn σ τ (eP x) (eP x) (oS (eP x) (σ) σ) ((nI (cN (shw σ (ix x)) (sn σ))).toInt64) := by
  refine lw_of (cc := cL_lengthByMerging) (maxL := 4) (ret := (some .int)) (by decide) rfl (Nat.le_of_ble_eq_true rfl) (fun p en s m below meth c ls hx hb hr hml hts hown hlocks htab hl hP hE hxv hS => ?_)
  have hl : lv_has ls 4 [(0, .ref (ad 0)), (1, .int (x)), (2, .ref (o))] := hl
  have hown : s.vm.findClass RL = some m.cls := hown
  refine lv_aload_n hx hb dL_lengthByMerging_0 rfl (lv_at hl 2 rfl) ?_
  refine lv_iconst (v := nI (0)) hx hb dL_lengthByMerging_1 (by decide) ?_
  refine lv_aload_n hx hb dL_lengthByMerging_2 rfl (lv_at hl 0 rfl) ?_
  refine lv_iload_n hx hb dL_lengthByMerging_3 rfl (lv_at hl 1 rfl) ?_
  refine lw_goW (xn_V ⟨hx, hb, hml, hown, hts⟩ (c_X4_lengthByMerging l hlf g hI hN hR hSd hT (x := x)) gL_lengthByMerging_X4_lengthByMerging rfl pX4_lengthByMerging ⟨Nat.le_of_ble_eq_true rfl, Nat.le_of_ble_eq_true rfl⟩ ⟨Nat.le_of_ble_eq_true rfl, Nat.le_of_ble_eq_true rfl⟩ (gP_r hP) hE hxv rfl rfl rfl hl.1 rfl (Nat.le_of_ble_eq_true rfl) dL_lengthByMerging_4) hS (fun z h => List.mem_cons_of_mem _ h) (fun he0 H locs hB hz hk hS => ?_) (fun he0 H locs q ce hz hk hS hce hcv hcl => ?_)
  · have hO : gP g (wO g o fn) H := P_keep (gP_l hP) (lw_apart ho) hk
    have hF : FWq g ad (oS (eP x) (σ) σ) H := by
      unfold oS; rw [if_pos he0]; exact hB
    refine lv_i2l hx hb dL_lengthByMerging_7 rfl ?_
    refine lw_last hx hb hE hN ho hO hF hS dL_lengthByMerging_8 (fun H locs fn9 hO hfn hF hS => ?_)
    refine lv_goto (tgt := 15) hx hb dL_lengthByMerging_9 (by decide) ?_
    refine lv_iconst (v := nI (0)) hx hb dL_lengthByMerging_15 (by decide) ?_
    exact lwo_ret hx hb hr hlocks hS hO (fun _ => hfn) hF (by rw [he0]; try rfl) (Nat.le_of_ble_eq_true rfl) (Nat.le_of_ble_eq_true rfl) dL_lengthByMerging_16
  · have hO := gP_same (gP_l hP) hk
    have hF : FWq g ad (oS (eP x) (σ) σ) H := by
      unfold oS; rw [if_neg he0]; exact ⟨τ, gP_same (gP_r hP) hk, hR, hT⟩
    have h8 : (eP x) = 0 ∨ (eP x) = 1 := by
      unfold eP; (repeat' split) <;> omega
    rcases h8 with h8 | h8
    · exact absurd h8 he0
    · rw [h8] at hcl
      refine vx_catch (E := exN 1) (name := exN 1) (own := RL) hown [] { startPc := 0, endPc := 9, handlerPc := 12, catchType := 13 } [] htab (fun z hz => by cases hz) rfl (by decide) (hts (.classLink RL 13 (exN 1)) (by decide +kernel)) (lw_cast hE (Or.inl rfl)) hce hcv hcl ?_
      refine lv_astore_n (lv' := [(3, .ref (q)), (0, .ref (ad 0)), (1, .int (x)), (2, .ref (o))]) hx hb dL_lengthByMerging_12 rfl hl (by decide) rfl (fun ls hl => ?_)
      refine lv_iconst (v := nI (1)) hx hb dL_lengthByMerging_13 (by decide) ?_
      exact lwo_ret hx hb hr hlocks hS hO (fun z => absurd z he0) hF (by rw [h8]; try rfl) (Nat.le_of_ble_eq_true rfl) (Nat.le_of_ble_eq_true rfl) dL_lengthByMerging_14
set_option maxHeartbeats 4000000 in
set_option maxRecDepth 100000 in
/-- hasGap of the law: calls, catches, tells the place -/
theorem c_L_hasGap (l : Launch) (hlf : l.stackTraces = false) (g : GT) {ad : Nat → Nat} {σ : St} {τ : Sc} (hI : Inv σ) (hN : FN ad 31) (hR : rowsOk σ τ 8) (hSd : Setd σ) (hT : tc τ ≤ 150) {o : Nat} {fn : Nat → Int64} (ho : ¬ o ∈ fA ad) {x : Int32} : lwM l g yL_hasGap wsL_hasGap 9 154 1 6 [.ref (ad 0), .int (x), .ref (o)] ad o fn σ τ (eP x) (eP x) (oS (eP x) (σ) σ) (bL (rGap σ (ix x))) := by
  refine lw_of (cc := cL_hasGap) (maxL := 4) (ret := (some .int)) (by decide) rfl (Nat.le_of_ble_eq_true rfl) (fun p en s m below meth c ls hx hb hr hml hts hown hlocks htab hl hP hE hxv hS => ?_)
  have hl : lv_has ls 4 [(0, .ref (ad 0)), (1, .int (x)), (2, .ref (o))] := hl
  have hown : s.vm.findClass RL = some m.cls := hown
  refine lv_aload_n hx hb dL_hasGap_0 rfl (lv_at hl 2 rfl) ?_
  refine lv_iconst (v := nI (0)) hx hb dL_hasGap_1 (by decide) ?_
  refine lv_aload_n hx hb dL_hasGap_2 rfl (lv_at hl 0 rfl) ?_
  refine lv_iload_n hx hb dL_hasGap_3 rfl (lv_at hl 1 rfl) ?_
  refine lw_goR (xn_V ⟨hx, hb, hml, hown, hts⟩ (c_X4_hasGap l hlf g hI (x := x)) gL_hasGap_X4_hasGap rfl pX4_hasGap ⟨Nat.le_of_ble_eq_true rfl, Nat.le_of_ble_eq_true rfl⟩ ⟨Nat.le_of_ble_eq_true rfl, Nat.le_of_ble_eq_true rfl⟩ (gP_r hP) hE hxv rfl rfl rfl hl.1 rfl (Nat.le_of_ble_eq_true rfl) dL_hasGap_4) hS (fun he0 => ?_) (fun he0 H locs q ce hz hk hS hce hcv hcl => ?_)
  · have hO : gP g (wO g o fn) s.heap := gP_l hP
    have hF : FWq g ad (oS (eP x) (σ) σ) s.heap := by
      unfold oS; rw [if_pos he0]; exact ⟨τ, gP_r hP, hR, hT⟩
    refine br_eqB (tgt := 14) hx hb dL_hasGap_7 (by decide) (fun h350 => ?_) (fun h350 => ?_)
    · refine lv_lconst (v := 0) hx hb dL_hasGap_14 (by decide) ?_
      refine tp_j (b := bL (rGap σ (ix x))) (by rw [h350]; try rfl) ?_
      refine lw_last hx hb hE hN ho hO hF hS dL_hasGap_15 (fun H locs fn9 hO hfn hF hS => ?_)
      refine lv_goto (tgt := 22) hx hb dL_hasGap_16 (by decide) ?_
      refine lv_iconst (v := nI (0)) hx hb dL_hasGap_22 (by decide) ?_
      exact lwo_ret hx hb hr hlocks hS hO (fun _ => hfn) hF (by rw [he0]; try rfl) (Nat.le_of_ble_eq_true rfl) (Nat.le_of_ble_eq_true rfl) dL_hasGap_23
    · refine lv_lconst (v := 1) hx hb dL_hasGap_10 (by decide) ?_
      refine lv_goto (tgt := 15) hx hb dL_hasGap_11 (by decide) ?_
      refine tp_j (b := bL (rGap σ (ix x))) (by rw [h350]; try rfl) ?_
      refine lw_last hx hb hE hN ho hO hF hS dL_hasGap_15 (fun H locs fn9 hO hfn hF hS => ?_)
      refine lv_goto (tgt := 22) hx hb dL_hasGap_16 (by decide) ?_
      refine lv_iconst (v := nI (0)) hx hb dL_hasGap_22 (by decide) ?_
      exact lwo_ret hx hb hr hlocks hS hO (fun _ => hfn) hF (by rw [he0]; try rfl) (Nat.le_of_ble_eq_true rfl) (Nat.le_of_ble_eq_true rfl) dL_hasGap_23
  · have hO := gP_same (gP_l hP) hk
    have hF : FWq g ad (oS (eP x) (σ) σ) H := by
      unfold oS; rw [if_neg he0]; exact ⟨τ, gP_same (gP_r hP) hk, hR, hT⟩
    have h8 : (eP x) = 0 ∨ (eP x) = 1 := by
      unfold eP; (repeat' split) <;> omega
    rcases h8 with h8 | h8
    · exact absurd h8 he0
    · rw [h8] at hcl
      refine vx_catch (E := exN 1) (name := exN 1) (own := RL) hown [] { startPc := 0, endPc := 16, handlerPc := 19, catchType := 13 } [] htab (fun z hz => by cases hz) rfl (by decide) (hts (.classLink RL 13 (exN 1)) (by decide +kernel)) (lw_cast hE (Or.inl rfl)) hce hcv hcl ?_
      refine lv_astore_n (lv' := [(3, .ref (q)), (0, .ref (ad 0)), (1, .int (x)), (2, .ref (o))]) hx hb dL_hasGap_19 rfl hl (by decide) rfl (fun ls hl => ?_)
      refine lv_iconst (v := nI (1)) hx hb dL_hasGap_20 (by decide) ?_
      exact lwo_ret hx hb hr hlocks hS hO (fun z => absurd z he0) hF (by rw [h8]; try rfl) (Nat.le_of_ble_eq_true rfl) (Nat.le_of_ble_eq_true rfl) dL_hasGap_21
