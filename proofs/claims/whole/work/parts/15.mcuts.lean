theorem br_eqF {p : Program} {l : Launch} {e : Env} {R : Room} {s : State} {m : MethodId} {args : Array Value} {below : List Frame} {meth : Method} {c : Code} {H : Heap} {locs : List Loc} {cells slots : Nat} {Q : State → Prop} {pc a b tgt : Nat} {rest : List Value} {ls : Array Slot} {cc : ByteArray} {off : Int} (hx : p.tables.exec = Jvm.exec) (hb : c.code = cc) (ha : a < 2 ^ 31) (hb2 : b < 2 ^ 31) (hdg : decode cc pc = .ok (.if_icmp .eq off, 3)) (ht : (pc : Int) + off = (tgt : Int)) (kt : a = b → W p l e R s m args below meth c H locs cells slots Q (F0 m tgt ls rest)) (kf : ¬ a = b → W p l e R s m args below meth c H locs cells slots Q (F0 m (pc + 3) ls rest)) : W p l e R s m args below meth c H locs cells slots Q (F0 m pc ls (.int (fI b) :: .int (fI a) :: rest)) :=
  lv_icmp_eq hx hb hdg ht (fun h => kt (Nat.le_antisymm ((fI_le ha hb2).mp (by rw [h]; exact Int32.le_refl _)) ((fI_le hb2 ha).mp (by rw [h]; exact Int32.le_refl _)))) (fun h => kf (fun z => h (by rw [z])))
theorem ov_le {a b : Nat} (ha : a < 2 ^ 30) (hb : b < 2 ^ 30) : nI a - nI b ≤ 0 ↔ a ≤ b := by
  rw [Int32.le_iff_toInt_le, pk_sub_toInt ha hb]
  show _ ≤ (0 : Int) ↔ _
  omega
theorem ov_dec (a b : Nat) : nI (a + 1) - nI b + Int32.ofInt (-1) = nI a - nI b := by
  rw [nI_succ]
  show nI a + 1 - nI b + (-1) = nI a - nI b
  rw [Int32.sub_eq_add_neg, Int32.sub_eq_add_neg, Int32.add_assoc (nI a) 1, Int32.add_assoc (nI a), Int32.add_comm 1 (-nI b), Int32.add_assoc (-nI b), show (1 : Int32) + (-1) = 0 by decide, Int32.add_zero]
theorem sn_uS (σ : St) (x : Nat → Nat) : sn (uS σ x) = sn σ := rfl
theorem sr_uS (σ : St) (x : Nat → Nat) : sr (uS σ x) = sr σ := rfl
theorem sf_uS (σ : St) (x : Nat → Nat) : sf (uS σ x) = x := rfl
theorem el_uS (σ : St) (x : Nat → Nat) : el (uS σ x) = el σ := rfl
theorem Inv_uS1 {σ : St} (h : Inv σ) {i c : Nat} (hc : c ≤ sn σ) : Inv (uS σ (va_up (sf σ) i c)) := by
  obtain ⟨a1, a2, a3, a4, a5, a6, a7, a8⟩ := h
  refine ⟨a1, a2, a3, a4, a5, a6, a7, fun q hq => ?_⟩
  show va_up (sf σ) i c q ≤ sn σ
  by_cases hqi : q = i
  · subst hqi
    rw [va_up_at]; exact hc
  · rw [va_up_ne _ _ hqi]; exact a8 q hq
theorem mX5_isFine_39 : Cond.fieldLink RX5 39 "FollowrowModel" "thrown" "I" ∈ wsX5_isFine := by decide +kernel
theorem iX5_isFine_5 : ∀ w ∈ wsX50, w ∈ wsX5_isFine := by decide +kernel
set_option maxHeartbeats 4000000 in
set_option maxRecDepth 100000 in
/-- isFine(x) -/
theorem c_X5_isFine (l : Launch) (g : GT) {am : Nat → Nat} {σ : St} {th x : Nat} (hM : FN am 8) (h1 : x ≤ 3) : wrM l g yX5_isFine wsX5_isFine 0 0 [.ref (am 0), .int (nI (x))] (wM g am (σ) (th)) (some (.int (bI (decide (x = 0))))) (fun H1 => gP g (wM g am σ x) H1) (mA am) := by
  refine wr_of (cc := cX5_isFine) (maxL := 2) (ret := (some .boolean)) (by decide) rfl (Nat.le_of_ble_eq_true rfl) (fun p e s m below meth c ls hx hb hr hml hts hown hlocks hl hP hE hS => ?_)
  have hl : lv_has ls 2 [(0, .ref (am 0)), (1, .int (nI (x)))] := hl
  have hown : s.vm.findClass RX5 = some m.cls := hown
  have hD : va_D (fun z => z ∈ mA am) (wM g am σ th) := wM_D hM
  refine lv_aload_n hx hb dX5_isFine_0 rfl (lv_at hl 0 rfl) ?_
  refine lv_iload_n hx hb dX5_isFine_1 rfl (lv_at hl 1 rfl) ?_
  refine pf (q0 := 0) (ci := 5) (k := 10) (ws' := wM g am (σ) (x)) hx hb hts iX5_isFine_5 hown hE hP hD hS rfl rfl (by decide) tyX5_ok nmX5 mX5_isFine_39 rfl (by decide +kernel) (Nat.le_of_ble_eq_true rfl) rfl dX5_isFine_2 (fun H locs hP hD hS => ?_)
  refine lv_iload_n hx hb dX5_isFine_5 rfl (lv_at hl 1 rfl) ?_
  refine br_ne0 (tgt := 13) hx hb (by omega) dX5_isFine_6 (by decide) (fun h179 => ?_) (fun h179 => ?_)
  · refine lv_iconst (v := bI (false)) hx hb dX5_isFine_13 (by decide) ?_
    exact wr_retz hx hb hr hlocks hS hP (decide_eq_false (p := x = 0) (by omega)).symm dX5_isFine_14
  · refine lv_iconst (v := bI (true)) hx hb dX5_isFine_9 (by decide) ?_
    refine lv_goto (tgt := 14) hx hb dX5_isFine_10 (by decide) ?_
    exact wr_retz hx hb hr hlocks hS hP (decide_eq_true (p := x = 0) h179).symm dX5_isFine_14
theorem uS_uS (σ : St) (q v w : Nat) : uS (uS σ (va_up (sf σ) q v)) (va_up (sf (uS σ (va_up (sf σ) q v))) q w) = uS σ (va_up (sf σ) q w) := by
  show uS σ (va_up (va_up (sf σ) q v) q w) = _
  rw [bx_uu]
def gmx (f e : Nat) : Nat := if f < e then e else f
theorem gmx_cases (f e : Nat) : (f < e ∧ gmx f e = e) ∨ (e ≤ f ∧ gmx f e = f) := by
  unfold gmx
  split
  · exact Or.inl ⟨by assumption, rfl⟩
  · exact Or.inr ⟨by omega, rfl⟩
/-- while one row of the reference is cut: f the floor at first, e the next entry, c the floor now, a what is still in the row -/
def cutI (P : Nat → Bool) (f n r e c a : Nat) : Prop := e ≤ n ∧ f ≤ c ∧ c ≤ gmx f e ∧ cN P c = cN P (gmx f e) ∧ a + cN P c = cN P n ∧ (c = f ∨ (f < c ∧ P (c - 1) = true ∧ cN P c + r ≤ cN P n))
theorem cutI_0 {P : Nat → Bool} {f n r : Nat} (h : f ≤ n) : cutI P f n r 0 f (cN P n - cN P f) := by
  have h1 := cN_mono P h
  have h2 : gmx f 0 = f := by unfold gmx; rw [if_neg (by omega)]
  exact ⟨Nat.zero_le _, Nat.le_refl _, by rw [h2]; exact Nat.le_refl _, by rw [h2], by omega, Or.inl rfl⟩
theorem cutI_t {P : Nat → Bool} {f n r e c a : Nat} (h : cutI P f n r e c (a + 1)) (hf : f ≤ n) (he : e < n) (hr : r < a + 1) (hc : c ≤ e) (hp : P e = true) : cutI P f n r (e + 1) (e + 1) a := by
  obtain ⟨h1, h2, h3, h4, h5, h6⟩ := h
  have h7 : gmx f (e + 1) = e + 1 := by unfold gmx; rw [if_pos (by omega)]
  have h8 : cN P c = cN P e := by
    rcases gmx_cases f e with ⟨g1, g2⟩ | ⟨g1, g2⟩
    · rw [g2] at h4; exact h4
    · have : c = e := by omega
      rw [this]
  have h9 := cN_t hp
  refine ⟨he, by omega, by rw [h7]; exact Nat.le_refl _, by rw [h7], by omega, Or.inr ⟨by omega, hp, by omega⟩⟩
theorem cutI_f {P : Nat → Bool} {f n r e c a : Nat} (h : cutI P f n r e c a) (he : e < n) (hp : (decide (c ≤ e) && P e) = false) : cutI P f n r (e + 1) c a := by
  obtain ⟨h1, h2, h3, h4, h5, h6⟩ := h
  rcases gmx_cases f e with ⟨g1, g2⟩ | ⟨g1, g2⟩
  · have h7 : gmx f (e + 1) = e + 1 := by unfold gmx; rw [if_pos (by omega)]
    have h8 : P e = false := by
      rw [decide_eq_true (by omega)] at hp
      exact hp
    rw [g2] at h3 h4
    refine ⟨he, h2, by rw [h7]; omega, by rw [h7, cN_f h8, h4], h5, h6⟩
  · rw [g2] at h3 h4
    rcases Nat.lt_or_ge f (e + 1) with z | z
    · have hfe : f = e := by omega
      have hce : c = e := by omega
      have h7 : gmx f (e + 1) = e + 1 := by unfold gmx; rw [if_pos z]
      have h8 : P e = false := by
        rw [decide_eq_true (by omega)] at hp
        exact hp
      refine ⟨he, h2, by rw [h7]; omega, by rw [h7, cN_f h8, hce], h5, h6⟩
    · have h7 : gmx f (e + 1) = f := by unfold gmx; rw [if_neg (by omega)]
      exact ⟨he, h2, by rw [h7]; exact h3, by rw [h7]; exact h4, h5, h6⟩
theorem cutI_end {P : Nat → Bool} {f n r e c a : Nat} (h : cutI P f n r e c a) (hf : f ≤ n) (he : e = n ∨ a ≤ r) : nfl P f n r = c := by
  obtain ⟨h1, h2, h3, h4, h5, h6⟩ := h
  have ha : a ≤ r := by
    rcases he with he | he
    · have h7 : gmx f e = n := by rcases gmx_cases f e with ⟨g1, g2⟩ | ⟨g1, g2⟩ <;> omega
      rw [h7] at h4
      omega
    · exact he
  have hcn : c ≤ n := by rcases gmx_cases f e with ⟨g1, g2⟩ | ⟨g1, g2⟩ <;> omega
  refine nfl_eq hf ?_
  rcases h6 with h6 | ⟨g1, g2, g3⟩
  · subst h6
    exact Or.inl ⟨rfl, by omega⟩
  · exact Or.inr ⟨g1, hcn, g2, by omega⟩
theorem mX5_cuts_33 : Cond.fieldLink RX5 33 "FollowrowModel" "room" "I" ∈ wsX5_cuts := by decide +kernel
theorem mX5_cuts_36 : Cond.fieldLink RX5 36 "FollowrowModel" "floor" "[I" ∈ wsX5_cuts := by decide +kernel
theorem mX5_cuts_46 : Cond.fieldLink RX5 46 "FollowrowModel" "entries" "I" ∈ wsX5_cuts := by decide +kernel
theorem iX5_cuts_5 : ∀ w ∈ wsX50, w ∈ wsX5_cuts := by decide +kernel
set_option maxHeartbeats 4000000 in
set_option maxRecDepth 100000 in
/-- cuts() -/
theorem c_X5_cuts (l : Launch) (g : GT) {am : Nat → Nat} {σ : St} {th : Nat} (hM : FN am 8) (hI : Inv σ) : wrM l g yX5_cuts wsX5_cuts 4 89 [.ref (am 0)] (wM g am (σ) (th)) none (fun H1 => gP g (wM g am (stl σ) th) H1) (mA am) := by
  refine wr_of (cc := cX5_cuts) (maxL := 4) (ret := none) (by decide) rfl (Nat.le_of_ble_eq_true rfl) (fun p e s m below meth c ls hx hb hr hml hts hown hlocks hl hP hE hS => ?_)
  have hl : lv_has ls 4 [(0, .ref (am 0))] := hl
  have hown : s.vm.findClass RX5 = some m.cls := hown
  obtain ⟨hi1, hi2, hi3, hi4, hi5, hi6, hi7, hi8⟩ := id hI
  have hD : va_D (fun z => z ∈ mA am) (wM g am σ th) := wM_D hM
  refine lv_iconst (v := nI (0)) hx hb dX5_cuts_0 (by decide) ?_
  refine lv_istore_n (lv' := [(1, .int (nI (0))), (0, .ref (am 0))]) hx hb dX5_cuts_1 rfl hl (by decide) rfl (fun ls hl => ?_)
  rw [← stlI_0 σ] at hP hD
  have lp180 : ∀ (n9 : Nat) (i : Nat), 8 - i < n9 → (i ≤ 8) → ∀ (H : Heap) (locs : List Loc), gP g (wM g am (stlI σ i) (th)) H → va_D (fun q => q ∈ (mA am)) (wM g am (stlI σ i) (th)) → va_S (fun q => q ∈ (mA am)) s.heap H locs → ∀ ls : Array Slot, lv_has ls 4 [(0, .ref (am 0)), (1, .int (nI (i)))] → W p l e ({ frames := 4, cells := 0, slots := 0, locals := 89 } : Room) s m ([.ref (am 0)] : List Value).toArray below meth c H locs 0 0 (MQ below (wrQ none (fun H1 => gP g (wM g am (stl σ) th) H1) (mA am)) ([.ref (am 0)] : List Value).toArray s 0 0 (fun q => q ∈ (mA am))) (F0 m 2 ls []) := by
    intro n9
    induction n9 with
    | zero => intro i h; omega
    | succ n9 ihlp180 =>
      intro i h9 hi H locs hP hD hS ls hl
      refine lv_iload_n hx hb dX5_cuts_2 rfl (lv_at hl 1 rfl) ?_
      refine lv_bipush (v := nI (8)) hx hb dX5_cuts_3 (by decide) ?_
      refine br_geN (a := i) (b := 8) (tgt := 64) hx hb (by omega) (by omega) dX5_cuts_5 (by decide) (fun h181 => ?_) (fun h181 => ?_)
      · have hi9 : i = 8 := by omega
        subst hi9
        exact wr_retv hx hb hr hlocks hS hP dX5_cuts_64
      · have hsfn : sf σ i ≤ sn σ := hi8 i h181
        refine lv_aload_n hx hb dX5_cuts_8 rfl (lv_at hl 0 rfl) ?_
        refine lv_iload_n hx hb dX5_cuts_9 rfl (lv_at hl 1 rfl) ?_
        refine rd_goS (rn_V ⟨hx, hb, hml, hown, hts⟩ (c_X5_rowLength l g (σ := stlI σ i) (th := th) (Inv_stlI hI i) (q := i) (by omega)) gX5_cuts_X5_rowLength rfl pX5_rowLength ⟨Nat.le_of_ble_eq_true rfl, Nat.le_of_ble_eq_true rfl⟩ ⟨Nat.le_of_ble_eq_true rfl, Nat.le_of_ble_eq_true rfl⟩ (hP) hE rfl rfl rfl hl.1 rfl (Nat.le_of_ble_eq_true rfl) dX5_cuts_10) ?_
        refine lv_aload_n hx hb dX5_cuts_13 rfl (lv_at hl 0 rfl) ?_
        refine gf (q0 := 0) (ci := 5) (k := 8) (v := .int (nI (sr (stlI σ i)))) hx hb hts iX5_cuts_5 hown hE hP rfl rfl (by decide) mX5_cuts_33 rfl dX5_cuts_14 ?_
        refine lv_isub hx hb dX5_cuts_17 ?_
        refine tp_i rfl ?_
        refine lv_istore_n (lv' := [(2, .int (nI (rcn (stlI σ i) (i)) - nI (sr (stlI σ i)))), (0, .ref (am 0)), (1, .int (nI (i)))]) hx hb dX5_cuts_18 rfl hl (by decide) rfl (fun ls hl => ?_)
        refine lv_iconst (v := nI (0)) hx hb dX5_cuts_19 (by decide) ?_
        refine lv_istore_n (lv' := [(3, .int (nI (0))), (2, .int (nI (rcn (stlI σ i) (i)) - nI (sr (stlI σ i)))), (0, .ref (am 0)), (1, .int (nI (i)))]) hx hb dX5_cuts_20 rfl hl (by decide) rfl (fun ls hl => ?_)
        have hsfi : sf (stlI σ i) i = sf σ i := by rw [sf_stlI]; simp only [if_neg (Nat.lt_irrefl i)]
        have hP : gP g (wM g am (uS (stlI σ i) (va_up (sf (stlI σ i)) i (sf σ i))) th) H := by rw [← hsfi, uS_self]; exact hP
        have hD : va_D (fun z => z ∈ mA am) (wM g am (uS (stlI σ i) (va_up (sf (stlI σ i)) i (sf σ i))) th) := wM_D hM
        have hrcn : rcn (stlI σ i) i = cN (el σ i) (sn σ) - cN (el σ i) (sf σ i) := by unfold rcn; rw [hsfi, el_stlI, sn_stlI]
        have hl : lv_has ls 4 [(3, .int (nI (0))), (2, .int (nI (cN (el σ i) (sn σ) - cN (el σ i) (sf σ i)) - nI (sr σ))), (0, .ref (am 0)), (1, .int (nI (i)))] := by rw [← hrcn]; rw [sr_stlI] at hl; exact hl
        have lp182 : ∀ (n9 : Nat) (e9 : Nat) (c9 : Nat) (a9 : Nat) (σ9 : St), sn σ - e9 < n9 → (σ9 = uS (stlI σ i) (va_up (sf (stlI σ i)) i c9)) → (cutI (el σ i) (sf σ i) (sn σ) (sr σ) e9 c9 a9) → ∀ (H : Heap) (locs : List Loc), gP g (wM g am (σ9) (th)) H → va_D (fun q => q ∈ (mA am)) (wM g am (σ9) (th)) → va_S (fun q => q ∈ (mA am)) s.heap H locs → ∀ ls : Array Slot, lv_has ls 4 [(0, .ref (am 0)), (1, .int (nI (i))), (2, .int (nI a9 - nI (sr σ))), (3, .int (nI (e9)))] → W p l e ({ frames := 4, cells := 0, slots := 0, locals := 89 } : Room) s m ([.ref (am 0)] : List Value).toArray below meth c H locs 0 0 (MQ below (wrQ none (fun H1 => gP g (wM g am (stl σ) th) H1) (mA am)) ([.ref (am 0)] : List Value).toArray s 0 0 (fun q => q ∈ (mA am))) (F0 m 21 ls []) := by
          intro n9
          induction n9 with
          | zero => intro e9 c9 a9 σ9 h; omega
          | succ n9 ihlp182 =>
            intro e9 c9 a9 σ9 h9 hσ hc9 H locs hP hD hS ls hl
            have hs1 : sn σ9 = sn σ := by rw [hσ, sn_uS, sn_stlI]
            have hs2 : sr σ9 = sr σ := by rw [hσ, sr_uS, sr_stlI]
            have hs3 : el σ9 = el σ := by rw [hσ, el_uS, el_stlI]
            have hs4 : sf σ9 i = c9 := by rw [hσ, sf_uS]; exact va_up_at _ _ _
            have hI9 : Inv σ9 := by rw [hσ]; exact Inv_uS1 (Inv_stlI hI i) (by rw [sn_stlI]; have := hc9.2.2.1; have := hc9.1; rcases gmx_cases (sf σ i) e9 with ⟨g1, g2⟩ | ⟨g1, g2⟩ <;> omega)
            have hen : e9 ≤ sn σ := hc9.1
            refine lv_iload_n hx hb dX5_cuts_21 rfl (lv_at hl 3 rfl) ?_
            refine lv_aload_n hx hb dX5_cuts_22 rfl (lv_at hl 0 rfl) ?_
            refine gf (q0 := 0) (ci := 5) (k := 6) (v := .int (nI (sn σ9))) hx hb hts iX5_cuts_5 hown hE hP rfl rfl (by decide) mX5_cuts_46 rfl dX5_cuts_23 ?_
            refine br_geN (a := e9) (b := sn σ9) (tgt := 58) hx hb (by omega) (by rw [hs1]; omega) dX5_cuts_26 (by decide) (fun h183 => ?_) (fun h183 => ?_)
            · have h26 : sn σ ≤ e9 := by have h25 := h183; rw [hs1] at h25; exact h25
              have e8 : nfl (el σ i) (sf σ i) (sn σ) (sr σ) = c9 := cutI_end hc9 hsfn (Or.inl (by omega))
              have hP : gP g (wM g am (stlI σ (i + 1)) th) H := by rw [← stlI_s, el_stlI, sn_stlI, sr_stlI, hsfi, e8, ← hσ]; exact hP
              have hD : va_D (fun z => z ∈ mA am) (wM g am (stlI σ (i + 1)) th) := wM_D hM
              refine lv_iinc (v := nI (i + 1)) (lv' := [(1, .int (nI (i + 1))), (0, .ref (am 0)), (2, .int (nI a9 - nI (sr σ))), (3, .int (nI (e9)))]) hx hb dX5_cuts_58 hl (k := 1) rfl (inc1 (i)) (by decide) rfl (fun ls hl => ?_)
              refine lv_goto (tgt := 2) hx hb dX5_cuts_61 (by decide) ?_
              exact ihlp180 (i + 1) (by omega) (by omega) H locs hP hD hS ls (lv_sub hl [1, 0] rfl)
            · have h26 : e9 < sn σ := by have h25 := h183; rw [hs1] at h25; exact h25
              refine lv_iload_n hx hb dX5_cuts_29 rfl (lv_at hl 2 rfl) ?_
              refine lv_if_le (tgt := 58) hx hb dX5_cuts_30 (by decide) (fun h184 => ?_) (fun h184 => ?_)
              · have hov : a9 ≤ sr σ := (ov_le (by have h24 := hc9.2.2.2.2.1; have h23 := cN_le (el σ i) (sn σ); omega) (by omega)).mp h184
                have e8 : nfl (el σ i) (sf σ i) (sn σ) (sr σ) = c9 := cutI_end hc9 hsfn (Or.inr hov)
                have hP : gP g (wM g am (stlI σ (i + 1)) th) H := by rw [← stlI_s, el_stlI, sn_stlI, sr_stlI, hsfi, e8, ← hσ]; exact hP
                have hD : va_D (fun z => z ∈ mA am) (wM g am (stlI σ (i + 1)) th) := wM_D hM
                refine lv_iinc (v := nI (i + 1)) (lv' := [(1, .int (nI (i + 1))), (0, .ref (am 0)), (2, .int (nI a9 - nI (sr σ))), (3, .int (nI (e9)))]) hx hb dX5_cuts_58 hl (k := 1) rfl (inc1 (i)) (by decide) rfl (fun ls hl => ?_)
                refine lv_goto (tgt := 2) hx hb dX5_cuts_61 (by decide) ?_
                exact ihlp180 (i + 1) (by omega) (by omega) H locs hP hD hS ls (lv_sub hl [1, 0] rfl)
              · have hov : sr σ < a9 := Nat.not_le.mp (fun z => h184 ((ov_le (by have h24 := hc9.2.2.2.2.1; have h23 := cN_le (el σ i) (sn σ); omega) (by omega)).mpr z))
                obtain ⟨a8, rfl⟩ : ∃ a8, a9 = a8 + 1 := ⟨a9 - 1, by omega⟩
                refine lv_aload_n hx hb dX5_cuts_33 rfl (lv_at hl 0 rfl) ?_
                refine lv_iload_n hx hb dX5_cuts_34 rfl (lv_at hl 1 rfl) ?_
                refine lv_iload_n hx hb dX5_cuts_35 rfl (lv_at hl 3 rfl) ?_
                refine rd_goS (rn_V ⟨hx, hb, hml, hown, hts⟩ (c_X5_isInRow l g (σ := σ9) (th := th) hI9 (q := i) (x := e9) (by omega) (by omega)) gX5_cuts_X5_isInRow rfl pX5_isInRow ⟨Nat.le_of_ble_eq_true rfl, Nat.le_of_ble_eq_true rfl⟩ ⟨Nat.le_of_ble_eq_true rfl, Nat.le_of_ble_eq_true rfl⟩ (hP) hE rfl rfl rfl hl.1 rfl (Nat.le_of_ble_eq_true rfl) dX5_cuts_36) ?_
                refine br_eqB (tgt := 52) hx hb dX5_cuts_39 (by decide) (fun h185 => ?_) (fun h185 => ?_)
                · have hin9 : (decide (c9 ≤ e9) && el σ i e9) = false := by have h25 := h185; simp only [inr] at h25; rw [hs4, hs3] at h25; exact h25
                  refine lv_iinc (v := nI (e9 + 1)) (lv' := [(3, .int (nI (e9 + 1))), (0, .ref (am 0)), (1, .int (nI (i))), (2, .int (nI (a8 + 1) - nI (sr σ)))]) hx hb dX5_cuts_52 hl (k := 3) rfl (inc1 (e9)) (by decide) rfl (fun ls hl => ?_)
                  refine lv_goto (tgt := 21) hx hb dX5_cuts_55 (by decide) ?_
                  exact ihlp182 (e9 + 1) c9 (a8 + 1) σ9 (by omega) hσ (cutI_f hc9 (by omega) hin9) H locs hP hD hS ls (lv_sub hl [1, 2, 3, 0] rfl)
                · have hin9 : c9 ≤ e9 ∧ el σ i e9 = true := by have h25 := h185; simp only [inr] at h25; rw [hs4, hs3] at h25; simpa only [Bool.and_eq_true, decide_eq_true_eq] using h25
                  refine lv_aload_n hx hb dX5_cuts_42 rfl (lv_at hl 0 rfl) ?_
                  refine gf (q0 := 0) (ci := 5) (k := 9) (v := .ref (am 7)) hx hb hts iX5_cuts_5 hown hE hP rfl rfl (by decide) mX5_cuts_36 rfl dX5_cuts_43 ?_
                  refine lv_iload_n hx hb dX5_cuts_46 rfl (lv_at hl 1 rfl) ?_
                  refine lv_iload_n hx hb dX5_cuts_47 rfl (lv_at hl 3 rfl) ?_
                  refine tp_i nI_fI ?_
                  refine wa_i (q0 := 7) (i := i) (ws' := wM g am (uS (σ9) (va_up (sf σ9) (i) (e9 + 1))) (th)) hx hb hE hP hD hS rfl (fc_up _ _ _) rfl (by omega) (by decide) dX5_cuts_48 (fun H locs hP hD hS => ?_)
                  refine lv_iinc (v := nI a8 - nI (sr σ)) (lv' := [(2, .int (nI a8 - nI (sr σ))), (0, .ref (am 0)), (1, .int (nI (i))), (3, .int (nI (e9)))]) hx hb dX5_cuts_49 hl (k := 2) rfl (ov_dec a8 (sr σ)) (by decide) rfl (fun ls hl => ?_)
                  refine lv_iinc (v := nI (e9 + 1)) (lv' := [(3, .int (nI (e9 + 1))), (2, .int (nI a8 - nI (sr σ))), (0, .ref (am 0)), (1, .int (nI (i)))]) hx hb dX5_cuts_52 hl (k := 3) rfl (inc1 (e9)) (by decide) rfl (fun ls hl => ?_)
                  refine lv_goto (tgt := 21) hx hb dX5_cuts_55 (by decide) ?_
                  exact ihlp182 (e9 + 1) (e9 + 1) a8 (uS σ9 (va_up (sf σ9) i (e9 + 1))) (by omega) (by rw [hσ, uS_uS]) (cutI_t hc9 hsfn (by omega) (by omega) hin9.1 hin9.2) H locs hP hD hS ls (lv_sub hl [2, 3, 1, 0] rfl)
        exact lp182 (_ + 1) 0 (sf σ i) (cN (el σ i) (sn σ) - cN (el σ i) (sf σ i)) (uS (stlI σ i) (va_up (sf (stlI σ i)) i (sf σ i))) (Nat.lt_succ_self _) rfl (cutI_0 hsfn) _ _ hP hD hS ls (lv_sub hl [2, 3, 1, 0] rfl)
  exact lp180 (_ + 1) 0 (Nat.lt_succ_self _) (Nat.zero_le _) _ _ hP hD hS ls (lv_sub hl [1, 0] rfl)
