/-! What holds of every state that the law comes to, and what each of its checks rests on. -/
def OK (σ : St) : Prop := Inv σ ∧ Setd σ ∧ ∀ q, q < 8 → sF σ (8 * q + q) = false
theorem up_ne {α : Type} (f : Nat → α) {k j : Nat} (v : α) (h : ¬ j = k) : va_up f k v j = f j := by simp [va_up, h]
theorem OK_fol {σ : St} {q a : Nat} (h : OK σ) (hq : q < 8) (ha : a < 8) (hn : ¬ q = a) : OK (nFol σ (nI q) (nI a)) := by
  refine ⟨Inv_stl (Inv_uF h.1 _), Setd_stl (Inv_uF h.1 _), fun k hk => ?_⟩
  show va_up (sF σ) (8 * ix (nI q) + ix (nI a)) true (8 * k + k) = false
  rw [ix_nI (by omega), ix_nI (by omega), up_ne _ _ (by omega)]
  exact h.2.2 k hk
theorem OK_unf {σ : St} {q a : Nat} (h : OK σ) (hq : q < 8) (ha : a < 8) : OK (nUnf σ (nI q) (nI a)) := by
  refine ⟨Inv_stl (Inv_uF h.1 _), Setd_stl (Inv_uF h.1 _), fun k hk => ?_⟩
  show va_up (sF σ) (8 * ix (nI q) + ix (nI a)) false (8 * k + k) = false
  by_cases hz : 8 * k + k = 8 * ix (nI q) + ix (nI a)
  · rw [hz, va_up_at]
  · rw [up_ne _ _ hz]; exact h.2.2 k hk
theorem OK_mut {σ : St} {x y : Int32} {v : Bool} (h : OK σ) : OK (nMut σ x y v) := ⟨Inv_uM h.1 _, h.2.1, h.2.2⟩
theorem blk_F {σ : St} {x y : Int32} {v : Bool} {k : Nat} (h : sF σ k = false) : sF (nBlk σ x y v) k = false := by
  cases v with
  | false => exact h
  | true =>
    show va_up (va_up (sF σ) (8 * ix x + ix y) false) (8 * ix y + ix x) false k = false
    by_cases h1 : k = 8 * ix y + ix x
    · rw [h1, va_up_at]
    · rw [up_ne _ _ h1]
      by_cases h2 : k = 8 * ix x + ix y
      · rw [h2, va_up_at]
      · rw [up_ne _ _ h2]; exact h
theorem OK_blk {σ : St} {x y : Int32} {v : Bool} (h : OK σ) : OK (nBlk σ x y v) := by
  refine ⟨?_, ?_, fun k hk => blk_F (h.2.2 k hk)⟩
  · cases v with
    | true => exact Inv_stl (Inv_uF (Inv_uB h.1 _) _)
    | false => exact Inv_uB h.1 _
  · cases v with
    | true => exact Setd_stl (Inv_uF (Inv_uB h.1 _) _)
    | false => exact h.2.1
theorem OK_pst {σ : St} {q : Nat} (h : OK σ) (hq : q < 8) (hn : sn σ < 150) : OK (nPst σ (nI q)) := by
  have h3 := Inv_uE (a := ix (nI q)) (o := sn σ) h.1 hn (by rw [ix_nI (by omega)]; omega) (Nat.le_refl _)
  exact ⟨Inv_stl h3, Setd_stl h3, h.2.2⟩
theorem OK_rep {σ : St} {q e : Nat} (h : OK σ) (hq : q < 8) (he : e < sn σ) (hn : sn σ < 150) : OK (nRep σ (nI q) (nI e)) := by
  have h5 := h.1.2.2.2.2.2.2.1 e he
  have h3 := Inv_uE (a := ix (nI q)) (o := so σ (ix (nI e))) h.1 hn (by rw [ix_nI (by omega)]; omega) (by rw [ix_nI (by omega)]; omega)
  exact ⟨Inv_stl h3, Setd_stl h3, h.2.2⟩
theorem OK_del {σ : St} {x : Int32} (h : OK σ) : OK (nDel σ x) := ⟨Inv_stl (Inv_uD h.1 _), Setd_stl (Inv_uD h.1 _), h.2.2⟩
theorem OK_mrk {σ : St} {k : Nat} (h : OK σ) (hk : k ≤ 8) : OK (nMrk σ (nI k)) := by
  have h3 := Inv_uK (x := ix (nI k)) h.1 (by rw [ix_nI (by omega)]; omega)
  exact ⟨Inv_stl h3, Setd_stl h3, h.2.2⟩
theorem OK_rom {σ : St} {k : Nat} (h : OK σ) (h1 : 1 ≤ k) (h2 : k ≤ 40) : OK (nRom σ (nI k)) := by
  have h3 := Inv_uR (x := ix (nI k)) h.1 (by rw [ix_nI (by omega)]; omega) (by rw [ix_nI (by omega)]; omega)
  exact ⟨Inv_stl h3, Setd_stl h3, h.2.2⟩
theorem rom_sr {σ : St} {k : Nat} (h2 : k ≤ 40) : sr (nRom σ (nI k)) = k := ix_nI (by omega)
theorem blk_sr {σ : St} {x y : Int32} {v : Bool} : sr (nBlk σ x y v) = sr σ := by cases v <;> rfl
theorem blk_B {σ : St} {x y : Int32} {v : Bool} : sB (nBlk σ x y v) (8 * ix x + ix y) = v := by
  cases v with
  | true => exact va_up_at _ _ _
  | false => exact va_up_at _ _ _
theorem blk_F1 {σ : St} {x y : Int32} : sF (nBlk σ x y true) (8 * ix x + ix y) = false := by
  show va_up (va_up (sF σ) (8 * ix x + ix y) false) (8 * ix y + ix x) false (8 * ix x + ix y) = false
  by_cases h1 : 8 * ix x + ix y = 8 * ix y + ix x
  · rw [h1, va_up_at]
  · rw [up_ne _ _ h1, va_up_at]
theorem blk_F2 {σ : St} {x y : Int32} : sF (nBlk σ x y true) (8 * ix y + ix x) = false := va_up_at _ _ _
theorem mut_M {σ : St} {x y : Int32} {v : Bool} : sM (nMut σ x y v) (8 * ix x + ix y) = v := va_up_at _ _ _
theorem unf_F {σ : St} {x y : Int32} : sF (nUnf σ x y) (8 * ix x + ix y) = false := va_up_at _ _ _
theorem cN_drop {P P' : Nat → Bool} {j : Nat} (n : Nat) (hj : j < n) (h1 : P j = true) (h2 : P' j = false) (h : ∀ k, ¬ k = j → P' k = P k) : cN P' n + 1 = cN P n := by
  induction n with
  | zero => omega
  | succ k ih =>
    simp only [cN]
    by_cases hk : k = j
    · subst hk
      rw [h1, h2, cN_congr k (fun i hi => h i (by omega))]
      rfl
    · have := ih (by omega)
      rw [h k hk]
      omega
theorem unf_r {σ : St} {q a : Nat} (hq : q < 8) (ha : a < 8) (h : sF σ (8 * q + a) = true) : rUnf σ (nI q) (nI a) + 1 = fcnt (sF σ) a := by
  unfold rUnf fcnt
  rw [ix_nI (by omega), ix_nI (by omega)]
  refine cN_drop (j := q) 8 hq h (va_up_at _ _ _) (fun k hk => ?_)
  exact up_ne _ _ (by omega)
theorem eFol_0 {σ : St} {q a : Nat} (hq : q < 8) (ha : a < 8) (hn : ¬ q = a) (h1 : sF σ (8 * q + a) = false) (h2 : ∀ k, sB σ k = false) : eFol σ (nI q) (nI a) = 0 := by
  have h9 : ¬ nI q = nI a := fun z => hn ((nI_eq (by omega) (by omega)).mp z)
  unfold eFol
  rw [if_pos (isP_nI hq), if_pos (isP_nI ha), if_neg h9, ix_nI (by omega), ix_nI (by omega), h1, h2, h2]
  rfl
theorem eUnf_0 {σ : St} {q a : Nat} (hq : q < 8) (ha : a < 8) (h1 : sF σ (8 * q + a) = true) : eUnf σ (nI q) (nI a) = 0 := by
  unfold eUnf
  rw [if_pos (isP_nI hq), if_pos (isP_nI ha), ix_nI (by omega), ix_nI (by omega), h1]
  rfl
theorem eMut_0 {q a : Nat} (hq : q < 8) (ha : a < 8) (hn : ¬ q = a) : eMut (nI q) (nI a) = 0 := by
  have h9 : ¬ nI q = nI a := fun z => hn ((nI_eq (by omega) (by omega)).mp z)
  unfold eMut
  rw [if_pos (isP_nI hq), if_pos (isP_nI ha), if_neg h9]
theorem eP_n {q : Nat} (hq : q < 8) : eP (nI q) = 0 := by
  unfold eP
  rw [if_pos (isP_nI hq)]
theorem eFls_n {q a : Nat} (hq : q < 8) (ha : a < 8) : eFls (nI q) (nI a) = 0 := by
  unfold eFls
  rw [if_pos (isP_nI hq), if_pos (isP_nI ha)]
theorem isB_n {e n : Nat} (he : e < n) (hn : n ≤ 150) : isB (nI e) n = true := by rw [isB_nI (by omega)]; exact decide_eq_true he
theorem eE_n {e n : Nat} (he : e < n) (hn : n ≤ 150) : eE n (nI e) = 0 := by
  unfold eE
  rw [if_pos (isB_n he hn)]
theorem eShw_n {σ : St} {q e : Nat} (hq : q < 8) (he : e < sn σ) (hn : sn σ ≤ 150) : eShw σ (nI q) (nI e) = 0 := by
  unfold eShw
  rw [if_pos (isP_nI hq), if_pos (isB_n he hn)]
theorem eNxt_n {q k : Nat} (hq : q < 8) (hk : k ≤ 150) : eNxt (nI q) (nI k) = 0 := by
  unfold eNxt
  rw [if_pos (isP_nI hq), eR_nI (by decide) (by decide) (Nat.zero_le _) hk]
theorem ePag_n {q k z : Nat} (hq : q < 8) (hk : k ≤ 150) (h1 : 1 ≤ z) (h2 : z ≤ 20) : ePag (nI q) (nI k) (nI z) = 0 := by
  unfold ePag
  rw [if_pos (isP_nI hq), if_pos (eR_nI (by decide) (by decide) (Nat.zero_le _) hk), eR_nI (by decide) (by decide) h1 h2]
theorem ePst_n {σ : St} {q : Nat} (hq : q < 8) (hn : sn σ < 150) : ePst σ (nI q) = 0 := by
  unfold ePst
  rw [if_pos (isP_nI hq), if_pos hn]
theorem eRow_n {σ : St} {q i : Nat} (hq : q < 8) (hi : i < rcn σ q) (hn : rcn σ q ≤ 150) : eRow σ (nI q) (nI i) = 0 := by
  unfold eRow
  rw [if_pos (isP_nI hq), ix_nI (by omega), if_pos (isB_n hi hn)]
theorem eDel_n {σ : St} {e : Nat} (he : e < sn σ) (hn : sn σ ≤ 150) (hd : sd σ e = false) : eDel σ (nI e) = 0 := by
  unfold eDel
  rw [if_pos (isB_n he hn), ix_nI (by omega), hd]
  rfl
/-- what shows is due -/
theorem shw_due {σ : St} {q e : Nat} (h : shw σ q e = true) : due σ q e = true := by
  unfold shw at h
  rw [Bool.and_eq_true] at h
  exact h.1
theorem due_at {σ : St} {q e : Nat} (h : due σ q e = true) : sf σ q ≤ e ∧ sF σ (8 * q + sa σ e) = true ∧ hid σ q e = false := by
  simp only [due, Bool.and_eq_true, decide_eq_true_eq, Bool.not_eq_true'] at h
  exact h
theorem hid_at {σ : St} {q e : Nat} (h : hid σ q e = false) : sd σ e = false ∧ sd σ (so σ e) = false ∧ sB σ (8 * sa σ (so σ e) + q) = false := by
  simp only [hid, Bool.or_eq_false_iff] at h
  exact ⟨h.1, h.2.1, h.2.2.2.2⟩
theorem eRep_n {σ : St} {q e : Nat} (hq : q < 8) (he : e < sn σ) (hn : sn σ < 150) (h : shw σ q e = true) : eRep σ (nI q) (nI e) = 0 := by
  obtain ⟨h1, h2, h3⟩ := hid_at (due_at (shw_due h)).2.2
  unfold eRep
  rw [if_pos (isP_nI hq), if_pos (isB_n he (by omega)), if_pos hn, ix_nI (by omega), ix_nI (by omega), h1, h2, h3]
  rfl
theorem not_due_shw {σ : St} {q e : Nat} (h : due σ q e = false) : shw σ q e = false := by
  unfold shw
  rw [h]; rfl
theorem not_F_due {σ : St} {q e : Nat} (h : sF σ (8 * q + sa σ e) = false) : due σ q e = false := by
  unfold due
  rw [h]; simp
theorem del_shw {σ : St} {q e : Nat} (he : e < 150) : shw (nDel σ (nI e)) q e = false := by
  refine not_due_shw ?_
  have h1 : sd (nDel σ (nI e)) e = true := by
    show va_up (sd σ) (ix (nI e)) true e = true
    rw [ix_nI (by omega), va_up_at]
  have h2 : hid (nDel σ (nI e)) q e = true := by
    unfold hid
    rw [h1]; rfl
  unfold due
  rw [h2]; simp
theorem pst_shw {σ : St} {q : Nat} (h : OK σ) (hq : q < 8) : shw (nPst σ (nI q)) q (sn σ) = false := by
  refine not_due_shw (not_F_due ?_)
  show sF σ (8 * q + va_up (sa σ) (sn σ) (ix (nI q)) (sn σ)) = false
  rw [va_up_at, ix_nI (by omega)]
  exact h.2.2 q hq
/-- an entry of one's own changes nothing in one's own timeline -/
theorem own_shw {σ : St} {q e o : Nat} (h : OK σ) (hq : q < 8) (he : e < sn σ) (hs : shw σ q e = true) : shw (stl (uE σ (va_up (sa σ) (sn σ) q) (va_up (so σ) (sn σ) o) (sn σ + 1))) q e = true := by
  have hI8 := h.1.2.2.2.2.2.2.2 q hq
  have hI7 := h.1.2.2.2.2.2.2.1
  have hF0 := h.2.2 q hq
  generalize hσ : uE σ (va_up (sa σ) (sn σ) q) (va_up (so σ) (sn σ) o) (sn σ + 1) = σ1
  have e_sa : ∀ k, ¬ k = sn σ → sa σ1 k = sa σ k := fun k hk => by subst hσ; exact up_ne _ _ hk
  have e_sn : sa σ1 (sn σ) = q := by subst hσ; exact va_up_at _ _ _
  have e_so : ∀ k, ¬ k = sn σ → so σ1 k = so σ k := fun k hk => by subst hσ; exact up_ne _ _ hk
  have e_F : sF σ1 = sF σ := by subst hσ; rfl
  have e_M : sM σ1 = sM σ := by subst hσ; rfl
  have e_B : sB σ1 = sB σ := by subst hσ; rfl
  have e_d : sd σ1 = sd σ := by subst hσ; rfl
  have e_n : sn σ1 = sn σ + 1 := by subst hσ; rfl
  have e_r : sr σ1 = sr σ := by subst hσ; rfl
  have e_f : sf σ1 = sf σ := by subst hσ; rfl
  have e_lg : ∀ a, lg σ1 a = lg σ a := fun a => by subst hσ; rfl
  clear hσ
  have el1 : ∀ k, k < sn σ → el σ1 q k = el σ q k := fun k hk => by
    unfold el
    rw [e_d, e_F, e_sa k (by omega), e_lg]
  have el2 : el σ1 q (sn σ) = false := by
    unfold el
    rw [e_sn, e_F, hF0]; simp
  have c1 : cN (el σ1 q) (sn σ) = cN (el σ q) (sn σ) := cN_congr _ el1
  have c2 : cN (el σ1 q) (sf σ q) = cN (el σ q) (sf σ q) := cN_congr _ (fun k hk => el1 k (by omega))
  have c3 : cN (el σ1 q) (sn σ + 1) = cN (el σ1 q) (sn σ) := cN_f el2
  have hf : sf (stl σ1) q = sf σ q := by
    show (if q < 8 then nfl (el σ1 q) (sf σ1 q) (sn σ1) (sr σ1) else sf σ1 q) = _
    rw [if_pos hq, e_f, e_n, e_r]
    refine nfl_eq (by omega) (Or.inl ⟨rfl, ?_⟩)
    have := h.2.1 q hq
    omega
  have du1 : ∀ k, k < sn σ → due (stl σ1) q k = due σ q k := fun k hk => by
    have h7 := hI7 k hk
    have g1 : sF (stl σ1) = sF σ := e_F
    have g2 : sM (stl σ1) = sM σ := e_M
    have g3 : sB (stl σ1) = sB σ := e_B
    have g4 : sd (stl σ1) = sd σ := e_d
    have g5 : sa (stl σ1) k = sa σ k := e_sa k (by omega)
    have g6 : so (stl σ1) k = so σ k := e_so k (by omega)
    have g7 : sa (stl σ1) (so σ k) = sa σ (so σ k) := e_sa _ (by omega)
    unfold due hid
    rw [hf, g1, g2, g3, g4, g5, g6, g7]
  have du2 : due (stl σ1) q (sn σ) = false := not_F_due (by
    show sF σ1 (8 * q + sa σ1 (sn σ)) = false
    rw [e_sn, e_F]; exact hF0)
  have hs1 := hs
  unfold shw at hs1 ⊢
  rw [Bool.and_eq_true] at hs1 ⊢
  refine ⟨by rw [du1 e he]; exact hs1.1, ?_⟩
  have hx : exB (fun k => decide (e < k) && (decide (so σ k = so σ e) && due σ q k)) (sn σ) = false := by simpa using hs1.2
  have hx2 := exB_false.mp hx
  have hy : exB (fun k => decide (e < k) && (decide (so (stl σ1) k = so (stl σ1) e) && due (stl σ1) q k)) (sn (stl σ1)) = false := by
    refine exB_false.mpr (fun k hk => ?_)
    have hk2 : k < sn σ + 1 := by rw [← e_n]; exact hk
    have g6 : so (stl σ1) e = so σ e := e_so e (by omega)
    by_cases hkn : k = sn σ
    · subst hkn
      show (decide (e < sn σ) && (decide (so (stl σ1) (sn σ) = so (stl σ1) e) && due (stl σ1) q (sn σ))) = false
      rw [du2]; simp
    · have g8 : so (stl σ1) k = so σ k := e_so k hkn
      have := hx2 k (by omega)
      show (decide (e < k) && (decide (so (stl σ1) k = so (stl σ1) e) && due (stl σ1) q k)) = false
      rw [du1 k (by omega), g8, g6]
      exact this
  rw [hy]; rfl
theorem rep_shw {σ : St} {q e : Nat} (h : OK σ) (hq : q < 8) (he : e < sn σ) (hs : shw σ q e = true) : shw (nRep σ (nI q) (nI e)) q e = true := by
  have h1 := h.1.1
  have h2 : nRep σ (nI q) (nI e) = stl (uE σ (va_up (sa σ) (sn σ) q) (va_up (so σ) (sn σ) (so σ e)) (sn σ + 1)) := by
    unfold nRep
    rw [ix_nI (by omega), ix_nI (by omega)]
  rw [h2]
  exact own_shw h hq he hs
-- the row
theorem rcn_le {σ : St} {q : Nat} (h : OK σ) (hq : q < 8) : rcn σ q ≤ sr σ := by
  have := h.2.1 q hq
  unfold rcn
  omega
theorem gap_0 {σ : St} {q : Nat} (h : sf σ q = 0) : rGap σ q = false := by
  refine exB_false.mpr (fun k hk => ?_)
  show (decide (k < sf σ q) && _) = false
  rw [h]; simp
theorem row_lh {σ : St} {q m lo hi : Nat} (h1 : isRow σ q 0 lo) (h2 : isRow σ q m hi) : lo + m ≤ hi := by
  obtain ⟨a1, a2, a3, a4⟩ := h1
  obtain ⟨b1, b2, b3, b4⟩ := h2
  rcases Nat.lt_or_ge hi lo with hz | hz
  · have := cN_up (el σ q) hz b3
    omega
  · have := cN_add (el σ q) lo (hi - lo)
    rw [show lo + (hi - lo) = hi by omega] at this
    omega
theorem row_F {σ : St} {q i v : Nat} (h : isRow σ q i v) : sF σ (8 * q + sa σ v) = true ∧ lg σ (sa σ v) = false := by
  have h3 := h.2.2.1
  simp only [el, Bool.and_eq_true, Bool.not_eq_true'] at h3
  exact h3.2
-- the timeline, read
/-- behind k turns: the cursor, and how many show from there on -/
def curs (σ : St) (q k c : Nat) : Prop := (k = 0 ∧ c = 150 ∨ 0 < k ∧ c < sn σ ∧ shw σ q c = true) ∧ cN (shw σ q) (cmin c (sn σ)) + k = cN (shw σ q) (sn σ)
theorem curs_0 {σ : St} {q : Nat} (h : OK σ) : curs σ q 0 150 := by
  refine ⟨Or.inl ⟨rfl, rfl⟩, ?_⟩
  have h1 := h.1.1
  unfold cmin
  by_cases h2 : 150 < sn σ
  · omega
  · rw [if_neg h2]; rfl
theorem curs_le {σ : St} {q k c : Nat} (h : OK σ) (hc : curs σ q k c) : c ≤ 150 := by
  have h1 := h.1.1
  rcases hc.1 with ⟨-, h2⟩ | ⟨-, h2, -⟩ <;> omega
theorem curs_pag {σ : St} {q k c : Nat} (h : OK σ) (hc : curs σ q k c) (hk : 0 < k) : isPag (shw σ q) (cmin 150 (sn σ)) k (c + 1) := by
  have h1 := h.1.1
  rcases hc.1 with ⟨h2, -⟩ | ⟨-, h2, h3⟩
  · omega
  · have e1 : cmin 150 (sn σ) = sn σ := by unfold cmin; split <;> omega
    have e2 : cmin c (sn σ) = c := by unfold cmin; rw [if_pos h2]
    have h4 := hc.2
    rw [e2] at h4
    rw [e1]
    refine Or.inr ⟨Nat.succ_pos _, h2, h3, ?_⟩
    have h5 := cN_t h3
    have e3 : cmin k (cN (shw σ q) (sn σ)) = k := by unfold cmin; split <;> omega
    rw [e3, h5]
    omega
theorem curs_end {σ : St} {q k c : Nat} (hc : curs σ q k c) (h : rNxt σ q c = 0) : cN (shw σ q) (sn σ) = k := by
  have h1 := laB_0 _ _ h
  have h2 := hc.2
  omega
theorem curs_nx {σ : St} {q k c r : Nat} (hc : curs σ q k c) (hr : rNxt σ q c = r + 1) : r < sn σ ∧ r < c ∧ shw σ q r = true ∧ curs σ q (k + 1) r := by
  have h1 := laB_le (shw σ q) (cmin c (sn σ))
  have h2 := laB_at (shw σ q) (cmin c (sn σ)) (by show 0 < rNxt σ q c; omega)
  have h3 := laB_cN (shw σ q) (cmin c (sn σ))
  have e1 : laB (shw σ q) (cmin c (sn σ)) = r + 1 := hr
  rw [e1] at h1 h2 h3
  rw [Nat.add_sub_cancel] at h2
  have h4 : cmin c (sn σ) ≤ sn σ ∧ cmin c (sn σ) ≤ c := by unfold cmin; split <;> omega
  have h5 := cN_t h2
  have h6 := hc.2
  refine ⟨by omega, by omega, h2, Or.inr ⟨Nat.succ_pos _, by omega, h2⟩, ?_⟩
  have e2 : cmin r (sn σ) = r := by unfold cmin; rw [if_pos (by omega)]
  rw [e2]
  omega
