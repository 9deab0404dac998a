/-! What each call throws (1: no such .., 2: a wrong argument, 3: a wrong state), what it answers, what the state is behind it. -/
def eP (x : Int32) : Nat := if isP x = true then 0 else 1
def eE (n : Nat) (x : Int32) : Nat := if isB x n = true then 0 else 1
def eR (lo hi : Nat) (x : Int32) : Nat := if decide (nI lo ≤ x) && decide (x ≤ nI hi) then 0 else 2
theorem eP_0 {x : Int32} (h : eP x = 0) : isP x = true := by
  cases hz : isP x with
  | true => rfl
  | false => simp [eP, hz] at h
theorem eE_0 {n : Nat} {x : Int32} (h : eE n x = 0) : isB x n = true := by
  cases hz : isB x n with
  | true => rfl
  | false => simp [eE, hz] at h
theorem eR_0 {lo hi : Nat} {x : Int32} (hl : lo < 2 ^ 31) (hh : hi < 2 ^ 31) (h : eR lo hi x = 0) : ∃ j, lo ≤ j ∧ j ≤ hi ∧ x = nI j ∧ ix x = j := by
  have h1 : (decide (nI lo ≤ x) && decide (x ≤ nI hi)) = true := by
    cases hz : decide (nI lo ≤ x) && decide (x ≤ nI hi) with
    | true => rfl
    | false => simp [eR, hz] at h
  simp only [Bool.and_eq_true, decide_eq_true_eq] at h1
  have h2 := Int32.le_iff_toInt_le.mp h1.1
  have h3 := Int32.le_iff_toInt_le.mp h1.2
  rw [nI_toInt hl] at h2
  rw [nI_toInt hh] at h3
  refine ⟨x.toInt.toNat, by omega, by omega, ?_, rfl⟩
  apply Int32.toInt_inj.mp
  rw [nI_toInt (by omega)]
  omega
theorem eR_nI {lo hi j : Nat} (hl : lo < 2 ^ 31) (hh : hi < 2 ^ 31) (h1 : lo ≤ j) (h2 : j ≤ hi) : eR lo hi (nI j) = 0 := by
  simp only [eR]
  rw [decide_eq_true ((nI_leI hl (by omega)).mpr h1), decide_eq_true ((nI_leI (by omega) hh).mpr h2)]
  rfl
/-- no row is over its room -/
def Setd (σ : St) : Prop := ∀ q, q < 8 → cN (el σ q) (sn σ) ≤ cN (el σ q) (sf σ q) + sr σ
def eFol (σ : St) (x y : Int32) : Nat := if isP x = true then (if isP y = true then (if x = y then 2 else if sF σ (8 * ix x + ix y) = true then 3 else if sB σ (8 * ix y + ix x) = true then 3 else if sB σ (8 * ix x + ix y) = true then 3 else 0) else 1) else 1
def nFol (σ : St) (x y : Int32) : St := stl (uF σ (va_up (sF σ) (8 * ix x + ix y) true))
def rFol (σ : St) (x y : Int32) : Nat := fcnt (va_up (sF σ) (8 * ix x + ix y) true) (ix y)
def eUnf (σ : St) (x y : Int32) : Nat := if isP x = true then (if isP y = true then (if sF σ (8 * ix x + ix y) = true then 0 else 3) else 1) else 1
def nUnf (σ : St) (x y : Int32) : St := stl (uF σ (va_up (sF σ) (8 * ix x + ix y) false))
def rUnf (σ : St) (x y : Int32) : Nat := fcnt (va_up (sF σ) (8 * ix x + ix y) false) (ix y)
def eMut (x y : Int32) : Nat := if isP x = true then (if isP y = true then (if x = y then 2 else 0) else 1) else 1
def nMut (σ : St) (x y : Int32) (v : Bool) : St := uM σ (va_up (sM σ) (8 * ix x + ix y) v)
def nBlk (σ : St) (x y : Int32) (v : Bool) : St := if v = true then stl (uF (uB σ (va_up (sB σ) (8 * ix x + ix y) true)) (va_up (va_up (sF σ) (8 * ix x + ix y) false) (8 * ix y + ix x) false)) else uB σ (va_up (sB σ) (8 * ix x + ix y) false)
def ePst (σ : St) (x : Int32) : Nat := if isP x = true then (if sn σ < 150 then 0 else 3) else 1
def nPst (σ : St) (x : Int32) : St := stl (uE σ (va_up (sa σ) (sn σ) (ix x)) (va_up (so σ) (sn σ) (sn σ)) (sn σ + 1))
def eRep (σ : St) (x y : Int32) : Nat := if isP x = true then (if isB y (sn σ) = true then (if sn σ < 150 then (if sd σ (ix y) = true then 3 else if sd σ (so σ (ix y)) = true then 3 else if sB σ (8 * sa σ (so σ (ix y)) + ix x) = true then 3 else 0) else 3) else 1) else 1
def nRep (σ : St) (x y : Int32) : St := stl (uE σ (va_up (sa σ) (sn σ) (ix x)) (va_up (so σ) (sn σ) (so σ (ix y))) (sn σ + 1))
def eDel (σ : St) (x : Int32) : Nat := if isB x (sn σ) = true then (if sd σ (ix x) = true then 3 else 0) else 1
def nDel (σ : St) (x : Int32) : St := stl (uD σ (va_up (sd σ) (ix x) true))
def rDel (σ : St) (x : Int32) : Nat := cN (fun k => decide (so σ k = ix x) && !va_up (sd σ) (ix x) true k) (sn σ)
def nMrk (σ : St) (x : Int32) : St := stl (uK σ (ix x))
def rMrk (σ : St) (x : Int32) : Nat := cN (lg (uK σ (ix x))) 8
def nRom (σ : St) (x : Int32) : St := stl (uR σ (ix x))
def eFls (x y : Int32) : Nat := if isP x = true then (if isP y = true then 0 else 1) else 1
def rcn (σ : St) (q : Nat) : Nat := cN (el σ q) (sn σ) - cN (el σ q) (sf σ q)
def eRow (σ : St) (x y : Int32) : Nat := if isP x = true then (if isB y (rcn σ (ix x)) = true then 0 else 1) else 1
/-- v is the entry of that place in the row -/
def isRow (σ : St) (q i v : Nat) : Prop := sf σ q ≤ v ∧ v < sn σ ∧ el σ q v = true ∧ cN (el σ q) v = cN (el σ q) (sf σ q) + i
def eShw (σ : St) (x y : Int32) : Nat := if isP x = true then (if isB y (sn σ) = true then 0 else 1) else 1
def eNxt (x y : Int32) : Nat := if isP x = true then eR 0 150 y else 1
def cmin (c n : Nat) : Nat := if c < n then c else n
def rNxt (σ : St) (q c : Nat) : Nat := laB (shw σ q) (cmin c (sn σ))
def ePag (x y z : Int32) : Nat := if isP x = true then (if eR 0 150 y = 0 then eR 1 20 z else 2) else 1
/-- r - 1 is the last entry of the page; r = 0: there is none -/
def isPag (P : Nat → Bool) (c z r : Nat) : Prop := (r = 0 ∧ cN P c = 0) ∨ (0 < r ∧ r ≤ c ∧ P (r - 1) = true ∧ cN P r + cmin z (cN P c) = cN P c + 1)
def rGap (σ : St) (q : Nat) : Bool := exB (fun e => decide (e < sf σ q) && (!sd σ e && sF σ (8 * q + sa σ e))) (sn σ)
-- what holds all along
def FWq (g : GT) (ad : Nat → Nat) (σ : St) (H : Heap) : Prop := ∃ τ : Sc, gP g (wF g ad σ τ) H ∧ rowsOk σ τ 8 ∧ tc τ ≤ 150
theorem Setd_stl {σ : St} (h : Inv σ) : Setd (stl σ) := by
  intro q hq
  have e1 : sf (stl σ) q = nfl (el σ q) (sf σ q) (sn σ) (sr σ) := by
    show (if q < 8 then _ else _) = _
    rw [if_pos hq]
  have h1 := (nfl_le (P := el σ q) (f := sf σ q) (n := sn σ) (r := sr σ) (h.2.2.2.2.2.2.2 q hq)).2.2
  show cN (el σ q) (sn σ) ≤ cN (el σ q) (sf (stl σ) q) + sr σ
  rw [e1]
  omega
theorem stl_id {σ : St} (h : Inv σ) (hs : Setd σ) : stl σ = σ := by
  show uS σ _ = σ
  have e1 : (fun q => if q < 8 then nfl (el σ q) (sf σ q) (sn σ) (sr σ) else sf σ q) = sf σ := by
    funext q
    by_cases hq : q < 8
    · rw [if_pos hq]
      exact nfl_eq (h.2.2.2.2.2.2.2 q hq) (Or.inl ⟨rfl, hs q hq⟩)
    · rw [if_neg hq]
  rw [e1]
  rfl
theorem laB_le (P : Nat → Bool) (n : Nat) : laB P n ≤ n := by
  induction n with
  | zero => exact Nat.le_refl _
  | succ k ih => simp only [laB]; split <;> omega
theorem laB_at (P : Nat → Bool) (n : Nat) (h : 0 < laB P n) : P (laB P n - 1) = true := by
  induction n with
  | zero => simp [laB] at h
  | succ k ih =>
    simp only [laB] at h ⊢
    split
    · rename_i hp; exact hp
    · rename_i hp
      rw [if_neg hp] at h
      exact ih h
theorem laB_cN (P : Nat → Bool) (n : Nat) : cN P (laB P n) = cN P n := by
  induction n with
  | zero => rfl
  | succ k ih =>
    simp only [laB]
    split
    · rfl
    · rename_i hp
      rw [ih]
      exact (cN_f (by simpa using hp)).symm
theorem laB_0 (P : Nat → Bool) (n : Nat) (h : laB P n = 0) : cN P n = 0 := by
  rw [← laB_cN, h]; rfl
/-- the place that stands for a cursor -/
theorem TL_place {σ : St} {q c : Nat} {τ : Sc} (h : TL σ q τ) (hn : sn σ ≤ 150) (hc : c < 2 ^ 31) : (cN (shw σ q) (sn σ) - cN (shw σ q) (cmin c (sn σ)) ≤ tc τ) ∧ (∀ j, j < cN (shw σ q) (sn σ) - cN (shw σ q) (cmin c (sn σ)) → nI c ≤ tn τ j) ∧ ∀ j, j = cN (shw σ q) (sn σ) - cN (shw σ q) (cmin c (sn σ)) → j < tc τ → ¬ nI c ≤ tn τ j := by
  obtain ⟨h1, h2⟩ := h
  have hm : cmin c (sn σ) ≤ sn σ := by unfold cmin; split <;> omega
  refine ⟨by omega, fun j hj => ?_, fun j hj hjt hle => ?_⟩
  · obtain ⟨e, g1, g2, g3, g4⟩ := cN_sel (shw σ q) (cmin c (sn σ)) (sn σ) j hm hj
    rw [← g4, h2 e g2 g3]
    refine (nI_leI hc (by omega)).mpr ?_
    unfold cmin at g1
    split at g1 <;> omega
  · have hm0 : 0 < cN (shw σ q) (cmin c (sn σ)) := by
      have := cN_mono (shw σ q) hm
      omega
    have hb : 0 < laB (shw σ q) (cmin c (sn σ)) := by
      rcases Nat.eq_zero_or_pos (laB (shw σ q) (cmin c (sn σ))) with z | z
      · have := laB_0 _ _ z; omega
      · exact z
    have k1 := laB_at _ _ hb
    have k2 := laB_le (shw σ q) (cmin c (sn σ))
    have k3 := laB_cN (shw σ q) (cmin c (sn σ))
    have k4 := h2 (laB (shw σ q) (cmin c (sn σ)) - 1) (by omega) k1
    rw [show laB (shw σ q) (cmin c (sn σ)) - 1 + 1 = laB (shw σ q) (cmin c (sn σ)) by omega, k3, ← hj] at k4
    rw [k4] at hle
    have := (nI_leI hc (by omega)).mp hle
    have hmc : cmin c (sn σ) ≤ c := by unfold cmin; split <;> omega
    omega
/-- what stands at that place -/
theorem TL_at {σ : St} {q c : Nat} {τ : Sc} (h : TL σ q τ) (hn : sn σ ≤ 150) : (if cN (shw σ q) (sn σ) - cN (shw σ q) (cmin c (sn σ)) < tc τ then tn τ (cN (shw σ q) (sn σ) - cN (shw σ q) (cmin c (sn σ))) else (-1)) = fI (rNxt σ q c) := by
  obtain ⟨h1, h2⟩ := h
  have hm : cmin c (sn σ) ≤ sn σ := by unfold cmin; split <;> omega
  have k2 := laB_le (shw σ q) (cmin c (sn σ))
  have k3 := laB_cN (shw σ q) (cmin c (sn σ))
  have k5 := cN_mono (shw σ q) hm
  rcases Nat.eq_zero_or_pos (laB (shw σ q) (cmin c (sn σ))) with z | z
  · have k6 := laB_0 _ _ z
    rw [if_neg (by omega)]
    show _ = fI (laB _ _)
    rw [z]
    rfl
  · have k1 := laB_at _ _ z
    have k7 := cN_up (shw σ q) (show laB (shw σ q) (cmin c (sn σ)) - 1 < laB (shw σ q) (cmin c (sn σ)) by omega) k1
    have k4 := h2 (laB (shw σ q) (cmin c (sn σ)) - 1) (by omega) k1
    rw [show laB (shw σ q) (cmin c (sn σ)) - 1 + 1 = laB (shw σ q) (cmin c (sn σ)) by omega, k3] at k4
    rw [if_pos (by omega), k4]
    show _ = fI (laB _ _)
    rw [nI_fI, show laB (shw σ q) (cmin c (sn σ)) - 1 + 1 = laB (shw σ q) (cmin c (sn σ)) by omega]
theorem laB_s (P : Nat → Bool) (n : Nat) : laB P (n + 1) = n + 1 ↔ P n = true := by
  simp only [laB]
  have := laB_le P n
  constructor
  · intro h
    split at h
    · rename_i hp; exact hp
    · omega
  · intro h
    rw [if_pos h]
theorem isPag_uniq {P : Nat → Bool} {c z r r' : Nat} (hz : 0 < z) (h : isPag P c z r) (h' : isPag P c z r') : r = r' := by
  rcases h with ⟨h1, h2⟩ | ⟨h1, h2, h3, h4⟩ <;> rcases h' with ⟨g1, g2⟩ | ⟨g1, g2, g3, g4⟩
  · omega
  · have k1 := cN_up P (show r' - 1 < r' by omega) g3
    have k2 := cN_mono P g2
    omega
  · have k1 := cN_up P (show r - 1 < r by omega) h3
    have k2 := cN_mono P h2
    omega
  · have := cN_inj P h3 g3 (by rw [show r - 1 + 1 = r by omega, show r' - 1 + 1 = r' by omega]; omega)
    omega
theorem isPag_ex (P : Nat → Bool) (c z : Nat) (hz : 0 < z) : ∃ r, isPag P c z r := by
  rcases Nat.eq_zero_or_pos (cN P c) with h | h
  · exact ⟨0, Or.inl ⟨rfl, h⟩⟩
  · have hm : cmin z (cN P c) ≤ cN P c ∧ 0 < cmin z (cN P c) := by unfold cmin; split <;> omega
    obtain ⟨e, h1, h2, h3, h4⟩ := cN_sel P 0 c (cmin z (cN P c) - 1) (Nat.zero_le _) (by show _ < cN P c - 0; omega)
    have := cN_mono P (show e + 1 ≤ c by omega)
    have k := cN_t h3
    exact ⟨e + 1, Or.inr ⟨by omega, by omega, h3, by omega⟩⟩
theorem isRow_ex {σ : St} {q i : Nat} (h : sf σ q ≤ sn σ) (hi : i < rcn σ q) : ∃ v, isRow σ q i v := by
  unfold rcn at hi
  obtain ⟨e, h1, h2, h3, h4⟩ := cN_sel (el σ q) (sf σ q) (sn σ) (rcn σ q - 1 - i) h (by unfold rcn; omega)
  have k := cN_t h3
  have k2 := cN_up _ h2 h3
  have k3 := cN_mono (el σ q) h1
  unfold rcn at h4
  exact ⟨e, h1, h2, h3, by omega⟩
theorem isRow_uniq {σ : St} {q i v w : Nat} (h : isRow σ q i v) (h' : isRow σ q i w) : v = w := by
  obtain ⟨a1, a2, a3, a4⟩ := h
  obtain ⟨b1, b2, b3, b4⟩ := h'
  exact cN_inj _ a3 b3 (by rw [cN_t a3, cN_t b3]; omega)
theorem Inv_uF {σ : St} (h : Inv σ) (x : Nat → Bool) : Inv (uF σ x) := h
theorem Inv_uM {σ : St} (h : Inv σ) (x : Nat → Bool) : Inv (uM σ x) := h
theorem Inv_uB {σ : St} (h : Inv σ) (x : Nat → Bool) : Inv (uB σ x) := h
theorem Inv_uD {σ : St} (h : Inv σ) (x : Nat → Bool) : Inv (uD σ x) := h
theorem Inv_uK {σ : St} (h : Inv σ) {x : Nat} (hx : x ≤ 8) : Inv (uK σ x) := ⟨h.1, hx, h.2.2⟩
theorem Inv_uR {σ : St} (h : Inv σ) {x : Nat} (h1 : 1 ≤ x) (h2 : x ≤ 40) : Inv (uR σ x) := ⟨h.1, h.2.1, h1, h2, h.2.2.2.2⟩
theorem Inv_uE {σ : St} (h : Inv σ) {a o : Nat} (hn : sn σ < 150) (ha : a < 8) (ho : o ≤ sn σ) : Inv (uE σ (va_up (sa σ) (sn σ) a) (va_up (so σ) (sn σ) o) (sn σ + 1)) := by
  obtain ⟨h1, h2, h3, h4, h5, h6, h7, h8⟩ := h
  refine ⟨hn, h2, h3, h4, fun e => ?_, fun e => ?_, fun e he => ?_, fun q hq => Nat.le_succ_of_le (h8 q hq)⟩
  · show va_up (sa σ) (sn σ) a e < 8
    unfold va_up
    split
    · exact ha
    · exact h5 e
  · show va_up (so σ) (sn σ) o e < 150
    unfold va_up
    split
    · omega
    · exact h6 e
  · show va_up (so σ) (sn σ) o e ≤ e
    have he2 : e < sn σ + 1 := he
    unfold va_up
    split
    · omega
    · exact h7 e (by omega)
