/-! Plain facts of counts, floors, rows and timelines. -/
theorem cN_mono (P : Nat → Bool) {a b : Nat} (h : a ≤ b) : cN P a ≤ cN P b := by
  induction h with
  | refl => exact Nat.le_refl _
  | step _ ih => exact Nat.le_trans ih (by simp only [cN]; omega)
theorem cN_add (P : Nat → Bool) (a d : Nat) : cN P (a + d) ≤ cN P a + d := by
  induction d with
  | zero => exact Nat.le_refl _
  | succ d ih =>
    show cN P (a + d) + (if P (a + d) then 1 else 0) ≤ cN P a + (d + 1)
    split <;> omega
theorem cN_up (P : Nat → Bool) {a b : Nat} (h : a < b) (hp : P a = true) : cN P a + 1 ≤ cN P b := by
  rw [← cN_t hp]
  exact cN_mono P h
theorem cN_congr {P P' : Nat → Bool} (n : Nat) (h : ∀ k, k < n → P k = P' k) : cN P n = cN P' n := by
  induction n with
  | zero => rfl
  | succ k ih => simp only [cN]; rw [ih (fun j hj => h j (by omega)), h k (by omega)]
theorem cN_zero {P : Nat → Bool} (n : Nat) (h : ∀ k, k < n → P k = false) : cN P n = 0 := by
  induction n with
  | zero => rfl
  | succ k ih => simp only [cN]; rw [ih (fun j hj => h j (by omega)), h k (by omega)]; rfl
theorem cN_above {P : Nat → Bool} {a b : Nat} (hab : a ≤ b) (h : ∀ k, a ≤ k → k < b → P k = false) : cN P b = cN P a := by
  induction hab with
  | refl => rfl
  | @step k hk ih => simp only [cN]; rw [ih (fun j h1 h2 => h j h1 (by omega)), h k hk (by omega)]; rfl
theorem cN_sel (P : Nat → Bool) (f n t : Nat) (hf : f ≤ n) (h : t < cN P n - cN P f) : ∃ e, f ≤ e ∧ e < n ∧ P e = true ∧ cN P n - cN P (e + 1) = t := by
  induction n generalizing t with
  | zero => simp [cN] at h
  | succ k ih =>
    rcases Nat.lt_or_ge k f with q | q
    · have : f = k + 1 := by omega
      subst this
      omega
    · cases hp : P k with
      | true =>
        cases t with
        | zero => exact ⟨k, q, by omega, hp, by omega⟩
        | succ u =>
          have h1 := cN_t hp
          obtain ⟨e, h2, h3, h4, h5⟩ := ih u q (by omega)
          have := cN_mono P (show e + 1 ≤ k by omega)
          exact ⟨e, h2, by omega, h4, by omega⟩
      | false =>
        have h1 := cN_f hp
        obtain ⟨e, h2, h3, h4, h5⟩ := ih t q (by omega)
        exact ⟨e, h2, by omega, h4, by omega⟩
theorem cN_inj (P : Nat → Bool) {a b : Nat} (ha : P a = true) (hb : P b = true) (h : cN P (a + 1) = cN P (b + 1)) : a = b := by
  rcases Nat.lt_trichotomy a b with q | q | q
  · have := cN_up P q ha
    have h1 := cN_t ha
    have h2 := cN_t hb
    omega
  · exact q
  · have := cN_up P q hb
    have h1 := cN_t ha
    have h2 := cN_t hb
    omega
theorem exB_iff (P : Nat → Bool) (n : Nat) : exB P n = true ↔ ∃ k, k < n ∧ P k = true := by
  induction n with
  | zero => simp [exB]
  | succ k ih =>
    simp only [exB, Bool.or_eq_true, ih]
    constructor
    · rintro (⟨j, h1, h2⟩ | h)
      · exact ⟨j, by omega, h2⟩
      · exact ⟨k, by omega, h⟩
    · rintro ⟨j, h1, h2⟩
      rcases Nat.lt_or_ge j k with q | q
      · exact Or.inl ⟨j, q, h2⟩
      · have : j = k := by omega
        subst this
        exact Or.inr h2
theorem exB_false {P : Nat → Bool} {n : Nat} : exB P n = false ↔ ∀ k, k < n → P k = false := by
  constructor
  · intro h k hk
    cases hp : P k with
    | false => rfl
    | true => rw [(exB_iff P n).mpr ⟨k, hk, hp⟩] at h; cases h
  · intro h
    cases he : exB P n with
    | false => rfl
    | true =>
      obtain ⟨k, hk, hp⟩ := (exB_iff P n).mp he
      rw [h k hk] at hp; cases hp
theorem exB_congr {P P' : Nat → Bool} (n : Nat) (h : ∀ k, k < n → P k = P' k) : exB P n = exB P' n := by
  induction n with
  | zero => rfl
  | succ k ih => simp only [exB]; rw [ih (fun j hj => h j (by omega)), h k (by omega)]
-- floors
def nflD (P : Nat → Bool) (f r : Nat) : Nat → Nat → Nat
  | 0, _ => f
  | k + 1, c => if k + 1 ≤ f then f else if P k then (if r ≤ c then k + 1 else nflD P f r k (c + 1)) else nflD P f r k c
/-- the floor behind a cut: from f, over n entries, with room r -/
def nfl (P : Nat → Bool) (f n r : Nat) : Nat := nflD P f r n 0
def Pnf (P : Nat → Bool) (f n r x : Nat) : Prop := (x = f ∧ cN P n ≤ cN P f + r) ∨ (f < x ∧ x ≤ n ∧ P (x - 1) = true ∧ cN P n = cN P x + r)
theorem nflD_pnf (P : Nat → Bool) (f n r : Nat) : ∀ k c, f ≤ k → k ≤ n → cN P n = cN P k + c → c ≤ r → Pnf P f n r (nflD P f r k c) := by
  intro k
  induction k with
  | zero =>
    intro c h1 h2 h3 h4
    have : f = 0 := by omega
    subst this
    exact Or.inl ⟨rfl, by omega⟩
  | succ j ih =>
    intro c h1 h2 h3 h4
    simp only [nflD]
    by_cases hk : j + 1 ≤ f
    · rw [if_pos hk]
      have : f = j + 1 := by omega
      subst this
      exact Or.inl ⟨rfl, by omega⟩
    · rw [if_neg hk]
      cases hp : P j with
      | true =>
        have h5 := cN_t hp
        simp only [if_true]
        by_cases hr : r ≤ c
        · rw [if_pos hr]
          exact Or.inr ⟨by omega, h2, hp, by omega⟩
        · rw [if_neg hr]
          exact ih (c + 1) (by omega) (by omega) (by omega) (by omega)
      | false =>
        have h5 := cN_f hp
        simp only [Bool.false_eq_true, if_false]
        exact ih c (by omega) (by omega) (by omega) h4
theorem nfl_pnf {P : Nat → Bool} {f n r : Nat} (h : f ≤ n) : Pnf P f n r (nfl P f n r) := nflD_pnf P f n r n 0 h (Nat.le_refl _) (by omega) (Nat.zero_le _)
theorem pnf_uniq {P : Nat → Bool} {f n r x y : Nat} (hx : Pnf P f n r x) (hy : Pnf P f n r y) : x = y := by
  rcases hx with ⟨h1, h2⟩ | ⟨h1, h2, h3, h4⟩ <;> rcases hy with ⟨g1, g2⟩ | ⟨g1, g2, g3, g4⟩
  · omega
  · have := cN_up P (show y - 1 < y by omega) g3
    have := cN_mono P (show f ≤ y - 1 by omega)
    omega
  · have := cN_up P (show x - 1 < x by omega) h3
    have := cN_mono P (show f ≤ x - 1 by omega)
    omega
  · rcases Nat.lt_trichotomy x y with q | q | q
    · have := cN_up P (show y - 1 < y by omega) g3
      have := cN_mono P (show x ≤ y - 1 by omega)
      omega
    · exact q
    · have := cN_up P (show x - 1 < x by omega) h3
      have := cN_mono P (show y ≤ x - 1 by omega)
      omega
theorem nfl_eq {P : Nat → Bool} {f n r x : Nat} (h : f ≤ n) (hx : Pnf P f n r x) : nfl P f n r = x := pnf_uniq (nfl_pnf h) hx
theorem nfl_le {P : Nat → Bool} {f n r : Nat} (h : f ≤ n) : f ≤ nfl P f n r ∧ nfl P f n r ≤ n ∧ cN P n - cN P (nfl P f n r) ≤ r := by
  rcases nfl_pnf (P := P) (r := r) h with ⟨h1, h2⟩ | ⟨h1, h2, h3, h4⟩
  · rw [h1]; omega
  · omega
-- rows
def rowOk (P : Nat → Bool) (f n c : Nat) (fn : Nat → Int32) : Prop := c = cN P n - cN P f ∧ ∀ e, f ≤ e → e < n → P e = true → fn (cN P n - cN P (e + 1)) = nI e
theorem nI_m1 {j : Nat} (h : j < 2 ^ 31) : ¬ (-1 : Int32) = nI j := by
  intro z
  have h1 : (-1 : Int32).toInt = (nI j).toInt := by rw [z]
  rw [nI_toInt h] at h1
  have h2 : (-1 : Int32).toInt = -1 := by decide
  omega
theorem rowOk_push {P : Nat → Bool} {f n c j : Nat} {fn : Nat → Int32} (h : rowOk P f n c fn) (h1 : f ≤ j) (h2 : j < n) (hn : n ≤ 150) : (if cN P n - cN P (j + 1) < c then fn (cN P n - cN P (j + 1)) else (-1)) = nI j ↔ P j = true := by
  obtain ⟨hc, hf⟩ := h
  constructor
  · intro h3
    by_cases h4 : cN P n - cN P (j + 1) < c
    · rw [if_pos h4] at h3
      obtain ⟨e, g1, g2, g3, g4⟩ := cN_sel P f n _ (by omega) (by rw [hc] at h4; exact h4)
      have h5 := hf e g1 g2 g3
      rw [g4, h3] at h5
      have h6 := (nI_eq (by omega) (by omega)).mp h5
      rw [h6]; exact g3
    · rw [if_neg h4] at h3
      exact absurd h3 (nI_m1 (by omega))
  · intro h3
    have g1 := cN_up P h2 h3
    have g2 := cN_mono P h1
    have g3 := cN_t h3
    rw [if_pos (by omega)]
    exact hf j h1 h2 h3
theorem rowOk_stop {P : Nat → Bool} {n k : Nat} {fn : Nat → Int32} {c : Nat} (h : rowOk P k n c fn) (hk : k < n + 1) {j : Nat} (hj : k = j + 1) (hp : P j = false) : rowOk P j n c fn := by
  subst hj
  obtain ⟨hc, hf⟩ := h
  have h1 := cN_f hp
  refine ⟨by omega, fun e h2 h3 h4 => ?_⟩
  rcases Nat.lt_or_ge j e with q | q
  · exact hf e q h3 h4
  · have : e = j := by omega
    subst this
    rw [hp] at h4; cases h4
theorem rowOk_add {P : Nat → Bool} {n j : Nat} {fn : Nat → Int32} {c : Nat} (h : rowOk P (j + 1) n c fn) (hj : j < n) (hp : P j = true) : rowOk P j n (c + 1) (upd fn c (nI j)) := by
  obtain ⟨hc, hf⟩ := h
  have h1 := cN_t hp
  have h0 := cN_up P hj hp
  refine ⟨by omega, fun e h2 h3 h4 => ?_⟩
  rcases Nat.lt_or_ge j e with q | q
  · have g1 := cN_up P h3 h4
    have g2 := cN_mono P (show j + 1 ≤ e by omega)
    have g3 := cN_t h4
    have hne : ¬ cN P n - cN P (e + 1) = c := by omega
    simp only [upd, if_neg hne]
    exact hf e q h3 h4
  · have : e = j := by omega
    subst this
    have he : cN P n - cN P (e + 1) = c := by omega
    simp only [upd, if_pos he]
theorem rowOk_0 {P : Nat → Bool} {n : Nat} {fn : Nat → Int32} : rowOk P n n 0 fn := ⟨by omega, fun e h1 h2 => by omega⟩
-- timelines
def tAdd (σ : St) (q : Nat) (τ : Sc) (x : Nat) : Sc := if hid σ q x || tt τ (so σ x) then τ else uTim τ (upd (tn τ) (tc τ) (nI x)) (va_up (tt τ) (so σ x) true) (tc τ + 1)
def timOk (σ : St) (q k : Nat) (τ : Sc) : Prop := tc τ = cN (shw σ q) (sn σ) - cN (shw σ q) k ∧ (∀ e, k ≤ e → e < sn σ → shw σ q e = true → tn τ (cN (shw σ q) (sn σ) - cN (shw σ q) (e + 1)) = nI e) ∧ ∀ o, o < 150 → tt τ o = exB (fun j => decide (k ≤ j) && (decide (so σ j = o) && due σ q j)) (sn σ)
theorem timOk_0 {σ : St} {q : Nat} {τ : Sc} {fn : Nat → Int32} {tk : Nat → Bool} : timOk σ q (sn σ) (uTim τ fn (clr tk 150) 0) := by
  refine ⟨by show 0 = _; omega, fun e h1 h2 => by omega, fun o ho => ?_⟩
  show clr tk 150 o = _
  simp only [clr, if_pos ho]
  exact (exB_false.mpr (fun k hk => by rw [decide_eq_false (by omega)]; rfl)).symm
theorem timOk_shw {σ : St} {q j : Nat} {τ : Sc} (h : timOk σ q (j + 1) τ) (ho : so σ j < 150) : shw σ q j = (due σ q j && !tt τ (so σ j)) := by
  rw [h.2.2 _ ho]
  simp only [shw]
  congr 2
theorem timOk_skip {σ : St} {q j : Nat} {τ : Sc} (h : timOk σ q (j + 1) τ) (hs : shw σ q j = false) (hd : due σ q j = false ∨ tt τ (so σ j) = true) : timOk σ q j τ := by
  obtain ⟨h1, h2, h3⟩ := h
  have g1 := cN_f hs
  refine ⟨by omega, fun e g2 g3 g4 => ?_, fun o ho => ?_⟩
  · rcases Nat.lt_or_ge j e with z9 | z9
    · exact h2 e z9 g3 g4
    · have : e = j := by omega
      subst this
      rw [hs] at g4; cases g4
  · rw [h3 o ho]
    rcases hd with hd | hd
    · refine exB_congr _ (fun k hk => ?_)
      by_cases hkj : k = j
      · subst hkj; simp [hd]
      · congr 1
        by_cases z : j + 1 ≤ k
        · rw [decide_eq_true z, decide_eq_true (by omega)]
        · rw [decide_eq_false z, decide_eq_false (by omega)]
    · by_cases hoj : o = so σ j
      · subst hoj
        rw [h3 _ ho] at hd
        obtain ⟨k, hk, hp⟩ := (exB_iff _ _).mp hd
        rw [(exB_iff _ _).mpr ⟨k, hk, hp⟩]
        refine ((exB_iff _ _).mpr ⟨k, hk, ?_⟩).symm
        simp only [Bool.and_eq_true, decide_eq_true_eq] at hp ⊢
        exact ⟨by omega, hp.2⟩
      · refine exB_congr _ (fun k hk => ?_)
        by_cases hkj : k = j
        · subst hkj
          rw [decide_eq_false (p := so σ k = o) (fun z => hoj z.symm)]
          simp
        · congr 1
          by_cases z : j + 1 ≤ k
          · rw [decide_eq_true z, decide_eq_true (by omega)]
          · rw [decide_eq_false z, decide_eq_false (by omega)]
theorem timOk_add {σ : St} {q j : Nat} {τ : Sc} (h : timOk σ q (j + 1) τ) (hj : j < sn σ) (hs : shw σ q j = true) (hd : due σ q j = true) : timOk σ q j (uTim τ (upd (tn τ) (tc τ) (nI j)) (va_up (tt τ) (so σ j) true) (tc τ + 1)) := by
  obtain ⟨h1, h2, h3⟩ := h
  have g1 := cN_t hs
  have g0 := cN_up _ hj hs
  refine ⟨by show tc τ + 1 = _; omega, fun e g2 g3 g4 => ?_, fun o ho => ?_⟩
  · show upd (tn τ) (tc τ) (nI j) _ = _
    rcases Nat.lt_or_ge j e with z9 | z9
    · have k1 := cN_up _ g3 g4
      have k2 := cN_mono (shw σ q) (show j + 1 ≤ e by omega)
      have k3 := cN_t g4
      simp only [upd]
      rw [if_neg (by omega)]
      exact h2 e z9 g3 g4
    · have : e = j := by omega
      subst this
      simp only [upd]
      rw [if_pos (by omega)]
  · show va_up (tt τ) (so σ j) true o = _
    by_cases hoj : o = so σ j
    · subst hoj
      simp only [va_up, if_pos]
      refine ((exB_iff _ _).mpr ⟨j, hj, ?_⟩).symm
      simp [hd]
    · simp only [va_up, if_neg hoj]
      rw [h3 o ho]
      refine exB_congr _ (fun k hk => ?_)
      by_cases hkj : k = j
      · subst hkj
        rw [decide_eq_false (p := so σ k = o) (fun z => hoj z.symm)]
        simp
      · congr 1
        by_cases z : j + 1 ≤ k
        · rw [decide_eq_true z, decide_eq_true (by omega)]
        · rw [decide_eq_false z, decide_eq_false (by omega)]
/-- an entry offered, or passed over since it can't be due -/
theorem timOk_step {σ : St} {q j : Nat} {τ : Sc} (h : timOk σ q (j + 1) τ) (hj : j < sn σ) (ho : so σ j < 150) (hf : sf σ q ≤ j) (hF : sF σ (8 * q + sa σ j) = true) : timOk σ q j (tAdd σ q τ j) := by
  have h1 := timOk_shw h ho
  have hd : due σ q j = !hid σ q j := by simp [due, hF, hf]
  cases hh : hid σ q j with
  | true =>
    have hd1 : due σ q j = false := by rw [hd, hh]; rfl
    simp only [tAdd, hh, Bool.true_or, if_true]
    exact timOk_skip h (by rw [h1, hd1]; rfl) (Or.inl hd1)
  | false =>
    have hd1 : due σ q j = true := by rw [hd, hh]; rfl
    cases ht : tt τ (so σ j) with
    | true =>
      simp only [tAdd, hh, ht, Bool.or_true, if_true]
      exact timOk_skip h (by rw [h1, hd1, ht]; rfl) (Or.inr ht)
    | false =>
      simp only [tAdd, hh, ht, Bool.or_false, Bool.false_eq_true, if_false]
      exact timOk_add h hj (by rw [h1, hd1, ht]; rfl) hd1
theorem timOk_pass {σ : St} {q j : Nat} {τ : Sc} (h : timOk σ q (j + 1) τ) (ho : so σ j < 150) (hd : due σ q j = false) : timOk σ q j τ := timOk_skip h (by rw [timOk_shw h ho, hd]; rfl) (Or.inl hd)
/-- the timeline is the entries that show -/
def TL (σ : St) (q : Nat) (τ : Sc) : Prop := tc τ = cN (shw σ q) (sn σ) ∧ ∀ e, e < sn σ → shw σ q e = true → tn τ (cN (shw σ q) (sn σ) - cN (shw σ q) (e + 1)) = nI e
theorem shw_floor {σ : St} {q e : Nat} (h : e < sf σ q) : shw σ q e = false := by
  simp only [shw, due, decide_eq_false (show ¬ sf σ q ≤ e by omega), Bool.false_and]
theorem TL_of {σ : St} {q : Nat} {τ : Sc} (h : timOk σ q (sf σ q) τ) : TL σ q τ := by
  have h0 : cN (shw σ q) (sf σ q) = 0 := cN_zero _ (fun k hk => shw_floor hk)
  refine ⟨by rw [h.1, h0]; rfl, fun e h1 h2 => ?_⟩
  rcases Nat.lt_or_ge e (sf σ q) with z | z
  · rw [shw_floor z] at h2; cases h2
  · exact h.2.1 e z h1 h2
theorem timOk_tc {σ : St} {q k : Nat} {τ : Sc} (h : timOk σ q k τ) (hn : sn σ ≤ 150) : tc τ ≤ 150 := by
  have := cN_le (shw σ q) (sn σ)
  have := h.1
  omega
theorem timOk_tc2 {σ : St} {q j : Nat} {τ : Sc} (h : timOk σ q (j + 1) τ) (hn : sn σ ≤ 150) (hj : j < sn σ) : tc τ < 150 := by
  have h1 := h.1
  have h2 := cN_add (shw σ q) (j + 1) (sn σ - (j + 1))
  rw [show j + 1 + (sn σ - (j + 1)) = sn σ by omega] at h2
  omega
theorem tAdd_rows {σ : St} {q x : Nat} {τ : Sc} : rc (tAdd σ q τ x) = rc τ ∧ rn (tAdd σ q τ x) = rn τ := by
  unfold tAdd
  split
  · exact ⟨rfl, rfl⟩
  · exact ⟨rfl, rfl⟩
-- scratch
theorem upself {α : Type} (f : Nat → α) (k : Nat) : va_up f k (f k) = f := by
  funext j
  by_cases h : j = k
  · subst h; simp [va_up]
  · simp [va_up, h]
theorem va_up_at {α : Type} (f : Nat → α) (k : Nat) (v : α) : va_up f k v k = v := by simp [va_up]
theorem uRow_self (τ : Sc) (q : Nat) : uRow τ q (rc τ q) (rn τ q) = τ := by
  simp only [uRow, upself]
  rfl
theorem uRow_uu (τ : Sc) (q c c' : Nat) (f f' : Nat → Int32) : uRow (uRow τ q c f) q c' f' = uRow τ q c' f' := by
  show (va_up (va_up (rc τ) q c) q c', va_up (va_up (rn τ) q f) q f', _, _, _) = _
  rw [bx_uu, bx_uu]
  rfl
theorem uS_self (σ : St) (q : Nat) : uS σ (va_up (sf σ) q (sf σ q)) = σ := by
  simp only [uS, upself]
  rfl
theorem wF_rowG {g : GT} {ad : Nat → Nat} {σ : St} {τ : Sc} {H : Heap} {q c : Nat} {fn : Nat → Int32} (hq : q < 8) (h : gP g (wF g ad σ (uRow τ q c fn)) H) : gP g (wRow g (ad (15 + 2 * q)) (ad (16 + 2 * q)) q fn c (sf σ q)) H := by
  have h1 := wF_row hq h
  have e1 : rc (uRow τ q c fn) q = c := va_up_at _ _ _
  have e2 : rn (uRow τ q c fn) q = fn := va_up_at _ _ _
  rw [wR, e1, e2] at h1
  exact h1
theorem wF_rowF {g : GT} {ad : Nat → Nat} {σ : St} {τ : Sc} {H H1 : Heap} {q c c' f : Nat} {fn fn' : Nat → Int32} (hN : FN ad 31) (hq : q < 8) (h : gP g (wF g ad σ (uRow τ q c fn)) H) (hk : ∀ x : Nat, x < H.size → ¬ x ∈ [ad (15 + 2 * q), ad (16 + 2 * q)] → H1[x]? = H[x]?) (h1 : gP g (wRow g (ad (15 + 2 * q)) (ad (16 + 2 * q)) q fn' c' f) H1) :
    gP g (wF g ad (uS σ (va_up (sf σ) q f)) (uRow τ q c' fn')) H1 := by
  have h2 := wF_rowU hN hq h hk h1
  rw [uRow_uu] at h2
  exact h2
theorem wF_rowS {g : GT} {ad : Nat → Nat} {σ : St} {τ : Sc} {H H1 : Heap} {q c c' : Nat} {fn fn' : Nat → Int32} (hN : FN ad 31) (hq : q < 8) (h : gP g (wF g ad σ (uRow τ q c fn)) H) (hk : ∀ x : Nat, x < H.size → ¬ x ∈ [ad (15 + 2 * q), ad (16 + 2 * q)] → H1[x]? = H[x]?) (h1 : gP g (wRow g (ad (15 + 2 * q)) (ad (16 + 2 * q)) q fn' c' (sf σ q)) H1) :
    gP g (wF g ad σ (uRow τ q c' fn')) H1 := by
  have h2 := wF_rowF hN hq h hk h1
  rw [uS_self] at h2
  exact h2
theorem as2 {ad : Nat → Nat} {q : Nat} (hq : q < 8) : ∀ x ∈ [ad (15 + 2 * q), ad (16 + 2 * q)], x ∈ fA ad := by
  intro x hx
  simp only [List.mem_cons, List.not_mem_nil, or_false] at hx
  rcases hx with rfl | rfl
  · exact fA_mem (by omega)
  · exact fA_mem (by omega)
theorem nd2 {ad : Nat → Nat} {q : Nat} (hN : FN ad 31) (hq : q < 8) : Nd [ad (15 + 2 * q), ad (16 + 2 * q)] :=
  nd_of hN [15 + 2 * q, 16 + 2 * q] (by simp [va_nd]) (by intro i hi; simp only [List.mem_cons, List.not_mem_nil, or_false] at hi; omega)
theorem asL {ad : Nat → Nat} {is : List Nat} (h : ∀ i ∈ is, i < 31) : ∀ x ∈ is.map ad, x ∈ fA ad := by
  intro x hx
  obtain ⟨i, hi, rfl⟩ := List.mem_map.mp hx
  exact fA_mem (h i hi)
theorem fcnt_le (F : Nat → Bool) (a : Nat) : fcnt F a ≤ 8 := cN_le _ 8
theorem decNF (j : Nat) : nI j + Int32.ofInt (-1) = fI j := by
  show nI j + (-1) = nI j - 1
  rw [Int32.sub_eq_add_neg]
def stlI (σ : St) (i : Nat) : St := uS σ (fun q => if q < i then nfl (el σ q) (sf σ q) (sn σ) (sr σ) else sf σ q)
/-- the state behind a cut of all rows -/
def stl (σ : St) : St := stlI σ 8
theorem stlI_0 (σ : St) : stlI σ 0 = σ := by
  show uS σ (fun q => if q < 0 then _ else sf σ q) = σ
  simp only [Nat.not_lt_zero, if_false]
  rfl
theorem stlI_s {σ : St} {i : Nat} : uS (stlI σ i) (va_up (sf (stlI σ i)) i (nfl (el (stlI σ i) i) (sf (stlI σ i) i) (sn (stlI σ i)) (sr (stlI σ i)))) = stlI σ (i + 1) := by
  have e1 : sf (stlI σ i) i = sf σ i := by show (if i < i then _ else _) = _; rw [if_neg (by omega)]
  rw [e1]
  show (sF σ, sM σ, sB σ, sa σ, so σ, sd σ, sn σ, sk σ, sr σ, va_up (fun q => if q < i then nfl (el σ q) (sf σ q) (sn σ) (sr σ) else sf σ q) i (nfl (el σ i) (sf σ i) (sn σ) (sr σ))) = (sF σ, sM σ, sB σ, sa σ, so σ, sd σ, sn σ, sk σ, sr σ, fun q => if q < i + 1 then nfl (el σ q) (sf σ q) (sn σ) (sr σ) else sf σ q)
  congr 9
  funext j
  by_cases h : j = i
  · subst h; simp [va_up]
  · by_cases h2 : j < i
    · have h3 : j < i + 1 := by omega
      simp [va_up, h, h2, h3]
    · have h3 : ¬ j < i + 1 := by omega
      simp [va_up, h, h2, h3]
theorem Inv_stlI {σ : St} (h : Inv σ) (i : Nat) : Inv (stlI σ i) := by
  obtain ⟨h1, h2, h3, h4, h5, h6, h7, h8⟩ := h
  refine ⟨h1, h2, h3, h4, h5, h6, h7, fun q hq => ?_⟩
  show (if q < i then _ else _) ≤ _
  split
  · exact (nfl_le (h8 q hq)).2.1
  · exact h8 q hq
theorem Inv_stl {σ : St} (h : Inv σ) : Inv (stl σ) := Inv_stlI h 8
def rowsOk (σ : St) (τ : Sc) (i : Nat) : Prop := ∀ q, q < i → rowOk (el σ q) (sf σ q) (sn σ) (rc τ q) (rn τ q)
