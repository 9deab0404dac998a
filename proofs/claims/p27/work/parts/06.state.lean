/-! What a state of the system is: the numbers (St), the worlds of the class's parts (wRel, wLed, wRow, wTim, wF) and of the reference (wM). -/
def cN (P : Nat → Bool) : Nat → Nat
  | 0 => 0
  | k + 1 => cN P k + (if P k then 1 else 0)
def exB (P : Nat → Bool) : Nat → Bool
  | 0 => false
  | k + 1 => exB P k || P k
def laB (P : Nat → Bool) : Nat → Nat
  | 0 => 0
  | k + 1 => if P k then k + 1 else laB P k
/-- who follows, mutes, blocks; authors, origins, deleted; entries, mark, room; the floors (as the number behind) -/
abbrev St : Type := (Nat → Bool) × (Nat → Bool) × (Nat → Bool) × (Nat → Nat) × (Nat → Nat) × (Nat → Bool) × Nat × Nat × Nat × (Nat → Nat)
def sF (σ : St) : Nat → Bool := σ.1
def sM (σ : St) : Nat → Bool := σ.2.1
def sB (σ : St) : Nat → Bool := σ.2.2.1
def sa (σ : St) : Nat → Nat := σ.2.2.2.1
def so (σ : St) : Nat → Nat := σ.2.2.2.2.1
def sd (σ : St) : Nat → Bool := σ.2.2.2.2.2.1
def sn (σ : St) : Nat := σ.2.2.2.2.2.2.1
def sk (σ : St) : Nat := σ.2.2.2.2.2.2.2.1
def sr (σ : St) : Nat := σ.2.2.2.2.2.2.2.2.1
def sf (σ : St) : Nat → Nat := σ.2.2.2.2.2.2.2.2.2
def uF (σ : St) (x : Nat → Bool) : St := (x, sM σ, sB σ, sa σ, so σ, sd σ, sn σ, sk σ, sr σ, sf σ)
def uM (σ : St) (x : Nat → Bool) : St := (sF σ, x, sB σ, sa σ, so σ, sd σ, sn σ, sk σ, sr σ, sf σ)
def uB (σ : St) (x : Nat → Bool) : St := (sF σ, sM σ, x, sa σ, so σ, sd σ, sn σ, sk σ, sr σ, sf σ)
def uE (σ : St) (x y : Nat → Nat) (n : Nat) : St := (sF σ, sM σ, sB σ, x, y, sd σ, n, sk σ, sr σ, sf σ)
def uD (σ : St) (x : Nat → Bool) : St := (sF σ, sM σ, sB σ, sa σ, so σ, x, sn σ, sk σ, sr σ, sf σ)
def uK (σ : St) (x : Nat) : St := (sF σ, sM σ, sB σ, sa σ, so σ, sd σ, sn σ, x, sr σ, sf σ)
def uR (σ : St) (x : Nat) : St := (sF σ, sM σ, sB σ, sa σ, so σ, sd σ, sn σ, sk σ, x, sf σ)
def uS (σ : St) (x : Nat → Nat) : St := (sF σ, sM σ, sB σ, sa σ, so σ, sd σ, sn σ, sk σ, sr σ, x)
/-- what holds of every state that comes up -/
def Inv (σ : St) : Prop := sn σ ≤ 150 ∧ sk σ ≤ 8 ∧ 1 ≤ sr σ ∧ sr σ ≤ 40 ∧ (∀ e, sa σ e < 8) ∧ (∀ e, so σ e < 150) ∧ (∀ e, e < sn σ → so σ e ≤ e) ∧ ∀ q, q < 8 → sf σ q ≤ sn σ
def fcnt (F : Nat → Bool) (a : Nat) : Nat := cN (fun k => F (8 * k + a)) 8
def lg (σ : St) (a : Nat) : Bool := decide (sk σ < fcnt (sF σ) a)
/-- an entry that a row takes, the floor aside -/
def el (σ : St) (q e : Nat) : Bool := !sd σ e && (sF σ (8 * q + sa σ e) && !lg σ (sa σ e))
def hid (σ : St) (q e : Nat) : Bool := sd σ e || (sd σ (so σ e) || (sM σ (8 * q + sa σ e) || (sM σ (8 * q + sa σ (so σ e)) || sB σ (8 * sa σ (so σ e) + q))))
def due (σ : St) (q e : Nat) : Bool := decide (sf σ q ≤ e) && (sF σ (8 * q + sa σ e) && !hid σ q e)
def shw (σ : St) (q e : Nat) : Bool := due σ q e && !exB (fun k => decide (e < k) && (decide (so σ k = so σ e) && due σ q k)) (sn σ)
-- the class's scratch: how many each row has, and which; the timeline's numbers, what is taken, how many
abbrev Sc : Type := (Nat → Nat) × (Nat → Nat → Int32) × (Nat → Int32) × (Nat → Bool) × Nat
def rc (τ : Sc) : Nat → Nat := τ.1
def rn (τ : Sc) : Nat → Nat → Int32 := τ.2.1
def tn (τ : Sc) : Nat → Int32 := τ.2.2.1
def tt (τ : Sc) : Nat → Bool := τ.2.2.2.1
def tc (τ : Sc) : Nat := τ.2.2.2.2
def uRow (τ : Sc) (q c : Nat) (f : Nat → Int32) : Sc := (va_up (rc τ) q c, va_up (rn τ) q f, tn τ, tt τ, tc τ)
def uTim (τ : Sc) (f : Nat → Int32) (k : Nat → Bool) (c : Nat) : Sc := (rc τ, rn τ, f, k, c)
-- the worlds
def wRel (g : GT) (r q : Nat) (F : Nat → Bool) : va_W := [(r, .inr (1, [.ref q])), (q, .inl (g.2 1, 64, .inl (zc F)))]
def wLed (g : GT) (a0 a1 a2 a3 : Nat) (au og : Nat → Nat) (dl : Nat → Bool) (n : Nat) : va_W := [(a0, .inr (0, [.ref a1, .ref a2, .ref a3, .int (nI n)])), (a1, .inl (g.2 0, 150, .inl (nc au))), (a2, .inl (g.2 0, 150, .inl (nc og))), (a3, .inl (g.2 1, 150, .inl (zc dl)))]
def wRow (g : GT) (b0 b1 q : Nat) (fn : Nat → Int32) (cnt fl : Nat) : va_W := [(b0, .inr (2, [.int (nI q), .ref b1, .int (nI cnt), .int (fI fl)])), (b1, .inl (g.2 0, 40, .inl fn))]
def wTim (g : GT) (t0 t1 t2 : Nat) (fn : Nat → Int32) (tk : Nat → Bool) (cnt : Nat) : va_W := [(t0, .inr (3, [.ref t1, .ref t2, .int (nI cnt)])), (t1, .inl (g.2 0, 150, .inl fn)), (t2, .inl (g.2 1, 150, .inl (zc tk)))]
def wTop (g : GT) (ad : Nat → Nat) (σ : St) : va_W := [(ad 0, .inr (4, [.ref (ad 1), .ref (ad 3), .ref (ad 5), .ref (ad 7), .ref (ad 11), .ref (ad 12), .int (nI (sk σ)), .int (nI (sr σ))]))]
def wArr (g : GT) (ad : Nat → Nat) : va_W := [(ad 11, .inl (g.2 2, 8, .inr (.inr (.inr (.inr (fun i => some (ad (15 + 2 * i))))))))]
def wR (g : GT) (ad : Nat → Nat) (σ : St) (τ : Sc) (q : Nat) : va_W := wRow g (ad (15 + 2 * q)) (ad (16 + 2 * q)) q (rn τ q) (rc τ q) (sf σ q)
def wF (g : GT) (ad : Nat → Nat) (σ : St) (τ : Sc) : va_W := wTop g ad σ ++ (wRel g (ad 1) (ad 2) (sF σ) ++ (wRel g (ad 3) (ad 4) (sM σ) ++ (wRel g (ad 5) (ad 6) (sB σ) ++ (wLed g (ad 7) (ad 8) (ad 9) (ad 10) (sa σ) (so σ) (sd σ) (sn σ) ++ (wArr g ad ++ (wTim g (ad 12) (ad 13) (ad 14) (tn τ) (tt τ) (tc τ) ++ (wR g ad σ τ 0 ++ (wR g ad σ τ 1 ++ (wR g ad σ τ 2 ++ (wR g ad σ τ 3 ++ (wR g ad σ τ 4 ++ (wR g ad σ τ 5 ++ (wR g ad σ τ 6 ++ wR g ad σ τ 7)))))))))))))
def wM (g : GT) (am : Nat → Nat) (σ : St) (th : Nat) : va_W := [(am 0, .inr (5, [.ref (am 1), .ref (am 2), .ref (am 3), .ref (am 4), .ref (am 5), .ref (am 6), .int (nI (sn σ)), .int (nI (sk σ)), .int (nI (sr σ)), .ref (am 7), .int (nI th)])), (am 1, .inl (g.2 1, 64, .inl (zc (sF σ)))), (am 2, .inl (g.2 1, 64, .inl (zc (sM σ)))), (am 3, .inl (g.2 1, 64, .inl (zc (sB σ)))), (am 4, .inl (g.2 0, 150, .inl (nc (sa σ)))), (am 5, .inl (g.2 0, 150, .inl (nc (so σ)))), (am 6, .inl (g.2 1, 150, .inl (zc (sd σ)))), (am 7, .inl (g.2 0, 8, .inl (fc (sf σ))))]
def fA (ad : Nat → Nat) : List Nat := (List.range 31).map ad
def mA (am : Nat → Nat) : List Nat := (List.range 8).map am
theorem wF_adr {g : GT} {ad : Nat → Nat} {σ : St} {τ : Sc} : adr (wF g ad σ τ) = fA ad := rfl
theorem wM_adr {g : GT} {am : Nat → Nat} {σ : St} {th : Nat} : adr (wM g am σ th) = mA am := rfl
theorem fA_mem {ad : Nat → Nat} {i : Nat} (h : i < 31) : ad i ∈ fA ad := List.mem_map.mpr ⟨i, List.mem_range.mpr h, rfl⟩
theorem mA_mem {am : Nat → Nat} {i : Nat} (h : i < 8) : am i ∈ mA am := List.mem_map.mpr ⟨i, List.mem_range.mpr h, rfl⟩
theorem nd_range {ad : Nat → Nat} {n : Nat} (hN : FN ad n) : Nd ((List.range n).map ad) := by
  intro i j a hi hj
  rw [List.getElem?_map] at hi hj
  obtain ⟨x, hx, hxa⟩ := Option.map_eq_some_iff.mp hi
  obtain ⟨y, hy, hya⟩ := Option.map_eq_some_iff.mp hj
  obtain ⟨h1, h2⟩ := List.getElem?_eq_some_iff.mp hx
  obtain ⟨h3, h4⟩ := List.getElem?_eq_some_iff.mp hy
  rw [List.length_range] at h1 h3
  rw [List.getElem_range] at h2 h4
  subst h2; subst h4
  exact hN i j h1 h3 (hxa.trans hya.symm)
theorem wF_nd {g : GT} {ad : Nat → Nat} {σ : St} {τ : Sc} (hN : FN ad 31) : Nd (adr (wF g ad σ τ)) := nd_range hN
theorem wM_nd {g : GT} {am : Nat → Nat} {σ : St} {th : Nat} (hN : FN am 8) : Nd (adr (wM g am σ th)) := nd_range hN
theorem wF_D {g : GT} {ad : Nat → Nat} {σ : St} {τ : Sc} (hN : FN ad 31) : va_D (fun q => q ∈ fA ad) (wF g ad σ τ) := D_of (wF_nd hN) (fun x h => h)
theorem wM_D {g : GT} {am : Nat → Nat} {σ : St} {th : Nat} (hN : FN am 8) : va_D (fun q => q ∈ mA am) (wM g am σ th) := D_of (wM_nd hN) (fun x h => h)
/-- row q of the world, cut out -/
theorem wF_row {g : GT} {ad : Nat → Nat} {σ : St} {τ : Sc} {H : Heap} {q : Nat} (hq : q < 8) (h : gP g (wF g ad σ τ) H) : gP g (wR g ad σ τ q) H := by
  match q, hq with
  | 0, _ => exact h.sub (ws' := wR g ad σ τ 0) [15, 16] rfl
  | 1, _ => exact h.sub (ws' := wR g ad σ τ 1) [17, 18] rfl
  | 2, _ => exact h.sub (ws' := wR g ad σ τ 2) [19, 20] rfl
  | 3, _ => exact h.sub (ws' := wR g ad σ τ 3) [21, 22] rfl
  | 4, _ => exact h.sub (ws' := wR g ad σ τ 4) [23, 24] rfl
  | 5, _ => exact h.sub (ws' := wR g ad σ τ 5) [25, 26] rfl
  | 6, _ => exact h.sub (ws' := wR g ad σ τ 6) [27, 28] rfl
  | 7, _ => exact h.sub (ws' := wR g ad σ τ 7) [29, 30] rfl
/-- row q of the world, put back -/
theorem wF_rowU {g : GT} {ad : Nat → Nat} {σ : St} {τ : Sc} {H H1 : Heap} {q c f : Nat} {fn : Nat → Int32} (hN : FN ad 31) (hq : q < 8) (h : gP g (wF g ad σ τ) H) (hk : ∀ x : Nat, x < H.size → ¬ x ∈ [ad (15 + 2 * q), ad (16 + 2 * q)] → H1[x]? = H[x]?) (h1 : gP g (wRow g (ad (15 + 2 * q)) (ad (16 + 2 * q)) q fn c f) H1) :
    gP g (wF g ad (uS σ (va_up (sf σ) q f)) (uRow τ q c fn)) H1 := by
  match q, hq with
  | 0, _ => exact P_upd (wc := wR g ad σ τ 0) 15 17 h (wF_nd hN) rfl rfl hk h1
  | 1, _ => exact P_upd (wc := wR g ad σ τ 1) 17 19 h (wF_nd hN) rfl rfl hk h1
  | 2, _ => exact P_upd (wc := wR g ad σ τ 2) 19 21 h (wF_nd hN) rfl rfl hk h1
  | 3, _ => exact P_upd (wc := wR g ad σ τ 3) 21 23 h (wF_nd hN) rfl rfl hk h1
  | 4, _ => exact P_upd (wc := wR g ad σ τ 4) 23 25 h (wF_nd hN) rfl rfl hk h1
  | 5, _ => exact P_upd (wc := wR g ad σ τ 5) 25 27 h (wF_nd hN) rfl rfl hk h1
  | 6, _ => exact P_upd (wc := wR g ad σ τ 6) 27 29 h (wF_nd hN) rfl rfl hk h1
  | 7, _ => exact P_upd (wc := wR g ad σ τ 7) 29 31 h (wF_nd hN) rfl rfl hk h1
theorem wF_FU {g : GT} {ad : Nat → Nat} {σ : St} {τ : Sc} {H H1 : Heap} {x : Nat → Bool} (hN : FN ad 31) (h : gP g (wF g ad σ τ) H) (hk : ∀ z : Nat, z < H.size → ¬ z ∈ [ad 1, ad 2] → H1[z]? = H[z]?) (h1 : gP g (wRel g (ad 1) (ad 2) x) H1) : gP g (wF g ad (uF σ x) τ) H1 := P_upd (wc := wRel g (ad 1) (ad 2) (sF σ)) 1 3 h (wF_nd hN) rfl rfl hk h1
theorem wF_MU {g : GT} {ad : Nat → Nat} {σ : St} {τ : Sc} {H H1 : Heap} {x : Nat → Bool} (hN : FN ad 31) (h : gP g (wF g ad σ τ) H) (hk : ∀ z : Nat, z < H.size → ¬ z ∈ [ad 3, ad 4] → H1[z]? = H[z]?) (h1 : gP g (wRel g (ad 3) (ad 4) x) H1) : gP g (wF g ad (uM σ x) τ) H1 := P_upd (wc := wRel g (ad 3) (ad 4) (sM σ)) 3 5 h (wF_nd hN) rfl rfl hk h1
theorem wF_BU {g : GT} {ad : Nat → Nat} {σ : St} {τ : Sc} {H H1 : Heap} {x : Nat → Bool} (hN : FN ad 31) (h : gP g (wF g ad σ τ) H) (hk : ∀ z : Nat, z < H.size → ¬ z ∈ [ad 5, ad 6] → H1[z]? = H[z]?) (h1 : gP g (wRel g (ad 5) (ad 6) x) H1) : gP g (wF g ad (uB σ x) τ) H1 := P_upd (wc := wRel g (ad 5) (ad 6) (sB σ)) 5 7 h (wF_nd hN) rfl rfl hk h1
theorem wF_EU {g : GT} {ad : Nat → Nat} {σ : St} {τ : Sc} {H H1 : Heap} {x y : Nat → Nat} {z : Nat → Bool} {n : Nat} (hN : FN ad 31) (h : gP g (wF g ad σ τ) H) (hk : ∀ z : Nat, z < H.size → ¬ z ∈ [ad 7, ad 8, ad 9, ad 10] → H1[z]? = H[z]?) (h1 : gP g (wLed g (ad 7) (ad 8) (ad 9) (ad 10) x y z n) H1) : gP g (wF g ad (uE (uD σ z) x y n) τ) H1 := P_upd (wc := wLed g (ad 7) (ad 8) (ad 9) (ad 10) (sa σ) (so σ) (sd σ) (sn σ)) 7 11 h (wF_nd hN) rfl rfl hk h1
theorem wF_TU {g : GT} {ad : Nat → Nat} {σ : St} {τ : Sc} {H H1 : Heap} {x : Nat → Int32} {y : Nat → Bool} {n : Nat} (hN : FN ad 31) (h : gP g (wF g ad σ τ) H) (hk : ∀ z : Nat, z < H.size → ¬ z ∈ [ad 12, ad 13, ad 14] → H1[z]? = H[z]?) (h1 : gP g (wTim g (ad 12) (ad 13) (ad 14) x y n) H1) : gP g (wF g ad σ (uTim τ x y n)) H1 := P_upd (wc := wTim g (ad 12) (ad 13) (ad 14) (tn τ) (tt τ) (tc τ)) 12 15 h (wF_nd hN) rfl rfl hk h1
section STEPS
variable {p : Program} {l : Launch} {e : Env} {R : Room} {s : State} {m : MethodId} {args : Array Value} {below : List Frame} {meth : Method} {c : Code} {H : Heap} {locs : List Loc} {cells slots : Nat} {Q : State → Prop}
variable {g : GT} {Ts : List Cond} {pc a index : Nat} {rest : List Value} {ls : Array Slot} {cc : ByteArray} {own : String}
theorem gf {C : String} {T : u_T} {N q0 ci k : Nat} {ws : va_W} {fs : List Value} {v : Value} (hx : p.tables.exec = Jvm.exec) (hb : c.code = cc) (hts : ∀ w ∈ Ts, w.before args s = true) (hin : ∀ w ∈ u_ws C T N, w ∈ Ts) (hown : s.vm.findClass own = some m.cls) (hE : gE g s) (hP : gP g ws H) (he : ws[q0]? = some (a, .inr (ci, fs))) (hc : vwCl[ci]? = some (C, T, N)) (hk : k < N)
    (hlk : Cond.fieldLink own index (T k).1 (T k).2.1 (T k).2.2.1 ∈ Ts) (hv : fs[k]? = some v) (hdg : decode cc pc = .ok (.getfield index, 3)) (kk : W p l e R s m args below meth c H locs cells slots Q (F0 m (pc + 3) ls (v :: rest))) : W p l e R s m args below meth c H locs cells slots Q (F0 m pc ls (.ref a :: rest)) :=
  va_get hx hb hts hin hown hE.1 hP q0 he hc k hk (hts _ hlk) (fun _ h9 => h9) hv hdg kk
theorem pf {C : String} {T : u_T} {N q0 ci k : Nat} {ws ws' : va_W} {fs : List Value} {x : Int32} {A : Nat → Prop} {H0 : Heap} {ty0 : Nat → FieldType} (hx : p.tables.exec = Jvm.exec) (hb : c.code = cc) (hts : ∀ w ∈ Ts, w.before args s = true) (hin : ∀ w ∈ u_ws C T N, w ∈ Ts) (hown : s.vm.findClass own = some m.cls) (hE : gE g s) (hP : gP g ws H) (hD : va_D A ws) (hS : va_S A H0 H locs) (he : ws[q0]? = some (a, .inr (ci, fs))) (hc : vwCl[ci]? = some (C, T, N)) (hk : k < N)
    (hty : ∀ k, k < N → parseFieldDescriptor (T k).2.2.1 = some (ty0 k)) (hnm : ∀ a, a < N → ∀ b, b < N → a ≠ b → (T a).2.1 ≠ (T b).2.1) (hlk : Cond.fieldLink own index (T k).1 (T k).2.1 (T k).2.2.1 ∈ Ts) (hfin : (T k).2.2.2 = false) (hd : parseFieldDescriptor (T k).2.2.1 = some .int) (hlen : k < fs.length) (hw : ws.set q0 (a, .inr (ci, fs.set k (.int x))) = ws') (hdg : decode cc pc = .ok (.putfield index, 3))
    (kk : ∀ (H1 : Heap) (locs1 : List Loc), gP g ws' H1 → va_D A ws' → va_S A H0 H1 locs1 → W p l e R s m args below meth c H1 locs1 cells slots Q (F0 m (pc + 3) ls rest)) : W p l e R s m args below meth c H locs cells slots Q (F0 m pc ls (.int x :: .ref a :: rest)) := by
  refine va_put hx hb hts hin ty0 hty hnm hown hE.1 hP hD hS q0 he hc k hk (hts _ hlk) (fun _ h9 => h9) hfin hd rfl rfl hlen hdg (fun H1 locs1 hP1 hD1 hS1 => ?_)
  rw [hw] at hP1 hD1
  exact kk H1 locs1 hP1 hD1 hS1
theorem rd_goS {v : Value} {st0 : List Value} {a : Array Value} (hr : CallRun p l e R s m args below meth c H locs cells slots 0 0 (F0 m pc ls st0) rest (rdQ (some v) a) (fun _ => False)) (kk : W p l e R s m args below meth c H locs cells slots Q (F0 m (pc + 3) ls (v :: rest))) : W p l e R s m args below meth c H locs cells slots Q (F0 m pc ls st0) := rd_go hr kk
theorem wr_goS {v : Value} {st0 : List Value} {a : Array Value} {B : Heap → Prop} {as : List Nat} {A0 : Nat → Prop} {H0 : Heap} (hr : CallRun p l e R s m args below meth c H locs cells slots 0 0 (F0 m pc ls st0) rest (wrQ (some v) B as a) (fun q => q ∈ as)) (hS : va_S A0 H0 H locs) (has : ∀ x ∈ as, A0 x)
    (kk : ∀ (H1 : Heap) (locs1 : List Loc), B H1 → H.size ≤ H1.size → (∀ q : Nat, q < H.size → ¬ q ∈ as → H1[q]? = H[q]?) → va_S A0 H0 H1 locs1 → W p l e R s m args below meth c H1 locs1 cells slots Q (F0 m (pc + 3) ls (v :: rest))) : W p l e R s m args below meth c H locs cells slots Q (F0 m pc ls st0) := wr_go hr hS has kk
theorem wr_goN {st0 : List Value} {a : Array Value} {B : Heap → Prop} {as : List Nat} {A0 : Nat → Prop} {H0 : Heap} (hr : CallRun p l e R s m args below meth c H locs cells slots 0 0 (F0 m pc ls st0) rest (wrQ none B as a) (fun q => q ∈ as)) (hS : va_S A0 H0 H locs) (has : ∀ x ∈ as, A0 x)
    (kk : ∀ (H1 : Heap) (locs1 : List Loc), B H1 → H.size ≤ H1.size → (∀ q : Nat, q < H.size → ¬ q ∈ as → H1[q]? = H[q]?) → va_S A0 H0 H1 locs1 → W p l e R s m args below meth c H1 locs1 cells slots Q (F0 m (pc + 3) ls rest)) : W p l e R s m args below meth c H locs cells slots Q (F0 m pc ls st0) := wr_go hr hS has kk
theorem xr_goS {er erO MC MS mc ms : Nat} {v : Value} {st0 : List Value} {a : Array Value} {Qc : Array Value → State → Outcome → State → Prop} {free : Addr → Prop} (hr : vx_Run p l e R s m args below meth c s.heap [] cells slots mc ms (F0 m pc ls st0) rest (xrQ er (some v) a) (xX er) (fun _ => False)) (hout : ∀ x ∈ c.exceptionTable.toList, False) (hlocks : meth.locks = false) (herr : er ≠ 0 → erO = er) (hc : cells + mc ≤ MC) (hs : slots + ms ≤ MS)
    (kk : er = 0 → W p l e R s m args below meth c s.heap [] (cells + mc) (slots + ms) (vx_MQ below Qc (xX erO) args s MC MS free) (F0 m (pc + 3) ls (v :: rest))) : W p l e R s m args below meth c s.heap [] cells slots (vx_MQ below Qc (xX erO) args s MC MS free) (F0 m pc ls st0) := xr_go hr hout hlocks herr hc hs kk
theorem xr_goN {er erO MC MS mc ms : Nat} {st0 : List Value} {a : Array Value} {Qc : Array Value → State → Outcome → State → Prop} {free : Addr → Prop} (hr : vx_Run p l e R s m args below meth c s.heap [] cells slots mc ms (F0 m pc ls st0) rest (xrQ er none a) (xX er) (fun _ => False)) (hout : ∀ x ∈ c.exceptionTable.toList, False) (hlocks : meth.locks = false) (herr : er ≠ 0 → erO = er) (hc : cells + mc ≤ MC) (hs : slots + ms ≤ MS)
    (kk : er = 0 → W p l e R s m args below meth c s.heap [] (cells + mc) (slots + ms) (vx_MQ below Qc (xX erO) args s MC MS free) (F0 m (pc + 3) ls rest)) : W p l e R s m args below meth c s.heap [] cells slots (vx_MQ below Qc (xX erO) args s MC MS free) (F0 m pc ls st0) := xr_go hr hout hlocks herr hc hs kk
end STEPS
theorem inc1 (i : Nat) : nI i + Int32.ofInt 1 = nI (i + 1) := nI_1 i
theorem dec1F (k : Nat) : fI (k + 1) + Int32.ofInt (-1) = fI k := by
  rw [fI_succ]
  show nI k + (-1) = nI k - 1
  rw [Int32.sub_eq_add_neg]
theorem sub1 (n : Nat) : nI n - nI 1 = fI n := rfl
theorem mulN (a b : Nat) : nI a * nI b = nI (b * a) := by rw [pk_mul, Nat.mul_comm]
theorem dec1N (k : Nat) : nI (k + 1) + Int32.ofInt (-1) = nI k := by
  show nI (k + 1) + (-1) = nI k
  exact pk_m1 k
theorem inc4 (i : Nat) : nI i + Int32.ofInt 4 = nI (i + 4) := nI_add i 4
theorem cN_le (P : Nat → Bool) : ∀ n, cN P n ≤ n := by
  intro n
  induction n with
  | zero => exact Nat.le_refl _
  | succ k ih => simp only [cN]; split <;> omega
section BR0
variable {p : Program} {l : Launch} {e : Env} {R : Room} {s : State} {m : MethodId} {args : Array Value} {below : List Frame} {meth : Method} {c : Code} {H : Heap} {locs : List Loc} {cells slots : Nat} {Q : State → Prop}
variable {pc a tgt : Nat} {rest : List Value} {ls : Array Slot} {cc : ByteArray} {off : Int}
theorem tp_i2 {x z y : Int32} (h : x = z) (k : W p l e R s m args below meth c H locs cells slots Q (F0 m pc ls (.int y :: .int z :: rest))) : W p l e R s m args below meth c H locs cells slots Q (F0 m pc ls (.int y :: .int x :: rest)) := by
  rw [h]; exact k
theorem br_eq0 (hx : p.tables.exec = Jvm.exec) (hb : c.code = cc) (ha : a < 2 ^ 31) (hdg : decode cc pc = .ok (.ifCond .eq off, 3)) (ht : (pc : Int) + off = (tgt : Int)) (kt : a = 0 → W p l e R s m args below meth c H locs cells slots Q (F0 m tgt ls rest)) (kf : 0 < a → W p l e R s m args below meth c H locs cells slots Q (F0 m (pc + 3) ls rest)) : W p l e R s m args below meth c H locs cells slots Q (F0 m pc ls (.int (nI a) :: rest)) :=
  lv_if_eq hx hb hdg ht (fun h => kt ((nI_eq ha (by decide)).mp h)) (fun h => kf (Nat.pos_of_ne_zero (fun z => h ((nI_eq ha (by decide)).mpr z))))
theorem br_ne0 (hx : p.tables.exec = Jvm.exec) (hb : c.code = cc) (ha : a < 2 ^ 31) (hdg : decode cc pc = .ok (.ifCond .ne off, 3)) (ht : (pc : Int) + off = (tgt : Int)) (kt : 0 < a → W p l e R s m args below meth c H locs cells slots Q (F0 m tgt ls rest)) (kf : a = 0 → W p l e R s m args below meth c H locs cells slots Q (F0 m (pc + 3) ls rest)) : W p l e R s m args below meth c H locs cells slots Q (F0 m pc ls (.int (nI a) :: rest)) :=
  lv_if_ne hx hb hdg ht (fun h => kt (Nat.pos_of_ne_zero (fun z => h ((nI_eq ha (by decide)).mpr z)))) (fun h => kf ((nI_eq ha (by decide)).mp h))
theorem br_le0 (hx : p.tables.exec = Jvm.exec) (hb : c.code = cc) (ha : a < 2 ^ 31) (hdg : decode cc pc = .ok (.ifCond .le off, 3)) (ht : (pc : Int) + off = (tgt : Int)) (kt : a = 0 → W p l e R s m args below meth c H locs cells slots Q (F0 m tgt ls rest)) (kf : 0 < a → W p l e R s m args below meth c H locs cells slots Q (F0 m (pc + 3) ls rest)) : W p l e R s m args below meth c H locs cells slots Q (F0 m pc ls (.int (nI a) :: rest)) :=
  lv_if_le hx hb hdg ht (fun h => kt (Nat.le_zero.mp ((nI_leI ha (by decide)).mp h))) (fun h => kf (Nat.not_le.mp (fun z => h ((nI_leI ha (by decide)).mpr z))))
theorem br_gt0 (hx : p.tables.exec = Jvm.exec) (hb : c.code = cc) (ha : a < 2 ^ 31) (hdg : decode cc pc = .ok (.ifCond .gt off, 3)) (ht : (pc : Int) + off = (tgt : Int)) (kt : 0 < a → W p l e R s m args below meth c H locs cells slots Q (F0 m tgt ls rest)) (kf : a = 0 → W p l e R s m args below meth c H locs cells slots Q (F0 m (pc + 3) ls rest)) : W p l e R s m args below meth c H locs cells slots Q (F0 m pc ls (.int (nI a) :: rest)) :=
  lv_if_gt hx hb hdg ht (fun h => kt ((nI_ltI (by decide) ha).mp h)) (fun h => kf (Nat.eq_zero_of_not_pos (fun z => h ((nI_ltI (by decide) ha).mpr z))))
theorem br_lt0 (hx : p.tables.exec = Jvm.exec) (hb : c.code = cc) (ha : a < 2 ^ 31) (hdg : decode cc pc = .ok (.ifCond .lt off, 3)) (ht : (pc : Int) + off = (tgt : Int)) (kt : False → W p l e R s m args below meth c H locs cells slots Q (F0 m tgt ls rest)) (kf : True → W p l e R s m args below meth c H locs cells slots Q (F0 m (pc + 3) ls rest)) : W p l e R s m args below meth c H locs cells slots Q (F0 m pc ls (.int (nI a) :: rest)) :=
  lv_if_lt hx hb hdg ht (fun h => kt (nI_pos ha h)) (fun _ => kf trivial)
theorem br_ge0 (hx : p.tables.exec = Jvm.exec) (hb : c.code = cc) (ha : a < 2 ^ 31) (hdg : decode cc pc = .ok (.ifCond .ge off, 3)) (ht : (pc : Int) + off = (tgt : Int)) (kt : True → W p l e R s m args below meth c H locs cells slots Q (F0 m tgt ls rest)) (kf : False → W p l e R s m args below meth c H locs cells slots Q (F0 m (pc + 3) ls rest)) : W p l e R s m args below meth c H locs cells slots Q (F0 m pc ls (.int (nI a) :: rest)) :=
  lv_if_ge hx hb hdg ht (fun _ => kt trivial) (fun h => kf (h (nI_pos' ha)))
theorem fI_nneg {k : Nat} (h : k < 2 ^ 31) : 0 ≤ fI k ↔ 0 < k := by
  rw [Int32.le_iff_toInt_le, fI_toInt h]
  show (0 : Int) ≤ _ ↔ _
  omega
theorem br_lt0F (hx : p.tables.exec = Jvm.exec) (hb : c.code = cc) (ha : a < 2 ^ 31) (hdg : decode cc pc = .ok (.ifCond .lt off, 3)) (ht : (pc : Int) + off = (tgt : Int)) (kt : a = 0 → W p l e R s m args below meth c H locs cells slots Q (F0 m tgt ls rest)) (kf : 0 < a → W p l e R s m args below meth c H locs cells slots Q (F0 m (pc + 3) ls rest)) : W p l e R s m args below meth c H locs cells slots Q (F0 m pc ls (.int (fI a) :: rest)) :=
  lv_if_lt hx hb hdg ht (fun h => kt (Nat.eq_zero_of_not_pos (fun z => Int32.not_le.mpr h ((fI_nneg ha).mpr z)))) (fun h => kf ((fI_nneg ha).mp (Int32.not_lt.mp h)))
end BR0
