/-! The law's own methods that call and catch: their form, their calls and ends. -/
def wO (g : GT) (o : Nat) (fn : Nat → Int64) : va_W := [(o, .inl (g.2 3, 1, .inr (.inl fn)))]
def lwQ (g : GT) (ad : Nat → Nat) (o e k : Nat) (σ' : St) (x : Int64) : Array Value → State → Outcome → State → Prop := fun _ st ou t => ou = .returned (some (.int (nI k))) ∧ (∃ fn' : Nat → Int64, gP g (wO g o fn') t.heap ∧ (e = 0 → fn' 0 = x)) ∧ FWq g ad σ' t.heap ∧ va_F (fun q => q ∈ o :: fA ad) st t
def noX : String → State → State → Prop := fun _ _ _ => False
abbrev lwM (l : Launch) (g : GT) (y : MethodName) (ws : List Cond) (fr lo mc ms : Nat) (av : List Value) (ad : Nat → Nat) (o : Nat) (fn : Nat → Int64) (σ : St) (τ : Sc) (e k : Nat) (σ' : St) (x : Int64) : Prop := vx_Met l y ws ({ frames := fr, cells := mc, slots := ms, locals := lo }) (xP g av (wO g o fn ++ wF g ad σ τ)) (lwQ g ad o e k σ' x) noX mc ms (fun q => q ∈ o :: fA ad)
theorem lw_of {l : Launch} {g : GT} {y : MethodName} {ws ws' : List Cond} {fr lo mc ms : Nat} {av : List Value} {ad : Nat → Nat} {o : Nat} {fn : Nat → Int64} {σ σ' : St} {τ : Sc} {e k : Nat} {x : Int64} {cc : ByteArray} {maxL : Nat} {ret : Option FieldType} {hh : List (Nat × Nat × Nat × Nat)}
    (hy : plainName y.cls = true) (hw : ws = .codeWith y cc maxL ret hh :: ws') (hlen : (lg_sl av).length ≤ maxL)
    (body : ∀ (p : Program) (en : Env) (s : State) (m : MethodId) (below : List Frame) (meth : Method) (c : Code) (ls : Array Slot),
      p.tables.exec = Jvm.exec → c.code = cc → meth.sig.returnType = ret → c.maxLocals = maxL → (∀ w ∈ ws, w.before av.toArray s = true) → s.vm.findClass y.cls = some m.cls → meth.locks = false → c.exceptionTable.toList = tableOf hh → lv_has ls maxL (lv_args 0 av) → gP g (wO g o fn ++ wF g ad σ τ) s.heap → gE g s → xv s.heap s → va_S (fun q => q ∈ o :: fA ad) s.heap s.heap [] →
      W p l en ({ frames := fr, cells := mc, slots := ms, locals := lo }) s m av.toArray below meth c s.heap [] 0 0 (vx_MQ below (lwQ g ad o e k σ' x) noX av.toArray s mc ms (fun q => q ∈ o :: fA ad)) (F0 m 0 ls [])) :
    lwM l g y ws fr lo mc ms av ad o fn σ τ e k σ' x := by
  refine vx_ofWH (cc := cc) (maxL := maxL) (ret := ret) (hh := hh) hy hw ?_
  intro p en s m args below meth c s₁ B hml hv
  obtain ⟨rfl, hP, hE, hxv⟩ := hv
  have hl := lv_entry av hlen
  rw [lg_entry_eq]
  have hts := atoms_spec (ws := ws) B.pre
  exact body p en s m below meth c _ B.exec B.bytes B.returns hml hts (findClass_of_methodNamed B.named) B.notSynchronized (vx_table (x := y) B (hts _ (by rw [hw]; exact List.mem_cons_self))) hl hP hE hxv va_S.rf
section LWS
variable {p : Program} {l : Launch} {en : Env} {R : Room} {s : State} {m : MethodId} {args : Array Value} {below : List Frame} {meth : Method} {c : Code} {H : Heap} {locs : List Loc} {cells slots : Nat} {Q : State → Prop}
variable {g : GT} {ad : Nat → Nat} {o e k er mc ms pc MC MS : Nat} {σ σ' : St} {τ : Sc} {x : Int64} {fn : Nat → Int64} {rest st0 : List Value} {cc : ByteArray} {ls : Array Slot} {a : Array Value} {v : Value} {A0 : Nat → Prop} {as : List Nat} {B : Heap → Prop}
/-- what a thrown one leaves -/
def lwX (p : Program) (l : Launch) (en : Env) (R : Room) (s : State) (m : MethodId) (args : Array Value) (below : List Frame) (meth : Method) (c : Code) (H : Heap) (locs : List Loc) (cells slots : Nat) (Q : State → Prop) (A0 : Nat → Prop) (er : Nat) (F : JFrame) : Prop := ∀ (H1 : Heap) (locs1 : List Loc) (q : Addr) (ce : Cell), H.size ≤ H1.size → (∀ z : Nat, z < H.size → H1[z]? = H[z]?) → va_S A0 s.heap H1 locs1 → H1[q]? = some ce → ce.vm = .none → s.vm.findClass (exN er) = some ce.cls → vx_W p l en R s m args below meth c H1 locs1 cells slots Q F q
theorem lw_goW (hr : vx_Run p l en R s m args below meth c H locs cells slots mc ms (F0 m pc ls st0) rest (xwQ er (some v) B as a) (xX er) (fun q => q ∈ as)) (hS : va_S A0 s.heap H locs) (has : ∀ z ∈ as, A0 z)
    (kk : er = 0 → ∀ (H1 : Heap) (locs1 : List Loc), B H1 → H.size ≤ H1.size → (∀ q : Nat, q < H.size → ¬ q ∈ as → H1[q]? = H[q]?) → va_S A0 s.heap H1 locs1 → W p l en R s m args below meth c H1 locs1 (cells + mc) (slots + ms) Q (F0 m (pc + 3) ls (v :: rest)))
    (kx : er ≠ 0 → lwX p l en R s m args below meth c H locs (cells + mc) (slots + ms) Q A0 er (F0 m pc ls rest)) : W p l en R s m args below meth c H locs cells slots Q (F0 m pc ls st0) := by
  intro T hT X
  rcases hr T hT X with ⟨v', st₀, t, T', L, h0, X', hL, e1, e2, ⟨he, hv, hB, hF⟩, st⟩ | ⟨q, st₀, t, T', L, E, ce, h0, X', hL, e1, e2, ⟨he, hE, hF⟩, hce, hcv, hcl, st⟩
  · cases hv
    obtain ⟨k1, k2, k3⟩ := vx_keep (A1 := fun q => q ∈ as) (free := fun q => q ∈ as) h0 e1 hS (fun q _ h => has q h) (fun q h => has q h) hL hF
    obtain ⟨t2, a1, b1⟩ := kk he T'.heap (locs ++ L) (by rw [e1]; exact hB) k1 k2 k3 T' rfl X'
    exact ⟨t2, st t2 a1, b1⟩
  · subst hE
    obtain ⟨k1, k2, k3⟩ := vx_keep (A1 := fun _ => False) (free := fun q => q ∈ as) h0 e1 hS (fun q _ h => h.elim) (fun q h => has q h) hL hF
    obtain ⟨t2, a1, b1⟩ := kx he T'.heap (locs ++ L) q ce k1 (fun z hz => k2 z hz (fun h => h)) k3 (by rw [e1]; exact hce) hcv hcl T' rfl X'
    exact ⟨t2, st.trans a1, b1⟩
theorem lw_goR (hr : vx_Run p l en R s m args below meth c H locs cells slots mc ms (F0 m pc ls st0) rest (xrQ er (some v) a) (xX er) (fun _ => False)) (hS : va_S A0 s.heap H locs)
    (kk : er = 0 → W p l en R s m args below meth c H locs (cells + mc) (slots + ms) Q (F0 m (pc + 3) ls (v :: rest)))
    (kx : er ≠ 0 → lwX p l en R s m args below meth c H locs (cells + mc) (slots + ms) Q A0 er (F0 m pc ls rest)) : W p l en R s m args below meth c H locs cells slots Q (F0 m pc ls st0) := by
  intro T hT X
  rcases hr T hT X with ⟨v', st₀, t, T', L, h0, X', hL, e1, e2, ⟨he, hv, hh⟩, st⟩ | ⟨q, st₀, t, T', L, E, ce, h0, X', hL, e1, e2, ⟨he, hE, hF⟩, hce, hcv, hcl, st⟩
  · cases hv
    obtain ⟨t2, a1, b1⟩ := kk he T' (by rw [e1, hh, h0]) (Stand.forget X' (fun q h => (hL q h).elim))
    exact ⟨t2, st t2 a1, b1⟩
  · subst hE
    obtain ⟨k1, k2, k3⟩ := vx_keep (A1 := fun _ => False) (free := fun _ => False) h0 e1 hS (fun q _ h => h.elim) (fun q h => h.elim) hL hF
    obtain ⟨t2, a1, b1⟩ := kx he T'.heap (locs ++ L) q ce k1 (fun z hz => k2 z hz (fun h => h)) k3 (by rw [e1]; exact hce) hcv hcl T' rfl X'
    exact ⟨t2, st.trans a1, b1⟩
theorem gP_same {ws : va_W} {H1 : Heap} (hP : gP g ws H) (hk : ∀ z : Nat, z < H.size → H1[z]? = H[z]?) : gP g ws H1 := P_keep (as := []) hP (fun _ _ h => by cases h) (fun q hq _ => hk q hq)
theorem gP_l {w1 w2 : va_W} (hP : gP g (w1 ++ w2) H) : gP g w1 H := gP_mem.mpr (fun q hq => gP_mem.mp hP q (List.mem_append_left _ hq))
theorem gP_r {w1 w2 : va_W} (hP : gP g (w1 ++ w2) H) : gP g w2 H := gP_mem.mpr (fun q hq => gP_mem.mp hP q (List.mem_append_right _ hq))
theorem gP_app {w1 w2 : va_W} (h1 : gP g w1 H) (h2 : gP g w2 H) : gP g (w1 ++ w2) H := gP_mem.mpr (fun q hq => by
  rcases List.mem_append.mp hq with h | h
  · exact gP_mem.mp h1 q h
  · exact gP_mem.mp h2 q h)
theorem wOF_D (hN : FN ad 31) (ho : ¬ o ∈ fA ad) : va_D (fun q => q ∈ o :: fA ad) (wO g o fn ++ wF g ad σ τ) := by
  refine va_D.app ⟨fun i j a b hi hj _ => ?_, fun k q hk => ?_⟩ ((wF_D hN).weaken (fun k q _ h => List.mem_cons_of_mem _ h)) (fun i j a b hi hj hab => ?_)
  · have h1 : i < 1 := (List.getElem?_eq_some_iff.mp hi).1
    have h2 : j < 1 := (List.getElem?_eq_some_iff.mp hj).1
    omega
  · have h1 : k < 1 := (List.getElem?_eq_some_iff.mp hk).1
    have h2 : k = 0 := by omega
    subst h2
    cases hk
    exact List.mem_cons_self
  · have h1 : i < 1 := (List.getElem?_eq_some_iff.mp hi).1
    have h2 : i = 0 := by omega
    subst h2
    cases hi
    have h3 := (wF_D (g := g) (σ := σ) (τ := τ) hN).2 j b hj
    rw [← hab] at h3
    exact ho h3
/-- out[0] written; the rest stands -/
theorem lw_last (hx : p.tables.exec = Jvm.exec) (hb : c.code = cc) (hE : gE g s) (hN : FN ad 31) (ho : ¬ o ∈ fA ad) (hO : gP g (wO g o fn) H) (hF : FWq g ad σ' H) (hS : va_S (fun q => q ∈ o :: fA ad) s.heap H locs) (hdg : decode cc pc = .ok (.lastore, 1))
    (kk : ∀ (H1 : Heap) (locs1 : List Loc) (fn' : Nat → Int64), gP g (wO g o fn') H1 → fn' 0 = x → FWq g ad σ' H1 → va_S (fun q => q ∈ o :: fA ad) s.heap H1 locs1 → W p l en R s m args below meth c H1 locs1 cells slots Q (F0 m (pc + 1) ls rest)) : W p l en R s m args below meth c H locs cells slots Q (F0 m pc ls (.long x :: .int (nI 0) :: .ref o :: rest)) := by
  obtain ⟨τ', hP, hR, hT⟩ := hF
  refine va_last (D := g.1) (cl := vwCl) (tys := tysG g) (ws := wO g o fn ++ wF g ad σ' τ') hx hb hE.1 (gP_app hO hP) (wOF_D hN ho) hS 0 3 rfl rfl (vp_in_nI (by decide) (by decide)) hdg (fun H1 locs1 hP1 hD1 hS1 => ?_)
  have hP2 : gP g (wO g o (vp_updL fn 0 x) ++ wF g ad σ' τ') H1 := hP1
  exact kk H1 locs1 (vp_updL fn 0 x) (gP_l hP2) (by simp [vp_updL]) ⟨τ', gP_r hP2, hR, hT⟩ hS1
theorem lwo_ret {kk : Int32} {fn' : Nat → Int64} (hx : p.tables.exec = Jvm.exec) (hb : c.code = cc) (hr : meth.sig.returnType = some .int) (hlocks : meth.locks = false) (hS : va_S (fun q => q ∈ o :: fA ad) s.heap H locs) (hO : gP g (wO g o fn') H) (hfn : e = 0 → fn' 0 = x) (hF : FWq g ad σ' H) (hk : kk = nI k) (hc : cells ≤ MC) (hs : slots ≤ MS) (hdg : decode cc pc = .ok (.ireturn, 1)) : W p l en R s m args below meth c H locs cells slots (vx_MQ below (lwQ g ad o e k σ' x) noX args s MC MS (fun q => q ∈ o :: fA ad)) (F0 m pc ls [.int kk]) := by
  subst hk
  exact W.widen hc hs (vx_ret (W.iret hx hb hr (fun t ht _ => ⟨rfl, ⟨fn', by rw [ht]; exact hO, hfn⟩, by rw [ht]; exact hF, hS.F ht⟩) hS.2.2 hdg hlocks))
theorem lw_cast {er : Nat} (hE : gE g s) (h : er = 1 ∨ er = 2 ∨ er = 3) : (Cond.castable (exN er) (exN er)).before args s = true := by
  refine va_Nw.use rfl (hE.2.2.2.1 _ ?_)
  rcases h with rfl | rfl | rfl <;> decide +kernel
def bL (b : Bool) : Int64 := match b with
  | true => 1
  | false => 0
end LWS
