/-! The law's own methods: none of them throws. Their form, their calls and ends. -/
def xvA (ad : Nat → Nat) (H : Heap) (U : State) : Prop := vx_Zq Bundle.tN "UNASSIGNED_STACK" Bundle.steD (fun q => q ∈ fA ad ∨ H.size ≤ q) U H ∧ vx_Zq Bundle.tN "SUPPRESSED_SENTINEL" Bundle.listD (fun q => q ∈ fA ad ∨ H.size ≤ q) U H
theorem xvA_warm {ad : Nat → Nat} {H : Heap} {s U : State} (hW : s.WarmedH U.vm) (h : xvA ad H s) : xvA ad H U := ⟨vx_Zq.moved hW.alike h.1, vx_Zq.moved hW.alike h.2⟩
theorem xvA_xv {ad : Nat → Nat} {H : Heap} {U : State} (h : xvA ad H U) : xv H U := ⟨h.1.narrow (fun _ => Or.inr), h.2.narrow (fun _ => Or.inr)⟩
theorem xvA_kept {ad : Nat → Nat} {H H1 : Heap} {U : State} (h : xvA ad H U) (h1 : H.size ≤ H1.size) (hk : ∀ q : Nat, q < H.size → ¬ q ∈ fA ad → H1[q]? = H[q]?) : xvA ad H1 U :=
  ⟨(h.1.kept (fun a ha hn => hk a ha (fun z => hn (Or.inl z)))).narrow (fun q hq => hq.imp (fun z => z) (fun z => Nat.le_trans h1 z)), (h.2.kept (fun a ha hn => hk a ha (fun z => hn (Or.inl z)))).narrow (fun q hq => hq.imp (fun z => z) (fun z => Nat.le_trans h1 z))⟩
/-- what holds where the law, or a method of its own, stands -/
def cH (g : GT) (ad : Nat → Nat) (s : State) (A : Nat → Prop) (σ : St) (H : Heap) (locs : List Loc) : Prop := FWq g ad σ H ∧ xvA ad H s ∧ va_S A s.heap H locs
def yP (g : GT) (av : List Value) (ad : Nat → Nat) (σ : St) : Array Value → State → Prop := fun v U => v = av.toArray ∧ FWq g ad σ U.heap ∧ gE g U ∧ xvA ad U.heap U
theorem yP_blind {g : GT} {av : List Value} {ad : Nat → Nat} {σ : St} : FrameBlind (yP g av ad σ) := fun a U gf mk h => ⟨h.1, h.2.1, gE_warm (s := U) (State.WarmedH.refl U) h.2.2.1, xvA_warm (s := U) (State.WarmedH.refl U) h.2.2.2⟩
abbrev lcM (l : Launch) (g : GT) (y : MethodName) (ws : List Cond) (fr lo mc ms : Nat) (av : List Value) (ad : Nat → Nat) (σ : St) (v : Value) (B : Heap → Prop) : Prop := vx_Met l y ws ({ frames := fr, cells := mc, slots := ms, locals := lo }) (yP g av ad σ) (xwQ 0 (some v) B (fA ad)) (xX 0) mc ms (fun q => q ∈ fA ad)
theorem lc_of {l : Launch} {g : GT} {y : MethodName} {ws ws' : List Cond} {fr lo mc ms : Nat} {av : List Value} {ad : Nat → Nat} {σ : St} {v : Value} {BB : Heap → Prop} {cc : ByteArray} {maxL : Nat} {ret : Option FieldType}
    (hy : plainName y.cls = true) (hw : ws = .code y cc maxL ret :: ws') (hlen : (lg_sl av).length ≤ maxL)
    (body : ∀ (p : Program) (e : Env) (s : State) (m : MethodId) (below : List Frame) (meth : Method) (c : Code) (ls : Array Slot),
      p.tables.exec = Jvm.exec → c.code = cc → meth.sig.returnType = ret → c.maxLocals = maxL → (∀ w ∈ ws, w.before av.toArray s = true) → s.vm.findClass y.cls = some m.cls → meth.locks = false → lv_has ls maxL (lv_args 0 av) → gE g s → cH g ad s (fun q => q ∈ fA ad) σ s.heap [] →
      W p l e ({ frames := fr, cells := mc, slots := ms, locals := lo }) s m av.toArray below meth c s.heap [] 0 0 (vx_MQ below (xwQ 0 (some v) BB (fA ad)) (xX 0) av.toArray s mc ms (fun q => q ∈ fA ad)) (F0 m 0 ls [])) :
    lcM l g y ws fr lo mc ms av ad σ v BB := by
  refine vx_ofW (cc := cc) (maxL := maxL) (ret := ret) hy hw ?_
  intro p e s m args below meth c s₁ B hml ht hv
  obtain ⟨rfl, hF, hE, hxv⟩ := hv
  have hl := lv_entry av hlen
  rw [lg_entry_eq]
  exact body p e s m below meth c _ B.exec B.bytes B.returns hml (atoms_spec (ws := ws) B.pre) (findClass_of_methodNamed B.named) B.notSynchronized hl hE ⟨hF, hxv, va_S.rf⟩
section LCS
variable {p : Program} {l : Launch} {e : Env} {R : Room} {s : State} {m : MethodId} {args : Array Value} {below : List Frame} {meth : Method} {c : Code} {H : Heap} {locs : List Loc} {cells slots : Nat} {Q : State → Prop}
variable {g : GT} {y : MethodName} {wsY wsY' Ts : List Cond} {fr lo nL maxL n index pc mc ms er : Nat} {As rest st0 : List Value} {own : String} {cc bytes : ByteArray} {ret : Option FieldType} {ls : Array Slot} {ad : Nat → Nat} {σ σ' : St} {A : Nat → Prop} {v : Value} {a : Array Value} {B : Heap → Prop} {as : List Nat} {H0 : Heap}
/-- what may throw, called where it doesn't -/
theorem ok_W (hr : vx_Run p l e R s m args below meth c H locs cells slots mc ms (F0 m pc ls st0) rest (xwQ er (some v) B as a) (xX er) (fun q => q ∈ as)) (he : er = 0) (hS : va_S A H0 H locs) (has : ∀ z ∈ as, A z)
    (kk : ∀ (H1 : Heap) (locs1 : List Loc), B H1 → H.size ≤ H1.size → (∀ q : Nat, q < H.size → ¬ q ∈ as → H1[q]? = H[q]?) → va_S A H0 H1 locs1 → W p l e R s m args below meth c H1 locs1 (cells + mc) (slots + ms) Q (F0 m (pc + 3) ls (v :: rest))) : W p l e R s m args below meth c H locs cells slots Q (F0 m pc ls st0) := by
  intro T hT X
  rcases hr T hT X with ⟨v', st₀, t, T', L, h0, X', hL, e1, e2, ⟨-, hv, hB, hF⟩, st⟩ | ⟨q, st₀, t, T', L, E, ce, h0, X', hL, e1, e2, ⟨hne, hE, hF⟩, hce, hcv, hcl, st⟩
  · cases hv
    obtain ⟨k1, k2, k3⟩ := vx_keep (A1 := fun q => q ∈ as) (free := fun q => q ∈ as) h0 e1 hS (fun q _ h => has q h) (fun q h => has q h) hL hF
    obtain ⟨t2, a1, b1⟩ := kk T'.heap (locs ++ L) (by rw [e1]; exact hB) k1 k2 k3 T' rfl X'
    exact ⟨t2, st t2 a1, b1⟩
  · exact absurd he hne
theorem ok_R (hr : vx_Run p l e R s m args below meth c H locs cells slots mc ms (F0 m pc ls st0) rest (xrQ er (some v) a) (xX er) (fun _ => False)) (he : er = 0)
    (kk : W p l e R s m args below meth c H locs (cells + mc) (slots + ms) Q (F0 m (pc + 3) ls (v :: rest))) : W p l e R s m args below meth c H locs cells slots Q (F0 m pc ls st0) := by
  intro T hT X
  rcases hr T hT X with ⟨v', st₀, t, T', L, h0, X', hL, e1, e2, ⟨-, hv, hh⟩, st⟩ | ⟨q, st₀, t, T', L, E, ce, h0, X', hL, e1, e2, ⟨hne, hE, hF⟩, hce, hcv, hcl, st⟩
  · cases hv
    obtain ⟨t2, a1, b1⟩ := kk T' (by rw [e1, hh, h0]) (Stand.forget X' (fun q h => (hL q h).elim))
    exact ⟨t2, st t2 a1, b1⟩
  · exact absurd he hne
/-- a call of the class that writes -/
theorem k_W (S : CallFix p m c cc nL s args Ts own) (hM : ∀ τ : Sc, rowsOk σ τ 8 → tc τ ≤ 150 → xwM l g y wsY fr lo mc ms (.ref (ad 0) :: As) (wF g ad σ τ) er (some v) (fun H1 => FWq g ad σ' H1) (fA ad))
    (hG : GoodIn Ts (wsV own index RX4 y wsY)) (hw : wsY = .code y bytes maxL ret :: wsY') (hd : y.cls = RX4 ∧ pM y n) (hR : fr + 1 ≤ R.frames ∧ 8 + (maxL + 11) + lo ≤ R.locals) (hf : cells + mc ≤ R.cells ∧ slots + ms ≤ R.slots) (K : cH g ad s A σ H locs) (hA : ∀ z ∈ fA ad, A z) (hE : gE g s) (he : er = 0) (hn : As.length = n) (hl : ls.size = nL) (hst : st0 = As.reverse ++ .ref (ad 0) :: rest) (hW : (rest.map fun v => v.category).sum ≤ 8) (hdg : decode cc pc = .ok (.invokevirtual index, 3))
    (kk : ∀ (H1 : Heap) (locs1 : List Loc), cH g ad s A σ' H1 locs1 → W p l e R s m args below meth c H1 locs1 (cells + mc) (slots + ms) Q (F0 m (pc + 3) ls (v :: rest))) : W p l e R s m args below meth c H locs cells slots Q (F0 m pc ls st0) := by
  obtain ⟨⟨τ, hP, hRo, hT⟩, hx, hS⟩ := K
  have hr := xn_V (e := e) (R := R) (below := below) (meth := meth) (locs := locs) (cells := cells) (slots := slots) (rest := rest) (st0 := st0) (ci := 4) (T := TX4) (N := 8) S (hM τ hRo hT) hG hw hd hR hf hP hE (xvA_xv hx) rfl rfl hn hl hst hW hdg
  exact ok_W hr he hS hA (fun H1 locs1 hB h1 hk hS1 => kk H1 locs1 ⟨hB, xvA_kept hx h1 hk, hS1⟩)
/-- a call of the class that only asks -/
theorem k_R (S : CallFix p m c cc nL s args Ts own) (hM : ∀ τ : Sc, rowsOk σ τ 8 → tc τ ≤ 150 → xrM l g y wsY fr lo mc ms (.ref (ad 0) :: As) (wF g ad σ τ) er (some v))
    (hG : GoodIn Ts (wsV own index RX4 y wsY)) (hw : wsY = .code y bytes maxL ret :: wsY') (hd : y.cls = RX4 ∧ pM y n) (hR : fr + 1 ≤ R.frames ∧ 8 + (maxL + 11) + lo ≤ R.locals) (hf : cells + mc ≤ R.cells ∧ slots + ms ≤ R.slots) (K : cH g ad s A σ H locs) (hE : gE g s) (he : er = 0) (hn : As.length = n) (hl : ls.size = nL) (hst : st0 = As.reverse ++ .ref (ad 0) :: rest) (hW : (rest.map fun v => v.category).sum ≤ 8) (hdg : decode cc pc = .ok (.invokevirtual index, 3))
    (kk : W p l e R s m args below meth c H locs (cells + mc) (slots + ms) Q (F0 m (pc + 3) ls (v :: rest))) : W p l e R s m args below meth c H locs cells slots Q (F0 m pc ls st0) := by
  obtain ⟨⟨τ, hP, hRo, hT⟩, hx, hS⟩ := K
  have hr := xn_V (e := e) (R := R) (below := below) (meth := meth) (locs := locs) (cells := cells) (slots := slots) (rest := rest) (st0 := st0) (ci := 4) (T := TX4) (N := 8) S (hM τ hRo hT) hG hw hd hR hf hP hE (xvA_xv hx) rfl rfl hn hl hst hW hdg
  exact ok_R hr he kk
theorem k_D (S : CallFix p m c cc nL s args Ts own) (hM : ∀ τ : Sc, rdM l g y wsY fr lo (.ref (ad 0) :: As) (wF g ad σ τ) (some v))
    (hG : GoodIn Ts (wsV own index RX4 y wsY)) (hw : wsY = .code y bytes maxL ret :: wsY') (hd : y.cls = RX4 ∧ pM y n) (hR : fr + 1 ≤ R.frames ∧ 8 + (maxL + 11) + lo ≤ R.locals) (hf : cells ≤ R.cells ∧ slots ≤ R.slots) (K : cH g ad s A σ H locs) (hE : gE g s) (hn : As.length = n) (hl : ls.size = nL) (hst : st0 = As.reverse ++ .ref (ad 0) :: rest) (hW : (rest.map fun v => v.category).sum ≤ 8) (hdg : decode cc pc = .ok (.invokevirtual index, 3))
    (kk : W p l e R s m args below meth c H locs cells slots Q (F0 m (pc + 3) ls (v :: rest))) : W p l e R s m args below meth c H locs cells slots Q (F0 m pc ls st0) := by
  obtain ⟨⟨τ, hP, hRo, hT⟩, hx, hS⟩ := K
  exact rd_goS (rn_V (ci := 4) (T := TX4) (N := 8) S (hM τ) hG hw hd hR hf hP hE rfl rfl hn hl hst hW hdg) kk
/-- a method of the law's own, called -/
theorem k_L (S : CallFix p m c cc nL s args Ts own) (hM : lcM l g y wsY fr lo mc ms As ad σ v B)
    (hG : GoodIn Ts (va_wsS own index y wsY)) (hw : wsY = .code y bytes maxL ret :: wsY') (hd : pM y n) (hR : fr + 1 ≤ R.frames ∧ 8 + (maxL + 11) + lo ≤ R.locals) (hf : cells + mc ≤ R.cells ∧ slots + ms ≤ R.slots) (K : cH g ad s A σ H locs) (hA : ∀ z ∈ fA ad, A z) (hE : gE g s) (hn : As.length = n) (hl : ls.size = nL) (hst : st0 = As.reverse ++ rest) (hW : (rest.map fun v => v.category).sum ≤ 8) (hdg : decode cc pc = .ok (.invokestatic index, 3))
    (kk : ∀ (H1 : Heap) (locs1 : List Loc), B H1 → (∀ σ1 : St, FWq g ad σ1 H1 → cH g ad s A σ1 H1 locs1) → W p l e R s m args below meth c H1 locs1 (cells + mc) (slots + ms) Q (F0 m (pc + 3) ls (v :: rest))) : W p l e R s m args below meth c H locs cells slots Q (F0 m pc ls st0) := by
  obtain ⟨hF, hx, hS⟩ := K
  have hr := vx_runS (e := e) (R := R) (below := below) (meth := meth) (locs := locs) (cells := cells) (slots := slots) (H := H) (g := F0 m pc ls st0) (rest := rest) (As := As) S hM (va_cwS n S.2.2.2.2 hG hw rfl rfl hd hR) ⟨yP_blind, fun U hU hW1 => ⟨rfl, by rw [hU]; exact hF, gE_warm hW1 hE, by rw [hU]; exact xvA_warm hW1 hx⟩⟩ rfl hn hl hst (lv_room hW) hdg hf
  exact ok_W hr rfl hS hA (fun H1 locs1 hB h1 hk hS1 => kk H1 locs1 hB (fun σ1 hF1 => ⟨hF1, xvA_kept hx h1 hk, hS1⟩))
theorem lc_ret {MC MS : Nat} {BB : Heap → Prop} (hx : p.tables.exec = Jvm.exec) (hb : c.code = cc) (hr : meth.sig.returnType = some .boolean) (hlocks : meth.locks = false) (K : cH g ad s (fun q => q ∈ fA ad) σ H locs) (hB : FWq g ad σ H → BB H) (hc : cells ≤ MC) (hs : slots ≤ MS) (hdg : decode cc pc = .ok (.ireturn, 1)) : W p l e R s m args below meth c H locs cells slots (vx_MQ below (xwQ 0 (some (.int (bI true))) BB (fA ad)) (xX 0) args s MC MS (fun q => q ∈ fA ad)) (F0 m pc ls [.int (bI true)]) :=
  xw_retz hx hb hr hlocks K.2.2 (hB K.1) rfl rfl hc hs hdg
-- numbers
theorem n_div {x d : Nat} (hx : x < 2 ^ 31) (h0 : 0 < d) (hd : d < 2 ^ 31) (hexec : p.tables.exec = Jvm.exec) (hb : c.code = cc) (hdg : decode cc pc = .ok (.idiv, 1)) (k : W p l e R s m args below meth c H locs cells slots Q (F0 m (pc + 1) ls (.int (nI (x / d)) :: rest))) : W p l e R s m args below meth c H locs cells slots Q (F0 m pc ls (.int (nI d) :: .int (nI x) :: rest)) := by
  refine lv_idiv hexec hb hdg (nI_ne0 h0 hd) ?_
  rw [pk_div hx h0 hd]
  exact k
theorem n_rem {x d : Nat} (hx : x < 2 ^ 31) (h0 : 0 < d) (hd : d < 2 ^ 31) (hexec : p.tables.exec = Jvm.exec) (hb : c.code = cc) (hdg : decode cc pc = .ok (.irem, 1)) (k : W p l e R s m args below meth c H locs cells slots Q (F0 m (pc + 1) ls (.int (nI (x % d)) :: rest))) : W p l e R s m args below meth c H locs cells slots Q (F0 m pc ls (.int (nI d) :: .int (nI x) :: rest)) := by
  refine lv_irem hexec hb hdg (nI_ne0 h0 hd) ?_
  rw [pk_rem hx h0 hd]
  exact k
end LCS
