/-! Constructors: new cells come. The form of their contracts, their calls, and the steps that make cells. -/
def nwA (as : List Nat) (sz : Nat) : Nat → Prop := fun q => q ∈ as ∨ sz ≤ q
def nwP (g : GT) (av : List Value) (ws : va_W) (sz : Nat) (aq : Bool) : Array Value → State → Prop := fun v U => v = av.toArray ∧ gP g ws U.heap ∧ gE g U ∧ U.heap.size = sz ∧ (aq = true → va_AO RX2 U)
theorem nwP_blind {g : GT} {av : List Value} {ws : va_W} {sz : Nat} {aq : Bool} : FrameBlind (nwP g av ws sz aq) := fun a U gf mk h => ⟨h.1, h.2.1, gE_warm (s := U) (State.WarmedH.refl U) h.2.2.1, h.2.2.2.1, fun z => va_AO.moved (u := U) (Vm.Alike.refl U.vm) (h.2.2.2.2 z)⟩
def nwB (g : GT) (Wd : va_W → Prop) (A : Nat → Prop) (H : Heap) : Prop := ∃ w, Wd w ∧ gP g w H ∧ va_D A w
def nwQ (g : GT) (Wd : va_W → Prop) (A : Nat → Prop) : Array Value → State → Outcome → State → Prop := fun _ st o t => o = .returned none ∧ nwB g Wd A t.heap ∧ va_F A st t
abbrev nwM (l : Launch) (g : GT) (y : MethodName) (ws : List Cond) (fr lo mc ms b : Nat) (As : List Value) (W0 : va_W) (sz : Nat) (aq : Bool) (Wd : va_W → Prop) : Prop := Met l y ws ({ frames := fr, cells := mc, slots := ms, locals := lo }) (nwP g (.ref b :: As) W0 sz aq) (nwQ g Wd (nwA [b] sz)) mc ms (nwA [b] sz)
theorem nw_of {l : Launch} {g : GT} {y : MethodName} {ws ws' : List Cond} {fr lo mc ms b sz : Nat} {aq : Bool} {As : List Value} {c0 : va_E} {Wd : va_W → Prop} {cc : ByteArray} {maxL : Nat} {ret : Option FieldType}
    (hy : plainName y.cls = true) (hw : ws = .code y cc maxL ret :: ws') (hlen : (lg_sl (.ref b :: As)).length ≤ maxL) (hbs : b < sz)
    (body : ∀ (p : Program) (e : Env) (s : State) (m : MethodId) (below : List Frame) (meth : Method) (c : Code) (ls : Array Slot),
      p.tables.exec = Jvm.exec → c.code = cc → meth.sig.returnType = ret → c.maxLocals = maxL → (∀ w ∈ ws, w.before (.ref b :: As).toArray s = true) → s.vm.findClass y.cls = some m.cls → meth.locks = false → meth.name = y.name → lv_has ls maxL (lv_args 0 (.ref b :: As)) → gP g [(b, c0)] s.heap → gE g s → va_D (nwA [b] sz) [(b, c0)] → va_S (nwA [b] sz) s.heap s.heap [] → (∀ q : Nat, s.heap.size ≤ q → nwA [b] sz q) → (aq = true → va_AO RX2 s) →
      W p l e ({ frames := fr, cells := mc, slots := ms, locals := lo }) s m (.ref b :: As).toArray below meth c s.heap [] 0 0 (MQ below (nwQ g Wd (nwA [b] sz)) (.ref b :: As).toArray s mc ms (nwA [b] sz)) (F0 m 0 ls [])) :
    nwM l g y ws fr lo mc ms b As [(b, c0)] sz aq Wd := by
  refine Met.ofW (cc := cc) (maxL := maxL) (ret := ret) hy hw ?_
  intro p e s m args below meth c s₁ B hml hv
  obtain ⟨rfl, hP, hE, hsz, hao⟩ := hv
  have hl := lv_entry (.ref b :: As) hlen
  rw [lg_entry_eq]
  have hD : va_D (nwA [b] sz) [(b, c0)] := D_of (fun i j a hi hj => by
    have h1 := (List.getElem?_eq_some_iff.mp hi).1
    have h2 := (List.getElem?_eq_some_iff.mp hj).1
    simp [adr] at h1 h2
    omega) (fun x hx => Or.inl (by simpa [adr] using hx))
  exact body p e s m below meth c _ B.exec B.bytes B.returns hml (atoms_spec (ws := ws) B.pre) (findClass_of_methodNamed B.named) B.notSynchronized (name_of_methodNamed B.named B.method).1 hl hP hE hD va_S.rf (fun q hq => Or.inr (by omega)) hao
section NWS
variable {p : Program} {l : Launch} {e : Env} {R : Room} {s : State} {m : MethodId} {args : Array Value} {below : List Frame} {meth : Method} {c : Code} {H : Heap} {locs : List Loc} {cells slots : Nat} {Q : State → Prop}
variable {g : GT} {y : MethodName} {wsY wsY' Ts : List Cond} {fr lo b nL maxL n index pc ci N mc ms sz : Nat} {As rest st0 : List Value} {W0 : va_W} {own C : String} {cc bytes : ByteArray} {ret : Option FieldType} {T : u_T} {fs : List Value} {ls : Array Slot} {Wd : va_W → Prop} {A : Nat → Prop} {H0 : Heap} {aq : Bool}
theorem nw_retv {MC MS : Nat} {w : va_W} (hx : p.tables.exec = Jvm.exec) (hb : c.code = cc) (hr : meth.sig.returnType = none) (hlocks : meth.locks = false) (hS : va_S A s.heap H locs) (hP : gP g w H) (hD : va_D A w) (hW : Wd w) (hc : cells ≤ MC) (hs : slots ≤ MS) (hdg : decode cc pc = .ok (.return_, 1)) : W p l e R s m args below meth c H locs cells slots (MQ below (nwQ g Wd A) args s MC MS A) (F0 m pc ls []) :=
  W.widen hc hs (W.vret hx hb hr (fun t ht _ => ⟨rfl, by rw [ht]; exact ⟨w, hW, hP, hD⟩, hS.F ht⟩) hS.2.2 hdg hlocks)
theorem nw_join {ws w1 : va_W} {q : Nat} {c0 : va_E} {H1 : Heap} (hP : gP g (ws ++ [(q, c0)]) H) (hD : va_D A (ws ++ [(q, c0)])) (hA : ∀ x : Nat, H.size ≤ x → A x) (hP1 : gP g w1 H1) (hD1 : va_D (nwA [q] H.size) w1) (hk : ∀ x : Nat, x < H.size → ¬ nwA [q] H.size x → H1[x]? = H[x]?) : gP g (ws ++ w1) H1 ∧ va_D A (ws ++ w1) := by
  have hP0 := gP_mem.mp hP
  have hq : (ws ++ [(q, c0)])[ws.length]? = some (q, c0) := by simp
  have hap : ∀ (k : Nat) (x : Nat × va_E), ws[k]? = some x → x.1 < H.size ∧ ¬ nwA [q] H.size x.1 := by
    intro k x hx
    have h1 := (List.getElem?_eq_some_iff.mp hx).1
    have h2 : (ws ++ [(q, c0)])[k]? = some x := by rw [List.getElem?_append_left h1]; exact hx
    have h3 := (hP0 x (List.mem_of_getElem? h2)).lt
    refine ⟨h3, fun z => ?_⟩
    rcases z with z | z
    · have h4 : x.1 = q := by simpa using z
      have h5 := hD.1 k ws.length x (q, c0) h2 hq h4
      omega
    · omega
  constructor
  · rw [gP_mem]
    intro x hx
    rcases List.mem_append.mp hx with hx | hx
    · obtain ⟨k, hk1⟩ := List.getElem?_of_mem hx
      obtain ⟨h1, h2⟩ := hap k x hk1
      exact (hP0 x (List.mem_append_left _ hx)).kept (hk x.1 h1 h2)
    · exact gP_mem.mp hP1 x hx
  · refine va_D.app ⟨fun i j x z hi hj hxy => ?_, fun k x hk1 => ?_⟩ (hD1.weaken (fun k x _ hx => ?_)) (fun i j x z hi hj hxz => ?_)
    · exact hD.1 i j x z (by rw [List.getElem?_append_left (List.getElem?_eq_some_iff.mp hi).1]; exact hi) (by rw [List.getElem?_append_left (List.getElem?_eq_some_iff.mp hj).1]; exact hj) hxy
    · exact hD.2 k x (by rw [List.getElem?_append_left (List.getElem?_eq_some_iff.mp hk1).1]; exact hk1)
    · rcases hx with hx | hx
      · have h4 : x.1 = q := by simpa using hx
        rw [h4]
        exact hD.2 ws.length (q, c0) hq
      · exact hA _ hx
    · have h1 := hD1.2 j z hj
      rw [← hxz] at h1
      exact (hap i x hi).2 h1
/-- a constructor called on an object just made -/
theorem nw_go {ws : va_W} {q : Nat} {c0 : va_E} {a : Array Value} (hr : va_Run p l e R s m args below meth c H locs cells slots mc ms (F0 m pc ls st0) rest (nwQ g Wd (nwA [q] H.size) a) (nwA [q] H.size)) (hS : va_S A H0 H locs) (hA : ∀ x : Nat, H0.size ≤ x → A x) (hP : gP g (ws ++ [(q, c0)]) H) (hD : va_D A (ws ++ [(q, c0)]))
    (kk : ∀ (w1 : va_W) (H1 : Heap) (locs1 : List Loc), Wd w1 → gP g (ws ++ w1) H1 → va_D A (ws ++ w1) → va_S A H0 H1 locs1 → W p l e R s m args below meth c H1 locs1 (cells + mc) (slots + ms) Q (F0 m (pc + 3) ls rest)) : W p l e R s m args below meth c H locs cells slots Q (F0 m pc ls st0) := by
  intro T hT X
  obtain ⟨v, st₀, t, T', L, h0, X', hL, e1, e2, ⟨hv, ⟨w1, hW, hP1, hD1⟩, hF⟩, st⟩ := hr T hT X
  cases hv
  have hAq : A q := hD.2 ws.length (q, c0) (by simp)
  have hA1 : ∀ x : Nat, nwA [q] H.size x → A x := by
    intro x hx
    rcases hx with hx | hx
    · have h4 : x = q := by simpa using hx
      rw [h4]; exact hAq
    · exact hA x (Nat.le_trans hS.1 hx)
  obtain ⟨k1, k2, k3⟩ := vx_keep (A1 := nwA [q] H.size) (free := nwA [q] H.size) h0 e1 hS (fun x _ h => hA1 x h) (fun x h => hA1 x h) hL hF
  obtain ⟨j1, j2⟩ := nw_join hP hD (fun x hx => hA x (Nat.le_trans hS.1 hx)) hP1 hD1 (fun x hx hn => by rw [← e1]; exact k2 x hx hn)
  obtain ⟨t2, a1, b1⟩ := kk w1 T'.heap (locs ++ L) hW (by rw [e1]; exact j1) j2 k3 T' rfl X'
  exact ⟨t2, st t2 a1, b1⟩
theorem nn_I {Qc : Array Value → State → Outcome → State → Prop} {free : Addr → Prop} (S : CallFix p m c cc nL s args Ts own) (hM : Met l y wsY ({ frames := fr, cells := mc, slots := ms, locals := lo }) (nwP g (.ref b :: As) W0 sz aq) Qc mc ms free)
    (hG : GoodIn Ts wsY) (hw : wsY = .code y bytes maxL none :: wsY') (hlk : Cond.methodLink own index y ∈ Ts) (hini : Cond.initialized y.cls ∈ Ts) (hinst : Cond.instanceMethod y ∈ Ts) (hnm : y.name = "<init>") (hd : pM y n) (hR : fr + 1 ≤ R.frames ∧ 8 + (maxL + 11) + lo ≤ R.locals) (hf : cells + mc ≤ R.cells ∧ slots + ms ≤ R.slots)
    (hP : gP g W0 H) (hE : gE g s) (hsz : H.size = sz) (hao : aq = true → va_AO RX2 s) (hn : As.length = n) (hl : ls.size = nL) (hst : st0 = As.reverse ++ .ref b :: rest) (hW : (rest.map fun v => v.category).sum ≤ 8) (hdg : decode cc pc = .ok (.invokespecial index, 3)) :
    va_Run p l e R s m args below meth c H locs cells slots mc ms (F0 m pc ls st0) rest (Qc (Value.ref b :: As).toArray) free :=
  va_runI (g := F0 m pc ls st0) (rest := rest) (As := As) S hM (cwI n S.2.2.2.2 hG hw rfl rfl (S.2.2.2.2 _ hini) (S.2.2.2.2 _ hlk) (S.2.2.2.2 _ hinst) hnm hd hR) ⟨nwP_blind, fun U hU hW1 => ⟨rfl, by rw [hU]; exact hP, gE_warm hW1 hE, by rw [hU]; exact hsz, fun z => va_AO.moved hW1.alike (hao z)⟩⟩ rfl hn hl hst (lv_room hW) hdg hf
theorem nn_N {host : String} {Qc : Array Value → State → Outcome → State → Prop} {free : Addr → Prop} (S : CallFix p m c cc nL s args Ts own) (hM : Met l y wsY ({ frames := fr, cells := mc, slots := ms, locals := lo }) (nwP g (.ref b :: As) W0 sz aq) Qc mc ms free)
    (hG : GoodIn Ts wsY) (hw : wsY = .code y bytes maxL none :: wsY') (hnw : va_Nw (.methodLinkNest own index y host) s) (hini : Cond.initialized y.cls ∈ Ts) (hinst : Cond.instanceMethod y ∈ Ts) (hnm : y.name = "<init>") (hd : pM y n) (hR : fr + 1 ≤ R.frames ∧ 8 + (maxL + 11) + lo ≤ R.locals) (hf : cells + mc ≤ R.cells ∧ slots + ms ≤ R.slots)
    (hP : gP g W0 H) (hE : gE g s) (hsz : H.size = sz) (hao : aq = true → va_AO RX2 s) (hn : As.length = n) (hl : ls.size = nL) (hst : st0 = As.reverse ++ .ref b :: rest) (hW : (rest.map fun v => v.category).sum ≤ 8) (hdg : decode cc pc = .ok (.invokespecial index, 3)) :
    va_Run p l e R s m args below meth c H locs cells slots mc ms (F0 m pc ls st0) rest (Qc (Value.ref b :: As).toArray) free :=
  va_runIN (host := host) (g := F0 m pc ls st0) (rest := rest) (As := As) S hM ⟨va_cnB n S.2.2.2.2 hG hw rfl rfl hnw (S.2.2.2.2 _ hini) hd hR, hnm, S.2.2.2.2 _ hinst⟩ ⟨nwP_blind, fun U hU hW1 => ⟨rfl, by rw [hU]; exact hP, gE_warm hW1 hE, by rw [hU]; exact hsz, fun z => va_AO.moved hW1.alike (hao z)⟩⟩ rfl hn hl hst (lv_room hW) hdg hf
theorem obj_init {a : Nat} (hx : p.tables.exec = Jvm.exec) (hb : c.code = cc) (hml : c.maxLocals = maxL) (hown : s.vm.findClass own = some m.cls) (hts : ∀ w ∈ Ts, w.before args s = true) (h1 : Cond.methodLink own index objectInit ∈ Ts) (h2 : Cond.instanceMethod objectInit ∈ Ts) (h3 : Cond.code objectInit ⟨#[0xb1]⟩ 1 none ∈ Ts) (hl : ls.size = maxL) (hd : decode cc pc = .ok (.invokespecial index, 3)) (hf : 1 ≤ R.frames) (hlo : 20 ≤ R.locals) (hW : (rest.map fun v => v.category).sum ≤ 8) (kk : W p l e R s m args below meth c H locs cells slots Q (F0 m (pc + 3) ls rest)) : W p l e R s m args below meth c H locs cells slots Q (F0 m pc ls (.ref a :: rest)) := by
  have h9 : 2 * (F0 m pc ls (Value.ref a :: rest)).monitorRoom + (List.map (fun v => v.category) rest).sum + 12 ≤ R.locals := by
    have h8 : (F0 m pc ls (Value.ref a :: rest)).monitorRoom = 0 := rfl
    rw [h8]; omega
  refine W.objInit hx hb hown (hts _ h1) (hts _ h2) (hts _ h3) rfl (by rw [hml]; exact hl) rfl hd hf h9 ?_
  exact W.eq (g2 := F0 m (pc + 3) ls rest) rfl kk
theorem na_cls {ty : FieldType} {cA cB : ClassId} (h : va_RA s cA ty) (h2 : va_RA s cB ty) (hty : ty = .int ∨ ty = .boolean ∨ ty = .long ∨ ∃ C, ty = .object C) : cA = cB := by
  rcases hty with rfl | rfl | rfl | ⟨C, rfl⟩
  · exact Option.some.inj ((va_nm_int h).symm.trans (va_nm_int h2))
  · exact Option.some.inj ((va_nm_boolean h).symm.trans (va_nm_boolean h2))
  · exact Option.some.inj ((va_nm_long h).symm.trans (va_nm_long h2))
  · exact Option.some.inj ((va_nmO h rfl).symm.trans (va_nmO h2 rfl))
theorem na_z {nn : Nat} {ws : va_W} (hx : p.tables.exec = Jvm.exec) (hb : c.code = cc) (hts : ∀ w ∈ Ts, w.before args s = true) (harr : Cond.arrayClass .boolean ∈ Ts) (hE : gE g s) (hP : gP g ws H) (hD : va_D A ws) (hS : va_S A H0 H locs) (hA : ∀ q : Nat, H0.size ≤ q → A q) (hn : nn ≤ 1000) (hc : cells + 1 ≤ R.cells) (hs : slots + nn ≤ R.slots) (hdg : decode cc pc = .ok (.newarray .boolean, 2))
    (kk : ∀ (q : Nat) (H1 : Heap), gP g (ws ++ [(q, .inl (g.2 1, nn, .inl (zc (fun _ => false))))]) H1 → va_D A (ws ++ [(q, .inl (g.2 1, nn, .inl (zc (fun _ => false))))]) → va_S A H0 H1 locs → W p l e R s m args below meth c H1 locs (cells + 1) (slots + nn) Q (F0 m (pc + 2) ls (.ref q :: rest))) : W p l e R s m args below meth c H locs cells slots Q (F0 m pc ls (.int (nI nn) :: rest)) := by
  refine va_newa (atype := .boolean) hx hb (hts _ harr) (ty := .boolean) rfl hE.1 hP hD hS hA (a0 := (nn, .inl (zc (fun _ => false)))) (fun cA => rfl) (nI_pos (by omega)) (nI_clamp (by omega)) (by show nn * 1 ≤ _; omega) hc hs hdg (fun q cA H1 hK1 hP1 hD1 hS1 => ?_)
  have hcA : cA = g.2 1 := na_cls (hK1.2 3 _ rfl).2 (hE.1.2 1 _ rfl).2 (Or.inr (Or.inl rfl))
  subst hcA
  exact kk q H1 hP1 hD1 hS1
theorem na_i {nn : Nat} {f : Nat → Int32} {ws : va_W} (hx : p.tables.exec = Jvm.exec) (hb : c.code = cc) (hts : ∀ w ∈ Ts, w.before args s = true) (harr : Cond.arrayClass .int ∈ Ts) (hE : gE g s) (hP : gP g ws H) (hD : va_D A ws) (hS : va_S A H0 H locs) (hA : ∀ q : Nat, H0.size ≤ q → A q) (hn : nn ≤ 1000) (hf0 : (fun _ => (0 : Int32)) = f) (hc : cells + 1 ≤ R.cells) (hs : slots + nn ≤ R.slots) (hdg : decode cc pc = .ok (.newarray .int, 2))
    (kk : ∀ (q : Nat) (H1 : Heap), gP g (ws ++ [(q, .inl (g.2 0, nn, .inl f))]) H1 → va_D A (ws ++ [(q, .inl (g.2 0, nn, .inl f))]) → va_S A H0 H1 locs → W p l e R s m args below meth c H1 locs (cells + 1) (slots + nn) Q (F0 m (pc + 2) ls (.ref q :: rest))) : W p l e R s m args below meth c H locs cells slots Q (F0 m pc ls (.int (nI nn) :: rest)) := by
  subst hf0
  refine va_newa (atype := .int) hx hb (hts _ harr) (ty := .int) rfl hE.1 hP hD hS hA (a0 := (nn, .inl (fun _ => (0 : Int32)))) (fun cA => rfl) (nI_pos (by omega)) (nI_clamp (by omega)) (by show nn * 4 ≤ _; omega) hc hs hdg (fun q cA H1 hK1 hP1 hD1 hS1 => ?_)
  have hcA : cA = g.2 0 := na_cls (hK1.2 3 _ rfl).2 (hE.1.2 0 _ rfl).2 (Or.inl rfl)
  subst hcA
  exact kk q H1 hP1 hD1 hS1
theorem na_q {nn : Nat} {ws : va_W} (hx : p.tables.exec = Jvm.exec) (hb : c.code = cc) (hts : ∀ w ∈ Ts, w.before args s = true) (hown : s.vm.findClass own = some m.cls) (hlk : Cond.classLink own index RX2 ∈ Ts) (hao : va_AO RX2 s) (hE : gE g s) (hP : gP g ws H) (hD : va_D A ws) (hS : va_S A H0 H locs) (hA : ∀ q : Nat, H0.size ≤ q → A q) (hn : nn ≤ 1000) (hc : cells + 1 ≤ R.cells) (hs : slots + nn ≤ R.slots) (hdg : decode cc pc = .ok (.anewarray index, 3))
    (kk : ∀ (q : Nat) (H1 : Heap), gP g (ws ++ [(q, .inl (g.2 2, nn, .inr (.inr (.inr (.inr (fun _ => none))))))]) H1 → va_D A (ws ++ [(q, .inl (g.2 2, nn, .inr (.inr (.inr (.inr (fun _ => none))))))]) → va_S A H0 H1 locs → W p l e R s m args below meth c H1 locs (cells + 1) (slots + nn) Q (F0 m (pc + 3) ls (.ref q :: rest))) : W p l e R s m args below meth c H locs cells slots Q (F0 m pc ls (.int (nI nn) :: rest)) := by
  refine va_newq hx hb hown (hts _ hlk) hao hE.1 hP hD hS hA (nI_pos (by omega)) (nI_clamp (by omega)) (by omega) hc hs hdg (fun q cA H1 hK1 hP1 hD1 hS1 => ?_)
  have hcA : cA = g.2 2 := na_cls (hK1.2 3 _ rfl).2 (hE.1.2 2 _ rfl).2 (Or.inr (Or.inr (Or.inr ⟨_, rfl⟩)))
  subst hcA
  exact kk q H1 hP1 hD1 hS1
theorem na_o {ws : va_W} {ty : Nat → FieldType} (hx : p.tables.exec = Jvm.exec) (hb : c.code = cc) (hts : ∀ w ∈ Ts, w.before args s = true) (hin : ∀ w ∈ u_ws C T N, w ∈ Ts) (hty : ∀ k, k < N → parseFieldDescriptor (T k).2.2.1 = some (ty k)) (hown : s.vm.findClass own = some m.cls) (h1 : Cond.classLink own index C ∈ Ts) (h2 : Cond.instantiable C N ∈ Ts) (h3 : Cond.initialized C ∈ Ts) (hE : gE g s) (hP : gP g ws H) (hD : va_D A ws) (hS : va_S A H0 H locs) (hA : ∀ q : Nat, H0.size ≤ q → A q) (hc0 : vwCl[ci]? = some (C, T, N)) (hfs : ∀ j, j < N → defaultValue (ty j) = vp_V fs j) (hc : cells + 1 ≤ R.cells) (hs : slots + N ≤ R.slots) (hdg : decode cc pc = .ok (.new index, 3))
    (kk : ∀ (q : Nat) (H1 : Heap), gP g (ws ++ [(q, .inr (ci, fs))]) H1 → va_D A (ws ++ [(q, .inr (ci, fs))]) → va_S A H0 H1 locs → W p l e R s m args below meth c H1 locs (cells + 1) (slots + N) Q (F0 m (pc + 3) ls (.ref q :: rest))) : W p l e R s m args below meth c H locs cells slots Q (F0 m pc ls rest) :=
  va_new hx hb hts hin ty hty hown (hts _ h1) (hts _ h2) (hts _ h3) hE.1 hP hD hS hA hc0 hfs hc hs hdg kk
theorem pfF {C : String} {T : u_T} {N q0 ci k a : Nat} {ws ws' : va_W} {fs : List Value} {v : Value} {ty0 : Nat → FieldType} {ty : FieldType} (hx : p.tables.exec = Jvm.exec) (hb : c.code = cc) (hts : ∀ w ∈ Ts, w.before args s = true) (hin : ∀ w ∈ u_ws C T N, w ∈ Ts) (hown : s.vm.findClass own = some m.cls) (hE : gE g s) (hP : gP g ws H) (hD : va_D A ws) (hS : va_S A H0 H locs) (he : ws[q0]? = some (a, .inr (ci, fs))) (hc : vwCl[ci]? = some (C, T, N)) (hk : k < N)
    (hty : ∀ k, k < N → parseFieldDescriptor (T k).2.2.1 = some (ty0 k)) (hnm : ∀ a, a < N → ∀ b, b < N → a ≠ b → (T a).2.1 ≠ (T b).2.1) (hlk : Cond.fieldLink own index (T k).1 (T k).2.1 (T k).2.2.1 ∈ Ts) (hfin : (T k).2.2.2 = true) (hin2 : meth.name = "<init>") (hdecl : (T k).1 = own) (hd : parseFieldDescriptor (T k).2.2.1 = some ty) (hn : narrow ty v = v) (hfit : fits ty v = true) (hlen : k < fs.length) (hw : ws.set q0 (a, .inr (ci, fs.set k v)) = ws') (hdg : decode cc pc = .ok (.putfield index, 3))
    (kk : ∀ (H1 : Heap) (locs1 : List Loc), gP g ws' H1 → va_D A ws' → va_S A H0 H1 locs1 → W p l e R s m args below meth c H1 locs1 cells slots Q (F0 m (pc + 3) ls rest)) : W p l e R s m args below meth c H locs cells slots Q (F0 m pc ls (v :: .ref a :: rest)) := by
  refine va_putF hx hb hts hin ty0 hty hnm hown hE.1 hP hD hS q0 he hc k hk (hts _ hlk) (fun _ h9 => h9) hfin hin2 hdecl hd hn hfit hlen hdg (fun H1 locs1 hP1 hD1 hS1 => ?_)
  rw [hw] at hP1 hD1
  exact kk H1 locs1 hP1 hD1 hS1
/-- a row put into the array of rows -/
theorem pf_q {q0 qk i nn a v : Nat} {ws ws' : va_W} {vs : List Value} {f : Nat → Option Nat} (hx : p.tables.exec = Jvm.exec) (hb : c.code = cc) (hE : gE g s) (hP : gP g ws H) (hD : va_D A ws) (hS : va_S A H0 H locs) (ha : ws[q0]? = some (a, .inl (g.2 2, nn, .inr (.inr (.inr (.inr f)))))) (hv : ws[qk]? = some (v, .inr (2, vs))) (hi : i < nn) (hn : nn < 2 ^ 31) (hw : ws.set q0 (a, .inl (g.2 2, nn, .inr (.inr (.inr (.inr (va_up f i (some v))))))) = ws') (hdg : decode cc pc = .ok (.aastore, 1))
    (kk : ∀ (H1 : Heap) (locs1 : List Loc), gP g ws' H1 → va_D A ws' → va_S A H0 H1 locs1 → W p l e R s m args below meth c H1 locs1 cells slots Q (F0 m (pc + 1) ls rest)) : W p l e R s m args below meth c H locs cells slots Q (F0 m pc ls (.ref v :: .int (nI i) :: .ref a :: rest)) := by
  refine va_astq hx hb hE.1 hP hD hS q0 2 qk 2 (r := (RX2, TX2, 4)) ha rfl hv rfl (vp_in_nI hi hn) hdg (fun H1 locs1 hP1 hD1 hS1 => ?_)
  rw [nI_clamp (by omega), hw] at hP1 hD1
  exact kk H1 locs1 hP1 hD1 hS1
end NWS
