/-! The forms of contracts of this claim: readers, writers, and those that may throw; and how each is proved and called. -/
abbrev GT : Type := va_G × (Nat → ClassId)
abbrev tysG (g : GT) : List (ClassId × FieldType) := [(g.2 0, .int), (g.2 1, .boolean), (g.2 2, .object RX2)]
abbrev gP (g : GT) (ws : va_W) (H : Heap) : Prop := va_P g.1 vwCl ws H
def adr (ws : va_W) : List Nat := ws.map Prod.fst
def exI : String := "java/lang/IndexOutOfBoundsException"
def exA : String := "java/lang/IllegalArgumentException"
def exS : String := "java/lang/IllegalStateException"
def exU : List String := ["java/lang/RuntimeException", "java/lang/Exception"]
def exN (n : Nat) : String := if n = 1 then exI else if n = 2 then exA else exS
def icI : Nat := 141
def icA : Nat := 177
def icS : Nat := 67
def isCD : Cond → Bool
  | .castable _ _ => true
  | .declares _ => true
  | _ => false
def xtraW : List Cond := (vx_atS RX4 icI exI exU).filter (fun w => !goodWord w) ++ ((vx_atS RX4 icA exA exU).filter (fun w => !goodWord w) ++ (vx_atS RX4 icS exS exU).filter (fun w => !goodWord w))
theorem xtraW_cd : ∀ w ∈ xtraW, isCD w = true := by decide +kernel
def nestW : List Cond := [.methodLinkNest RX4 9 yX1_init RX4, .methodLinkNest RX4 24 yX0_init RX4, .methodLinkNest RX4 37 yX3_init RX4, .methodLinkNest RX1 15 yX4_isPerson RX4]
def gStrs : List (Nat × String) := [(65, "the person follows the author already"), (70, "one of both has blocked the other one"), (83, "the person does not follow the author"), (105, "the entry or its origin is deleted"), (110, "the author of the origin has blocked the author"), (112, "the entry is deleted"), (139, "the row has not so many"), (171, "no such person or author"), (175, "both are the same"), (178, "out of range"), (182, "no such entry"), (184, "all entries were made")]
def ncP : List (String × String) := []
/-- what the tables say all along -/
def gE (g : GT) (U : State) : Prop := va_K g.1 vwCl (tysG g) U ∧ (∀ w ∈ nestW, va_Nw w U) ∧ (∀ q ∈ gStrs, ∃ a, vk_R RX4 q.1 q.2 a U) ∧ (∀ w ∈ xtraW, va_Nw w U) ∧ ∀ q ∈ ncP, va_Nc q.1 q.2 U
theorem gE_warm {g : GT} {s U : State} (hW : s.WarmedH U.vm) (h : gE g s) : gE g U := by
  obtain ⟨h1, h2, h3, h4, h5⟩ := h
  refine ⟨va_K.moved hW.alike h1, fun w hw => ?_, fun q hq => ?_, fun w hw => ?_, fun q hq => va_Nc.moved hW.alike (h5 q hq)⟩
  · have h6 := h2 w hw
    simp only [nestW, List.mem_cons, List.not_mem_nil, or_false] at hw
    rcases hw with rfl | rfl | rfl | rfl <;> exact va_Nw.warmM hW h6
  · obtain ⟨a, ha⟩ := h3 q hq
    exact ⟨a, vk_R.warm hW ha⟩
  · have h6 := h4 w hw
    have h7 := xtraW_cd w hw
    cases w <;> first | exact va_Nw.warmC hW h6 | exact va_Nw.warmD hW h6 | (simp [isCD] at h7)
/-- the two statics that a throw reads lie in the heap -/
def xv (H : Heap) (U : State) : Prop := vx_Zq Bundle.tN "UNASSIGNED_STACK" Bundle.steD (fun q => H.size ≤ q) U H ∧ vx_Zq Bundle.tN "SUPPRESSED_SENTINEL" Bundle.listD (fun q => H.size ≤ q) U H
theorem xv_warm {H : Heap} {s U : State} (hW : s.WarmedH U.vm) (h : xv H s) : xv H U := ⟨vx_Zq.moved hW.alike h.1, vx_Zq.moved hW.alike h.2⟩
-- values
def bI (b : Bool) : Int32 := match b with
  | true => 1
  | false => 0
def fI (n : Nat) : Int32 := nI n - 1
def zc (F : Nat → Bool) : Nat → Int32 := fun i => bI (F i)
def nc (a : Nat → Nat) : Nat → Int32 := fun i => nI (a i)
def fc (a : Nat → Nat) : Nat → Int32 := fun i => fI (a i)
theorem bI_0 {b : Bool} : bI b = 0 ↔ b = false := by cases b <;> simp [bI]
theorem bI_narrow (b : Bool) : narrow .boolean (.int (bI b)) = .int (bI b) := by cases b <;> rfl
theorem bI_nar (b : Bool) : vp_nar .boolean (bI b) = bI b := by cases b <;> rfl
theorem zc_up (F : Nat → Bool) (k : Nat) (b : Bool) : upd (zc F) k (bI b) = zc (va_up F k b) := by
  funext j
  by_cases h : j = k <;> simp [upd, zc, va_up, h]
theorem nc_up (F : Nat → Nat) (k : Nat) (b : Nat) : upd (nc F) k (nI b) = nc (va_up F k b) := by
  funext j
  by_cases h : j = k <;> simp [upd, nc, va_up, h]
theorem fc_up (F : Nat → Nat) (k : Nat) (b : Nat) : upd (fc F) k (fI b) = fc (va_up F k b) := by
  funext j
  by_cases h : j = k <;> simp [upd, fc, va_up, h]
theorem fI_succ (n : Nat) : fI (n + 1) = nI n := nI_pred n
theorem fI_toInt {n : Nat} (h : n < 2 ^ 31) : (fI n).toInt = (n : Int) - 1 := by
  cases n with
  | zero => decide
  | succ k => rw [fI_succ, nI_toInt (by omega)]; omega
theorem fI_le {a b : Nat} (ha : a < 2 ^ 31) (hb : b < 2 ^ 31) : fI a ≤ fI b ↔ a ≤ b := by
  rw [Int32.le_iff_toInt_le, fI_toInt ha, fI_toInt hb]; omega
theorem fI_lt {a b : Nat} (ha : a < 2 ^ 31) (hb : b < 2 ^ 31) : fI a < fI b ↔ a < b := by
  rw [Int32.lt_iff_toInt_lt, fI_toInt ha, fI_toInt hb]; omega
theorem nI_fI {n : Nat} : nI n = fI (n + 1) := (fI_succ n).symm
theorem nI_lt_iff {a b : Nat} (ha : a < 2 ^ 31) (hb : b < 2 ^ 31) : nI a < nI b ↔ a < b := nI_ltI ha hb
def isP (x : Int32) : Bool := decide (0 ≤ x.toInt) && decide (x.toInt < 8)
def isB (x : Int32) (n : Nat) : Bool := decide (0 ≤ x.toInt) && decide (x.toInt < n)
def ix (x : Int32) : Nat := x.toInt.toNat
theorem isB_of {x : Int32} {n : Nat} (h : isB x n = true) (hn : n < 2 ^ 31) : ∃ j, j < n ∧ x = nI j ∧ ix x = j := by
  simp only [isB, Bool.and_eq_true, decide_eq_true_eq] at h
  refine ⟨x.toInt.toNat, by omega, ?_, rfl⟩
  apply Int32.toInt_inj.mp
  rw [nI_toInt (by omega)]
  omega
theorem isP_isB (x : Int32) : isP x = isB x 8 := rfl
theorem isP_of {x : Int32} (h : isP x = true) : ∃ j, j < 8 ∧ x = nI j ∧ ix x = j := isB_of (n := 8) h (by decide)
theorem isB_nI {j n : Nat} (hj : j < 2 ^ 31) : isB (nI j) n = decide (j < n) := by
  simp only [isB, nI_toInt hj]
  by_cases h : j < n
  · simp [h]
  · simp [h]
theorem isP_nI {j : Nat} (h : j < 8) : isP (nI j) = true := by
  rw [isP_isB, isB_nI (by omega)]
  exact decide_eq_true h
theorem ix_nI {j : Nat} (h : j < 2 ^ 31) : ix (nI j) = j := by
  simp [ix, nI_toInt h]
-- worlds
theorem gP_mem {g : GT} {ws : va_W} {H : Heap} : gP g ws H ↔ ∀ q ∈ ws, va_at g.1 vwCl q H := by
  constructor
  · intro h q hq
    obtain ⟨i, hi⟩ := List.getElem?_of_mem hq
    exact h i q hi
  · intro h k q hk
    exact h q (List.mem_of_getElem? hk)
theorem adr_mem {ws : va_W} {q : Nat × va_E} (h : q ∈ ws) : q.1 ∈ adr ws := List.mem_map.mpr ⟨q, h, rfl⟩
theorem P_keep {g : GT} {ws : va_W} {H H1 : Heap} {as : List Nat} (hP : gP g ws H) (hdis : ∀ x ∈ adr ws, x ∉ as) (hk : ∀ q : Nat, q < H.size → ¬ q ∈ as → H1[q]? = H[q]?) : gP g ws H1 := by
  rw [gP_mem] at hP ⊢
  intro q hq
  have h := hP q hq
  exact h.kept (hk q.1 h.lt (hdis _ (adr_mem hq)))
def Nd (l : List Nat) : Prop := ∀ (i j a : Nat), l[i]? = some a → l[j]? = some a → i = j
theorem adr_get {ws : va_W} {i : Nat} {q : Nat × va_E} (h : ws[i]? = some q) : (adr ws)[i]? = some q.1 := by simp [adr, h]
theorem P_upd {g : GT} {ws ws' wc w1 : va_W} {H H1 : Heap} (i j : Nat) (hP : gP g ws H) (hN : Nd (adr ws)) (hw : ws = ws.take i ++ (wc ++ ws.drop j)) (hw' : ws' = ws.take i ++ (w1 ++ ws.drop j)) (hk : ∀ q : Nat, q < H.size → ¬ q ∈ adr wc → H1[q]? = H[q]?) (hP1 : gP g w1 H1) : gP g ws' H1 := by
  generalize ha : ws.take i = a at hw hw'
  generalize hb : ws.drop j = b at hw hw'
  have hc : ∀ x ∈ wc, ∃ j0 : Nat, j0 < wc.length ∧ ws[a.length + j0]? = some x := by
    intro x hx
    obtain ⟨j0, hj0⟩ := List.getElem?_of_mem hx
    have hl2 := (List.getElem?_eq_some_iff.mp hj0).1
    refine ⟨j0, hl2, ?_⟩
    rw [hw, List.getElem?_append_right (by omega), Nat.add_sub_cancel_left, List.getElem?_append_left hl2]
    exact hj0
  rw [gP_mem] at hP hP1 ⊢
  subst hw'
  intro q hq
  rcases List.mem_append.mp hq with hq | hq
  · obtain ⟨i0, hi0⟩ := List.getElem?_of_mem hq
    have hl := (List.getElem?_eq_some_iff.mp hi0).1
    have hw0 : ws[i0]? = some q := by rw [hw, List.getElem?_append_left hl]; exact hi0
    have h := hP q (List.mem_of_getElem? hw0)
    refine h.kept (hk q.1 h.lt (fun hm => ?_))
    obtain ⟨x, hx, hxe⟩ := List.mem_map.mp hm
    obtain ⟨j0, hl2, hw1⟩ := hc x hx
    have h9 := hN i0 (a.length + j0) q.1 (adr_get hw0) (by rw [← hxe]; exact adr_get hw1)
    omega
  · rcases List.mem_append.mp hq with hq | hq
    · exact hP1 q hq
    · obtain ⟨i0, hi0⟩ := List.getElem?_of_mem hq
      have hw0 : ws[a.length + (wc.length + i0)]? = some q := by
        rw [hw, List.getElem?_append_right (by omega), Nat.add_sub_cancel_left, List.getElem?_append_right (by omega), Nat.add_sub_cancel_left]
        exact hi0
      have h := hP q (List.mem_of_getElem? hw0)
      refine h.kept (hk q.1 h.lt (fun hm => ?_))
      obtain ⟨x, hx, hxe⟩ := List.mem_map.mp hm
      obtain ⟨j0, hl2, hw1⟩ := hc x hx
      have h9 := hN (a.length + (wc.length + i0)) (a.length + j0) q.1 (adr_get hw0) (by rw [← hxe]; exact adr_get hw1)
      omega
theorem D_of {ws : va_W} {A : Nat → Prop} (hN : Nd (adr ws)) (hA : ∀ x ∈ adr ws, A x) : va_D A ws := by
  refine ⟨fun i j x y hi hj hxy => ?_, fun k q hk => hA _ (adr_mem (List.mem_of_getElem? hk))⟩
  exact hN i j x.1 (adr_get hi) (by rw [hxy]; exact adr_get hj)
def FN (ad : Nat → Nat) (n : Nat) : Prop := ∀ i j : Nat, i < n → j < n → ad i = ad j → i = j
theorem nd_of {ad : Nat → Nat} {n : Nat} (hN : FN ad n) (is : List Nat) (h : va_nd is = true) (hlt : ∀ i ∈ is, i < n) : Nd (is.map ad) := by
  intro i j a hi hj
  rw [List.getElem?_map] at hi hj
  obtain ⟨x, hx, hxa⟩ := Option.map_eq_some_iff.mp hi
  obtain ⟨y, hy, hya⟩ := Option.map_eq_some_iff.mp hj
  have hxy : x = y := hN x y (hlt x (List.mem_of_getElem? hx)) (hlt y (List.mem_of_getElem? hy)) (hxa.trans hya.symm)
  subst hxy
  exact va_nd_inj is h i j x hx hy
/-- the contracts -/
def rdP (g : GT) (av : List Value) (ws : va_W) : Array Value → State → Prop := fun v U => v = av.toArray ∧ gP g ws U.heap ∧ gE g U
def xP (g : GT) (av : List Value) (ws : va_W) : Array Value → State → Prop := fun v U => v = av.toArray ∧ gP g ws U.heap ∧ gE g U ∧ xv U.heap U
theorem rdP_blind {g : GT} {av : List Value} {ws : va_W} : FrameBlind (rdP g av ws) := fun a U gf mk h => ⟨h.1, h.2.1, gE_warm (s := U) (State.WarmedH.refl U) h.2.2⟩
theorem xP_blind {g : GT} {av : List Value} {ws : va_W} : FrameBlind (xP g av ws) := fun a U gf mk h => ⟨h.1, h.2.1, gE_warm (s := U) (State.WarmedH.refl U) h.2.2.1, xv_warm (s := U) (State.WarmedH.refl U) h.2.2.2⟩
def rdQ (v : Option Value) : Array Value → State → Outcome → State → Prop := fun _ st o t => o = .returned v ∧ t.heap = st.heap
def wrQ (v : Option Value) (B : Heap → Prop) (as : List Nat) : Array Value → State → Outcome → State → Prop := fun _ st o t => o = .returned v ∧ B t.heap ∧ va_F (fun q => q ∈ as) st t
def xrQ (er : Nat) (v : Option Value) : Array Value → State → Outcome → State → Prop := fun _ st o t => er = 0 ∧ o = .returned v ∧ t.heap = st.heap
def xwQ (er : Nat) (v : Option Value) (B : Heap → Prop) (as : List Nat) : Array Value → State → Outcome → State → Prop := fun _ st o t => er = 0 ∧ o = .returned v ∧ B t.heap ∧ va_F (fun q => q ∈ as) st t
def xX (er : Nat) : String → State → State → Prop := fun E st t => er ≠ 0 ∧ E = exN er ∧ va_F (fun _ => False) st t
abbrev rdM (l : Launch) (g : GT) (y : MethodName) (ws : List Cond) (fr lo : Nat) (av : List Value) (W0 : va_W) (v : Option Value) : Prop := Met l y ws ({ frames := fr, cells := 0, slots := 0, locals := lo }) (rdP g av W0) (rdQ v) 0 0 (fun _ => False)
abbrev wrM (l : Launch) (g : GT) (y : MethodName) (ws : List Cond) (fr lo : Nat) (av : List Value) (W0 : va_W) (v : Option Value) (B : Heap → Prop) (as : List Nat) : Prop := Met l y ws ({ frames := fr, cells := 0, slots := 0, locals := lo }) (rdP g av W0) (wrQ v B as) 0 0 (fun q => q ∈ as)
abbrev xrM (l : Launch) (g : GT) (y : MethodName) (ws : List Cond) (fr lo mc ms : Nat) (av : List Value) (W0 : va_W) (er : Nat) (v : Option Value) : Prop := vx_Met l y ws ({ frames := fr, cells := mc, slots := ms, locals := lo }) (xP g av W0) (xrQ er v) (xX er) mc ms (fun _ => False)
abbrev xwM (l : Launch) (g : GT) (y : MethodName) (ws : List Cond) (fr lo mc ms : Nat) (av : List Value) (W0 : va_W) (er : Nat) (v : Option Value) (B : Heap → Prop) (as : List Nat) : Prop := vx_Met l y ws ({ frames := fr, cells := mc, slots := ms, locals := lo }) (xP g av W0) (xwQ er v B as) (xX er) mc ms (fun q => q ∈ as)
theorem rd_of {l : Launch} {g : GT} {y : MethodName} {ws ws' : List Cond} {fr lo : Nat} {av : List Value} {W0 : va_W} {v : Option Value} {cc : ByteArray} {maxL : Nat} {ret : Option FieldType}
    (hy : plainName y.cls = true) (hw : ws = .code y cc maxL ret :: ws') (hlen : (lg_sl av).length ≤ maxL)
    (body : ∀ (p : Program) (e : Env) (s : State) (m : MethodId) (below : List Frame) (meth : Method) (c : Code) (ls : Array Slot),
      p.tables.exec = Jvm.exec → c.code = cc → meth.sig.returnType = ret → c.maxLocals = maxL → (∀ w ∈ ws, w.before av.toArray s = true) → s.vm.findClass y.cls = some m.cls → meth.locks = false → lv_has ls maxL (lv_args 0 av) → gP g W0 s.heap → gE g s →
      W p l e ({ frames := fr, cells := 0, slots := 0, locals := lo }) s m av.toArray below meth c s.heap [] 0 0 (MQ below (rdQ v) av.toArray s 0 0 (fun _ => False)) (F0 m 0 ls [])) :
    rdM l g y ws fr lo av W0 v := by
  refine Met.ofW (cc := cc) (maxL := maxL) (ret := ret) hy hw ?_
  intro p e s m args below meth c s₁ B hml hv
  obtain ⟨rfl, hP, hE⟩ := hv
  have hl := lv_entry av hlen
  rw [lg_entry_eq]
  exact body p e s m below meth c _ B.exec B.bytes B.returns hml (atoms_spec (ws := ws) B.pre) (findClass_of_methodNamed B.named) B.notSynchronized hl hP hE
theorem wr_of {l : Launch} {g : GT} {y : MethodName} {ws ws' : List Cond} {fr lo : Nat} {av : List Value} {W0 : va_W} {v : Option Value} {BB : Heap → Prop} {as : List Nat} {cc : ByteArray} {maxL : Nat} {ret : Option FieldType}
    (hy : plainName y.cls = true) (hw : ws = .code y cc maxL ret :: ws') (hlen : (lg_sl av).length ≤ maxL)
    (body : ∀ (p : Program) (e : Env) (s : State) (m : MethodId) (below : List Frame) (meth : Method) (c : Code) (ls : Array Slot),
      p.tables.exec = Jvm.exec → c.code = cc → meth.sig.returnType = ret → c.maxLocals = maxL → (∀ w ∈ ws, w.before av.toArray s = true) → s.vm.findClass y.cls = some m.cls → meth.locks = false → lv_has ls maxL (lv_args 0 av) → gP g W0 s.heap → gE g s → va_S (fun q => q ∈ as) s.heap s.heap [] →
      W p l e ({ frames := fr, cells := 0, slots := 0, locals := lo }) s m av.toArray below meth c s.heap [] 0 0 (MQ below (wrQ v BB as) av.toArray s 0 0 (fun q => q ∈ as)) (F0 m 0 ls [])) :
    wrM l g y ws fr lo av W0 v BB as := by
  refine Met.ofW (cc := cc) (maxL := maxL) (ret := ret) hy hw ?_
  intro p e s m args below meth c s₁ B hml hv
  obtain ⟨rfl, hP, hE⟩ := hv
  have hl := lv_entry av hlen
  rw [lg_entry_eq]
  exact body p e s m below meth c _ B.exec B.bytes B.returns hml (atoms_spec (ws := ws) B.pre) (findClass_of_methodNamed B.named) B.notSynchronized hl hP hE va_S.rf
theorem xr_of {l : Launch} {g : GT} {y : MethodName} {ws ws' : List Cond} {fr lo mc ms : Nat} {av : List Value} {W0 : va_W} {er : Nat} {v : Option Value} {cc : ByteArray} {maxL : Nat} {ret : Option FieldType}
    (hy : plainName y.cls = true) (hw : ws = .code y cc maxL ret :: ws') (hlen : (lg_sl av).length ≤ maxL)
    (body : ∀ (p : Program) (e : Env) (s : State) (m : MethodId) (below : List Frame) (meth : Method) (c : Code) (ls : Array Slot),
      p.tables.exec = Jvm.exec → c.code = cc → meth.sig.returnType = ret → c.maxLocals = maxL → (∀ w ∈ ws, w.before av.toArray s = true) → s.vm.findClass y.cls = some m.cls → meth.locks = false → lv_has ls maxL (lv_args 0 av) → gP g W0 s.heap → gE g s → xv s.heap s → (∀ x ∈ c.exceptionTable.toList, False) →
      W p l e ({ frames := fr, cells := mc, slots := ms, locals := lo }) s m av.toArray below meth c s.heap [] 0 0 (vx_MQ below (xrQ er v) (xX er) av.toArray s mc ms (fun _ => False)) (F0 m 0 ls [])) :
    xrM l g y ws fr lo mc ms av W0 er v := by
  refine vx_ofW (cc := cc) (maxL := maxL) (ret := ret) hy hw ?_
  intro p e s m args below meth c s₁ B hml ht hv
  obtain ⟨rfl, hP, hE, hxv⟩ := hv
  have hl := lv_entry av hlen
  rw [lg_entry_eq]
  exact body p e s m below meth c _ B.exec B.bytes B.returns hml (atoms_spec (ws := ws) B.pre) (findClass_of_methodNamed B.named) B.notSynchronized hl hP hE hxv ht
theorem xw_of {l : Launch} {g : GT} {y : MethodName} {ws ws' : List Cond} {fr lo mc ms : Nat} {av : List Value} {W0 : va_W} {er : Nat} {v : Option Value} {BB : Heap → Prop} {as : List Nat} {cc : ByteArray} {maxL : Nat} {ret : Option FieldType}
    (hy : plainName y.cls = true) (hw : ws = .code y cc maxL ret :: ws') (hlen : (lg_sl av).length ≤ maxL)
    (body : ∀ (p : Program) (e : Env) (s : State) (m : MethodId) (below : List Frame) (meth : Method) (c : Code) (ls : Array Slot),
      p.tables.exec = Jvm.exec → c.code = cc → meth.sig.returnType = ret → c.maxLocals = maxL → (∀ w ∈ ws, w.before av.toArray s = true) → s.vm.findClass y.cls = some m.cls → meth.locks = false → lv_has ls maxL (lv_args 0 av) → gP g W0 s.heap → gE g s → xv s.heap s → (∀ x ∈ c.exceptionTable.toList, False) → va_S (fun q => q ∈ as) s.heap s.heap [] →
      W p l e ({ frames := fr, cells := mc, slots := ms, locals := lo }) s m av.toArray below meth c s.heap [] 0 0 (vx_MQ below (xwQ er v BB as) (xX er) av.toArray s mc ms (fun q => q ∈ as)) (F0 m 0 ls [])) :
    xwM l g y ws fr lo mc ms av W0 er v BB as := by
  refine vx_ofW (cc := cc) (maxL := maxL) (ret := ret) hy hw ?_
  intro p e s m args below meth c s₁ B hml ht hv
  obtain ⟨rfl, hP, hE, hxv⟩ := hv
  have hl := lv_entry av hlen
  rw [lg_entry_eq]
  exact body p e s m below meth c _ B.exec B.bytes B.returns hml (atoms_spec (ws := ws) B.pre) (findClass_of_methodNamed B.named) B.notSynchronized hl hP hE hxv ht va_S.rf
abbrev pM (y : MethodName) (n : Nat) : Prop := y.cls ≠ "java/lang/invoke/MethodHandle" ∧ y.cls ≠ "java/lang/invoke/VarHandle" ∧ (parseMethodDescriptor y.desc).map (fun d => d.parameters.length) = some n
section RUNS
variable {p : Program} {l : Launch} {e : Env} {R : Room} {s : State} {m : MethodId} {args : Array Value} {below : List Frame} {meth : Method} {c : Code} {H : Heap} {locs : List Loc} {cells slots : Nat} {Q : State → Prop}
variable {g : GT} {y : MethodName} {wsY wsY' Ts : List Cond} {fr lo b nL maxL n index pc ci N mc ms : Nat} {As rest st0 : List Value} {W0 : va_W} {own C : String} {cc bytes : ByteArray} {ret : Option FieldType} {T : u_T} {fs : List Value} {ls : Array Slot}
theorem rn_V {Qc : Array Value → State → Outcome → State → Prop} {free : Addr → Prop} (S : CallFix p m c cc nL s args Ts own) (hM : Met l y wsY ({ frames := fr, cells := 0, slots := 0, locals := lo }) (rdP g (.ref b :: As) W0) Qc 0 0 free)
    (hG : GoodIn Ts (wsV own index C y wsY)) (hw : wsY = .code y bytes maxL ret :: wsY') (hd : y.cls = C ∧ pM y n) (hR : fr + 1 ≤ R.frames ∧ 8 + (maxL + 11) + lo ≤ R.locals) (hf : cells ≤ R.cells ∧ slots ≤ R.slots)
    (hP : gP g W0 H) (hE : gE g s) (h0 : W0[0]? = some (b, .inr (ci, fs))) (hc : vwCl[ci]? = some (C, T, N)) (hn : As.length = n) (hl : ls.size = nL) (hst : st0 = As.reverse ++ .ref b :: rest) (hW : (rest.map fun v => v.category).sum ≤ 8) (hdg : decode cc pc = .ok (.invokevirtual index, 3)) :
    CallRun p l e R s m args below meth c H locs cells slots 0 0 (F0 m pc ls st0) rest (Qc (Value.ref b :: As).toArray) free :=
  W.runV (g := F0 m pc ls st0) (rest := rest) (As := As) (b := b) S hM (cwV n S.2.2.2.2 hG hw rfl rfl hd hR) ⟨rdP_blind, va_recv hE.1 hP hc h0, fun U hU hW1 => ⟨rfl, by rw [hU]; exact hP, gE_warm hW1 hE⟩⟩ rfl hn hl hst (lv_room hW) hdg hf
theorem rn_S {Qc : Array Value → State → Outcome → State → Prop} {free : Addr → Prop} (S : CallFix p m c cc nL s args Ts own) (hM : Met l y wsY ({ frames := fr, cells := 0, slots := 0, locals := lo }) (rdP g As W0) Qc 0 0 free)
    (hG : GoodIn Ts (va_wsS own index y wsY)) (hw : wsY = .code y bytes maxL ret :: wsY') (hd : pM y n) (hR : fr + 1 ≤ R.frames ∧ 8 + (maxL + 11) + lo ≤ R.locals) (hf : cells ≤ R.cells ∧ slots ≤ R.slots)
    (hP : gP g W0 H) (hE : gE g s) (hn : As.length = n) (hl : ls.size = nL) (hst : st0 = As.reverse ++ rest) (hW : (rest.map fun v => v.category).sum ≤ 8) (hdg : decode cc pc = .ok (.invokestatic index, 3)) :
    CallRun p l e R s m args below meth c H locs cells slots 0 0 (F0 m pc ls st0) rest (Qc As.toArray) free :=
  W.runS (g := F0 m pc ls st0) (rest := rest) (As := As) S hM (va_cwS n S.2.2.2.2 hG hw rfl rfl hd hR) ⟨rdP_blind, fun U hU hW1 => ⟨rfl, by rw [hU]; exact hP, gE_warm hW1 hE⟩⟩ rfl hn hl hst (lv_room hW) hdg hf
theorem rn_SN {host : String} {Qc : Array Value → State → Outcome → State → Prop} {free : Addr → Prop} (S : CallFix p m c cc nL s args Ts own) (hM : Met l y wsY ({ frames := fr, cells := 0, slots := 0, locals := lo }) (rdP g As W0) Qc 0 0 free)
    (hG : GoodIn Ts wsY) (hw : wsY = .code y bytes maxL ret :: wsY') (hnw : va_Nw (.methodLinkNest own index y host) s) (hini : (Cond.initialized y.cls).before args s = true) (hstt : (Cond.static y).before args s = true) (hd : pM y n) (hR : fr + 1 ≤ R.frames ∧ 8 + (maxL + 11) + lo ≤ R.locals) (hf : cells ≤ R.cells ∧ slots ≤ R.slots)
    (hP : gP g W0 H) (hE : gE g s) (hn : As.length = n) (hl : ls.size = nL) (hst : st0 = As.reverse ++ rest) (hW : (rest.map fun v => v.category).sum ≤ 8) (hdg : decode cc pc = .ok (.invokestatic index, 3)) :
    CallRun p l e R s m args below meth c H locs cells slots 0 0 (F0 m pc ls st0) rest (Qc As.toArray) free := by
  have hr := va_runSN (host := host) (g := F0 m pc ls st0) (rest := rest) (As := As) (e := e) (R := R) (below := below) (meth := meth) (H := H) (locs := locs) (cells := cells) (slots := slots) S hM ⟨va_cnB n S.2.2.2.2 hG hw rfl rfl hnw hini hd hR, hstt, trivial⟩ ⟨rdP_blind, fun U hU hW1 => ⟨rfl, by rw [hU]; exact hP, gE_warm hW1 hE⟩⟩ rfl hn hl hst (lv_room hW) hdg hf
  intro T hT X
  obtain ⟨v, st₀, t, T', L, h0, X', hL, e1, -, hq, st⟩ := hr T hT X
  exact ⟨v, st₀, t, T', L, h0, X', hL, e1, hq, st⟩
theorem rd_go {v : Option Value} {a : Array Value} (hr : CallRun p l e R s m args below meth c H locs cells slots 0 0 (F0 m pc ls st0) rest (rdQ v a) (fun _ => False)) (kk : W p l e R s m args below meth c H locs cells slots Q (F0 m (pc + 3) ls (v.toList ++ rest))) : W p l e R s m args below meth c H locs cells slots Q (F0 m pc ls st0) := by
  intro T hT X
  obtain ⟨v', st₀, t, T', L, h0', X', hL, e1, ⟨hv, hh⟩, st⟩ := hr T hT X
  cases hv
  obtain ⟨t2, a1, b1⟩ := kk T' (by rw [e1, hh, h0']) (Stand.forget X' (fun q h => (hL q h).elim))
  exact ⟨t2, st t2 a1, b1⟩
theorem wr_go {v : Option Value} {a : Array Value} {B : Heap → Prop} {as : List Nat} {A0 : Nat → Prop} {H0 : Heap} (hr : CallRun p l e R s m args below meth c H locs cells slots 0 0 (F0 m pc ls st0) rest (wrQ v B as a) (fun q => q ∈ as)) (hS : va_S A0 H0 H locs) (has : ∀ x ∈ as, A0 x)
    (kk : ∀ (H1 : Heap) (locs1 : List Loc), B H1 → H.size ≤ H1.size → (∀ q : Nat, q < H.size → ¬ q ∈ as → H1[q]? = H[q]?) → va_S A0 H0 H1 locs1 → W p l e R s m args below meth c H1 locs1 cells slots Q (F0 m (pc + 3) ls (v.toList ++ rest))) : W p l e R s m args below meth c H locs cells slots Q (F0 m pc ls st0) := by
  intro T hT X
  obtain ⟨v', st₀, t, T', L, h0', X', hL, e1, ⟨hv, hB, hF⟩, st⟩ := hr T hT X
  cases hv
  obtain ⟨k1, k2, k3⟩ := vx_keep (A1 := fun q => q ∈ as) (free := fun q => q ∈ as) h0' e1 hS (fun q _ h => has q h) (fun q h => has q h) hL hF
  obtain ⟨t2, a1, b1⟩ := kk T'.heap (locs ++ L) (by rw [e1]; exact hB) k1 k2 k3 T' rfl X'
  exact ⟨t2, st t2 a1, b1⟩
theorem xn_V {Qc : Array Value → State → Outcome → State → Prop} {XC : String → State → State → Prop} {free : Addr → Prop} (S : CallFix p m c cc nL s args Ts own) (hM : vx_Met l y wsY ({ frames := fr, cells := mc, slots := ms, locals := lo }) (xP g (.ref b :: As) W0) Qc XC mc ms free)
    (hG : GoodIn Ts (wsV own index C y wsY)) (hw : wsY = .code y bytes maxL ret :: wsY') (hd : y.cls = C ∧ pM y n) (hR : fr + 1 ≤ R.frames ∧ 8 + (maxL + 11) + lo ≤ R.locals) (hf : cells + mc ≤ R.cells ∧ slots + ms ≤ R.slots)
    (hP : gP g W0 H) (hE : gE g s) (hxv : xv H s) (h0 : W0[0]? = some (b, .inr (ci, fs))) (hc : vwCl[ci]? = some (C, T, N)) (hn : As.length = n) (hl : ls.size = nL) (hst : st0 = As.reverse ++ .ref b :: rest) (hW : (rest.map fun v => v.category).sum ≤ 8) (hdg : decode cc pc = .ok (.invokevirtual index, 3)) :
    vx_Run p l e R s m args below meth c H locs cells slots mc ms (F0 m pc ls st0) rest (Qc (Value.ref b :: As).toArray) XC free :=
  vx_runV (g := F0 m pc ls st0) (rest := rest) (As := As) (b := b) S hM (cwV n S.2.2.2.2 hG hw rfl rfl hd hR) ⟨xP_blind, va_recv hE.1 hP hc h0, fun U hU hW1 => ⟨rfl, by rw [hU]; exact hP, gE_warm hW1 hE, by rw [hU]; exact xv_warm hW1 hxv⟩⟩ rfl hn hl hst (lv_room hW) hdg hf
theorem xn_S {Qc : Array Value → State → Outcome → State → Prop} {XC : String → State → State → Prop} {free : Addr → Prop} (S : CallFix p m c cc nL s args Ts own) (hM : vx_Met l y wsY ({ frames := fr, cells := mc, slots := ms, locals := lo }) (xP g As W0) Qc XC mc ms free)
    (hG : GoodIn Ts (va_wsS own index y wsY)) (hw : wsY = .code y bytes maxL ret :: wsY') (hd : pM y n) (hR : fr + 1 ≤ R.frames ∧ 8 + (maxL + 11) + lo ≤ R.locals) (hf : cells + mc ≤ R.cells ∧ slots + ms ≤ R.slots)
    (hP : gP g W0 H) (hE : gE g s) (hxv : xv H s) (hn : As.length = n) (hl : ls.size = nL) (hst : st0 = As.reverse ++ rest) (hW : (rest.map fun v => v.category).sum ≤ 8) (hdg : decode cc pc = .ok (.invokestatic index, 3)) :
    vx_Run p l e R s m args below meth c H locs cells slots mc ms (F0 m pc ls st0) rest (Qc As.toArray) XC free :=
  vx_runS (g := F0 m pc ls st0) (rest := rest) (As := As) S hM (va_cwS n S.2.2.2.2 hG hw rfl rfl hd hR) ⟨xP_blind, fun U hU hW1 => ⟨rfl, by rw [hU]; exact hP, gE_warm hW1 hE, by rw [hU]; exact xv_warm hW1 hxv⟩⟩ rfl hn hl hst (lv_room hW) hdg hf
/-- a reader that may throw, called where nothing was written; what it throws goes on -/
theorem xr_go {er erO MC MS : Nat} {v : Option Value} {a : Array Value} {Qc : Array Value → State → Outcome → State → Prop} {free : Addr → Prop} (hr : vx_Run p l e R s m args below meth c s.heap [] cells slots mc ms (F0 m pc ls st0) rest (xrQ er v a) (xX er) (fun _ => False)) (hout : ∀ x ∈ c.exceptionTable.toList, False) (hlocks : meth.locks = false) (herr : er ≠ 0 → erO = er) (hc : cells + mc ≤ MC) (hs : slots + ms ≤ MS)
    (kk : er = 0 → W p l e R s m args below meth c s.heap [] (cells + mc) (slots + ms) (vx_MQ below Qc (xX erO) args s MC MS free) (F0 m (pc + 3) ls (v.toList ++ rest))) : W p l e R s m args below meth c s.heap [] cells slots (vx_MQ below Qc (xX erO) args s MC MS free) (F0 m pc ls st0) := by
  intro T hT X
  rcases hr T hT X with ⟨v', st₀, t, T', L, h0, X', hL, e1, e2, ⟨he, hv, hh⟩, st⟩ | ⟨q, st₀, t, T', L, E, ce, h0, X', hL, e1, e2, ⟨he, hE, hF⟩, hce, hcv, hcl, st⟩
  · cases hv
    obtain ⟨t2, a1, b1⟩ := kk he T' (by rw [e1, hh, h0]) (Stand.forget X' (fun q h => (hL q h).elim))
    exact ⟨t2, st t2 a1, b1⟩
  · have hL0 : L = [] := by
      cases L with
      | nil => rfl
      | cons x _ => exact (hL x List.mem_cons_self).elim
    subst hL0
    have hw : vx_W p l e R s m args below meth c T'.heap [] (cells + mc) (slots + ms) (vx_MQ below Qc (xX erO) args s MC MS free) (F0 m pc ls rest) q := by
      refine vx_out (E := E) (ce := ce) (fun x hx => (hout x hx).elim) hlocks (by rw [e1]; exact hce) hcv hcl (fun t9 ht9 _ => ?_) (fun _ h => by cases h) hc hs
      rw [herr he]
      refine ⟨he, hE, ?_⟩
      obtain ⟨f1, f2⟩ := hF
      rw [h0] at f1 f2
      exact ⟨by rw [ht9, e1]; exact f1, fun q hq hn => by rw [ht9, e1]; exact f2 q hq hn⟩
    obtain ⟨t2, a1, b1⟩ := hw T' rfl X'
    exact ⟨t2, st.trans a1, b1⟩
-- ends
theorem rd_reti {v r : Int32} (hx : p.tables.exec = Jvm.exec) (hb : c.code = cc) (hr : meth.sig.returnType = some .int) (hlocks : meth.locks = false) (hv : v = r) (hdg : decode cc pc = .ok (.ireturn, 1)) : W p l e R s m args below meth c s.heap [] 0 0 (MQ below (rdQ (some (.int r))) args s 0 0 (fun _ => False)) (F0 m pc ls [.int v]) := by
  subst hv
  exact W.iret hx hb hr (fun t ht _ => ⟨rfl, ht⟩) (fun _ h => by cases h) hdg hlocks
theorem rd_retz {v r : Bool} (hx : p.tables.exec = Jvm.exec) (hb : c.code = cc) (hr : meth.sig.returnType = some .boolean) (hlocks : meth.locks = false) (hv : v = r) (hdg : decode cc pc = .ok (.ireturn, 1)) : W p l e R s m args below meth c s.heap [] 0 0 (MQ below (rdQ (some (.int (bI r)))) args s 0 0 (fun _ => False)) (F0 m pc ls [.int (bI v)]) := by
  subst hv
  exact W.zret hx hb hr (bI_narrow _) (fun t ht _ => ⟨rfl, ht⟩) (fun _ h => by cases h) hdg hlocks
theorem wr_reti {v r : Int32} {BB : Heap → Prop} {as : List Nat} (hx : p.tables.exec = Jvm.exec) (hb : c.code = cc) (hr : meth.sig.returnType = some .int) (hlocks : meth.locks = false) (hS : va_S (fun q => q ∈ as) s.heap H locs) (hB : BB H) (hv : v = r) (hdg : decode cc pc = .ok (.ireturn, 1)) : W p l e R s m args below meth c H locs 0 0 (MQ below (wrQ (some (.int r)) BB as) args s 0 0 (fun q => q ∈ as)) (F0 m pc ls [.int v]) := by
  subst hv
  exact W.iret hx hb hr (fun t ht _ => ⟨rfl, by rw [ht]; exact hB, hS.F ht⟩) hS.2.2 hdg hlocks
theorem wr_retz {v r : Bool} {BB : Heap → Prop} {as : List Nat} (hx : p.tables.exec = Jvm.exec) (hb : c.code = cc) (hr : meth.sig.returnType = some .boolean) (hlocks : meth.locks = false) (hS : va_S (fun q => q ∈ as) s.heap H locs) (hB : BB H) (hv : v = r) (hdg : decode cc pc = .ok (.ireturn, 1)) : W p l e R s m args below meth c H locs 0 0 (MQ below (wrQ (some (.int (bI r))) BB as) args s 0 0 (fun q => q ∈ as)) (F0 m pc ls [.int (bI v)]) := by
  subst hv
  exact W.zret hx hb hr (bI_narrow _) (fun t ht _ => ⟨rfl, by rw [ht]; exact hB, hS.F ht⟩) hS.2.2 hdg hlocks
theorem wr_retv {BB : Heap → Prop} {as : List Nat} (hx : p.tables.exec = Jvm.exec) (hb : c.code = cc) (hr : meth.sig.returnType = none) (hlocks : meth.locks = false) (hS : va_S (fun q => q ∈ as) s.heap H locs) (hB : BB H) (hdg : decode cc pc = .ok (.return_, 1)) : W p l e R s m args below meth c H locs 0 0 (MQ below (wrQ none BB as) args s 0 0 (fun q => q ∈ as)) (F0 m pc ls []) :=
  W.vret hx hb hr (fun t ht _ => ⟨rfl, by rw [ht]; exact hB, hS.F ht⟩) hS.2.2 hdg hlocks
theorem xr_reti {er MC MS : Nat} {v r : Int32} (hx : p.tables.exec = Jvm.exec) (hb : c.code = cc) (hr : meth.sig.returnType = some .int) (hlocks : meth.locks = false) (he : er = 0) (hv : v = r) (hc : cells ≤ MC) (hs : slots ≤ MS) (hdg : decode cc pc = .ok (.ireturn, 1)) : W p l e R s m args below meth c s.heap [] cells slots (vx_MQ below (xrQ er (some (.int r))) (xX er) args s MC MS (fun _ => False)) (F0 m pc ls [.int v]) := by
  subst hv
  exact W.widen hc hs (vx_ret (W.iret hx hb hr (fun t ht _ => ⟨he, rfl, ht⟩) (fun _ h => by cases h) hdg hlocks))
theorem xr_retz {er MC MS : Nat} {v r : Bool} (hx : p.tables.exec = Jvm.exec) (hb : c.code = cc) (hr : meth.sig.returnType = some .boolean) (hlocks : meth.locks = false) (he : er = 0) (hv : v = r) (hc : cells ≤ MC) (hs : slots ≤ MS) (hdg : decode cc pc = .ok (.ireturn, 1)) : W p l e R s m args below meth c s.heap [] cells slots (vx_MQ below (xrQ er (some (.int (bI r)))) (xX er) args s MC MS (fun _ => False)) (F0 m pc ls [.int (bI v)]) := by
  subst hv
  exact W.widen hc hs (vx_ret (W.zret hx hb hr (bI_narrow _) (fun t ht _ => ⟨he, rfl, ht⟩) (fun _ h => by cases h) hdg hlocks))
theorem xr_retv {er MC MS : Nat} (hx : p.tables.exec = Jvm.exec) (hb : c.code = cc) (hr : meth.sig.returnType = none) (hlocks : meth.locks = false) (he : er = 0) (hc : cells ≤ MC) (hs : slots ≤ MS) (hdg : decode cc pc = .ok (.return_, 1)) : W p l e R s m args below meth c s.heap [] cells slots (vx_MQ below (xrQ er none) (xX er) args s MC MS (fun _ => False)) (F0 m pc ls []) :=
  W.widen hc hs (vx_ret (W.vret hx hb hr (fun t ht _ => ⟨he, rfl, ht⟩) (fun _ h => by cases h) hdg hlocks))
theorem xr_reta {er MC MS : Nat} {a r : Nat} {cn : String} (hx : p.tables.exec = Jvm.exec) (hb : c.code = cc) (hr : meth.sig.returnType = some (.object cn)) (hlocks : meth.locks = false) (he : er = 0) (hv : a = r) (hc : cells ≤ MC) (hs : slots ≤ MS) (hdg : decode cc pc = .ok (.areturn, 1)) : W p l e R s m args below meth c s.heap [] cells slots (vx_MQ below (xrQ er (some (.ref r))) (xX er) args s MC MS (fun _ => False)) (F0 m pc ls [.ref a]) := by
  subst hv
  exact W.widen hc hs (vx_ret (W.aret hx hb hr (Or.inl ⟨_, rfl⟩) (Or.inr ⟨_, rfl⟩) (fun t ht _ => ⟨he, rfl, ht⟩) (fun _ h => by cases h) hdg hlocks))
theorem xw_reti {er MC MS : Nat} {v r : Int32} {BB : Heap → Prop} {as : List Nat} (hx : p.tables.exec = Jvm.exec) (hb : c.code = cc) (hr : meth.sig.returnType = some .int) (hlocks : meth.locks = false) (hS : va_S (fun q => q ∈ as) s.heap H locs) (hB : BB H) (he : er = 0) (hv : v = r) (hc : cells ≤ MC) (hs : slots ≤ MS) (hdg : decode cc pc = .ok (.ireturn, 1)) : W p l e R s m args below meth c H locs cells slots (vx_MQ below (xwQ er (some (.int r)) BB as) (xX er) args s MC MS (fun q => q ∈ as)) (F0 m pc ls [.int v]) := by
  subst hv
  exact W.widen hc hs (vx_ret (W.iret hx hb hr (fun t ht _ => ⟨he, rfl, by rw [ht]; exact hB, hS.F ht⟩) hS.2.2 hdg hlocks))
theorem xw_retz {er MC MS : Nat} {v r : Bool} {BB : Heap → Prop} {as : List Nat} (hx : p.tables.exec = Jvm.exec) (hb : c.code = cc) (hr : meth.sig.returnType = some .boolean) (hlocks : meth.locks = false) (hS : va_S (fun q => q ∈ as) s.heap H locs) (hB : BB H) (he : er = 0) (hv : v = r) (hc : cells ≤ MC) (hs : slots ≤ MS) (hdg : decode cc pc = .ok (.ireturn, 1)) : W p l e R s m args below meth c H locs cells slots (vx_MQ below (xwQ er (some (.int (bI r))) BB as) (xX er) args s MC MS (fun q => q ∈ as)) (F0 m pc ls [.int (bI v)]) := by
  subst hv
  exact W.widen hc hs (vx_ret (W.zret hx hb hr (bI_narrow _) (fun t ht _ => ⟨he, rfl, by rw [ht]; exact hB, hS.F ht⟩) hS.2.2 hdg hlocks))
-- a throw of its own, where nothing was written
theorem x_throw {cls text : String} {ik is ic er MC MS : Nat} {Qc : Array Value → State → Outcome → State → Prop} {free : Addr → Prop} (hx : p.tables.exec = Jvm.exec) (hb : c.code = cc) (hl : l.stackTraces = false) (hown : s.vm.findClass RX4 = some m.cls) (hts : ∀ w ∈ Ts, w.before args s = true) (hE : gE g s) (hxv : xv s.heap s)
    (hcls : Bundle.fit cls = true) (hk : Cond.classLink RX4 ik cls ∈ Ts) (hini : Cond.initialized cls ∈ Ts) (hat : ∀ w ∈ (vx_atS RX4 ic cls exU).filter goodWord, w ∈ Ts) (hxt : ∀ w ∈ (vx_atS RX4 ic cls exU).filter (fun w => !goodWord w), w ∈ xtraW)
    (hgood : ∀ w ∈ Cond.classLink RX4 ik cls :: Cond.initialized cls :: vx_atS RX4 ic cls exU, vx_ot w = true) (hstr : (is, text) ∈ gStrs) (hsize : ls.size = c.maxLocals)
    (d0 : decode cc pc = .ok (.new ik, 3)) (d3 : decode cc (pc + 3) = .ok (.dup, 1)) (d4 : decode cc (pc + 4) = .ok (.ldc is, 2)) (d6 : decode cc (pc + 6) = .ok (.invokespecial ic, 3)) (d9 : decode cc (pc + 9) = .ok (.athrow, 1))
    (hout : ∀ x ∈ c.exceptionTable.toList, False) (hRf : 5 < R.frames) (hRl : (rest.map fun v => v.category).sum + 82 ≤ R.locals) (hRc : cells + 1 ≤ R.cells) (hRs : slots + 6 ≤ R.slots) (hlocks : meth.locks = false) (he : er ≠ 0 ∧ cls = exN er) (hc : cells + 1 ≤ MC) (hs : slots + 6 ≤ MS) :
    W p l e R s m args below meth c s.heap [] cells slots (vx_MQ below Qc (xX er) args s MC MS free) (F0 m pc ls rest) := by
  obtain ⟨sa, hsa⟩ := hE.2.2.1 _ hstr
  refine vx_throwS (A := fun q => s.heap.size ≤ q) (names := exU) (sa := sa) hx hb hl hown hcls (by decide +kernel) (hts _ hk) (hts _ hini) hsa ?_ hgood hxv.1 hxv.2 va_S.rf hsize d0 d3 d4 d6 d9 (fun x h => (hout x h).elim) hRf hRl hRc hRs hlocks (fun t _ h1 h2 => ⟨he.1, he.2, h1, fun q hq _ => h2 q hq⟩) (fun _ h => by cases h) hc hs
  intro w hw
  by_cases hg : goodWord w = true
  · exact hts w (hat w (List.mem_filter.mpr ⟨hw, hg⟩))
  · have h1 : w ∈ xtraW := hxt w (List.mem_filter.mpr ⟨hw, by cases hgw : goodWord w <;> simp_all⟩)
    have h2 := hE.2.2.2.1 w h1
    have h3 := xtraW_cd w h1
    exact va_Nw.use (by cases w <;> first | rfl | (simp [isCD] at h3)) h2
-- steps
theorem tp_i {x z : Int32} (h : x = z) (k : W p l e R s m args below meth c H locs cells slots Q (F0 m pc ls (.int z :: rest))) : W p l e R s m args below meth c H locs cells slots Q (F0 m pc ls (.int x :: rest)) := by
  rw [h]; exact k
theorem br_eqB {b : Bool} {off : Int} {tgt : Nat} (hx : p.tables.exec = Jvm.exec) (hb : c.code = cc) (hdg : decode cc pc = .ok (.ifCond .eq off, 3)) (ht : (pc : Int) + off = (tgt : Int)) (kt : b = false → W p l e R s m args below meth c H locs cells slots Q (F0 m tgt ls rest)) (kf : b = true → W p l e R s m args below meth c H locs cells slots Q (F0 m (pc + 3) ls rest)) : W p l e R s m args below meth c H locs cells slots Q (F0 m pc ls (.int (bI b) :: rest)) :=
  lv_if_eq hx hb hdg ht (fun h => kt (bI_0.mp h)) (fun h => kf (by cases b with | true => rfl | false => exact absurd rfl h))
theorem br_neB {b : Bool} {off : Int} {tgt : Nat} (hx : p.tables.exec = Jvm.exec) (hb : c.code = cc) (hdg : decode cc pc = .ok (.ifCond .ne off, 3)) (ht : (pc : Int) + off = (tgt : Int)) (kt : b = true → W p l e R s m args below meth c H locs cells slots Q (F0 m tgt ls rest)) (kf : b = false → W p l e R s m args below meth c H locs cells slots Q (F0 m (pc + 3) ls rest)) : W p l e R s m args below meth c H locs cells slots Q (F0 m pc ls (.int (bI b) :: rest)) :=
  lv_if_ne hx hb hdg ht (fun h => kt (by cases b with | true => rfl | false => exact absurd rfl h)) (fun h => kf (bI_0.mp h))
theorem br_ltN {a b : Nat} {off : Int} {tgt : Nat} (hx : p.tables.exec = Jvm.exec) (hb : c.code = cc) (ha : a < 2 ^ 31) (hb2 : b < 2 ^ 31) (hdg : decode cc pc = .ok (.if_icmp .lt off, 3)) (ht : (pc : Int) + off = (tgt : Int)) (kt : a < b → W p l e R s m args below meth c H locs cells slots Q (F0 m tgt ls rest)) (kf : b ≤ a → W p l e R s m args below meth c H locs cells slots Q (F0 m (pc + 3) ls rest)) : W p l e R s m args below meth c H locs cells slots Q (F0 m pc ls (.int (nI b) :: .int (nI a) :: rest)) :=
  lv_icmp_lt hx hb hdg ht (fun h => kt ((nI_ltI ha hb2).mp h)) (fun h => kf (Nat.not_lt.mp (fun z => h ((nI_ltI ha hb2).mpr z))))
theorem br_geN {a b : Nat} {off : Int} {tgt : Nat} (hx : p.tables.exec = Jvm.exec) (hb : c.code = cc) (ha : a < 2 ^ 31) (hb2 : b < 2 ^ 31) (hdg : decode cc pc = .ok (.if_icmp .ge off, 3)) (ht : (pc : Int) + off = (tgt : Int)) (kt : b ≤ a → W p l e R s m args below meth c H locs cells slots Q (F0 m tgt ls rest)) (kf : a < b → W p l e R s m args below meth c H locs cells slots Q (F0 m (pc + 3) ls rest)) : W p l e R s m args below meth c H locs cells slots Q (F0 m pc ls (.int (nI b) :: .int (nI a) :: rest)) :=
  lv_icmp_ge hx hb hdg ht (fun h => kt ((nI_leI hb2 ha).mp h)) (fun h => kf (Nat.not_le.mp (fun z => h ((nI_leI hb2 ha).mpr z))))
theorem br_gtN {a b : Nat} {off : Int} {tgt : Nat} (hx : p.tables.exec = Jvm.exec) (hb : c.code = cc) (ha : a < 2 ^ 31) (hb2 : b < 2 ^ 31) (hdg : decode cc pc = .ok (.if_icmp .gt off, 3)) (ht : (pc : Int) + off = (tgt : Int)) (kt : b < a → W p l e R s m args below meth c H locs cells slots Q (F0 m tgt ls rest)) (kf : a ≤ b → W p l e R s m args below meth c H locs cells slots Q (F0 m (pc + 3) ls rest)) : W p l e R s m args below meth c H locs cells slots Q (F0 m pc ls (.int (nI b) :: .int (nI a) :: rest)) :=
  lv_icmp_gt hx hb hdg ht (fun h => kt ((nI_ltI hb2 ha).mp h)) (fun h => kf (Nat.not_lt.mp (fun z => h ((nI_ltI hb2 ha).mpr z))))
theorem br_leN {a b : Nat} {off : Int} {tgt : Nat} (hx : p.tables.exec = Jvm.exec) (hb : c.code = cc) (ha : a < 2 ^ 31) (hb2 : b < 2 ^ 31) (hdg : decode cc pc = .ok (.if_icmp .le off, 3)) (ht : (pc : Int) + off = (tgt : Int)) (kt : a ≤ b → W p l e R s m args below meth c H locs cells slots Q (F0 m tgt ls rest)) (kf : b < a → W p l e R s m args below meth c H locs cells slots Q (F0 m (pc + 3) ls rest)) : W p l e R s m args below meth c H locs cells slots Q (F0 m pc ls (.int (nI b) :: .int (nI a) :: rest)) :=
  lv_icmp_le hx hb hdg ht (fun h => kt ((nI_leI ha hb2).mp h)) (fun h => kf (Nat.not_le.mp (fun z => h ((nI_leI ha hb2).mpr z))))
theorem br_eqN {a b : Nat} {off : Int} {tgt : Nat} (hx : p.tables.exec = Jvm.exec) (hb : c.code = cc) (ha : a < 2 ^ 31) (hb2 : b < 2 ^ 31) (hdg : decode cc pc = .ok (.if_icmp .eq off, 3)) (ht : (pc : Int) + off = (tgt : Int)) (kt : a = b → W p l e R s m args below meth c H locs cells slots Q (F0 m tgt ls rest)) (kf : ¬ a = b → W p l e R s m args below meth c H locs cells slots Q (F0 m (pc + 3) ls rest)) : W p l e R s m args below meth c H locs cells slots Q (F0 m pc ls (.int (nI b) :: .int (nI a) :: rest)) :=
  lv_icmp_eq hx hb hdg ht (fun h => kt ((nI_eq ha hb2).mp h)) (fun h => kf (fun z => h ((nI_eq ha hb2).mpr z)))
theorem br_neN {a b : Nat} {off : Int} {tgt : Nat} (hx : p.tables.exec = Jvm.exec) (hb : c.code = cc) (ha : a < 2 ^ 31) (hb2 : b < 2 ^ 31) (hdg : decode cc pc = .ok (.if_icmp .ne off, 3)) (ht : (pc : Int) + off = (tgt : Int)) (kt : ¬ a = b → W p l e R s m args below meth c H locs cells slots Q (F0 m tgt ls rest)) (kf : a = b → W p l e R s m args below meth c H locs cells slots Q (F0 m (pc + 3) ls rest)) : W p l e R s m args below meth c H locs cells slots Q (F0 m pc ls (.int (nI b) :: .int (nI a) :: rest)) :=
  lv_icmp_ne hx hb hdg ht (fun h => kt (fun z => h ((nI_eq ha hb2).mpr z))) (fun h => kf ((nI_eq ha hb2).mp h))
theorem br_ltF {a b : Nat} {off : Int} {tgt : Nat} (hx : p.tables.exec = Jvm.exec) (hb : c.code = cc) (ha : a < 2 ^ 31) (hb2 : b < 2 ^ 31) (hdg : decode cc pc = .ok (.if_icmp .lt off, 3)) (ht : (pc : Int) + off = (tgt : Int)) (kt : a < b → W p l e R s m args below meth c H locs cells slots Q (F0 m tgt ls rest)) (kf : b ≤ a → W p l e R s m args below meth c H locs cells slots Q (F0 m (pc + 3) ls rest)) : W p l e R s m args below meth c H locs cells slots Q (F0 m pc ls (.int (fI b) :: .int (fI a) :: rest)) :=
  lv_icmp_lt hx hb hdg ht (fun h => kt ((fI_lt ha hb2).mp h)) (fun h => kf (Nat.not_lt.mp (fun z => h ((fI_lt ha hb2).mpr z))))
theorem br_geF {a b : Nat} {off : Int} {tgt : Nat} (hx : p.tables.exec = Jvm.exec) (hb : c.code = cc) (ha : a < 2 ^ 31) (hb2 : b < 2 ^ 31) (hdg : decode cc pc = .ok (.if_icmp .ge off, 3)) (ht : (pc : Int) + off = (tgt : Int)) (kt : b ≤ a → W p l e R s m args below meth c H locs cells slots Q (F0 m tgt ls rest)) (kf : a < b → W p l e R s m args below meth c H locs cells slots Q (F0 m (pc + 3) ls rest)) : W p l e R s m args below meth c H locs cells slots Q (F0 m pc ls (.int (fI b) :: .int (fI a) :: rest)) :=
  lv_icmp_ge hx hb hdg ht (fun h => kt ((fI_le hb2 ha).mp h)) (fun h => kf (Nat.not_le.mp (fun z => h ((fI_le hb2 ha).mpr z))))
theorem br_gtF {a b : Nat} {off : Int} {tgt : Nat} (hx : p.tables.exec = Jvm.exec) (hb : c.code = cc) (ha : a < 2 ^ 31) (hb2 : b < 2 ^ 31) (hdg : decode cc pc = .ok (.if_icmp .gt off, 3)) (ht : (pc : Int) + off = (tgt : Int)) (kt : b < a → W p l e R s m args below meth c H locs cells slots Q (F0 m tgt ls rest)) (kf : a ≤ b → W p l e R s m args below meth c H locs cells slots Q (F0 m (pc + 3) ls rest)) : W p l e R s m args below meth c H locs cells slots Q (F0 m pc ls (.int (fI b) :: .int (fI a) :: rest)) :=
  lv_icmp_gt hx hb hdg ht (fun h => kt ((fI_lt hb2 ha).mp h)) (fun h => kf (Nat.not_lt.mp (fun z => h ((fI_lt hb2 ha).mpr z))))
theorem br_leF {a b : Nat} {off : Int} {tgt : Nat} (hx : p.tables.exec = Jvm.exec) (hb : c.code = cc) (ha : a < 2 ^ 31) (hb2 : b < 2 ^ 31) (hdg : decode cc pc = .ok (.if_icmp .le off, 3)) (ht : (pc : Int) + off = (tgt : Int)) (kt : a ≤ b → W p l e R s m args below meth c H locs cells slots Q (F0 m tgt ls rest)) (kf : b < a → W p l e R s m args below meth c H locs cells slots Q (F0 m (pc + 3) ls rest)) : W p l e R s m args below meth c H locs cells slots Q (F0 m pc ls (.int (fI b) :: .int (fI a) :: rest)) :=
  lv_icmp_le hx hb hdg ht (fun h => kt ((fI_le ha hb2).mp h)) (fun h => kf (Nat.not_le.mp (fun z => h ((fI_le ha hb2).mpr z))))
theorem ra_z {a q0 i nn : Nat} {ws : va_W} {F : Nat → Bool} (hx : p.tables.exec = Jvm.exec) (hb : c.code = cc) (hE : gE g s) (hP : gP g ws H) (ha : ws[q0]? = some (a, .inl (g.2 1, nn, .inl (zc F)))) (hi : i < nn) (hn : nn < 2 ^ 31) (hdg : decode cc pc = .ok (.baload, 1)) (kk : W p l e R s m args below meth c H locs cells slots Q (F0 m (pc + 1) ls (.int (bI (F i)) :: rest))) : W p l e R s m args below meth c H locs cells slots Q (F0 m pc ls (.int (nI i) :: .ref a :: rest)) := by
  refine va_zald hx hb hE.1 hP q0 1 ha rfl (vp_in_nI hi hn) hdg ?_
  rw [nI_clamp (by omega)]
  exact kk
theorem ra_i {a q0 i nn : Nat} {ws : va_W} {f : Nat → Int32} (hx : p.tables.exec = Jvm.exec) (hb : c.code = cc) (hE : gE g s) (hP : gP g ws H) (ha : ws[q0]? = some (a, .inl (g.2 0, nn, .inl f))) (hi : i < nn) (hn : nn < 2 ^ 31) (hdg : decode cc pc = .ok (.iaload, 1)) (kk : W p l e R s m args below meth c H locs cells slots Q (F0 m (pc + 1) ls (.int (f i) :: rest))) : W p l e R s m args below meth c H locs cells slots Q (F0 m pc ls (.int (nI i) :: .ref a :: rest)) := by
  refine va_iald hx hb hE.1 hP q0 0 ha rfl (vp_in_nI hi hn) hdg ?_
  rw [nI_clamp (by omega)]
  exact kk
theorem ra_q {a q0 i nn : Nat} {ws : va_W} {f : Nat → Option Nat} (hx : p.tables.exec = Jvm.exec) (hb : c.code = cc) (hE : gE g s) (hP : gP g ws H) (ha : ws[q0]? = some (a, .inl (g.2 2, nn, .inr (.inr (.inr (.inr f)))))) (hi : i < nn) (hn : nn < 2 ^ 31) (hdg : decode cc pc = .ok (.aaload, 1)) (kk : W p l e R s m args below meth c H locs cells slots Q (F0 m (pc + 1) ls (va_rf (f i) :: rest))) : W p l e R s m args below meth c H locs cells slots Q (F0 m pc ls (.int (nI i) :: .ref a :: rest)) := by
  refine va_aldq hx hb hE.1 hP q0 2 ha rfl (vp_in_nI hi hn) hdg ?_
  rw [nI_clamp (by omega)]
  exact kk
theorem wa_z {a q0 i nn : Nat} {ws ws' : va_W} {F : Nat → Bool} {b : Bool} {A : Nat → Prop} {H0 : Heap} (hx : p.tables.exec = Jvm.exec) (hb : c.code = cc) (hE : gE g s) (hP : gP g ws H) (hD : va_D A ws) (hS : va_S A H0 H locs) (ha : ws[q0]? = some (a, .inl (g.2 1, nn, .inl (zc F)))) (hw : ws.set q0 (a, .inl (g.2 1, nn, .inl (zc (va_up F i b)))) = ws') (hi : i < nn) (hn : nn < 2 ^ 31) (hdg : decode cc pc = .ok (.bastore, 1))
    (kk : ∀ (H1 : Heap) (locs1 : List Loc), gP g ws' H1 → va_D A ws' → va_S A H0 H1 locs1 → W p l e R s m args below meth c H1 locs1 cells slots Q (F0 m (pc + 1) ls rest)) : W p l e R s m args below meth c H locs cells slots Q (F0 m pc ls (.int (bI b) :: .int (nI i) :: .ref a :: rest)) := by
  refine va_zast hx hb hE.1 hP hD hS q0 1 ha rfl (vp_in_nI hi hn) hdg (fun H1 locs1 hP1 hD1 hS1 => ?_)
  rw [nI_clamp (by omega), bI_nar, zc_up, hw] at hP1 hD1
  exact kk H1 locs1 hP1 hD1 hS1
theorem wa_i {a q0 i nn : Nat} {ws ws' : va_W} {f f' : Nat → Int32} {x : Int32} {A : Nat → Prop} {H0 : Heap} (hx : p.tables.exec = Jvm.exec) (hb : c.code = cc) (hE : gE g s) (hP : gP g ws H) (hD : va_D A ws) (hS : va_S A H0 H locs) (ha : ws[q0]? = some (a, .inl (g.2 0, nn, .inl f))) (hf : upd f i x = f') (hw : ws.set q0 (a, .inl (g.2 0, nn, .inl f')) = ws') (hi : i < nn) (hn : nn < 2 ^ 31) (hdg : decode cc pc = .ok (.iastore, 1))
    (kk : ∀ (H1 : Heap) (locs1 : List Loc), gP g ws' H1 → va_D A ws' → va_S A H0 H1 locs1 → W p l e R s m args below meth c H1 locs1 cells slots Q (F0 m (pc + 1) ls rest)) : W p l e R s m args below meth c H locs cells slots Q (F0 m pc ls (.int x :: .int (nI i) :: .ref a :: rest)) := by
  refine va_iast hx hb hE.1 hP hD hS q0 0 ha rfl (vp_in_nI hi hn) hdg (fun H1 locs1 hP1 hD1 hS1 => ?_)
  rw [nI_clamp (by omega), hf, hw] at hP1 hD1
  exact kk H1 locs1 hP1 hD1 hS1
end RUNS
