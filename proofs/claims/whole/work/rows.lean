section
-- ===== PART A: goes FIRST, ahead of the names: the tables' words, and 'selects' of the private methods out of them =====
/-- a private method of a class that the tables say can be made, by its rows of tables_1 -/
def lw_okq (q : MethodName × Nat) : Prop := (q.1.cls ≠ "java/lang/invoke/MethodHandle" ∧ q.1.cls ≠ "java/lang/invoke/VarHandle") ∧ Cond.instantiable q.1.cls q.2 ∈ tables_1 ∧ Cond.privateMethod q.1 ∈ tables_1 ∧ Cond.instanceMethod q.1 ∈ tables_1
theorem lw_p0 : lw_okq (⟨"java/lang/Throwable", "fillInStackTrace", "(I)Ljava/lang/Throwable;"⟩, 6) := ⟨⟨by decide +kernel, by decide +kernel⟩, List.mem_of_getElem? (i := 177) (by decide +kernel), List.mem_of_getElem? (i := 175) (by decide +kernel), List.mem_of_getElem? (i := 176) (by decide +kernel)⟩
theorem lw_p1 : lw_okq (⟨"Followrow", "settleRows", "()V"⟩, 8) := ⟨⟨by decide +kernel, by decide +kernel⟩, List.mem_of_getElem? (i := 15) (by decide +kernel), List.mem_of_getElem? (i := 252) (by decide +kernel), List.mem_of_getElem? (i := 253) (by decide +kernel)⟩
theorem lw_p2 : lw_okq (⟨"Followrow", "settleRow", "(LFollowrow$Row;)V"⟩, 8) := ⟨⟨by decide +kernel, by decide +kernel⟩, List.mem_of_getElem? (i := 15) (by decide +kernel), List.mem_of_getElem? (i := 256) (by decide +kernel), List.mem_of_getElem? (i := 257) (by decide +kernel)⟩
theorem lw_p3 : lw_okq (⟨"Followrow", "isForRow", "(II)Z"⟩, 8) := ⟨⟨by decide +kernel, by decide +kernel⟩, List.mem_of_getElem? (i := 15) (by decide +kernel), List.mem_of_getElem? (i := 272) (by decide +kernel), List.mem_of_getElem? (i := 273) (by decide +kernel)⟩
theorem lw_p4 : lw_okq (⟨"Followrow", "isOverMark", "(I)Z"⟩, 8) := ⟨⟨by decide +kernel, by decide +kernel⟩, List.mem_of_getElem? (i := 15) (by decide +kernel), List.mem_of_getElem? (i := 288) (by decide +kernel), List.mem_of_getElem? (i := 289) (by decide +kernel)⟩
theorem lw_p5 : lw_okq (⟨"Followrow", "checkPlace", "()V"⟩, 8) := ⟨⟨by decide +kernel, by decide +kernel⟩, List.mem_of_getElem? (i := 15) (by decide +kernel), List.mem_of_getElem? (i := 338) (by decide +kernel), List.mem_of_getElem? (i := 339) (by decide +kernel)⟩
theorem lw_p6 : lw_okq (⟨"Followrow", "checkEntry", "(I)V"⟩, 8) := ⟨⟨by decide +kernel, by decide +kernel⟩, List.mem_of_getElem? (i := 15) (by decide +kernel), List.mem_of_getElem? (i := 354) (by decide +kernel), List.mem_of_getElem? (i := 355) (by decide +kernel)⟩
theorem lw_p7 : lw_okq (⟨"Followrow", "countLarge", "()I"⟩, 8) := ⟨⟨by decide +kernel, by decide +kernel⟩, List.mem_of_getElem? (i := 15) (by decide +kernel), List.mem_of_getElem? (i := 395) (by decide +kernel), List.mem_of_getElem? (i := 396) (by decide +kernel)⟩
theorem lw_p8 : lw_okq (⟨"Followrow", "rowOf", "(I)LFollowrow$Row;"⟩, 8) := ⟨⟨by decide +kernel, by decide +kernel⟩, List.mem_of_getElem? (i := 15) (by decide +kernel), List.mem_of_getElem? (i := 448) (by decide +kernel), List.mem_of_getElem? (i := 449) (by decide +kernel)⟩
theorem lw_p9 : lw_okq (⟨"Followrow", "readTimeline", "(LFollowrow$Row;)V"⟩, 8) := ⟨⟨by decide +kernel, by decide +kernel⟩, List.mem_of_getElem? (i := 15) (by decide +kernel), List.mem_of_getElem? (i := 478) (by decide +kernel), List.mem_of_getElem? (i := 479) (by decide +kernel)⟩
theorem lw_p10 : lw_okq (⟨"Followrow", "isFetched", "(II)Z"⟩, 8) := ⟨⟨by decide +kernel, by decide +kernel⟩, List.mem_of_getElem? (i := 15) (by decide +kernel), List.mem_of_getElem? (i := 486) (by decide +kernel), List.mem_of_getElem? (i := 487) (by decide +kernel)⟩
theorem lw_p11 : lw_okq (⟨"Followrow", "offer", "(II)V"⟩, 8) := ⟨⟨by decide +kernel, by decide +kernel⟩, List.mem_of_getElem? (i := 15) (by decide +kernel), List.mem_of_getElem? (i := 490) (by decide +kernel), List.mem_of_getElem? (i := 491) (by decide +kernel)⟩
theorem lw_p12 : lw_okq (⟨"Followrow", "isHidden", "(II)Z"⟩, 8) := ⟨⟨by decide +kernel, by decide +kernel⟩, List.mem_of_getElem? (i := 15) (by decide +kernel), List.mem_of_getElem? (i := 494) (by decide +kernel), List.mem_of_getElem? (i := 495) (by decide +kernel)⟩
theorem lw_p13 : lw_okq (⟨"Followrow", "mergeTimeline", "(II)V"⟩, 8) := ⟨⟨by decide +kernel, by decide +kernel⟩, List.mem_of_getElem? (i := 15) (by decide +kernel), List.mem_of_getElem? (i := 546) (by decide +kernel), List.mem_of_getElem? (i := 547) (by decide +kernel)⟩
theorem lw_p14 : lw_okq (⟨"FollowrowModel", "isFine", "(I)Z"⟩, 11) := ⟨⟨by decide +kernel, by decide +kernel⟩, List.mem_of_getElem? (i := 557) (by decide +kernel), List.mem_of_getElem? (i := 611) (by decide +kernel), List.mem_of_getElem? (i := 612) (by decide +kernel)⟩
theorem lw_p15 : lw_okq (⟨"FollowrowModel", "cuts", "()V"⟩, 11) := ⟨⟨by decide +kernel, by decide +kernel⟩, List.mem_of_getElem? (i := 557) (by decide +kernel), List.mem_of_getElem? (i := 615) (by decide +kernel), List.mem_of_getElem? (i := 616) (by decide +kernel)⟩
def lw_privs_1 : List (MethodName × Nat) := [(⟨"java/lang/Throwable", "fillInStackTrace", "(I)Ljava/lang/Throwable;"⟩, 6), (⟨"Followrow", "settleRows", "()V"⟩, 8), (⟨"Followrow", "settleRow", "(LFollowrow$Row;)V"⟩, 8), (⟨"Followrow", "isForRow", "(II)Z"⟩, 8), (⟨"Followrow", "isOverMark", "(I)Z"⟩, 8), (⟨"Followrow", "checkPlace", "()V"⟩, 8), (⟨"Followrow", "checkEntry", "(I)V"⟩, 8), (⟨"Followrow", "countLarge", "()I"⟩, 8), (⟨"Followrow", "rowOf", "(I)LFollowrow$Row;"⟩, 8), (⟨"Followrow", "readTimeline", "(LFollowrow$Row;)V"⟩, 8), (⟨"Followrow", "isFetched", "(II)Z"⟩, 8), (⟨"Followrow", "offer", "(II)V"⟩, 8), (⟨"Followrow", "isHidden", "(II)Z"⟩, 8), (⟨"Followrow", "mergeTimeline", "(II)V"⟩, 8), (⟨"FollowrowModel", "isFine", "(I)Z"⟩, 11), (⟨"FollowrowModel", "cuts", "()V"⟩, 11)]
theorem lw_r1 : ∀ q ∈ lw_privs_1, lw_okq q := List.forall_mem_cons.mpr ⟨lw_p0, List.forall_mem_cons.mpr ⟨lw_p1, List.forall_mem_cons.mpr ⟨lw_p2, List.forall_mem_cons.mpr ⟨lw_p3, List.forall_mem_cons.mpr ⟨lw_p4, List.forall_mem_cons.mpr ⟨lw_p5, List.forall_mem_cons.mpr ⟨lw_p6, List.forall_mem_cons.mpr ⟨lw_p7, List.forall_mem_cons.mpr ⟨lw_p8, List.forall_mem_cons.mpr ⟨lw_p9, List.forall_mem_cons.mpr ⟨lw_p10, List.forall_mem_cons.mpr ⟨lw_p11, List.forall_mem_cons.mpr ⟨lw_p12, List.forall_mem_cons.mpr ⟨lw_p13, List.forall_mem_cons.mpr ⟨lw_p14, List.forall_mem_cons.mpr ⟨lw_p15, fun _ h => absurd h List.not_mem_nil⟩⟩⟩⟩⟩⟩⟩⟩⟩⟩⟩⟩⟩⟩⟩⟩
theorem lw_p16 : lw_okq (⟨"FollowrowModel", "rowLength", "(I)I"⟩, 11) := ⟨⟨by decide +kernel, by decide +kernel⟩, List.mem_of_getElem? (i := 557) (by decide +kernel), List.mem_of_getElem? (i := 619) (by decide +kernel), List.mem_of_getElem? (i := 620) (by decide +kernel)⟩
theorem lw_p17 : lw_okq (⟨"FollowrowModel", "isInRow", "(II)Z"⟩, 11) := ⟨⟨by decide +kernel, by decide +kernel⟩, List.mem_of_getElem? (i := 557) (by decide +kernel), List.mem_of_getElem? (i := 623) (by decide +kernel), List.mem_of_getElem? (i := 624) (by decide +kernel)⟩
theorem lw_p18 : lw_okq (⟨"FollowrowModel", "large", "(I)Z"⟩, 11) := ⟨⟨by decide +kernel, by decide +kernel⟩, List.mem_of_getElem? (i := 557) (by decide +kernel), List.mem_of_getElem? (i := 627) (by decide +kernel), List.mem_of_getElem? (i := 628) (by decide +kernel)⟩
theorem lw_p19 : lw_okq (⟨"FollowrowModel", "followersOf", "(I)I"⟩, 11) := ⟨⟨by decide +kernel, by decide +kernel⟩, List.mem_of_getElem? (i := 557) (by decide +kernel), List.mem_of_getElem? (i := 631) (by decide +kernel), List.mem_of_getElem? (i := 632) (by decide +kernel)⟩
theorem lw_p20 : lw_okq (⟨"FollowrowModel", "makes", "(II)I"⟩, 11) := ⟨⟨by decide +kernel, by decide +kernel⟩, List.mem_of_getElem? (i := 557) (by decide +kernel), List.mem_of_getElem? (i := 651) (by decide +kernel), List.mem_of_getElem? (i := 652) (by decide +kernel)⟩
theorem lw_p21 : lw_okq (⟨"FollowrowModel", "isEntry", "(I)Z"⟩, 11) := ⟨⟨by decide +kernel, by decide +kernel⟩, List.mem_of_getElem? (i := 557) (by decide +kernel), List.mem_of_getElem? (i := 659) (by decide +kernel), List.mem_of_getElem? (i := 660) (by decide +kernel)⟩
theorem lw_p22 : lw_okq (⟨"FollowrowModel", "isShown", "(II)Z"⟩, 11) := ⟨⟨by decide +kernel, by decide +kernel⟩, List.mem_of_getElem? (i := 557) (by decide +kernel), List.mem_of_getElem? (i := 715) (by decide +kernel), List.mem_of_getElem? (i := 716) (by decide +kernel)⟩
theorem lw_p23 : lw_okq (⟨"FollowrowModel", "isDue", "(II)Z"⟩, 11) := ⟨⟨by decide +kernel, by decide +kernel⟩, List.mem_of_getElem? (i := 557) (by decide +kernel), List.mem_of_getElem? (i := 719) (by decide +kernel), List.mem_of_getElem? (i := 720) (by decide +kernel)⟩
theorem lw_p24 : lw_okq (⟨"FollowrowModel", "nextBelow", "(II)I"⟩, 11) := ⟨⟨by decide +kernel, by decide +kernel⟩, List.mem_of_getElem? (i := 557) (by decide +kernel), List.mem_of_getElem? (i := 727) (by decide +kernel), List.mem_of_getElem? (i := 728) (by decide +kernel)⟩
def lw_privs_2 : List (MethodName × Nat) := [(⟨"FollowrowModel", "rowLength", "(I)I"⟩, 11), (⟨"FollowrowModel", "isInRow", "(II)Z"⟩, 11), (⟨"FollowrowModel", "large", "(I)Z"⟩, 11), (⟨"FollowrowModel", "followersOf", "(I)I"⟩, 11), (⟨"FollowrowModel", "makes", "(II)I"⟩, 11), (⟨"FollowrowModel", "isEntry", "(I)Z"⟩, 11), (⟨"FollowrowModel", "isShown", "(II)Z"⟩, 11), (⟨"FollowrowModel", "isDue", "(II)Z"⟩, 11), (⟨"FollowrowModel", "nextBelow", "(II)I"⟩, 11)]
theorem lw_r2 : ∀ q ∈ lw_privs_2, lw_okq q := List.forall_mem_cons.mpr ⟨lw_p16, List.forall_mem_cons.mpr ⟨lw_p17, List.forall_mem_cons.mpr ⟨lw_p18, List.forall_mem_cons.mpr ⟨lw_p19, List.forall_mem_cons.mpr ⟨lw_p20, List.forall_mem_cons.mpr ⟨lw_p21, List.forall_mem_cons.mpr ⟨lw_p22, List.forall_mem_cons.mpr ⟨lw_p23, List.forall_mem_cons.mpr ⟨lw_p24, fun _ h => absurd h List.not_mem_nil⟩⟩⟩⟩⟩⟩⟩⟩⟩
def lw_privs : List (MethodName × Nat) := lw_privs_1 ++ (lw_privs_2)
def lw_tbl : List Cond := k2_sels lw_privs ++ tables_1
theorem lw_privs_ok : ∀ q ∈ lw_privs, lw_okq q := by
  show ∀ q ∈ lw_privs_1 ++ (lw_privs_2), lw_okq q
  exact List.forall_mem_append.mpr ⟨lw_r1, lw_r2⟩
-- ===== end of PART A; then your names; then what follows =====
/-! ===== BEGIN words of one list among another's, by their places ===== -/
theorem goodIn_r {big : List Cond} (ws : List Cond) (ps : List Nat) (hp : ws = ps.filterMap (fun i => big[i]?)) (h : ws.all goodWord = true) : GoodIn big ws := by
  intro w hw
  have h1 := List.all_eq_true.mp h w hw
  rw [hp] at hw
  obtain ⟨i, -, hi⟩ := List.mem_filterMap.mp hw
  have hm : w ∈ big := by first | exact List.mem_of_getElem? hi | exact List.getElem?_mem hi
  exact ⟨hm, good_of_word h1⟩
theorem goodIn_app {big a b : List Cond} (ha : GoodIn big a) (hb : GoodIn big b) : GoodIn big (a ++ b) := fun w h => (List.mem_append.mp h).elim (ha w) (hb w)
theorem goodIn_ca {big a b : List Cond} {c : Cond} (ha : GoodIn big (c :: a)) (hb : GoodIn big b) : GoodIn big (c :: (a ++ b)) := fun w h => (List.mem_cons.mp h).elim (fun e => ha w (List.mem_cons.mpr (Or.inl e))) (fun h => (List.mem_append.mp h).elim (fun h => ha w (List.mem_cons.mpr (Or.inr h))) (hb w))
theorem goodIn_sub {big ws : List Cond} (hm : ∀ w ∈ ws, w ∈ big) (h : ws.all goodWord = true) : GoodIn big ws := fun w hw => ⟨hm w hw, good_of_word (List.all_eq_true.mp h w hw)⟩
/-! ===== END ===== -/

/-! ===== BEGIN exceptions that leave a method, and their catching by the caller (launches without stack traces) ===== -/
section VXA
/-! The laws vx_back, vx_callV, vx_callS, vx_callSW, vx_throw0, vx_throwS follow proofs of the library, with one case more: JvmDerived/Free/Laws.lean (Back.of_free), Shelf42/LK1.lean (callV, callS), Shelf/KitTraced.lean (throwNew0V, throwNewS). -/
/-- where a method has thrown q: the class by its name, the cell, what was written, the world -/
def vx_T (XC : String → State → State → Prop) (st : State) (q : Addr) (t : State) (mc ms : Nat) (free : Addr → Prop) : Prop :=
  ∃ (E : String) (ce : Cell) (L : List Loc), XC E st t ∧ t.heap[q]? = some ce ∧ ce.vm = .none ∧ st.vm.findClass E = some ce.cls ∧ st.WarmedH t.vm ∧ st.sameButNew ({ t with vm := st.vm } : State) L mc ms ∧ ∀ z ∈ L, free z.base
def vx_Q (Qc : Array Value → State → Outcome → State → Prop) (XC : String → State → State → Prop) (mc ms : Nat) (free : Addr → Prop) : Array Value → State → Outcome → State → Prop := fun a st o t =>
  (Qc a st o t ∧ ∃ L, FrameEnd st o t L mc ms ∧ ∀ q ∈ L, free q.base) ∨ ∃ q, o = .threw q ∧ vx_T XC st q t mc ms free
/-- a callee that returns or throws -/
def vx_Met (l : Launch) (y : MethodName) (ws : List Cond) (rm : Room) (Pc : Array Value → State → Prop) (Qc : Array Value → State → Outcome → State → Prop) (XC : String → State → State → Prop) (mc ms : Nat) (free : Addr → Prop) : Prop :=
  MetFree l y (headSpec ws rm) Pc (fun _ _ _ _ _ => True) (vx_Q Qc XC mc ms free)
def vx_Post (XC : String → State → State → Prop) (mc ms : Nat) (free : Addr → Prop) : Pt → Array Value → Addr → Pt → Prop := fun A a q B =>
  ∃ (g : JFrame) (mk : MethodId) (t : State) (L : List Loc) (E : String) (ce : Cell), B.U.heap = t.heap ∧ B.U.vm = t.vm ∧ XC E (A.U.calling g mk a) t ∧ t.heap[q]? = some ce ∧ ce.vm = .none ∧ A.U.vm.findClass E = some ce.cls ∧ B.locs = A.locs ++ L ∧ (∀ z ∈ L, free z.base) ∧ B.cells = A.cells + mc ∧ B.slots = A.slots + ms
def vx_Back (l : Launch) (R : Room) (p : Program) (e : Env) (below : List Frame) (s : State) (sargs : Array Value) (y : MethodName) (len W9 : Nat)
    (Pre : Pt → Array Value → Prop) (Post : Pt → Array Value → Option Value → Pt → Prop) (PostX : Pt → Array Value → Addr → Pt → Prop) : Prop :=
  ∀ (m : MethodId) (meth : Method) (c : Code) (A : Pt) (g : JFrame) (ig : Instr) (mk : MethodId) (a : Array Value),
    Stand p l e R s m sargs below meth c A.U A.locs A.cells A.slots → g.method = m → g.locals.size = c.maxLocals → decode c.code g.pc = .ok (ig, len) →
    2 * g.monitorRoom + (g.stack.map fun v => v.category).sum ≤ W9 → A.U.methodNamed? y = some mk → Pre A a →
    (∃ (v : Option Value) (B : Pt), Stand p l e R s m sargs below meth c B.U B.locs B.cells B.slots ∧ Post A a v B ∧
      Steps p.tables e below (doInvoke e (A.U.setTop g) [] mk a).1 (B.U.setTop { g with pc := g.pc + len, stack := v.toList ++ g.stack })) ∨
    (∃ (q : Addr) (B : Pt), Stand p l e R s m sargs below meth c B.U B.locs B.cells B.slots ∧ PostX A a q B ∧
      Steps p.tables e below (doInvoke e (A.U.setTop g) [] mk a).1 ((B.U.setTop g).pushFrame (.throwing q)))
section Payer
variable {l : Launch} {R : Room} {p : Program} {e : Env} {below : List Frame} {s : State} {sargs : Array Value} {y : MethodName} {len W9 : Nat}
theorem vx_back {ws : List Cond} {rm : Room} {Pc : Array Value → State → Prop} {Qc : Array Value → State → Outcome → State → Prop} {XC : String → State → State → Prop} {mc ms : Nat} {free : Addr → Prop} {bytes : ByteArray} {maxL : Nat} {ret : Option FieldType}
    (hM : vx_Met l y ws rm Pc Qc XC mc ms free) (hblind : FrameBlind Pc) (hrc : rm.cells = mc) (hrs : rm.slots = ms)
    (hframes : rm.frames + 1 ≤ R.frames) (hlocals : W9 + (maxL + 11) + rm.locals ≤ R.locals)
    (hws : ∀ w ∈ ws, ∀ a' U, s.WarmedH U.vm → w.before a' U = true) (hcode : Cond.code y bytes maxL ret ∈ ws) (hinit : ∀ a' U, s.WarmedH U.vm → (Cond.initialized y.cls).before a' U = true) :
    vx_Back l R p e below s sargs y len W9 (PreOf R mc ms Pc) (PostOf Qc mc ms free) (vx_Post XC mc ms free) := by
  intro m meth c A g ig mk a X hg hsize hdg hW hn hp
  have h1 : (headSpec ws rm).pre.before a A.U = true := atoms_intro fun w hw => hws w hw _ _ X.warmed
  have h2 : (Cond.code y bytes maxL ret).before a A.U = true := hws _ hcode _ _ X.warmed
  have h3 : (Cond.initialized y.cls).before a A.U = true := hinit _ _ X.warmed
  have h4 : A.cells + (headSpec ws rm).room.cells ≤ R.cells := by rw [show (headSpec ws rm).room.cells = mc from hrc]; exact hp.1
  have h5 : A.slots + (headSpec ws rm).room.slots ≤ R.slots := by rw [show (headSpec ws rm).room.slots = ms from hrs]; exact hp.2.1
  have hPc : Pc a (A.U.calling g mk a) := hblind _ _ _ _ hp.2.2
  obtain ⟨U, Ls, c0, s0⟩ := A
  dsimp only [Pt.U, Pt.locs, Pt.cells, Pt.slots] at h1 h2 h3 h4 h5 X hn hPc ⊢
  obtain ⟨methY, cY, hmY, hcY, -, hlY, -, -, -, -⟩ := Cond.code_spec hn h2
  obtain ⟨kY, hkY, -⟩ := className_of_methodNamed hn
  have hinitY : kY.init = .initialized := Cond.initialized_spec (findClass_of_methodNamed hn) hkY h3
  have h : At U g.method c below := by rw [hg]; exact X.here
  have hlocals9 : W9 + (maxL + 11) + (headSpec ws rm).room.locals ≤ R.locals := hlocals
  have happ : (headSpec ws rm).appliesLoose y e.platform (U.calling g mk a) = true :=
    Spec.appliesLoose_calling (g := g) h hdg hn hkY hinitY
      (X.room_calling (g := g) (R' := (headSpec ws rm).room) hsize hmY hcY hframes (by rw [hlY]; omega) h4 h5) h1
  obtain ⟨mid, hmid⟩ := h.above
  have hfr : (U.setTop g).frames = (.java g :: mid) ++ below := by rw [State.frames_setTop' g h.top, hmid]; rfl
  obtain ⟨o, s₂, hsteps, -, hend, hq⟩ := Steps.callFree hM p X.admits X.cas X.clock (acts := []) hfr happ hPc trivial
  have hq' : vx_Q Qc XC mc ms free a (U.calling g mk a) o s₂ := hq
  rw [State.frames_setTop' g h.top] at hend
  obtain ⟨g₀, hg0⟩ := Option.isSome_iff_exists.mp h.top
  obtain ⟨r, hr⟩ := State.topJava?_eq_some.mp hg0
  have hr' : (({ U with heap := s₂.heap, slotsUsed := s₂.slotsUsed } : State).setVm s₂.vm).frames = .java g₀ :: r := hr
  rcases hq' with ⟨hqc, L, hfe, hL⟩ | ⟨q, rfl, E, ce, L, hx, hce, hcv, hcl, hW₂, hsm, hL⟩
  · obtain ⟨⟨v, rfl⟩, hW₂, e2, q2, q3, q4, q5, q6⟩ := id hfe
    have e3 : s₂ = ({ (U.calling g mk a).setFrames s₂.frames with heap := s₂.heap, slotsUsed := s₂.slotsUsed } : State).setVm s₂.vm := by
      have : s₂ = ({ s₂ with vm := (U.calling g mk a).vm } : State).setVm s₂.vm := rfl
      rw [e2] at this
      exact this
    obtain ⟨c₂, i₂, len₂, hc₂, hd₂, hf₂⟩ := hend
    have hW' : U.WarmedH s₂.vm := hW₂
    have hcc : c₂ = c := by
      have h1 : s₂.code? g.method = U.code? g.method := by
        rw [State.code?_eq, State.code?_eq, hW'.alike.method?]
      exact Option.some.inj (hc₂.symm.trans (h1.trans h.code))
    subst hcc
    have hlen : len₂ = len := by rw [hdg] at hd₂; cases hd₂; rfl
    subst hlen
    have hs₂ : s₂ = (({ U with heap := s₂.heap, slotsUsed := s₂.slotsUsed } : State).setVm s₂.vm).setTop { g with pc := g.pc + len₂, stack := v.toList ++ g.stack } := by
      refine e3.trans ?_
      rw [hf₂, State.calling_eq h.top, State.setFrames_setFrames, State.setTop_of_frames _ hr', hr]
      rfl
    have hsame : U.sameButNew ({ U with heap := s₂.heap, slotsUsed := s₂.slotsUsed } : State) L mc ms := by
      refine ⟨?_, q2, q3, q4, q5, q6⟩
      obtain ⟨t, ht, -⟩ := State.frames_cons hr
      show ({ U with heap := s₂.heap, slotsUsed := s₂.slotsUsed } : State) = { U.setFrames U.frames with heap := s₂.heap, slotsUsed := s₂.slotsUsed }
      rw [State.setFrames_self ht]
    subst hg
    refine Or.inl ⟨v, ⟨(({ U with heap := s₂.heap, slotsUsed := s₂.slotsUsed } : State).setVm s₂.vm), Ls ++ L, c0 + mc, s0 + ms⟩,
      ⟨X.admits, X.cas, X.clock, X.frames, X.room, X.hears, X.method, X.code, (X.here.setHeapUsed s₂.heap s₂.slotsUsed).setVm hW'.alike, X.tail, State.WarmedH.trans X.warmed hW', X.limits, X.bytes, X.same.trans (hsame.setVm s.vm)⟩,
      ⟨g, mk, s₂, L, rfl, rfl, hqc, rfl, hL, rfl, rfl⟩, ?_⟩
    show Steps p.tables e below _ ((({ U with heap := s₂.heap, slotsUsed := s₂.slotsUsed } : State).setVm s₂.vm).setTop { g with pc := g.pc + len₂, stack := v.toList ++ g.stack })
    rw [← hs₂]
    exact hsteps
  · obtain ⟨e2, q2, q3, q4, q5, q6⟩ := id hsm
    have e3 : s₂ = ({ (U.calling g mk a).setFrames s₂.frames with heap := s₂.heap, slotsUsed := s₂.slotsUsed } : State).setVm s₂.vm := by
      have : s₂ = ({ s₂ with vm := (U.calling g mk a).vm } : State).setVm s₂.vm := rfl
      rw [e2] at this
      exact this
    have hf₂ : s₂.frames = .throwing q :: .java g :: U.frames.tail := hend
    have hW' : U.WarmedH s₂.vm := hW₂
    have hs₂ : s₂ = ((({ U with heap := s₂.heap, slotsUsed := s₂.slotsUsed } : State).setVm s₂.vm).setTop g).pushFrame (.throwing q) := by
      refine e3.trans ?_
      rw [hf₂, State.calling_eq h.top, State.setFrames_setFrames, State.pushFrame, State.frames_setTop _ hr', State.setTop_of_frames _ hr', State.setFrames_setFrames, hr]
      rfl
    have hsame : U.sameButNew ({ U with heap := s₂.heap, slotsUsed := s₂.slotsUsed } : State) L mc ms := by
      refine ⟨?_, q2, q3, q4, q5, q6⟩
      obtain ⟨t, ht, -⟩ := State.frames_cons hr
      show ({ U with heap := s₂.heap, slotsUsed := s₂.slotsUsed } : State) = { U.setFrames U.frames with heap := s₂.heap, slotsUsed := s₂.slotsUsed }
      rw [State.setFrames_self ht]
    subst hg
    refine Or.inr ⟨q, ⟨(({ U with heap := s₂.heap, slotsUsed := s₂.slotsUsed } : State).setVm s₂.vm), Ls ++ L, c0 + mc, s0 + ms⟩,
      ⟨X.admits, X.cas, X.clock, X.frames, X.room, X.hears, X.method, X.code, (X.here.setHeapUsed s₂.heap s₂.slotsUsed).setVm hW'.alike, X.tail, State.WarmedH.trans X.warmed hW', X.limits, X.bytes, X.same.trans (hsame.setVm s.vm)⟩,
      ⟨g, mk, s₂, L, E, ce, rfl, rfl, hx, hce, hcv, hcl, rfl, hL, rfl, rfl⟩, ?_⟩
    show Steps p.tables e below _ (((({ U with heap := s₂.heap, slotsUsed := s₂.slotsUsed } : State).setVm s₂.vm).setTop g).pushFrame (.throwing q))
    rw [← hs₂]
    exact hsteps
end Payer
section Calls
variable {p : Program} {l : Launch} {e : Env} {R : Room} {s : State} {m : MethodId} {args : Array Value} {below : List Frame} {meth : Method} {c : Code} {T : State} {locs : List Loc} {cells slots : Nat}
theorem vx_callV (X : Stand p l e R s m args below meth c T locs cells slots) (hexec : p.tables.exec = Jvm.exec) {own C : String} {index : Nat} {y : MethodName} {bytes : ByteArray} {maxL : Nat} {ret : Option FieldType}
    (hown : s.vm.findClass own = some m.cls) (hlink : (Cond.methodLink own index y).before args s = true) (hinst : (Cond.instanceMethod y).before args s = true) (hsel : (Cond.selects C y y).before args s = true)
    (hcode : (Cond.code y bytes maxL ret).before args s = true) (hy : y.cls ≠ "java/lang/invoke/MethodHandle" ∧ y.cls ≠ "java/lang/invoke/VarHandle")
    {W9 : Nat} {Pre : Pt → Array Value → Prop} {Post : Pt → Array Value → Option Value → Pt → Prop} {PostX : Pt → Array Value → Addr → Pt → Prop} (hK : vx_Back l R p e below s args y 3 W9 Pre Post PostX)
    {b : Addr} {cellB : Cell} (hcell : T.heap[b]? = some cellB) (hobj : cellB.vm.isStatics = false) (hcls : s.vm.findClass C = some cellB.cls)
    {g : JFrame} (hg : g.method = m) (hsize : g.locals.size = c.maxLocals) {argsL rest : List Value} (hlen : ∀ sig, parseMethodDescriptor y.desc = some sig → argsL.length = sig.parameters.length)
    (hstack : g.stack = argsL.reverse ++ .ref b :: rest) (hW : 2 * g.monitorRoom + (rest.map fun v => v.category).sum ≤ W9) (hdg : decode c.code g.pc = .ok (.invokevirtual index, 3))
    (hpre : ∀ vm₁, s.WarmedH vm₁ → Pre ⟨T.setVm vm₁, locs, cells, slots⟩ (Value.ref b :: argsL).toArray) :
    (∃ (v : Option Value) (vm₁ : Vm) (B : Pt), s.WarmedH vm₁ ∧ Stand p l e R s m args below meth c B.U B.locs B.cells B.slots ∧ Post ⟨T.setVm vm₁, locs, cells, slots⟩ (Value.ref b :: argsL).toArray v B ∧
      ∀ target, Steps p.tables e below (B.U.setTop { g with pc := g.pc + 3, stack := v.toList ++ rest }) target → Steps p.tables e below (T.setTop g) target) ∨
    (∃ (q : Addr) (vm₁ : Vm) (B : Pt), s.WarmedH vm₁ ∧ Stand p l e R s m args below meth c B.U B.locs B.cells B.slots ∧ PostX ⟨T.setVm vm₁, locs, cells, slots⟩ (Value.ref b :: argsL).toArray q B ∧
      Steps p.tables e below (T.setTop g) ((B.U.setTop { g with stack := rest }).pushFrame (.throwing q))) := by
  obtain ⟨mk, methM, hnamed, hmethM, hstM, habM⟩ := Cond.instanceMethod_spec hinst
  obtain ⟨methM', cM, hmethM', -, -, -, -, -, -, hsigM⟩ := Cond.code_spec hnamed hcode
  cases hmethM.symm.trans hmethM'
  obtain ⟨c2, r2, m2, q1, q2, q3, q4, kP, hkP, hkPi⟩ := Cond.selects_spec hsel
  cases hcls.symm.trans q1
  cases (State.methodFound?_of_named hnamed hy).symm.trans q2
  cases hnamed.symm.trans q3
  have hselP : selectMethod e.platform s.vm cellB.cls mk = .method mk := by rw [Launch.admits_selectMethod X.admits]; exact q4
  obtain ⟨vm₁, X₁, hstep₁⟩ := X.invokevirtual hexec hown hlink hnamed hmethM hstM hkP hkPi hy (a := b) (cell := cellB) hcell
    (fun z h => by rw [h] at hobj; cases hobj) hselP hmethM habM hkP hkPi (g := g) hg (argsL := argsL) (rest := rest) (hlen _ hsigM) hstack hdg
  rcases hK m meth c ⟨T.setVm vm₁, locs, cells, slots⟩ { g with stack := rest } (.invokevirtual index) mk (Value.ref b :: argsL).toArray X₁ hg hsize hdg hW (X₁.named hnamed) (hpre vm₁ X₁.warmed) with ⟨v, B, X', hpost, hsteps⟩ | ⟨q, B, X', hpost, hsteps⟩
  · exact Or.inl ⟨v, vm₁, B, X₁.warmed, X', hpost, fun target h => hstep₁ _ fun acts => by rw [doInvoke_state]; exact hsteps.trans h⟩
  · exact Or.inr ⟨q, vm₁, B, X₁.warmed, X', hpost, hstep₁ _ fun acts => by rw [doInvoke_state]; exact hsteps⟩
theorem vx_callS (X : Stand p l e R s m args below meth c T locs cells slots) (hexec : p.tables.exec = Jvm.exec) {own : String} {index : Nat} {y : MethodName} {bytes : ByteArray} {maxL : Nat} {ret : Option FieldType}
    (hown : s.vm.findClass own = some m.cls) (hlink : (Cond.methodLink own index y).before args s = true) (hstat : (Cond.static y).before args s = true) (hinit : (Cond.initialized y.cls).before args s = true)
    (hcode : (Cond.code y bytes maxL ret).before args s = true) (hy : y.cls ≠ "java/lang/invoke/MethodHandle" ∧ y.cls ≠ "java/lang/invoke/VarHandle")
    {W9 : Nat} {Pre : Pt → Array Value → Prop} {Post : Pt → Array Value → Option Value → Pt → Prop} {PostX : Pt → Array Value → Addr → Pt → Prop} (hK : vx_Back l R p e below s args y 3 W9 Pre Post PostX)
    {g : JFrame} (hg : g.method = m) (hsize : g.locals.size = c.maxLocals) {argsL rest : List Value} (hlen : ∀ sig, parseMethodDescriptor y.desc = some sig → argsL.length = sig.parameters.length)
    (hstack : g.stack = argsL.reverse ++ rest) (hW : 2 * g.monitorRoom + (rest.map fun v => v.category).sum ≤ W9) (hdg : decode c.code g.pc = .ok (.invokestatic index, 3))
    (hpre : ∀ vm₁, s.WarmedH vm₁ → Pre ⟨T.setVm vm₁, locs, cells, slots⟩ argsL.toArray) :
    (∃ (v : Option Value) (vm₁ : Vm) (B : Pt), s.WarmedH vm₁ ∧ Stand p l e R s m args below meth c B.U B.locs B.cells B.slots ∧ Post ⟨T.setVm vm₁, locs, cells, slots⟩ argsL.toArray v B ∧
      ∀ target, Steps p.tables e below (B.U.setTop { g with pc := g.pc + 3, stack := v.toList ++ rest }) target → Steps p.tables e below (T.setTop g) target) ∨
    (∃ (q : Addr) (vm₁ : Vm) (B : Pt), s.WarmedH vm₁ ∧ Stand p l e R s m args below meth c B.U B.locs B.cells B.slots ∧ PostX ⟨T.setVm vm₁, locs, cells, slots⟩ argsL.toArray q B ∧
      Steps p.tables e below (T.setTop g) ((B.U.setTop { g with stack := rest }).pushFrame (.throwing q))) := by
  obtain ⟨mk, hnamed⟩ := Cond.code_named hcode
  obtain ⟨methM, cM, hmethM, -, -, -, -, -, -, hsigM⟩ := Cond.code_spec hnamed hcode
  have hstatic : methM.isStatic = true := Cond.static_spec hnamed hmethM hstat
  obtain ⟨kP, hkP, -⟩ := className_of_methodNamed hnamed
  have hinitP : kP.init = .initialized := Cond.initialized_spec (findClass_of_methodNamed hnamed) hkP hinit
  obtain ⟨vm₁, X₁, hstep₁⟩ := X.invokestatic hexec hown hlink hnamed hmethM hstatic hkP hinitP hy (g := g) hg (argsL := argsL) (rest := rest) (hlen _ hsigM) hstack hdg
  rcases hK m meth c ⟨T.setVm vm₁, locs, cells, slots⟩ { g with stack := rest } (.invokestatic index) mk argsL.toArray X₁ hg hsize hdg hW (X₁.named hnamed) (hpre vm₁ X₁.warmed) with ⟨v, B, X', hpost, hsteps⟩ | ⟨q, B, X', hpost, hsteps⟩
  · exact Or.inl ⟨v, vm₁, B, X₁.warmed, X', hpost, fun target h => hstep₁ _ fun acts => by rw [doInvoke_state]; exact hsteps.trans h⟩
  · exact Or.inr ⟨q, vm₁, B, X₁.warmed, X', hpost, hstep₁ _ fun acts => by rw [doInvoke_state]; exact hsteps⟩
end Calls
theorem vx_cls {s : State} {T : State} {vm₁ : Vm} {E : String} {k : ClassId} (hW : s.WarmedH vm₁) (h : (T.setVm vm₁).vm.findClass E = some k) : s.vm.findClass E = some k := by
  have h1 : vm₁.findClass E = some k := h
  rw [hW.alike.findClass] at h1
  exact h1
/-- the method's frame g, with q thrown over it -/
def vx_W (p : Program) (l : Launch) (e : Env) (R : Room) (s : State) (m : MethodId) (args : Array Value) (below : List Frame) (meth : Method) (c : Code) (H : Heap) (locs : List Loc) (cells slots : Nat) (Q : State → Prop) (g : JFrame) (q : Addr) : Prop :=
  ∀ T : State, T.heap = H → Stand p l e R s m args below meth c T locs cells slots → ∃ t, Steps p.tables e below ((T.setTop g).pushFrame (.throwing q)) t ∧ Q t
def vx_Run (p : Program) (l : Launch) (e : Env) (R : Room) (s : State) (m : MethodId) (args : Array Value) (below : List Frame) (meth : Method) (c : Code) (H : Heap) (locs : List Loc) (cells slots mc ms : Nat) (g : JFrame) (rest : List Value) (Qa : State → Outcome → State → Prop) (XC : String → State → State → Prop) (free : Addr → Prop) : Prop :=
  ∀ T : State, T.heap = H → Stand p l e R s m args below meth c T locs cells slots →
    (∃ (v : Option Value) (st₀ t T' : State) (L : List Loc), st₀.heap = H ∧ Stand p l e R s m args below meth c T' (locs ++ L) (cells + mc) (slots + ms) ∧ (∀ q ∈ L, free q.base) ∧ T'.heap = t.heap ∧ T'.vm = t.vm ∧ Qa st₀ (.returned v) t ∧
      Goes p e below T g T' { g with pc := g.pc + 3, stack := v.toList ++ rest }) ∨
    (∃ (q : Addr) (st₀ t T' : State) (L : List Loc) (E : String) (ce : Cell), st₀.heap = H ∧ Stand p l e R s m args below meth c T' (locs ++ L) (cells + mc) (slots + ms) ∧ (∀ z ∈ L, free z.base) ∧ T'.heap = t.heap ∧ T'.vm = t.vm ∧ XC E st₀ t ∧ t.heap[q]? = some ce ∧ ce.vm = .none ∧ s.vm.findClass E = some ce.cls ∧
      Steps p.tables e below (T.setTop g) ((T'.setTop { g with stack := rest }).pushFrame (.throwing q)))
def vx_X {S : Type} (px : S → Prop) (B : String → S → State → Prop) (A : Nat → Prop) : String → State → State → Prop := fun E st t => ∃ u : S, px u ∧ B E u t ∧ va_F A st t
section Runs
variable {p : Program} {l : Launch} {e : Env} {R : Room} {s : State} {m : MethodId} {args : Array Value} {below : List Frame} {meth : Method} {c : Code} {H : Heap} {locs : List Loc} {cells slots : Nat}
variable {y : MethodName} {bytes cc : ByteArray} {maxL nL mc ms n index : Nat} {ret : Option FieldType} {ws : List Cond} {rm : Room} {Pc : Array Value → State → Prop} {Qc : Array Value → State → Outcome → State → Prop} {XC : String → State → State → Prop} {free : Addr → Prop} {Ts : List Cond} {own C : String} {b : Addr} {As rest : List Value} {g : JFrame}
theorem vx_callBack (cb : CallB R s args own index y bytes maxL ret ws rm mc ms n) (hM : vx_Met l y ws rm Pc Qc XC mc ms free) (hbl : FrameBlind Pc) : vx_Back l R p e below s args y 3 8 (PreOf R mc ms Pc) (PostOf Qc mc ms free) (vx_Post XC mc ms free) := by
  obtain ⟨hrc, hrs, hfr, hlo, hws, hcw, -, hini, -⟩ := cb
  exact vx_back (bytes := bytes) (maxL := maxL) (ret := ret) hM hbl hrc hrs hfr hlo hws hcw (fun a' U hW => word_at hW (Or.inl (by first | rfl | simp [Cond.onTables, Cond.keeps, Cond.steady])) hini)
theorem vx_runV (S : CallFix p m c cc nL s args Ts own) (hM : vx_Met l y ws rm Pc Qc XC mc ms free) (cw : CallW R s args own C index y bytes maxL ret ws rm mc ms n) (hp : PreV s H C b Pc As)
    (hg : g.method = m) (hn : As.length = n) (hsize : g.locals.size = nL) (hstack : g.stack = As.reverse ++ .ref b :: rest) (hW : 2 * g.monitorRoom + (rest.map fun v => v.category).sum ≤ 8) (hdg : decode cc g.pc = .ok (.invokevirtual index, 3)) (hf : cells + mc ≤ R.cells ∧ slots + ms ≤ R.slots) :
    vx_Run p l e R s m args below meth c H locs cells slots mc ms g rest (Qc (Value.ref b :: As).toArray) XC free := by
  have hK : vx_Back l R p e below s args y 3 8 (PreOf R mc ms Pc) (PostOf Qc mc ms free) (vx_Post XC mc ms free) := vx_callBack cw.1 hM hp.1
  obtain ⟨⟨-, -, -, -, -, -, hcode, -, hy, hlen, hl⟩, hin, hse⟩ := cw
  obtain ⟨hx, hb, hml, ho, -⟩ := S
  obtain ⟨-, ⟨cellB, hcB, hoB, hclB⟩, hPc⟩ := hp
  intro T hT X
  rcases vx_callV X hx (C := C) (bytes := bytes) (maxL := maxL) (ret := ret) ho hl hin hse hcode hy hK (by rw [hT]; exact hcB) hoB hclB hg (hsize.trans hml.symm) (argsL := As) (rest := rest) (fun sig h => hn.trans (hlen sig h)) hstack hW (by rw [hb]; exact hdg)
    (fun vm₁ hW₁ => ⟨hf.1, hf.2, hPc (T.setVm vm₁) hT hW₁⟩) with ⟨v, vm₁, ⟨U', l2, c2, s2⟩, hW₁, X', ⟨g', mk, t, L, e1, e2, hq, h1, hL, h2, h3⟩, st⟩ | ⟨q, vm₁, ⟨U', l2, c2, s2⟩, hW₁, X', ⟨g', mk, t, L, E, ce, e1, e2, hq, hce, hcv, hcl, h1, hL, h2, h3⟩, st⟩
  · dsimp only [Pt.U, Pt.locs, Pt.cells, Pt.slots] at X' e1 e2 h1 h2 h3 st
    subst h1; subst h2; subst h3
    exact Or.inl ⟨v, (T.setVm vm₁).calling g' mk (Value.ref b :: As).toArray, t, U', L, hT, X', hL, e1, e2, hq, st⟩
  · dsimp only [Pt.U, Pt.locs, Pt.cells, Pt.slots] at X' e1 e2 h1 h2 h3 st hcl
    subst h1; subst h2; subst h3
    exact Or.inr ⟨q, (T.setVm vm₁).calling g' mk (Value.ref b :: As).toArray, t, U', L, E, ce, hT, X', hL, e1, e2, hq, hce, hcv, vx_cls hW₁ hcl, st⟩
theorem vx_runS (S : CallFix p m c cc nL s args Ts own) (hM : vx_Met l y ws rm Pc Qc XC mc ms free) (cw : CallB R s args own index y bytes maxL ret ws rm mc ms n ∧ (Cond.static y).before args s = true) (hp : PreS s H Pc As)
    (hg : g.method = m) (hn : As.length = n) (hsize : g.locals.size = nL) (hstack : g.stack = As.reverse ++ rest) (hW : 2 * g.monitorRoom + (rest.map fun v => v.category).sum ≤ 8) (hdg : decode cc g.pc = .ok (.invokestatic index, 3)) (hf : cells + mc ≤ R.cells ∧ slots + ms ≤ R.slots) :
    vx_Run p l e R s m args below meth c H locs cells slots mc ms g rest (Qc As.toArray) XC free := by
  have hK : vx_Back l R p e below s args y 3 8 (PreOf R mc ms Pc) (PostOf Qc mc ms free) (vx_Post XC mc ms free) := vx_callBack cw.1 hM hp.1
  obtain ⟨⟨-, -, -, -, -, -, hcode, hini, hy, hlen, hl⟩, hstt⟩ := cw
  obtain ⟨hx, hb, hml, ho, -⟩ := S
  intro T hT X
  rcases vx_callS X hx (bytes := bytes) (maxL := maxL) (ret := ret) ho hl hstt hini hcode hy hK hg (hsize.trans hml.symm) (argsL := As) (rest := rest) (fun sig h => hn.trans (hlen sig h)) hstack hW (by rw [hb]; exact hdg)
    (fun vm₁ hW₁ => ⟨hf.1, hf.2, hp.2 (T.setVm vm₁) hT hW₁⟩) with ⟨v, vm₁, ⟨U', l2, c2, s2⟩, hW₁, X', ⟨g', mk, t, L, e1, e2, hq, h1, hL, h2, h3⟩, st⟩ | ⟨q, vm₁, ⟨U', l2, c2, s2⟩, hW₁, X', ⟨g', mk, t, L, E, ce, e1, e2, hq, hce, hcv, hcl, h1, hL, h2, h3⟩, st⟩
  · dsimp only [Pt.U, Pt.locs, Pt.cells, Pt.slots] at X' e1 e2 h1 h2 h3 st
    subst h1; subst h2; subst h3
    exact Or.inl ⟨v, (T.setVm vm₁).calling g' mk As.toArray, t, U', L, hT, X', hL, e1, e2, hq, st⟩
  · dsimp only [Pt.U, Pt.locs, Pt.cells, Pt.slots] at X' e1 e2 h1 h2 h3 st hcl
    subst h1; subst h2; subst h3
    exact Or.inr ⟨q, (T.setVm vm₁).calling g' mk As.toArray, t, U', L, E, ce, hT, X', hL, e1, e2, hq, hce, hcv, vx_cls hW₁ hcl, st⟩
end Runs
section Rows
variable {p : Program} {l : Launch} {e : Env} {R : Room} {s : State} {m : MethodId} {args : Array Value} {below : List Frame} {meth : Method} {c : Code} {H : Heap} {locs : List Loc} {cells slots : Nat} {Q : State → Prop}
variable {mc ms : Nat} {free : Addr → Prop} {A0 A1 : Nat → Prop} {H0 : Heap} {a : Array Value} {pc : Nat} {ls : Array Slot} {st0 rest : List Value}
theorem vx_keep {st₀ t T' : State} {L : List Loc} (h0 : st₀.heap = H) (e1 : T'.heap = t.heap) (hS : va_S A0 H0 H locs) (hA : ∀ q, q < H.size → A1 q → A0 q) (hf : ∀ q, free q → A0 q) (hL : ∀ q ∈ L, free q.base) (hF : va_F A1 st₀ t) :
    H.size ≤ T'.heap.size ∧ (∀ q : Nat, q < H.size → ¬ A1 q → T'.heap[q]? = H[q]?) ∧ va_S A0 H0 T'.heap (locs ++ L) := by
  obtain ⟨hz, hk⟩ := hF
  rw [h0] at hz hk
  exact ⟨by rw [e1]; exact hz, fun q h1 h2 => by rw [e1]; exact hk q h1 h2,
    ⟨Nat.le_trans hS.1 (by rw [e1]; exact hz), fun q h1 h2 => by rw [e1, hk q (Nat.lt_of_lt_of_le h1 hS.1) (fun z => h2 (hA q (Nat.lt_of_lt_of_le h1 hS.1) z))]; exact hS.2.1 q h1 h2, fun q hq => by
      rcases List.mem_append.mp hq with h | h
      · exact hS.2.2 q h
      · exact hf _ (hL q h)⟩⟩
theorem vx_calli {S SX : Type} {post : Int32 → S → Prop} {px : SX → Prop} {B : S → State → Prop} {BX : String → SX → State → Prop} {AX : Nat → Prop} (hr : vx_Run p l e R s m args below meth c H locs cells slots mc ms (F0 m pc ls st0) rest (va_Qi post B A1 a) (vx_X px BX AX) free) (hS : va_S A0 H0 H locs) (hA : ∀ q, q < H.size → A1 q → A0 q) (hf : ∀ q, free q → A0 q) (hAX : ∀ q, q < H.size → AX q → A0 q)
    (kx : ∀ (E : String) (ce : Cell) (q9 : Addr) (u : SX) (t : State) (H1 : Heap) (locs1 : List Loc), t.heap = H1 → s.vm.Alike t.vm → px u → BX E u t → H.size ≤ H1.size → (∀ q : Nat, q < H.size → ¬ AX q → H1[q]? = H[q]?) → va_S A0 H0 H1 locs1 → H1[q9]? = some ce → ce.vm = .none → s.vm.findClass E = some ce.cls → vx_W p l e R s m args below meth c H1 locs1 (cells + mc) (slots + ms) Q (F0 m pc ls rest) q9)
    (kk : ∀ (r : Int32) (u : S) (t : State) (H1 : Heap) (locs1 : List Loc), t.heap = H1 → s.vm.Alike t.vm → post r u → B u t → H.size ≤ H1.size → (∀ q : Nat, q < H.size → ¬ A1 q → H1[q]? = H[q]?) → va_S A0 H0 H1 locs1 → W p l e R s m args below meth c H1 locs1 (cells + mc) (slots + ms) Q (F0 m (pc + 3) ls (.int r :: rest))) : W p l e R s m args below meth c H locs cells slots Q (F0 m pc ls st0) := by
  intro T hT X
  rcases hr T hT X with ⟨v, st₀, t, T', L, h0, X', hL, e1, e2, ⟨⟨r, u, hv, hp, hb⟩, hF⟩, st⟩ | ⟨q, st₀, t, T', L, E, ce, h0, X', hL, e1, e2, ⟨u, hp, hb, hF⟩, hce, hcv, hcl, st⟩
  · cases hv
    obtain ⟨k1, k2, k3⟩ := vx_keep h0 e1 hS hA hf hL hF
    obtain ⟨t2, a1, b1⟩ := kk r u t T'.heap (locs ++ L) e1.symm (by rw [← e2]; exact X'.warmed.alike) hp hb k1 k2 k3 T' rfl X'
    exact ⟨t2, st t2 a1, b1⟩
  · obtain ⟨k1, k2, k3⟩ := vx_keep h0 e1 hS hAX hf hL hF
    obtain ⟨t2, a1, b1⟩ := kx E ce q u t T'.heap (locs ++ L) e1.symm (by rw [← e2]; exact X'.warmed.alike) hp hb k1 k2 k3 (by rw [e1]; exact hce) hcv hcl T' rfl X'
    exact ⟨t2, st.trans a1, b1⟩
theorem vx_calll {S SX : Type} {post : Int64 → S → Prop} {px : SX → Prop} {B : S → State → Prop} {BX : String → SX → State → Prop} {AX : Nat → Prop} (hr : vx_Run p l e R s m args below meth c H locs cells slots mc ms (F0 m pc ls st0) rest (va_Ql post B A1 a) (vx_X px BX AX) free) (hS : va_S A0 H0 H locs) (hA : ∀ q, q < H.size → A1 q → A0 q) (hf : ∀ q, free q → A0 q) (hAX : ∀ q, q < H.size → AX q → A0 q)
    (kx : ∀ (E : String) (ce : Cell) (q9 : Addr) (u : SX) (t : State) (H1 : Heap) (locs1 : List Loc), t.heap = H1 → s.vm.Alike t.vm → px u → BX E u t → H.size ≤ H1.size → (∀ q : Nat, q < H.size → ¬ AX q → H1[q]? = H[q]?) → va_S A0 H0 H1 locs1 → H1[q9]? = some ce → ce.vm = .none → s.vm.findClass E = some ce.cls → vx_W p l e R s m args below meth c H1 locs1 (cells + mc) (slots + ms) Q (F0 m pc ls rest) q9)
    (kk : ∀ (r : Int64) (u : S) (t : State) (H1 : Heap) (locs1 : List Loc), t.heap = H1 → s.vm.Alike t.vm → post r u → B u t → H.size ≤ H1.size → (∀ q : Nat, q < H.size → ¬ A1 q → H1[q]? = H[q]?) → va_S A0 H0 H1 locs1 → W p l e R s m args below meth c H1 locs1 (cells + mc) (slots + ms) Q (F0 m (pc + 3) ls (.long r :: rest))) : W p l e R s m args below meth c H locs cells slots Q (F0 m pc ls st0) := by
  intro T hT X
  rcases hr T hT X with ⟨v, st₀, t, T', L, h0, X', hL, e1, e2, ⟨⟨r, u, hv, hp, hb⟩, hF⟩, st⟩ | ⟨q, st₀, t, T', L, E, ce, h0, X', hL, e1, e2, ⟨u, hp, hb, hF⟩, hce, hcv, hcl, st⟩
  · cases hv
    obtain ⟨k1, k2, k3⟩ := vx_keep h0 e1 hS hA hf hL hF
    obtain ⟨t2, a1, b1⟩ := kk r u t T'.heap (locs ++ L) e1.symm (by rw [← e2]; exact X'.warmed.alike) hp hb k1 k2 k3 T' rfl X'
    exact ⟨t2, st t2 a1, b1⟩
  · obtain ⟨k1, k2, k3⟩ := vx_keep h0 e1 hS hAX hf hL hF
    obtain ⟨t2, a1, b1⟩ := kx E ce q u t T'.heap (locs ++ L) e1.symm (by rw [← e2]; exact X'.warmed.alike) hp hb k1 k2 k3 (by rw [e1]; exact hce) hcv hcl T' rfl X'
    exact ⟨t2, st.trans a1, b1⟩
theorem vx_callf {S SX : Type} {post : UInt32 → S → Prop} {px : SX → Prop} {B : S → State → Prop} {BX : String → SX → State → Prop} {AX : Nat → Prop} (hr : vx_Run p l e R s m args below meth c H locs cells slots mc ms (F0 m pc ls st0) rest (va_Qf post B A1 a) (vx_X px BX AX) free) (hS : va_S A0 H0 H locs) (hA : ∀ q, q < H.size → A1 q → A0 q) (hf : ∀ q, free q → A0 q) (hAX : ∀ q, q < H.size → AX q → A0 q)
    (kx : ∀ (E : String) (ce : Cell) (q9 : Addr) (u : SX) (t : State) (H1 : Heap) (locs1 : List Loc), t.heap = H1 → s.vm.Alike t.vm → px u → BX E u t → H.size ≤ H1.size → (∀ q : Nat, q < H.size → ¬ AX q → H1[q]? = H[q]?) → va_S A0 H0 H1 locs1 → H1[q9]? = some ce → ce.vm = .none → s.vm.findClass E = some ce.cls → vx_W p l e R s m args below meth c H1 locs1 (cells + mc) (slots + ms) Q (F0 m pc ls rest) q9)
    (kk : ∀ (r : UInt32) (u : S) (t : State) (H1 : Heap) (locs1 : List Loc), t.heap = H1 → s.vm.Alike t.vm → post r u → B u t → H.size ≤ H1.size → (∀ q : Nat, q < H.size → ¬ A1 q → H1[q]? = H[q]?) → va_S A0 H0 H1 locs1 → W p l e R s m args below meth c H1 locs1 (cells + mc) (slots + ms) Q (F0 m (pc + 3) ls (.float r :: rest))) : W p l e R s m args below meth c H locs cells slots Q (F0 m pc ls st0) := by
  intro T hT X
  rcases hr T hT X with ⟨v, st₀, t, T', L, h0, X', hL, e1, e2, ⟨⟨r, u, hv, hp, hb⟩, hF⟩, st⟩ | ⟨q, st₀, t, T', L, E, ce, h0, X', hL, e1, e2, ⟨u, hp, hb, hF⟩, hce, hcv, hcl, st⟩
  · cases hv
    obtain ⟨k1, k2, k3⟩ := vx_keep h0 e1 hS hA hf hL hF
    obtain ⟨t2, a1, b1⟩ := kk r u t T'.heap (locs ++ L) e1.symm (by rw [← e2]; exact X'.warmed.alike) hp hb k1 k2 k3 T' rfl X'
    exact ⟨t2, st t2 a1, b1⟩
  · obtain ⟨k1, k2, k3⟩ := vx_keep h0 e1 hS hAX hf hL hF
    obtain ⟨t2, a1, b1⟩ := kx E ce q u t T'.heap (locs ++ L) e1.symm (by rw [← e2]; exact X'.warmed.alike) hp hb k1 k2 k3 (by rw [e1]; exact hce) hcv hcl T' rfl X'
    exact ⟨t2, st.trans a1, b1⟩
theorem vx_calld {S SX : Type} {post : UInt64 → S → Prop} {px : SX → Prop} {B : S → State → Prop} {BX : String → SX → State → Prop} {AX : Nat → Prop} (hr : vx_Run p l e R s m args below meth c H locs cells slots mc ms (F0 m pc ls st0) rest (va_Qd post B A1 a) (vx_X px BX AX) free) (hS : va_S A0 H0 H locs) (hA : ∀ q, q < H.size → A1 q → A0 q) (hf : ∀ q, free q → A0 q) (hAX : ∀ q, q < H.size → AX q → A0 q)
    (kx : ∀ (E : String) (ce : Cell) (q9 : Addr) (u : SX) (t : State) (H1 : Heap) (locs1 : List Loc), t.heap = H1 → s.vm.Alike t.vm → px u → BX E u t → H.size ≤ H1.size → (∀ q : Nat, q < H.size → ¬ AX q → H1[q]? = H[q]?) → va_S A0 H0 H1 locs1 → H1[q9]? = some ce → ce.vm = .none → s.vm.findClass E = some ce.cls → vx_W p l e R s m args below meth c H1 locs1 (cells + mc) (slots + ms) Q (F0 m pc ls rest) q9)
    (kk : ∀ (r : UInt64) (u : S) (t : State) (H1 : Heap) (locs1 : List Loc), t.heap = H1 → s.vm.Alike t.vm → post r u → B u t → H.size ≤ H1.size → (∀ q : Nat, q < H.size → ¬ A1 q → H1[q]? = H[q]?) → va_S A0 H0 H1 locs1 → W p l e R s m args below meth c H1 locs1 (cells + mc) (slots + ms) Q (F0 m (pc + 3) ls (.double r :: rest))) : W p l e R s m args below meth c H locs cells slots Q (F0 m pc ls st0) := by
  intro T hT X
  rcases hr T hT X with ⟨v, st₀, t, T', L, h0, X', hL, e1, e2, ⟨⟨r, u, hv, hp, hb⟩, hF⟩, st⟩ | ⟨q, st₀, t, T', L, E, ce, h0, X', hL, e1, e2, ⟨u, hp, hb, hF⟩, hce, hcv, hcl, st⟩
  · cases hv
    obtain ⟨k1, k2, k3⟩ := vx_keep h0 e1 hS hA hf hL hF
    obtain ⟨t2, a1, b1⟩ := kk r u t T'.heap (locs ++ L) e1.symm (by rw [← e2]; exact X'.warmed.alike) hp hb k1 k2 k3 T' rfl X'
    exact ⟨t2, st t2 a1, b1⟩
  · obtain ⟨k1, k2, k3⟩ := vx_keep h0 e1 hS hAX hf hL hF
    obtain ⟨t2, a1, b1⟩ := kx E ce q u t T'.heap (locs ++ L) e1.symm (by rw [← e2]; exact X'.warmed.alike) hp hb k1 k2 k3 (by rw [e1]; exact hce) hcv hcl T' rfl X'
    exact ⟨t2, st.trans a1, b1⟩
theorem vx_callv {S SX : Type} {post : S → Prop} {px : SX → Prop} {B : S → State → Prop} {BX : String → SX → State → Prop} {AX : Nat → Prop} (hr : vx_Run p l e R s m args below meth c H locs cells slots mc ms (F0 m pc ls st0) rest (va_Qv post B A1 a) (vx_X px BX AX) free) (hS : va_S A0 H0 H locs) (hA : ∀ q, q < H.size → A1 q → A0 q) (hf : ∀ q, free q → A0 q) (hAX : ∀ q, q < H.size → AX q → A0 q)
    (kx : ∀ (E : String) (ce : Cell) (q9 : Addr) (u : SX) (t : State) (H1 : Heap) (locs1 : List Loc), t.heap = H1 → s.vm.Alike t.vm → px u → BX E u t → H.size ≤ H1.size → (∀ q : Nat, q < H.size → ¬ AX q → H1[q]? = H[q]?) → va_S A0 H0 H1 locs1 → H1[q9]? = some ce → ce.vm = .none → s.vm.findClass E = some ce.cls → vx_W p l e R s m args below meth c H1 locs1 (cells + mc) (slots + ms) Q (F0 m pc ls rest) q9)
    (kk : ∀ (u : S) (t : State) (H1 : Heap) (locs1 : List Loc), t.heap = H1 → s.vm.Alike t.vm → post u → B u t → H.size ≤ H1.size → (∀ q : Nat, q < H.size → ¬ A1 q → H1[q]? = H[q]?) → va_S A0 H0 H1 locs1 → W p l e R s m args below meth c H1 locs1 (cells + mc) (slots + ms) Q (F0 m (pc + 3) ls (rest))) : W p l e R s m args below meth c H locs cells slots Q (F0 m pc ls st0) := by
  intro T hT X
  rcases hr T hT X with ⟨v, st₀, t, T', L, h0, X', hL, e1, e2, ⟨⟨u, hv, hp, hb⟩, hF⟩, st⟩ | ⟨q, st₀, t, T', L, E, ce, h0, X', hL, e1, e2, ⟨u, hp, hb, hF⟩, hce, hcv, hcl, st⟩
  · cases hv
    obtain ⟨k1, k2, k3⟩ := vx_keep h0 e1 hS hA hf hL hF
    obtain ⟨t2, a1, b1⟩ := kk u t T'.heap (locs ++ L) e1.symm (by rw [← e2]; exact X'.warmed.alike) hp hb k1 k2 k3 T' rfl X'
    exact ⟨t2, st t2 a1, b1⟩
  · obtain ⟨k1, k2, k3⟩ := vx_keep h0 e1 hS hAX hf hL hF
    obtain ⟨t2, a1, b1⟩ := kx E ce q u t T'.heap (locs ++ L) e1.symm (by rw [← e2]; exact X'.warmed.alike) hp hb k1 k2 k3 (by rw [e1]; exact hce) hcv hcl T' rfl X'
    exact ⟨t2, st.trans a1, b1⟩
/-- caught by the row x of this method's table; the rows ahead don't take it -/
theorem vx_catch {own name : String} {E : String} {ce : Cell} {q : Addr} (hown : s.vm.findClass own = some m.cls) (pre : List ExceptionTableEntry) (x : ExceptionTableEntry) (suf : List ExceptionTableEntry) (hsplit : c.exceptionTable.toList = pre ++ x :: suf)
    (hpass : ∀ z ∈ pre, covers z pc = false ∨ (z.catchType ≠ 0 ∧ ∃ nm : String, (Cond.classLink own z.catchType nm).before args s = true ∧ va_Nc E nm s)) (hx : covers x pc = true) (h0 : x.catchType ≠ 0)
    (hlink : (Cond.classLink own x.catchType name).before args s = true) (hcast : (Cond.castable E name).before args s = true) (hcell : H[q]? = some ce) (hv : ce.vm = .none) (hcl : s.vm.findClass E = some ce.cls)
    (kk : W p l e R s m args below meth c H locs cells slots Q (F0 m x.handlerPc ls [.ref q])) : vx_W p l e R s m args below meth c H locs cells slots Q (F0 m pc ls rest) q := by
  intro T hT X
  have hpl : e.platform.magicAccessors = ({} : Platform).magicAccessors := by rw [X.admits.platform]
  obtain ⟨c3, c4, hc3, hc4, hasg⟩ := Cond.castable_spec hcast
  cases Option.some.inj (hc3.symm.trans hcl)
  obtain ⟨c5, hc5, hcl5⟩ := Cond.classLink_spec hown hlink e.platform hpl
  cases Option.some.inj (hc4.symm.trans hc5)
  obtain ⟨vm', X', st⟩ := X.thenCaughtThrough q (g := F0 m pc ls rest) rfl (Steps.refl _) (by rw [hT]; exact hcell) (by rw [hv]; rfl) (by obtain ⟨k9, h9, -⟩ := Vm.findClass_spec hcl; exact ⟨k9, h9⟩) pre x suf hsplit
    (fun z hz => by
      rcases hpass z hz with h | ⟨hz0, nm, hl1, hn1⟩
      · exact Or.inl h
      · obtain ⟨c6, hc6, hcl6⟩ := Cond.classLink_spec hown hl1 e.platform hpl
        obtain ⟨a8, b8, h1, h2, h3⟩ := hn1
        cases Option.some.inj (h1.symm.trans hcl)
        cases Option.some.inj (h2.symm.trans hc6)
        exact Or.inr ⟨hz0, _, hcl6, h3⟩) hx (Or.inr ⟨h0, c4, hcl5, hasg⟩)
  obtain ⟨t, a1, b1⟩ := kk (T.setVm vm') hT X'
  exact ⟨t, st.trans a1, b1⟩
end Rows
section Ends
variable {p : Program} {l : Launch} {e : Env} {R : Room} {s : State} {m : MethodId} {args : Array Value} {below : List Frame} {meth : Method} {c : Code} {H : Heap} {locs : List Loc} {cells slots : Nat} {Q : State → Prop}
variable {mc ms : Nat} {free : Addr → Prop} {A0 A1 : Nat → Prop} {H0 : Heap} {a : Array Value} {ls : Array Slot} {st0 rest : List Value}
variable {Qc : Array Value → State → Outcome → State → Prop} {XC : String → State → State → Prop}
/-- what a body that may throw owes at its end -/
def vx_MQ (below : List Frame) (Qc : Array Value → State → Outcome → State → Prop) (XC : String → State → State → Prop) (a : Array Value) (s : State) (mc ms : Nat) (free : Addr → Prop) : State → Prop := fun t =>
  ∃ o, t.status = .running ∧ Ended t below o ∧ vx_Q Qc XC mc ms free a s o t
theorem vx_ret {g : JFrame} {mc ms : Nat} (k : W p l e R s m args below meth c H locs cells slots (MQ below Qc args s mc ms free) g) : W p l e R s m args below meth c H locs cells slots (vx_MQ below Qc XC args s mc ms free) g := by
  intro T hT X
  obtain ⟨t, a1, o, b1, b2, b3, b4⟩ := k T hT X
  exact ⟨t, a1, o, b1, b2, Or.inl ⟨b3, b4⟩⟩
/-- not caught here: it goes on to the caller -/
theorem vx_widen {g : JFrame} {q : Addr} {k n : Nat} (h1 : cells ≤ k) (h2 : slots ≤ n) (kk : vx_W p l e R s m args below meth c H locs k n Q g q) : vx_W p l e R s m args below meth c H locs cells slots Q g q := fun T hT X => kk T hT (stand_widen X h1 h2)
theorem vx_out {pc : Nat} {E : String} {ce : Cell} {q : Addr} {mc ms : Nat} (hout : ∀ x ∈ c.exceptionTable.toList, covers x pc = false) (hlocks : meth.locks = false) (hcell : H[q]? = some ce) (hv : ce.vm = .none) (hcl : s.vm.findClass E = some ce.cls)
    (hx : ∀ t : State, t.heap = H → s.vm.Alike t.vm → XC E s t) (hf : ∀ z ∈ locs, free z.base) (hc : cells ≤ mc) (hs : slots ≤ ms) :
    vx_W p l e R s m args below meth c H locs cells slots (vx_MQ below Qc XC args s mc ms free) (F0 m pc ls rest) q := by
  intro T hT X
  obtain ⟨st1, hrun, hend, hW, hsm⟩ := X.leaveThrown q (g := F0 m pc ls rest) rfl rfl rfl hout hlocks
  have hcell9 : (T.setFrames (.throwing q :: below)).heap[q]? = some ce := by
    show T.heap[q]? = some ce
    rw [hT]; exact hcell
  exact ⟨_, st1, .threw q, hrun, hend, Or.inr ⟨q, rfl, E, ce, locs, hx _ hT hW.alike, hcell9, hv, hcl, hW, hsm.mono hc hs, hf⟩⟩
theorem vx_frame {U : State} {k n : Nat} (h : s.sameButNew ({ U with vm := s.vm } : State) locs k n) : s.heap.size ≤ U.heap.size ∧ ∀ q : Nat, q < s.heap.size → (∀ z ∈ locs, z.base ≠ q) → U.heap[q]? = s.heap[q]? := by
  obtain ⟨-, h2, -, -, -, h6⟩ := h
  refine ⟨h2, fun q hq hz => ?_⟩
  obtain ⟨c9, e1, e2, e3, e4⟩ := h6 q _ (Array.getElem?_eq_getElem hq)
  have hs : c9.slots = (s.heap[q]).slots := Array.ext_getElem? fun i => e4 i fun hm => hz _ hm rfl
  have h9 : c9 = s.heap[q] := by
    rw [hs] at e2
    exact e2
  have e5 : U.heap[q]? = some c9 := e1
  rw [e5, h9, Array.getElem?_eq_getElem hq]
/-- the words of a throw but the four that speak of the heap -/
def vx_no (w : Cond) : Bool := decide (w ≠ .isRef (.static Bundle.tN "UNASSIGNED_STACK" Bundle.steD)) && decide (w ≠ .isRef (.static Bundle.tN "SUPPRESSED_SENTINEL" Bundle.listD)) && decide (w ≠ .laysStatic Bundle.tN "UNASSIGNED_STACK" Bundle.steD) && decide (w ≠ .laysStatic Bundle.tN "SUPPRESSED_SENTINEL" Bundle.listD)
def vx_at0 (own : String) (ic : Nat) (X : String) (names : List String) : List Cond := (Bundle.ownAtoms0 own ic X names).filter vx_no
def vx_atS (own : String) (ic : Nat) (X : String) (names : List String) : List Cond := (Bundle.ownAtoms own ic X names).filter vx_no
/-- a word that the tables alone decide, or a good one -/
def vx_ot (w : Cond) : Bool := w.onTables || goodWord w
theorem vx_ot_at {args a' : Array Value} {s U : State} {w : Cond} (hW : s.WarmedH U.vm) (hvm : s.vm = U.vm) (hg : vx_ot w = true) (h : w.before args s = true) : w.before a' U = true := by
  simp only [vx_ot, Bool.or_eq_true] at hg
  rcases hg with hg | hg
  · exact va_tabs hg hvm h
  · exact word_at hW (good_of_word hg) h
/-- a list's words: the good ones out of the method's own list, the others by premises of their own -/
theorem vx_hat {args : Array Value} {s : State} {L B : List Cond} (h1 : ∀ w ∈ L.filter goodWord, w.before args s = true) (h2 : ∀ w ∈ L.filter (fun w => !goodWord w), w ∈ B) (h3 : ∀ w ∈ B, w.before args s = true) : ∀ w ∈ L, w.before args s = true := by
  intro w hw
  by_cases g : goodWord w = true
  · exact h1 w (List.mem_filter.mpr ⟨hw, g⟩)
  · refine h3 w (h2 w (List.mem_filter.mpr ⟨hw, ?_⟩))
    show (!goodWord w) = true
    cases hgw : goodWord w
    · rfl
    · exact absurd hgw g
theorem vx_c {args : Array Value} {s : State} {w : Cond} {B : List Cond} (h : w.before args s = true) (t : ∀ w ∈ B, w.before args s = true) : ∀ w' ∈ w :: B, w'.before args s = true := fun w' h' => (List.mem_cons.mp h').elim (fun e => by rw [e]; exact h) (t w')
theorem vx_n {args : Array Value} {s : State} : ∀ w ∈ ([] : List Cond), w.before args s = true := fun _ h => nomatch h
theorem vx_own {args : Array Value} {s : State} {L : List Cond} (h1 : ∀ w ∈ L.filter vx_no, w.before args s = true)
    (hU : (Cond.isRef (.static Bundle.tN "UNASSIGNED_STACK" Bundle.steD)).before args s = true) (hN : (Cond.isRef (.static Bundle.tN "SUPPRESSED_SENTINEL" Bundle.listD)).before args s = true)
    (lU : (Cond.laysStatic Bundle.tN "UNASSIGNED_STACK" Bundle.steD).before args s = true) (lN : (Cond.laysStatic Bundle.tN "SUPPRESSED_SENTINEL" Bundle.listD).before args s = true) : ∀ w ∈ L, w.before args s = true := by
  intro w hw
  by_cases e1 : w = .isRef (.static Bundle.tN "UNASSIGNED_STACK" Bundle.steD)
  · rw [e1]; exact hU
  · by_cases e2 : w = .isRef (.static Bundle.tN "SUPPRESSED_SENTINEL" Bundle.listD)
    · rw [e2]; exact hN
    · by_cases e3 : w = .laysStatic Bundle.tN "UNASSIGNED_STACK" Bundle.steD
      · rw [e3]; exact lU
      · by_cases e4 : w = .laysStatic Bundle.tN "SUPPRESSED_SENTINEL" Bundle.listD
        · rw [e4]; exact lN
        · exact h1 w (List.mem_filter.mpr ⟨hw, by unfold vx_no; rw [decide_eq_true e1, decide_eq_true e2, decide_eq_true e3, decide_eq_true e4]; rfl⟩)
/-- where a static field lies, its class's statics cell in H -/
def vx_L (C n d : String) (A : Nat → Prop) (U : State) (H : Heap) : Prop := ∃ (c : ClassId) (k : Class) (i : Nat) (f : Field) (a : Nat) (cell : Cell), U.vm.findClass C = some c ∧ U.fieldFound? C n d = some (c, k, i, f) ∧ f.isStatic = true ∧ k.statics = some a ∧ H[a]? = some cell ∧ cell.vm.isStatics = true ∧ cell.cls = c ∧ f.slot < cell.slots.size ∧ k.staticTypes[f.slot]? = some f.type ∧ ¬ A a
theorem vx_L.moved {C n d : String} {A : Nat → Prop} {u U : State} {H : Heap} (hvm : u.vm.Alike U.vm) (h : vx_L C n d A u H) : vx_L C n d A U H := by
  obtain ⟨c, k, i, f, a, cell, h1, h2, h3, h4, h5, h6, h7, h8, h9, h10⟩ := h
  obtain ⟨k', hi', he⟩ := State.fieldFound?_setVm hvm h2
  exact ⟨c, k', i, f, a, cell, by rw [hvm.findClass]; exact h1, hi', h3, by rw [he]; exact h4, h5, h6, h7, h8, by rw [he]; exact h9, h10⟩
theorem vx_L.kept {C n d : String} {A : Nat → Prop} {U : State} {H H1 : Heap} (h : vx_L C n d A U H) (hq : ∀ a : Nat, a < H.size → ¬ A a → H1[a]? = H[a]?) : vx_L C n d A U H1 := by
  obtain ⟨c, k, i, f, a, cell, h1, h2, h3, h4, h5, h6, h7, h8, h9, h10⟩ := h
  exact ⟨c, k, i, f, a, cell, h1, h2, h3, h4, by rw [hq a (Array.getElem?_eq_some_iff.mp h5).1 h10]; exact h5, h6, h7, h8, h9, h10⟩
theorem vx_L.narrow {C n d : String} {A B : Nat → Prop} {U : State} {H : Heap} (h : vx_L C n d A U H) (hAB : ∀ q, B q → A q) : vx_L C n d B U H := by
  obtain ⟨c, k, i, f, a, cell, h1, h2, h3, h4, h5, h6, h7, h8, h9, h10⟩ := h
  exact ⟨c, k, i, f, a, cell, h1, h2, h3, h4, h5, h6, h7, h8, h9, fun z => h10 (hAB _ z)⟩
theorem vx_L.word {C n d : String} {A : Nat → Prop} {s : State} {args : Array Value} (h : vx_L C n d A s s.heap) : (Cond.laysStatic C n d).before args s = true := by
  obtain ⟨c, k, i, f, a, cell, h1, h2, h3, h4, h5, h6, h7, h8, h9, -⟩ := h
  show (Cond.laysStatic C n d).holds args s none s [] = true
  exact Cond.laysStatic_of h1 h2 h3 h4 h5 h6 h7 h8 h9
/-- .. and what it holds: null or some reference -/
def vx_Zq (C n d : String) (A : Nat → Prop) (U : State) (H : Heap) : Prop := va_Zq C n d A U H ∧ vx_L C n d A U H
theorem vx_Zq.moved {C n d : String} {A : Nat → Prop} {u U : State} {H : Heap} (hvm : u.vm.Alike U.vm) (h : vx_Zq C n d A u H) : vx_Zq C n d A U H := ⟨va_Zq.moved hvm h.1, vx_L.moved hvm h.2⟩
theorem vx_Zq.kept {C n d : String} {A : Nat → Prop} {U : State} {H H1 : Heap} (h : vx_Zq C n d A U H) (hq : ∀ a : Nat, a < H.size → ¬ A a → H1[a]? = H[a]?) : vx_Zq C n d A U H1 := ⟨va_Zq.kept h.1 hq, vx_L.kept h.2 hq⟩
theorem vx_Zq.narrow {C n d : String} {A B : Nat → Prop} {U : State} {H : Heap} (h : vx_Zq C n d A U H) (hAB : ∀ q, B q → A q) : vx_Zq C n d B U H := ⟨va_Zq.narrow h.1 hAB, vx_L.narrow h.2 hAB⟩
theorem vx_Zqof {args : Array Value} {s : State} {C n d : String} {A : Nat → Prop} (hl : (Cond.laysStatic C n d).before args s = true) (hini : (Cond.initialized C).before args s = true) (h : (Cond.isRef (.static C n d)).before args s = true) (hA : ∀ a : Nat, a < s.heap.size → ¬ A a) : vx_Zq C n d A s s.heap := by
  refine ⟨va_Zqof hl hini h hA, ?_⟩
  obtain ⟨c, k, i, f, a, cell, h1, h2, h3, h4, h5, h6, h7, h8, h9⟩ := Cond.laysStatic_spec hl
  exact ⟨c, k, i, f, a, cell, h1, h2, h3, h4, h5, h6, h7, h8, h9, hA a (Array.getElem?_eq_some_iff.mp h5).1⟩
theorem vx_isRef {C n d : String} {v : Value} {A : Nat → Prop} {s : State} {args : Array Value} (h : va_Z C n d v A s s.heap) (hv : v.isRef = true) : (Cond.isRef (.static C n d)).before args s = true := by
  obtain ⟨cf, kf, fi, f, a, cell, h1, h2, h3, h4, h5, h6, h7, -⟩ := h
  have he : (Term.static C n d).eval args s none [] s = some v := by
    simp [Term.eval, State.fieldNamed?, h1, h2, h4, h5, h6, h7]
  simp only [Cond.before, Cond.holds, Cond.value, he]
  cases v <;> simp_all [Value.isRef]
theorem vx_isRefq {C n d : String} {A : Nat → Prop} {s : State} {args : Array Value} (h : va_Zq C n d A s s.heap) : (Cond.isRef (.static C n d)).before args s = true := by
  rcases h with h | ⟨t, h⟩
  · exact vx_isRef h rfl
  · exact vx_isRef h rfl
/-- the same frame, seen from here: as if the method were called anew in this heap -/
theorem vx_rebase {T : State} (X : Stand p l e R s m args below meth c T locs cells slots) {R' : Room} (hf : R'.frames ≤ R.frames) (hl : R'.locals ≤ R.locals) (hc : cells + R'.cells ≤ R.cells) (hs : slots + R'.slots ≤ R.slots) :
    Stand p l e R' ((T.setVm s.vm).setFrames (.invoking m args :: below)) m args below meth c T [] 0 0 := by
  have htop : (T.setVm s.vm).topJava?.isSome := X.here.top
  have hF : ((T.setVm s.vm).setFrames (.invoking m args :: below)).frames = .invoking m args :: below := State.frames_setFrames _ (State.cur_lt_of_top htop)
  obtain ⟨g₀, hg0⟩ := Option.isSome_iff_exists.mp htop
  obtain ⟨r, hr⟩ := State.topJava?_eq_some.mp hg0
  have hl9 : e.platform.stackLimits (T.setVm s.vm).me = e.platform.stackLimits s.me := X.limits
  have hb9 : (T.setVm s.vm).me.stackBytes = s.me.stackBytes := X.bytes
  refine ⟨X.admits, X.cas, X.clock, hF, ?_, X.hears, X.method, X.code, X.here, X.tail, X.warmed, ?_, ?_, ?_⟩
  · have h := X.room
    have hU : ((T.setVm s.vm).setFrames (.invoking m args :: below)).localsInUse = s.localsInUse := by
      rw [State.localsInUse_invoking hF (meth := meth) (c := c) X.method X.code, State.localsInUse_invoking X.frames X.method X.code]
    simp only [State.hasRoom, Bool.and_eq_true, decide_eq_true_eq] at h ⊢
    obtain ⟨⟨⟨⟨h1, h2, h3, h4, h5, h6⟩, h7⟩, h8⟩, h9⟩ := h
    rw [X.frames, List.length_cons] at h2 h3
    have q1 := X.heapSize
    have q2 := X.used
    simp only [hF, hU, List.length_cons, State.stackLimits_setFrames, State.stackBytes_setFrames, hl9, hb9]
    refine ⟨⟨⟨⟨by omega, by omega, by omega, by omega, by omega, h6⟩, ?_⟩, ?_⟩, X.book⟩
    · show T.heap.size + R'.cells ≤ e.platform.maxCells
      omega
    · show T.slotsUsed + R'.slots ≤ e.platform.maxSlots
      omega
  · rw [State.stackLimits_setFrames]; rfl
  · rw [State.stackBytes_setFrames]; rfl
  · refine ⟨?_, Nat.le_refl _, Nat.le_refl _, ?_, ?_, fun a c9 h9 => ⟨c9, h9, rfl, rfl, fun _ _ => rfl⟩⟩
    · obtain ⟨t, ht, -⟩ := State.frames_cons hr
      show T.setVm s.vm = { ((T.setVm s.vm).setFrames (.invoking m args :: below)).setFrames (T.setVm s.vm).frames with heap := T.heap, slotsUsed := T.slotsUsed }
      rw [State.setFrames_setFrames, State.setFrames_self ht]
      rfl
    · show T.slotsUsed = T.slotsUsed + ((T.heap.toList.drop T.heap.size).map (·.slots.size)).sum
      rw [List.drop_eq_nil_of_le (Nat.le_of_eq Array.length_toList)]
      rfl
    · show ((T.heap.toList.drop T.heap.size).map (·.slots.size)).sum ≤ 0
      rw [List.drop_eq_nil_of_le (Nat.le_of_eq Array.length_toList)]
      exact Nat.le_refl _
/-- 'throw new E()': new; dup; invokespecial; athrow -/
theorem vx_throw0 {cc : ByteArray} {pc : Nat} (hexec : p.tables.exec = Jvm.exec) (hb : c.code = cc) (hl : l.stackTraces = false) {own cls : String} {names : List String} {ik ic mc ms : Nat} {A : Nat → Prop}
    (hown : s.vm.findClass own = some m.cls) (hcls : Bundle.fit cls = true) (hnames : ∀ n ∈ names, Bundle.fit n = true)
    (hk : (Cond.classLink own ik cls).before args s = true) (hini : (Cond.initialized cls).before args s = true) (hat : ∀ w ∈ vx_at0 own ic cls names, w.before args s = true)
    (hgood : ∀ w ∈ Cond.classLink own ik cls :: Cond.initialized cls :: vx_at0 own ic cls names, vx_ot w = true)
    (hU : vx_Zq Bundle.tN "UNASSIGNED_STACK" Bundle.steD A s s.heap) (hN : vx_Zq Bundle.tN "SUPPRESSED_SENTINEL" Bundle.listD A s s.heap) (hS : va_S A s.heap H locs) (hsize : ls.size = c.maxLocals)
    (d0 : decode cc pc = .ok (.new ik, 3)) (d3 : decode cc (pc + 3) = .ok (.dup, 1)) (d4 : decode cc (pc + 4) = .ok (.invokespecial ic, 3)) (d7 : decode cc (pc + 7) = .ok (.athrow, 1))
    (hout : ∀ x ∈ c.exceptionTable.toList, covers x (pc + 7) = false)
    (hRframes : names.length + 3 < R.frames) (hRlocals : (rest.map fun v => v.category).sum + (13 * (names.length + 1) + 42) ≤ R.locals) (hRcells : cells + 1 ≤ R.cells) (hRslots : slots + 6 ≤ R.slots) (hlocks : meth.locks = false)
    (hx : ∀ t : State, s.vm.Alike t.vm → H.size ≤ t.heap.size → (∀ q : Nat, q < H.size → t.heap[q]? = H[q]?) → XC cls s t)
    (hf : ∀ z ∈ locs, free z.base) (hc : cells + 1 ≤ mc) (hs : slots + 6 ≤ ms) :
    W p l e R s m args below meth c H locs cells slots (vx_MQ below Qc XC args s mc ms free) (F0 m pc ls rest) := by
  intro T hT X
  have htr : e.platform.stackTraces = false := (show e.platform.stackTraces = l.stackTraces by rw [X.admits.platform]).trans hl
  have Y := vx_rebase X (R' := { frames := R.frames, locals := R.locals, cells := 1, slots := 6 }) (Nat.le_refl _) (Nat.le_refl _) hRcells hRslots
  obtain ⟨s', hA⟩ : ∃ z, z = (T.setVm s.vm).setFrames (.invoking m args :: below) := ⟨_, rfl⟩
  rw [← hA] at Y
  have hvm : s'.vm = s.vm := by rw [hA]; rfl
  have hhp : s'.heap = H := by rw [hA]; exact hT
  have hW0 : s.WarmedH s'.vm := by rw [hvm]; exact State.WarmedH.refl s
  have hat' : ∀ w ∈ vx_at0 own ic cls names, w.before args s' = true := fun w hw => vx_ot_at hW0 hvm.symm (hgood w (List.mem_cons_of_mem _ (List.mem_cons_of_mem _ hw))) (hat w hw)
  have hk' : (Cond.classLink own ik cls).before args s' = true := vx_ot_at hW0 hvm.symm (hgood _ List.mem_cons_self) hk
  have hini' : (Cond.initialized cls).before args s' = true := vx_ot_at hW0 hvm.symm (hgood _ (List.mem_cons_of_mem _ List.mem_cons_self)) hini
  have hU' : vx_Zq Bundle.tN "UNASSIGNED_STACK" Bundle.steD A s' s'.heap := by rw [hhp]; exact vx_Zq.moved hW0.alike (hU.kept hS.2.1)
  have hN' : vx_Zq Bundle.tN "SUPPRESSED_SENTINEL" Bundle.listD A s' s'.heap := by rw [hhp]; exact vx_Zq.moved hW0.alike (hN.kept hS.2.1)
  have h : ∀ w ∈ Bundle.ownAtoms0 own ic cls names, w.before args s' = true := vx_own hat' (vx_isRefq hU'.1) (vx_isRefq hN'.1) hU'.2.word hN'.2.word
  have hown' : s'.vm.findClass own = some m.cls := by rw [hvm]; exact hown
  have hins : (Cond.instantiable cls 6).before args s' = true := h _ (by simp [Bundle.ownAtoms0])
  obtain ⟨vm₁, cX, kX, hfX, hkX, -, -, X₁, st1⟩ := Y.newCold hexec (own := own) (C := cls) (index := ik) (n := 6) hown' hk' hins hini'
    (g := F0 m pc ls rest) rfl (by rw [hb]; exact d0) (Nat.le_refl _) (Nat.le_refl _)
  generalize hT1 : (T.setVm vm₁).pushCell { cls := cX, slots := kX.instanceTypes.map defaultValue, vm := .none } = T1 at X₁ st1
  have hcat : (Value.ref T.heap.size).category = 1 := rfl
  have hcellA : T1.heap[T.heap.size]? = some (freshCell cX kX) := by rw [← hT1]; exact State.heap_pushCell_size _ _
  have d3' : decode c.code (pc + 3) = .ok (.dup, 1) := by rw [hb]; exact d3
  obtain ⟨U, hsteps, hrun, hend, hW, hsame, ce, hce, hO⟩ := X₁.ctorThrow0 hexec htr (own := own) (cls := cls) (names := names) (ic := ic) hown' hcls hnames h (fun x hx => nomatch hx) hfX hkX hcellA (by rw [hhp, hT]; exact Nat.le_refl _)
    (g := { method := m, pc := pc + 4, locals := ls, stack := .ref T.heap.size :: .ref T.heap.size :: rest, locked := none }) rfl hsize rfl rfl (rest := rest) rfl
    (by rw [hb]; exact d4) (by rw [hb]; exact d7) hout hRframes (by simp only [List.map_cons, List.sum_cons, hcat]; omega) hlocks
  obtain ⟨f1, f2⟩ := vx_frame hsame
  rw [hhp] at f1 f2
  have hWs : s.WarmedH U.vm := State.WarmedH.trans hW0 hW
  have hcl : s.vm.findClass cls = some ce.cls := by
    have h9 := hO.cls
    rw [hvm] at h9
    exact h9
  have hall : s.sameButNew ({ U with vm := s.vm } : State) locs mc ms := by
    subst hA
    obtain ⟨e1, e2⟩ := hsame
    rw [State.setFrames_setFrames] at e1
    have h2 : (T.setVm s.vm).sameButNew ({ U with vm := s.vm } : State) [] (0 + 1) (0 + 6) := ⟨e1, e2⟩
    have h3 := X.same.trans h2
    rw [List.append_nil] at h3
    exact h3.mono hc hs
  refine ⟨U, ?_, .threw T.heap.size, hrun, hend, Or.inr ⟨T.heap.size, rfl, cls, ce, locs, hx U hWs.alike f1 (fun q hq => f2 q hq (fun z hz => nomatch hz)), hce, hO.vm, hcl, hWs, hall, hf⟩⟩
  refine st1 _ ?_
  show Steps p.tables e below (T1.setTop { method := m, pc := pc + 3, locals := ls, stack := .ref T.heap.size :: rest, locked := none }) _
  jvm_step X₁.here [X₁.here.top, hexec, d3', Value.category]
  exact hsteps
/-- 'throw new E("text")': new; dup; ldc; invokespecial; athrow -/
theorem vx_throwS {cc : ByteArray} {pc : Nat} (hexec : p.tables.exec = Jvm.exec) (hb : c.code = cc) (hl : l.stackTraces = false) {own cls text : String} {names : List String} {ik is ic mc ms sa : Nat} {A : Nat → Prop}
    (hown : s.vm.findClass own = some m.cls) (hcls : Bundle.fit cls = true) (hnames : ∀ n ∈ names, Bundle.fit n = true)
    (hk : (Cond.classLink own ik cls).before args s = true) (hini : (Cond.initialized cls).before args s = true) (hstr : vk_R own is text sa s) (hat : ∀ w ∈ vx_atS own ic cls names, w.before args s = true)
    (hgood : ∀ w ∈ Cond.classLink own ik cls :: Cond.initialized cls :: vx_atS own ic cls names, vx_ot w = true)
    (hU : vx_Zq Bundle.tN "UNASSIGNED_STACK" Bundle.steD A s s.heap) (hN : vx_Zq Bundle.tN "SUPPRESSED_SENTINEL" Bundle.listD A s s.heap) (hS : va_S A s.heap H locs) (hsize : ls.size = c.maxLocals)
    (d0 : decode cc pc = .ok (.new ik, 3)) (d3 : decode cc (pc + 3) = .ok (.dup, 1)) (d4 : decode cc (pc + 4) = .ok (.ldc is, 2)) (d6 : decode cc (pc + 6) = .ok (.invokespecial ic, 3)) (d9 : decode cc (pc + 9) = .ok (.athrow, 1))
    (hout : ∀ x ∈ c.exceptionTable.toList, covers x (pc + 9) = false)
    (hRframes : names.length + 3 < R.frames) (hRlocals : (rest.map fun v => v.category).sum + (13 * (names.length + 1) + 43) ≤ R.locals) (hRcells : cells + 1 ≤ R.cells) (hRslots : slots + 6 ≤ R.slots) (hlocks : meth.locks = false)
    (hx : ∀ t : State, s.vm.Alike t.vm → H.size ≤ t.heap.size → (∀ q : Nat, q < H.size → t.heap[q]? = H[q]?) → XC cls s t)
    (hf : ∀ z ∈ locs, free z.base) (hc : cells + 1 ≤ mc) (hs : slots + 6 ≤ ms) :
    W p l e R s m args below meth c H locs cells slots (vx_MQ below Qc XC args s mc ms free) (F0 m pc ls rest) := by
  intro T hT X
  have htr : e.platform.stackTraces = false := (show e.platform.stackTraces = l.stackTraces by rw [X.admits.platform]).trans hl
  have Y := vx_rebase X (R' := { frames := R.frames, locals := R.locals, cells := 1, slots := 6 }) (Nat.le_refl _) (Nat.le_refl _) hRcells hRslots
  obtain ⟨s', hA⟩ : ∃ z, z = (T.setVm s.vm).setFrames (.invoking m args :: below) := ⟨_, rfl⟩
  rw [← hA] at Y
  have hvm : s'.vm = s.vm := by rw [hA]; rfl
  have hhp : s'.heap = H := by rw [hA]; exact hT
  have hW0 : s.WarmedH s'.vm := by rw [hvm]; exact State.WarmedH.refl s
  have hat' : ∀ w ∈ vx_atS own ic cls names, w.before args s' = true := fun w hw => vx_ot_at hW0 hvm.symm (hgood w (List.mem_cons_of_mem _ (List.mem_cons_of_mem _ hw))) (hat w hw)
  have hk' : (Cond.classLink own ik cls).before args s' = true := vx_ot_at hW0 hvm.symm (hgood _ List.mem_cons_self) hk
  have hini' : (Cond.initialized cls).before args s' = true := vx_ot_at hW0 hvm.symm (hgood _ (List.mem_cons_of_mem _ List.mem_cons_self)) hini
  have hU' : vx_Zq Bundle.tN "UNASSIGNED_STACK" Bundle.steD A s' s'.heap := by rw [hhp]; exact vx_Zq.moved hW0.alike (hU.kept hS.2.1)
  have hN' : vx_Zq Bundle.tN "SUPPRESSED_SENTINEL" Bundle.listD A s' s'.heap := by rw [hhp]; exact vx_Zq.moved hW0.alike (hN.kept hS.2.1)
  have h : ∀ w ∈ Bundle.ownAtoms own ic cls names, w.before args s' = true := vx_own hat' (vx_isRefq hU'.1) (vx_isRefq hN'.1) hU'.2.word hN'.2.word
  have hown' : s'.vm.findClass own = some m.cls := by rw [hvm]; exact hown
  have hins : (Cond.instantiable cls 6).before args s' = true := h _ (by simp [Bundle.ownAtoms])
  obtain ⟨vm₁, cX, kX, hfX, hkX, -, -, X₁, st1⟩ := Y.newCold hexec (own := own) (C := cls) (index := ik) (n := 6) hown' hk' hins hini'
    (g := F0 m pc ls rest) rfl (by rw [hb]; exact d0) (Nat.le_refl _) (Nat.le_refl _)
  generalize hT1 : (T.setVm vm₁).pushCell { cls := cX, slots := kX.instanceTypes.map defaultValue, vm := .none } = T1 at X₁ st1
  have hcat : (Value.ref T.heap.size).category = 1 := rfl
  have hcellA : T1.heap[T.heap.size]? = some (freshCell cX kX) := by rw [← hT1]; exact State.heap_pushCell_size _ _
  have d3' : decode c.code (pc + 3) = .ok (.dup, 1) := by rw [hb]; exact d3
  have d4' : decode c.code (pc + 4) = .ok (.ldc is, 2) := by rw [hb]; exact d4
  have hstr' : vk_R own is text sa s' := vk_R.warm hW0 hstr
  obtain ⟨U, hsteps, hrun, hend, hW, hsame, ce, hce, hO⟩ := X₁.ctorThrowS hexec htr (own := own) (cls := cls) (names := names) (ic := ic) hown' hcls hnames h (fun x hx => nomatch hx) hfX hkX hcellA (by rw [hhp, hT]; exact Nat.le_refl _) (msg := .ref sa) rfl
    (g := { method := m, pc := pc + 6, locals := ls, stack := .ref sa :: .ref T.heap.size :: .ref T.heap.size :: rest, locked := none }) rfl hsize rfl rfl (rest := rest) rfl
    (by rw [hb]; exact d6) (by rw [hb]; exact d9) hout hRframes (by simp only [List.map_cons, List.sum_cons, hcat]; omega) hlocks
  obtain ⟨f1, f2⟩ := vx_frame hsame
  rw [hhp] at f1 f2
  have hWs : s.WarmedH U.vm := State.WarmedH.trans hW0 hW
  have hcl : s.vm.findClass cls = some ce.cls := by
    have h9 := hO.cls
    rw [hvm] at h9
    exact h9
  have hall : s.sameButNew ({ U with vm := s.vm } : State) locs mc ms := by
    subst hA
    obtain ⟨e1, e2⟩ := hsame
    rw [State.setFrames_setFrames] at e1
    have h2 : (T.setVm s.vm).sameButNew ({ U with vm := s.vm } : State) [] (0 + 1) (0 + 6) := ⟨e1, e2⟩
    have h3 := X.same.trans h2
    rw [List.append_nil] at h3
    exact h3.mono hc hs
  refine ⟨U, ?_, .threw T.heap.size, hrun, hend, Or.inr ⟨T.heap.size, rfl, cls, ce, locs, hx U hWs.alike f1 (fun q hq => f2 q hq (fun z hz => nomatch hz)), hce, hO.vm, hcl, hWs, hall, hf⟩⟩
  refine st1 _ ?_
  show Steps p.tables e below (T1.setTop { method := m, pc := pc + 3, locals := ls, stack := .ref T.heap.size :: rest, locked := none }) _
  jvm_step X₁.here [X₁.here.top, hexec, d3', Value.category]
  exact X₁.ldcString hexec (own := own) (text := text) (index := is) (a := sa) hown' hstr'.1 hstr'.2
    (g := { method := m, pc := pc + 4, locals := ls, stack := .ref T.heap.size :: .ref T.heap.size :: rest, locked := none }) rfl d4' _ hsteps
/-- 'throw new E("text")', the text by a wide index -/
theorem vx_throwSW {cc : ByteArray} {pc : Nat} (hexec : p.tables.exec = Jvm.exec) (hb : c.code = cc) (hl : l.stackTraces = false) {own cls text : String} {names : List String} {ik is ic mc ms sa : Nat} {A : Nat → Prop}
    (hown : s.vm.findClass own = some m.cls) (hcls : Bundle.fit cls = true) (hnames : ∀ n ∈ names, Bundle.fit n = true)
    (hk : (Cond.classLink own ik cls).before args s = true) (hini : (Cond.initialized cls).before args s = true) (hstr : vk_R own is text sa s) (hat : ∀ w ∈ vx_atS own ic cls names, w.before args s = true)
    (hgood : ∀ w ∈ Cond.classLink own ik cls :: Cond.initialized cls :: vx_atS own ic cls names, vx_ot w = true)
    (hU : vx_Zq Bundle.tN "UNASSIGNED_STACK" Bundle.steD A s s.heap) (hN : vx_Zq Bundle.tN "SUPPRESSED_SENTINEL" Bundle.listD A s s.heap) (hS : va_S A s.heap H locs) (hsize : ls.size = c.maxLocals)
    (d0 : decode cc pc = .ok (.new ik, 3)) (d3 : decode cc (pc + 3) = .ok (.dup, 1)) (d4 : decode cc (pc + 4) = .ok (.ldc_w is, 3)) (d7 : decode cc (pc + 7) = .ok (.invokespecial ic, 3)) (d10 : decode cc (pc + 10) = .ok (.athrow, 1))
    (hout : ∀ x ∈ c.exceptionTable.toList, covers x (pc + 10) = false)
    (hRframes : names.length + 3 < R.frames) (hRlocals : (rest.map fun v => v.category).sum + (13 * (names.length + 1) + 43) ≤ R.locals) (hRcells : cells + 1 ≤ R.cells) (hRslots : slots + 6 ≤ R.slots) (hlocks : meth.locks = false)
    (hx : ∀ t : State, s.vm.Alike t.vm → H.size ≤ t.heap.size → (∀ q : Nat, q < H.size → t.heap[q]? = H[q]?) → XC cls s t)
    (hf : ∀ z ∈ locs, free z.base) (hc : cells + 1 ≤ mc) (hs : slots + 6 ≤ ms) :
    W p l e R s m args below meth c H locs cells slots (vx_MQ below Qc XC args s mc ms free) (F0 m pc ls rest) := by
  intro T hT X
  have htr : e.platform.stackTraces = false := (show e.platform.stackTraces = l.stackTraces by rw [X.admits.platform]).trans hl
  have Y := vx_rebase X (R' := { frames := R.frames, locals := R.locals, cells := 1, slots := 6 }) (Nat.le_refl _) (Nat.le_refl _) hRcells hRslots
  obtain ⟨s', hA⟩ : ∃ z, z = (T.setVm s.vm).setFrames (.invoking m args :: below) := ⟨_, rfl⟩
  rw [← hA] at Y
  have hvm : s'.vm = s.vm := by rw [hA]; rfl
  have hhp : s'.heap = H := by rw [hA]; exact hT
  have hW0 : s.WarmedH s'.vm := by rw [hvm]; exact State.WarmedH.refl s
  have hat' : ∀ w ∈ vx_atS own ic cls names, w.before args s' = true := fun w hw => vx_ot_at hW0 hvm.symm (hgood w (List.mem_cons_of_mem _ (List.mem_cons_of_mem _ hw))) (hat w hw)
  have hk' : (Cond.classLink own ik cls).before args s' = true := vx_ot_at hW0 hvm.symm (hgood _ List.mem_cons_self) hk
  have hini' : (Cond.initialized cls).before args s' = true := vx_ot_at hW0 hvm.symm (hgood _ (List.mem_cons_of_mem _ List.mem_cons_self)) hini
  have hU' : vx_Zq Bundle.tN "UNASSIGNED_STACK" Bundle.steD A s' s'.heap := by rw [hhp]; exact vx_Zq.moved hW0.alike (hU.kept hS.2.1)
  have hN' : vx_Zq Bundle.tN "SUPPRESSED_SENTINEL" Bundle.listD A s' s'.heap := by rw [hhp]; exact vx_Zq.moved hW0.alike (hN.kept hS.2.1)
  have h : ∀ w ∈ Bundle.ownAtoms own ic cls names, w.before args s' = true := vx_own hat' (vx_isRefq hU'.1) (vx_isRefq hN'.1) hU'.2.word hN'.2.word
  have hown' : s'.vm.findClass own = some m.cls := by rw [hvm]; exact hown
  have hins : (Cond.instantiable cls 6).before args s' = true := h _ (by simp [Bundle.ownAtoms])
  obtain ⟨vm₁, cX, kX, hfX, hkX, -, -, X₁, st1⟩ := Y.newCold hexec (own := own) (C := cls) (index := ik) (n := 6) hown' hk' hins hini'
    (g := F0 m pc ls rest) rfl (by rw [hb]; exact d0) (Nat.le_refl _) (Nat.le_refl _)
  generalize hT1 : (T.setVm vm₁).pushCell { cls := cX, slots := kX.instanceTypes.map defaultValue, vm := .none } = T1 at X₁ st1
  have hcat : (Value.ref T.heap.size).category = 1 := rfl
  have hcellA : T1.heap[T.heap.size]? = some (freshCell cX kX) := by rw [← hT1]; exact State.heap_pushCell_size _ _
  have d3' : decode c.code (pc + 3) = .ok (.dup, 1) := by rw [hb]; exact d3
  have d4' : decode c.code (pc + 4) = .ok (.ldc_w is, 3) := by rw [hb]; exact d4
  have hstr' : vk_R own is text sa s' := vk_R.warm hW0 hstr
  obtain ⟨U, hsteps, hrun, hend, hW, hsame, ce, hce, hO⟩ := X₁.ctorThrowS hexec htr (own := own) (cls := cls) (names := names) (ic := ic) hown' hcls hnames h (fun x hx => nomatch hx) hfX hkX hcellA (by rw [hhp, hT]; exact Nat.le_refl _) (msg := .ref sa) rfl
    (g := { method := m, pc := pc + 7, locals := ls, stack := .ref sa :: .ref T.heap.size :: .ref T.heap.size :: rest, locked := none }) rfl hsize rfl rfl (rest := rest) rfl
    (by rw [hb]; exact d7) (by rw [hb]; exact d10) hout hRframes (by simp only [List.map_cons, List.sum_cons, hcat]; omega) hlocks
  obtain ⟨f1, f2⟩ := vx_frame hsame
  rw [hhp] at f1 f2
  have hWs : s.WarmedH U.vm := State.WarmedH.trans hW0 hW
  have hcl : s.vm.findClass cls = some ce.cls := by
    have h9 := hO.cls
    rw [hvm] at h9
    exact h9
  have hall : s.sameButNew ({ U with vm := s.vm } : State) locs mc ms := by
    subst hA
    obtain ⟨e1, e2⟩ := hsame
    rw [State.setFrames_setFrames] at e1
    have h2 : (T.setVm s.vm).sameButNew ({ U with vm := s.vm } : State) [] (0 + 1) (0 + 6) := ⟨e1, e2⟩
    have h3 := X.same.trans h2
    rw [List.append_nil] at h3
    exact h3.mono hc hs
  refine ⟨U, ?_, .threw T.heap.size, hrun, hend, Or.inr ⟨T.heap.size, rfl, cls, ce, locs, hx U hWs.alike f1 (fun q hq => f2 q hq (fun z hz => nomatch hz)), hce, hO.vm, hcl, hWs, hall, hf⟩⟩
  refine st1 _ ?_
  show Steps p.tables e below (T1.setTop { method := m, pc := pc + 3, locals := ls, stack := .ref T.heap.size :: rest, locked := none }) _
  jvm_step X₁.here [X₁.here.top, hexec, d3', Value.category]
  exact X₁.ldcStringW hexec (own := own) (text := text) (index := is) (a := sa) hown' hstr'.1 hstr'.2
    (g := { method := m, pc := pc + 4, locals := ls, stack := .ref T.heap.size :: .ref T.heap.size :: rest, locked := none }) rfl d4' _ hsteps
end Ends
section Bodies
variable {l : Launch}
theorem vx_ofW {y : MethodName} {ws ws' : List Cond} {rm : Room} {Pc : Array Value → State → Prop} {Qc : Array Value → State → Outcome → State → Prop} {XC : String → State → State → Prop} {mc ms : Nat} {free : Addr → Prop} {cc : ByteArray} {maxL : Nat} {ret : Option FieldType}
    (hy : plainName y.cls = true) (hw : ws = Cond.code y cc maxL ret :: ws')
    (body : ∀ p e s m args below meth c s₁, BodyLoose p l y (headSpec ws rm) cc maxL ret e s m args below meth c s₁ → c.maxLocals = maxL → (∀ x ∈ c.exceptionTable.toList, False) → Pc args s →
      W p l e (headSpec ws rm).room s m args below meth c s.heap [] 0 0 (vx_MQ below Qc XC args s mc ms free) (entryFrame m args maxL)) : vx_Met l y ws rm Pc Qc XC mc ms free := by
  refine MetFree.of_bodyS (code := cc) (maxLocals := maxL) (ret := ret) hy ?_ ?_
  · intro args s m h hn
    obtain ⟨meth, c, h1, h2, h3, h4, h5, h6, -, -⟩ := Cond.code_spec hn (atoms_spec (ws := ws) h _ (by rw [hw]; exact List.mem_cons_self))
    exact ⟨meth, c, h1, h2, h3, h4, h5, h6⟩
  · intro p e s m args below meth c s₁ B hml hP _
    have hh0 : s₁.heap = s.heap := by rw [B.state]; rfl
    have ht : ∀ x ∈ c.exceptionTable.toList, False := by
      obtain ⟨meth9, c9, h1, h2, -, -, -, -, h7, -⟩ := Cond.code_spec B.named (atoms_spec (ws := ws) B.pre _ (by rw [hw]; exact List.mem_cons_self))
      cases Option.some.inj (h1.symm.trans B.method)
      cases Option.some.inj (h2.symm.trans (Stand.of_body B).code)
      intro x hx
      rw [Array.isEmpty_iff.mp h7] at hx
      cases hx
    obtain ⟨t, a1, o, b1, b2, b3⟩ := body p e s m args below meth c s₁ B hml ht hP s₁ hh0 (Stand.of_body B)
    exact ⟨t, o, a1, b1, b2, b3⟩
/-- the table of a body with handlers -/
theorem vx_table {p : Program} {x y : MethodName} {S : Spec} {cc bytes : ByteArray} {maxL maxL' : Nat} {ret ret' : Option FieldType} {e : Env} {s s₁ : State} {m : MethodId} {args : Array Value} {below : List Frame} {meth : Method} {c : Code} {hh : List (Nat × Nat × Nat × Nat)}
    (B : BodyLoose p l y S cc maxL ret e s m args below meth c s₁) (h : (Cond.codeWith y bytes maxL' ret' hh).before args s = true) : c.exceptionTable.toList = tableOf hh := by
  obtain ⟨m9, meth9, c9, hn9, h1, h2, -, -, h6, -⟩ := Cond.codeWith_spec h
  cases Option.some.inj (hn9.symm.trans B.named)
  cases Option.some.inj (h1.symm.trans B.method)
  cases Option.some.inj (h2.symm.trans (Stand.of_body B).code)
  rw [← h6, table_eq]
end Bodies
end VXA
/-! ===== END ===== -/
/-! ===== BEGIN a static call of a method with an exception table ===== -/
section VXS
variable {p : Program} {l : Launch} {e : Env} {R : Room} {s : State} {m : MethodId} {args : Array Value} {below : List Frame} {meth : Method} {c : Code} {T : State} {H : Heap} {locs : List Loc} {cells slots : Nat}
abbrev vx_CSW (R : Room) (s : State) (args : Array Value) (own : String) (index : Nat) (y : MethodName) (bytes : ByteArray) (maxL : Nat) (ret : Option FieldType) (hh : List (Nat × Nat × Nat × Nat)) (ws : List Cond) (rm : Room) (mc ms n : Nat) : Prop :=
  (rm.cells = mc ∧ rm.slots = ms ∧ rm.frames + 1 ≤ R.frames ∧ 8 + (maxL + 11) + rm.locals ≤ R.locals ∧ (∀ w ∈ ws, ∀ (a' : Array Value) (U : State), s.WarmedH U.vm → w.before a' U = true) ∧ Cond.codeWith y bytes maxL ret hh ∈ ws) ∧
  (Cond.codeWith y bytes maxL ret hh).before args s = true ∧ (Cond.initialized y.cls).before args s = true ∧ (y.cls ≠ "java/lang/invoke/MethodHandle" ∧ y.cls ≠ "java/lang/invoke/VarHandle") ∧
  (∀ sig, parseMethodDescriptor y.desc = some sig → n = sig.parameters.length) ∧ (Cond.methodLink own index y).before args s = true ∧ (Cond.static y).before args s = true
theorem vx_cwSW {own : String} {index maxL mc ms : Nat} {y : MethodName} {bytes : ByteArray} {ret : Option FieldType} {hh : List (Nat × Nat × Nat × Nat)} {Ts ws ws' : List Cond} {rm : Room} (n : Nat) (ht : ∀ w ∈ Ts, w.before args s = true) (hT : GoodIn Ts (va_wsS own index y ws)) (hw : ws = Cond.codeWith y bytes maxL ret hh :: ws') (hrc : rm.cells = mc) (hrs : rm.slots = ms)
    (hd : y.cls ≠ "java/lang/invoke/MethodHandle" ∧ y.cls ≠ "java/lang/invoke/VarHandle" ∧ (parseMethodDescriptor y.desc).map (fun d => d.parameters.length) = some n) (hR : rm.frames + 1 ≤ R.frames ∧ 8 + (maxL + 11) + rm.locals ≤ R.locals) :
    vx_CSW R s args own index y bytes maxL ret hh ws rm mc ms n := by
  have ok : ∀ w ∈ va_wsS own index y ws, w.before args s = true := fun w h => ht w (hT w h).1
  have hG : GoodIn Ts ws := fun w h => hT w (by unfold va_wsS; exact List.mem_append_right _ h)
  have hc : Cond.codeWith y bytes maxL ret hh ∈ ws := by rw [hw]; exact List.mem_cons_self
  refine ⟨⟨hrc, hrs, hR.1, hR.2, pay_in ht hG, hc⟩, ht _ (hG _ hc).1, ok _ (by simp [va_wsS]), ⟨hd.1, hd.2.1⟩, fun sig h => ?_, ok _ (by simp [va_wsS]), ok _ (by simp [va_wsS])⟩
  have h2 := hd.2.2
  rw [h] at h2
  exact (Option.some.inj h2).symm
theorem vx_callSW (X : Stand p l e R s m args below meth c T locs cells slots) (hexec : p.tables.exec = Jvm.exec) {own : String} {index : Nat} {y : MethodName} {bytes : ByteArray} {maxL : Nat} {ret : Option FieldType} {hh : List (Nat × Nat × Nat × Nat)}
    (hown : s.vm.findClass own = some m.cls) (hlink : (Cond.methodLink own index y).before args s = true) (hstat : (Cond.static y).before args s = true) (hinit : (Cond.initialized y.cls).before args s = true)
    (hcode : (Cond.codeWith y bytes maxL ret hh).before args s = true) (hy : y.cls ≠ "java/lang/invoke/MethodHandle" ∧ y.cls ≠ "java/lang/invoke/VarHandle")
    {W9 : Nat} {Pre : Pt → Array Value → Prop} {Post : Pt → Array Value → Option Value → Pt → Prop} (hK : Back l R p e below s args y 3 W9 Pre Post)
    {g : JFrame} (hg : g.method = m) (hsize : g.locals.size = c.maxLocals) {argsL rest : List Value} (hlen : ∀ sig, parseMethodDescriptor y.desc = some sig → argsL.length = sig.parameters.length)
    (hstack : g.stack = argsL.reverse ++ rest) (hW : 2 * g.monitorRoom + (rest.map fun v => v.category).sum ≤ W9) (hdg : decode c.code g.pc = .ok (.invokestatic index, 3))
    (hpre : ∀ vm₁, s.WarmedH vm₁ → Pre ⟨T.setVm vm₁, locs, cells, slots⟩ argsL.toArray) :
    ∃ (v : Option Value) (vm₁ : Vm) (B : Pt), s.WarmedH vm₁ ∧ Stand p l e R s m args below meth c B.U B.locs B.cells B.slots ∧ Post ⟨T.setVm vm₁, locs, cells, slots⟩ argsL.toArray v B ∧
      ∀ target, Steps p.tables e below (B.U.setTop { g with pc := g.pc + 3, stack := v.toList ++ rest }) target → Steps p.tables e below (T.setTop g) target := by
  obtain ⟨mk, methM, cM, hnamed, hmethM, -, -, -, -, -, -, hsigM⟩ := Cond.codeWith_spec hcode
  have hstatic : methM.isStatic = true := Cond.static_spec hnamed hmethM hstat
  obtain ⟨kP, hkP, -⟩ := className_of_methodNamed hnamed
  have hinitP : kP.init = .initialized := Cond.initialized_spec (findClass_of_methodNamed hnamed) hkP hinit
  obtain ⟨vm₁, X₁, hstep₁⟩ := X.invokestatic hexec hown hlink hnamed hmethM hstatic hkP hinitP hy (g := g) hg (argsL := argsL) (rest := rest) (hlen _ hsigM) hstack hdg
  obtain ⟨v, B, X', hpost, hsteps⟩ := hK m meth c ⟨T.setVm vm₁, locs, cells, slots⟩ { g with stack := rest } (.invokestatic index) mk argsL.toArray X₁ hg hsize hdg hW (X₁.named hnamed) (hpre vm₁ X₁.warmed)
  exact ⟨v, vm₁, B, X₁.warmed, X', hpost, fun target h => hstep₁ _ fun acts => by rw [doInvoke_state]; exact hsteps.trans h⟩
theorem vx_runSW {y : MethodName} {bytes cc : ByteArray} {maxL nL mc ms n index : Nat} {ret : Option FieldType} {hh : List (Nat × Nat × Nat × Nat)} {ws : List Cond} {rm : Room} {Pc : Array Value → State → Prop} {Qc : Array Value → State → Outcome → State → Prop} {free : Addr → Prop} {Ts : List Cond} {own : String} {As rest : List Value} {g : JFrame}
    (S : CallFix p m c cc nL s args Ts own) (hM : Met l y ws rm Pc Qc mc ms free) (cw : vx_CSW R s args own index y bytes maxL ret hh ws rm mc ms n) (hp : PreS s H Pc As)
    (hg : g.method = m) (hn : As.length = n) (hsize : g.locals.size = nL) (hstack : g.stack = As.reverse ++ rest) (hW : 2 * g.monitorRoom + (rest.map fun v => v.category).sum ≤ 8) (hdg : decode cc g.pc = .ok (.invokestatic index, 3)) (hf : cells + mc ≤ R.cells ∧ slots + ms ≤ R.slots) :
    va_Run p l e R s m args below meth c H locs cells slots mc ms g rest (Qc As.toArray) (free) := by
  obtain ⟨⟨hrc, hrs, hfr, hlo, hws, hcw⟩, hcode, hini, hy, hlen, hl, hstt⟩ := cw
  have hK : Back l R p e below s args y 3 8 (PreOf R mc ms Pc) (PostOf Qc mc ms free) := va_backW (hh := hh) (bytes := bytes) (maxL := maxL) (ret := ret) hM hp.1 hrc hrs hfr hlo hws hcw (fun a' U hW => word_at hW (Or.inl (by first | rfl | simp [Cond.onTables, Cond.keeps, Cond.steady])) hini)
  obtain ⟨hx, hb, hml, ho, -⟩ := S
  intro T hT X
  obtain ⟨v, vm₁, ⟨U', l2, c2, s2⟩, hW₁, X', ⟨g', mk, t, L, e1, e2, hq, h1, hL, h2, h3⟩, st⟩ := vx_callSW X hx (hh := hh) (bytes := bytes) (maxL := maxL) (ret := ret) ho hl hstt hini hcode hy hK hg (hsize.trans hml.symm) (argsL := As) (rest := rest) (fun sig h => hn.trans (hlen sig h)) hstack hW (by rw [hb]; exact hdg)
    (fun vm₁ hW₁ => ⟨hf.1, hf.2, hp.2 (T.setVm vm₁) hT hW₁⟩)
  dsimp only [Pt.U, Pt.locs, Pt.cells, Pt.slots] at X' e1 e2 h1 h2 h3 st
  subst h1; subst h2; subst h3
  exact ⟨v, (T.setVm vm₁).calling g' mk As.toArray, t, U', L, hT, X', hL, e1, e2, hq, st⟩
/-- not caught here, past rows that name other classes: it goes on to the caller -/
theorem vx_outP {p : Program} {l : Launch} {e : Env} {R : Room} {s : State} {m : MethodId} {args : Array Value} {below : List Frame} {meth : Method} {c : Code} {H : Heap} {locs : List Loc} {cells slots : Nat} {free : Addr → Prop} {ls : Array Slot} {rest : List Value} {Qc : Array Value → State → Outcome → State → Prop} {XC : String → State → State → Prop}
    {pc : Nat} {own E : String} {ce : Cell} {q : Addr} {mc ms : Nat} (hown : s.vm.findClass own = some m.cls) (hlocks : meth.locks = false)
    (hpass : ∀ z ∈ c.exceptionTable.toList, covers z pc = false ∨ (z.catchType ≠ 0 ∧ ∃ nm : String, (Cond.classLink own z.catchType nm).before args s = true ∧ va_Nc E nm s)) (hcell : H[q]? = some ce) (hv : ce.vm = .none) (hcl : s.vm.findClass E = some ce.cls)
    (hx : ∀ t : State, t.heap = H → s.vm.Alike t.vm → XC E s t) (hf : ∀ z ∈ locs, free z.base) (hc : cells ≤ mc) (hs : slots ≤ ms) :
    vx_W p l e R s m args below meth c H locs cells slots (vx_MQ below Qc XC args s mc ms free) (F0 m pc ls rest) q := by
  intro T hT X
  have hpl : e.platform.magicAccessors = ({} : Platform).magicAccessors := by rw [X.admits.platform]
  obtain ⟨vm', hW', X', st⟩ := X.outThrough hlocks q (g := F0 m pc ls rest) rfl rfl rfl (cell := ce) (by rw [hT]; exact hcell) (by rw [hv]; rfl)
    (by obtain ⟨k9, h9, -⟩ := Vm.findClass_spec hcl; exact ⟨k9, h9⟩) (fun z hz => by
      rcases hpass z hz with h | ⟨hz0, nm, hl1, hn1⟩
      · exact Or.inl h
      · obtain ⟨c6, hc6, hcl6⟩ := Cond.classLink_spec hown hl1 e.platform hpl
        obtain ⟨a8, b8, h1, h2, h3⟩ := hn1
        cases Option.some.inj (h1.symm.trans hcl)
        cases Option.some.inj (h2.symm.trans hc6)
        exact Or.inr ⟨hz0, _, hcl6, h3⟩)
  obtain ⟨g₀, hfr⟩ := X'.frames_eq
  have hcell9 : ((T.setVm vm').setFrames (.throwing q :: below)).heap[q]? = some ce := by
    show T.heap[q]? = some ce
    rw [hT]; exact hcell
  have hend : Ended ((T.setVm vm').setFrames (.throwing q :: below)) below (.threw q) := State.frames_setFrames _ (State.cur_lt_of_frames hfr)
  refine ⟨(T.setVm vm').setFrames (.throwing q :: below), ?_, .threw q, X'.here.running, hend, Or.inr ⟨q, rfl, E, ce, locs, hx _ hT (X'.ends _).1.alike, hcell9, hv, hcl, (X'.ends _).1, (X'.ends _).2.mono hc hs, hf⟩⟩
  rw [X.pushThrowing_eq]
  exact st
/-- a thing of a world lies in the heap -/
theorem vx_lt {D : va_G} {cl : List vw_C} {ws : va_W} {H1 : Heap} (h : va_P D cl ws H1) {k : Nat} {q : Nat × va_E} (hk : ws[k]? = some q) : q.1 < H1.size := (h k q hk).lt
end VXS
/-! ===== END ===== -/
/-! ===== BEGIN methods with a table of their own: called by a name, returning or throwing ===== -/
section VXH
/-! vx_backW, vx_callVX, vx_callSX, vx_callVW, vx_runVW, vx_runVX, vx_runSX, vx_ofWH follow the same proofs as their sisters above (Free/Laws.lean, Shelf42/LK1.lean); vx_outP calls Shelf42/NT130.lean (outThrough). -/
section
variable {l : Launch} {R : Room} {p : Program} {e : Env} {below : List Frame} {s : State} {sargs : Array Value} {y : MethodName} {len W9 : Nat}
theorem vx_backW {ws : List Cond} {rm : Room} {Pc : Array Value → State → Prop} {Qc : Array Value → State → Outcome → State → Prop} {XC : String → State → State → Prop} {mc ms : Nat} {free : Addr → Prop} {bytes : ByteArray} {maxL : Nat} {ret : Option FieldType} {hh : List (Nat × Nat × Nat × Nat)}
    (hM : vx_Met l y ws rm Pc Qc XC mc ms free) (hblind : FrameBlind Pc) (hrc : rm.cells = mc) (hrs : rm.slots = ms)
    (hframes : rm.frames + 1 ≤ R.frames) (hlocals : W9 + (maxL + 11) + rm.locals ≤ R.locals)
    (hws : ∀ w ∈ ws, ∀ a' U, s.WarmedH U.vm → w.before a' U = true) (hcode : Cond.codeWith y bytes maxL ret hh ∈ ws) (hinit : ∀ a' U, s.WarmedH U.vm → (Cond.initialized y.cls).before a' U = true) :
    vx_Back l R p e below s sargs y len W9 (PreOf R mc ms Pc) (PostOf Qc mc ms free) (vx_Post XC mc ms free) := by
  intro m meth c A g ig mk a X hg hsize hdg hW hn hp
  have h1 : (headSpec ws rm).pre.before a A.U = true := atoms_intro fun w hw => hws w hw _ _ X.warmed
  have h2 : (Cond.codeWith y bytes maxL ret hh).before a A.U = true := hws _ hcode _ _ X.warmed
  have h3 : (Cond.initialized y.cls).before a A.U = true := hinit _ _ X.warmed
  have h4 : A.cells + (headSpec ws rm).room.cells ≤ R.cells := by rw [show (headSpec ws rm).room.cells = mc from hrc]; exact hp.1
  have h5 : A.slots + (headSpec ws rm).room.slots ≤ R.slots := by rw [show (headSpec ws rm).room.slots = ms from hrs]; exact hp.2.1
  have hPc : Pc a (A.U.calling g mk a) := hblind _ _ _ _ hp.2.2
  obtain ⟨U, Ls, c0, s0⟩ := A
  dsimp only [Pt.U, Pt.locs, Pt.cells, Pt.slots] at h1 h2 h3 h4 h5 X hn hPc ⊢
  obtain ⟨m9, methY, cY, hn9, hmY, hcY, -, hlY, -⟩ := Cond.codeWith_spec h2
  cases Option.some.inj (hn9.symm.trans hn)
  obtain ⟨kY, hkY, -⟩ := className_of_methodNamed hn
  have hinitY : kY.init = .initialized := Cond.initialized_spec (findClass_of_methodNamed hn) hkY h3
  have h : At U g.method c below := by rw [hg]; exact X.here
  have hlocals9 : W9 + (maxL + 11) + (headSpec ws rm).room.locals ≤ R.locals := hlocals
  have happ : (headSpec ws rm).appliesLoose y e.platform (U.calling g mk a) = true :=
    Spec.appliesLoose_calling (g := g) h hdg hn hkY hinitY
      (X.room_calling (g := g) (R' := (headSpec ws rm).room) hsize hmY hcY hframes (by rw [hlY]; omega) h4 h5) h1
  obtain ⟨mid, hmid⟩ := h.above
  have hfr : (U.setTop g).frames = (.java g :: mid) ++ below := by rw [State.frames_setTop' g h.top, hmid]; rfl
  obtain ⟨o, s₂, hsteps, -, hend, hq⟩ := Steps.callFree hM p X.admits X.cas X.clock (acts := []) hfr happ hPc trivial
  have hq' : vx_Q Qc XC mc ms free a (U.calling g mk a) o s₂ := hq
  rw [State.frames_setTop' g h.top] at hend
  obtain ⟨g₀, hg0⟩ := Option.isSome_iff_exists.mp h.top
  obtain ⟨r, hr⟩ := State.topJava?_eq_some.mp hg0
  have hr' : (({ U with heap := s₂.heap, slotsUsed := s₂.slotsUsed } : State).setVm s₂.vm).frames = .java g₀ :: r := hr
  rcases hq' with ⟨hqc, L, hfe, hL⟩ | ⟨q, rfl, E, ce, L, hx, hce, hcv, hcl, hW₂, hsm, hL⟩
  · obtain ⟨⟨v, rfl⟩, hW₂, e2, q2, q3, q4, q5, q6⟩ := id hfe
    have e3 : s₂ = ({ (U.calling g mk a).setFrames s₂.frames with heap := s₂.heap, slotsUsed := s₂.slotsUsed } : State).setVm s₂.vm := by
      have : s₂ = ({ s₂ with vm := (U.calling g mk a).vm } : State).setVm s₂.vm := rfl
      rw [e2] at this
      exact this
    obtain ⟨c₂, i₂, len₂, hc₂, hd₂, hf₂⟩ := hend
    have hW' : U.WarmedH s₂.vm := hW₂
    have hcc : c₂ = c := by
      have h1 : s₂.code? g.method = U.code? g.method := by
        rw [State.code?_eq, State.code?_eq, hW'.alike.method?]
      exact Option.some.inj (hc₂.symm.trans (h1.trans h.code))
    subst hcc
    have hlen : len₂ = len := by rw [hdg] at hd₂; cases hd₂; rfl
    subst hlen
    have hs₂ : s₂ = (({ U with heap := s₂.heap, slotsUsed := s₂.slotsUsed } : State).setVm s₂.vm).setTop { g with pc := g.pc + len₂, stack := v.toList ++ g.stack } := by
      refine e3.trans ?_
      rw [hf₂, State.calling_eq h.top, State.setFrames_setFrames, State.setTop_of_frames _ hr', hr]
      rfl
    have hsame : U.sameButNew ({ U with heap := s₂.heap, slotsUsed := s₂.slotsUsed } : State) L mc ms := by
      refine ⟨?_, q2, q3, q4, q5, q6⟩
      obtain ⟨t, ht, -⟩ := State.frames_cons hr
      show ({ U with heap := s₂.heap, slotsUsed := s₂.slotsUsed } : State) = { U.setFrames U.frames with heap := s₂.heap, slotsUsed := s₂.slotsUsed }
      rw [State.setFrames_self ht]
    subst hg
    refine Or.inl ⟨v, ⟨(({ U with heap := s₂.heap, slotsUsed := s₂.slotsUsed } : State).setVm s₂.vm), Ls ++ L, c0 + mc, s0 + ms⟩,
      ⟨X.admits, X.cas, X.clock, X.frames, X.room, X.hears, X.method, X.code, (X.here.setHeapUsed s₂.heap s₂.slotsUsed).setVm hW'.alike, X.tail, State.WarmedH.trans X.warmed hW', X.limits, X.bytes, X.same.trans (hsame.setVm s.vm)⟩,
      ⟨g, mk, s₂, L, rfl, rfl, hqc, rfl, hL, rfl, rfl⟩, ?_⟩
    show Steps p.tables e below _ ((({ U with heap := s₂.heap, slotsUsed := s₂.slotsUsed } : State).setVm s₂.vm).setTop { g with pc := g.pc + len₂, stack := v.toList ++ g.stack })
    rw [← hs₂]
    exact hsteps
  · obtain ⟨e2, q2, q3, q4, q5, q6⟩ := id hsm
    have e3 : s₂ = ({ (U.calling g mk a).setFrames s₂.frames with heap := s₂.heap, slotsUsed := s₂.slotsUsed } : State).setVm s₂.vm := by
      have : s₂ = ({ s₂ with vm := (U.calling g mk a).vm } : State).setVm s₂.vm := rfl
      rw [e2] at this
      exact this
    have hf₂ : s₂.frames = .throwing q :: .java g :: U.frames.tail := hend
    have hW' : U.WarmedH s₂.vm := hW₂
    have hs₂ : s₂ = ((({ U with heap := s₂.heap, slotsUsed := s₂.slotsUsed } : State).setVm s₂.vm).setTop g).pushFrame (.throwing q) := by
      refine e3.trans ?_
      rw [hf₂, State.calling_eq h.top, State.setFrames_setFrames, State.pushFrame, State.frames_setTop _ hr', State.setTop_of_frames _ hr', State.setFrames_setFrames, hr]
      rfl
    have hsame : U.sameButNew ({ U with heap := s₂.heap, slotsUsed := s₂.slotsUsed } : State) L mc ms := by
      refine ⟨?_, q2, q3, q4, q5, q6⟩
      obtain ⟨t, ht, -⟩ := State.frames_cons hr
      show ({ U with heap := s₂.heap, slotsUsed := s₂.slotsUsed } : State) = { U.setFrames U.frames with heap := s₂.heap, slotsUsed := s₂.slotsUsed }
      rw [State.setFrames_self ht]
    subst hg
    refine Or.inr ⟨q, ⟨(({ U with heap := s₂.heap, slotsUsed := s₂.slotsUsed } : State).setVm s₂.vm), Ls ++ L, c0 + mc, s0 + ms⟩,
      ⟨X.admits, X.cas, X.clock, X.frames, X.room, X.hears, X.method, X.code, (X.here.setHeapUsed s₂.heap s₂.slotsUsed).setVm hW'.alike, X.tail, State.WarmedH.trans X.warmed hW', X.limits, X.bytes, X.same.trans (hsame.setVm s.vm)⟩,
      ⟨g, mk, s₂, L, E, ce, rfl, rfl, hx, hce, hcv, hcl, rfl, hL, rfl, rfl⟩, ?_⟩
    show Steps p.tables e below _ (((({ U with heap := s₂.heap, slotsUsed := s₂.slotsUsed } : State).setVm s₂.vm).setTop g).pushFrame (.throwing q))
    rw [← hs₂]
    exact hsteps
end
variable {p : Program} {l : Launch} {e : Env} {R : Room} {s : State} {m : MethodId} {args : Array Value} {below : List Frame} {meth : Method} {c : Code} {T : State} {H : Heap} {locs : List Loc} {cells slots : Nat}
theorem vx_callVX (X : Stand p l e R s m args below meth c T locs cells slots) (hexec : p.tables.exec = Jvm.exec) {own C : String} {index : Nat} {y : MethodName} {bytes : ByteArray} {maxL : Nat} {ret : Option FieldType} {hh : List (Nat × Nat × Nat × Nat)}
    (hown : s.vm.findClass own = some m.cls) (hlink : (Cond.methodLink own index y).before args s = true) (hinst : (Cond.instanceMethod y).before args s = true) (hsel : (Cond.selects C y y).before args s = true)
    (hcode : (Cond.codeWith y bytes maxL ret hh).before args s = true) (hy : y.cls ≠ "java/lang/invoke/MethodHandle" ∧ y.cls ≠ "java/lang/invoke/VarHandle")
    {W9 : Nat} {Pre : Pt → Array Value → Prop} {Post : Pt → Array Value → Option Value → Pt → Prop} {PostX : Pt → Array Value → Addr → Pt → Prop} (hK : vx_Back l R p e below s args y 3 W9 Pre Post PostX)
    {b : Addr} {cellB : Cell} (hcell : T.heap[b]? = some cellB) (hobj : cellB.vm.isStatics = false) (hcls : s.vm.findClass C = some cellB.cls)
    {g : JFrame} (hg : g.method = m) (hsize : g.locals.size = c.maxLocals) {argsL rest : List Value} (hlen : ∀ sig, parseMethodDescriptor y.desc = some sig → argsL.length = sig.parameters.length)
    (hstack : g.stack = argsL.reverse ++ .ref b :: rest) (hW : 2 * g.monitorRoom + (rest.map fun v => v.category).sum ≤ W9) (hdg : decode c.code g.pc = .ok (.invokevirtual index, 3))
    (hpre : ∀ vm₁, s.WarmedH vm₁ → Pre ⟨T.setVm vm₁, locs, cells, slots⟩ (Value.ref b :: argsL).toArray) :
    (∃ (v : Option Value) (vm₁ : Vm) (B : Pt), s.WarmedH vm₁ ∧ Stand p l e R s m args below meth c B.U B.locs B.cells B.slots ∧ Post ⟨T.setVm vm₁, locs, cells, slots⟩ (Value.ref b :: argsL).toArray v B ∧
      ∀ target, Steps p.tables e below (B.U.setTop { g with pc := g.pc + 3, stack := v.toList ++ rest }) target → Steps p.tables e below (T.setTop g) target) ∨
    (∃ (q : Addr) (vm₁ : Vm) (B : Pt), s.WarmedH vm₁ ∧ Stand p l e R s m args below meth c B.U B.locs B.cells B.slots ∧ PostX ⟨T.setVm vm₁, locs, cells, slots⟩ (Value.ref b :: argsL).toArray q B ∧
      Steps p.tables e below (T.setTop g) ((B.U.setTop { g with stack := rest }).pushFrame (.throwing q))) := by
  obtain ⟨mk, methM, hnamed, hmethM, hstM, habM⟩ := Cond.instanceMethod_spec hinst
  obtain ⟨m8, methM', cM, hn8, hmethM', -, -, -, -, -, -, hsigM⟩ := Cond.codeWith_spec hcode
  cases Option.some.inj (hn8.symm.trans hnamed)
  cases hmethM.symm.trans hmethM'
  obtain ⟨c2, r2, m2, q1, q2, q3, q4, kP, hkP, hkPi⟩ := Cond.selects_spec hsel
  cases hcls.symm.trans q1
  cases (State.methodFound?_of_named hnamed hy).symm.trans q2
  cases hnamed.symm.trans q3
  have hselP : selectMethod e.platform s.vm cellB.cls mk = .method mk := by rw [Launch.admits_selectMethod X.admits]; exact q4
  obtain ⟨vm₁, X₁, hstep₁⟩ := X.invokevirtual hexec hown hlink hnamed hmethM hstM hkP hkPi hy (a := b) (cell := cellB) hcell
    (fun z h => by rw [h] at hobj; cases hobj) hselP hmethM habM hkP hkPi (g := g) hg (argsL := argsL) (rest := rest) (hlen _ hsigM) hstack hdg
  rcases hK m meth c ⟨T.setVm vm₁, locs, cells, slots⟩ { g with stack := rest } (.invokevirtual index) mk (Value.ref b :: argsL).toArray X₁ hg hsize hdg hW (X₁.named hnamed) (hpre vm₁ X₁.warmed) with ⟨v, B, X', hpost, hsteps⟩ | ⟨q, B, X', hpost, hsteps⟩
  · exact Or.inl ⟨v, vm₁, B, X₁.warmed, X', hpost, fun target h => hstep₁ _ fun acts => by rw [doInvoke_state]; exact hsteps.trans h⟩
  · exact Or.inr ⟨q, vm₁, B, X₁.warmed, X', hpost, hstep₁ _ fun acts => by rw [doInvoke_state]; exact hsteps⟩
theorem vx_callSX (X : Stand p l e R s m args below meth c T locs cells slots) (hexec : p.tables.exec = Jvm.exec) {own : String} {index : Nat} {y : MethodName} {bytes : ByteArray} {maxL : Nat} {ret : Option FieldType} {hh : List (Nat × Nat × Nat × Nat)}
    (hown : s.vm.findClass own = some m.cls) (hlink : (Cond.methodLink own index y).before args s = true) (hstat : (Cond.static y).before args s = true) (hinit : (Cond.initialized y.cls).before args s = true)
    (hcode : (Cond.codeWith y bytes maxL ret hh).before args s = true) (hy : y.cls ≠ "java/lang/invoke/MethodHandle" ∧ y.cls ≠ "java/lang/invoke/VarHandle")
    {W9 : Nat} {Pre : Pt → Array Value → Prop} {Post : Pt → Array Value → Option Value → Pt → Prop} {PostX : Pt → Array Value → Addr → Pt → Prop} (hK : vx_Back l R p e below s args y 3 W9 Pre Post PostX)
    {g : JFrame} (hg : g.method = m) (hsize : g.locals.size = c.maxLocals) {argsL rest : List Value} (hlen : ∀ sig, parseMethodDescriptor y.desc = some sig → argsL.length = sig.parameters.length)
    (hstack : g.stack = argsL.reverse ++ rest) (hW : 2 * g.monitorRoom + (rest.map fun v => v.category).sum ≤ W9) (hdg : decode c.code g.pc = .ok (.invokestatic index, 3))
    (hpre : ∀ vm₁, s.WarmedH vm₁ → Pre ⟨T.setVm vm₁, locs, cells, slots⟩ argsL.toArray) :
    (∃ (v : Option Value) (vm₁ : Vm) (B : Pt), s.WarmedH vm₁ ∧ Stand p l e R s m args below meth c B.U B.locs B.cells B.slots ∧ Post ⟨T.setVm vm₁, locs, cells, slots⟩ argsL.toArray v B ∧
      ∀ target, Steps p.tables e below (B.U.setTop { g with pc := g.pc + 3, stack := v.toList ++ rest }) target → Steps p.tables e below (T.setTop g) target) ∨
    (∃ (q : Addr) (vm₁ : Vm) (B : Pt), s.WarmedH vm₁ ∧ Stand p l e R s m args below meth c B.U B.locs B.cells B.slots ∧ PostX ⟨T.setVm vm₁, locs, cells, slots⟩ argsL.toArray q B ∧
      Steps p.tables e below (T.setTop g) ((B.U.setTop { g with stack := rest }).pushFrame (.throwing q))) := by
  obtain ⟨mk, methM, cM, hnamed, hmethM, -, -, -, -, -, -, hsigM⟩ := Cond.codeWith_spec hcode
  have hstatic : methM.isStatic = true := Cond.static_spec hnamed hmethM hstat
  obtain ⟨kP, hkP, -⟩ := className_of_methodNamed hnamed
  have hinitP : kP.init = .initialized := Cond.initialized_spec (findClass_of_methodNamed hnamed) hkP hinit
  obtain ⟨vm₁, X₁, hstep₁⟩ := X.invokestatic hexec hown hlink hnamed hmethM hstatic hkP hinitP hy (g := g) hg (argsL := argsL) (rest := rest) (hlen _ hsigM) hstack hdg
  rcases hK m meth c ⟨T.setVm vm₁, locs, cells, slots⟩ { g with stack := rest } (.invokestatic index) mk argsL.toArray X₁ hg hsize hdg hW (X₁.named hnamed) (hpre vm₁ X₁.warmed) with ⟨v, B, X', hpost, hsteps⟩ | ⟨q, B, X', hpost, hsteps⟩
  · exact Or.inl ⟨v, vm₁, B, X₁.warmed, X', hpost, fun target h => hstep₁ _ fun acts => by rw [doInvoke_state]; exact hsteps.trans h⟩
  · exact Or.inr ⟨q, vm₁, B, X₁.warmed, X', hpost, hstep₁ _ fun acts => by rw [doInvoke_state]; exact hsteps⟩
theorem vx_callVW (X : Stand p l e R s m args below meth c T locs cells slots) (hexec : p.tables.exec = Jvm.exec) {own C : String} {index : Nat} {y : MethodName} {bytes : ByteArray} {maxL : Nat} {ret : Option FieldType} {hh : List (Nat × Nat × Nat × Nat)}
    (hown : s.vm.findClass own = some m.cls) (hlink : (Cond.methodLink own index y).before args s = true) (hinst : (Cond.instanceMethod y).before args s = true) (hsel : (Cond.selects C y y).before args s = true)
    (hcode : (Cond.codeWith y bytes maxL ret hh).before args s = true) (hy : y.cls ≠ "java/lang/invoke/MethodHandle" ∧ y.cls ≠ "java/lang/invoke/VarHandle")
    {W9 : Nat} {Pre : Pt → Array Value → Prop} {Post : Pt → Array Value → Option Value → Pt → Prop} (hK : Back l R p e below s args y 3 W9 Pre Post)
    {b : Addr} {cellB : Cell} (hcell : T.heap[b]? = some cellB) (hobj : cellB.vm.isStatics = false) (hcls : s.vm.findClass C = some cellB.cls)
    {g : JFrame} (hg : g.method = m) (hsize : g.locals.size = c.maxLocals) {argsL rest : List Value} (hlen : ∀ sig, parseMethodDescriptor y.desc = some sig → argsL.length = sig.parameters.length)
    (hstack : g.stack = argsL.reverse ++ .ref b :: rest) (hW : 2 * g.monitorRoom + (rest.map fun v => v.category).sum ≤ W9) (hdg : decode c.code g.pc = .ok (.invokevirtual index, 3))
    (hpre : ∀ vm₁, s.WarmedH vm₁ → Pre ⟨T.setVm vm₁, locs, cells, slots⟩ (Value.ref b :: argsL).toArray) :
    ∃ (v : Option Value) (vm₁ : Vm) (B : Pt), s.WarmedH vm₁ ∧ Stand p l e R s m args below meth c B.U B.locs B.cells B.slots ∧ Post ⟨T.setVm vm₁, locs, cells, slots⟩ (Value.ref b :: argsL).toArray v B ∧
      ∀ target, Steps p.tables e below (B.U.setTop { g with pc := g.pc + 3, stack := v.toList ++ rest }) target → Steps p.tables e below (T.setTop g) target := by
  obtain ⟨mk, methM, hnamed, hmethM, hstM, habM⟩ := Cond.instanceMethod_spec hinst
  obtain ⟨m8, methM', cM, hn8, hmethM', -, -, -, -, -, -, hsigM⟩ := Cond.codeWith_spec hcode
  cases Option.some.inj (hn8.symm.trans hnamed)
  cases hmethM.symm.trans hmethM'
  obtain ⟨c2, r2, m2, q1, q2, q3, q4, kP, hkP, hkPi⟩ := Cond.selects_spec hsel
  cases hcls.symm.trans q1
  cases (State.methodFound?_of_named hnamed hy).symm.trans q2
  cases hnamed.symm.trans q3
  have hselP : selectMethod e.platform s.vm cellB.cls mk = .method mk := by rw [Launch.admits_selectMethod X.admits]; exact q4
  obtain ⟨vm₁, X₁, hstep₁⟩ := X.invokevirtual hexec hown hlink hnamed hmethM hstM hkP hkPi hy (a := b) (cell := cellB) hcell
    (fun z h => by rw [h] at hobj; cases hobj) hselP hmethM habM hkP hkPi (g := g) hg (argsL := argsL) (rest := rest) (hlen _ hsigM) hstack hdg
  obtain ⟨v, B, X', hpost, hsteps⟩ := hK m meth c ⟨T.setVm vm₁, locs, cells, slots⟩ { g with stack := rest } (.invokevirtual index) mk (Value.ref b :: argsL).toArray X₁ hg hsize hdg hW (X₁.named hnamed) (hpre vm₁ X₁.warmed)
  exact ⟨v, vm₁, B, X₁.warmed, X', hpost, fun target h => hstep₁ _ fun acts => by rw [doInvoke_state]; exact hsteps.trans h⟩
abbrev vx_CVW (R : Room) (s : State) (args : Array Value) (own C : String) (index : Nat) (y : MethodName) (bytes : ByteArray) (maxL : Nat) (ret : Option FieldType) (hh : List (Nat × Nat × Nat × Nat)) (ws : List Cond) (rm : Room) (mc ms n : Nat) : Prop :=
  (rm.cells = mc ∧ rm.slots = ms ∧ rm.frames + 1 ≤ R.frames ∧ 8 + (maxL + 11) + rm.locals ≤ R.locals ∧ (∀ w ∈ ws, ∀ (a' : Array Value) (U : State), s.WarmedH U.vm → w.before a' U = true) ∧ Cond.codeWith y bytes maxL ret hh ∈ ws) ∧
  (Cond.codeWith y bytes maxL ret hh).before args s = true ∧ (Cond.initialized y.cls).before args s = true ∧ (y.cls ≠ "java/lang/invoke/MethodHandle" ∧ y.cls ≠ "java/lang/invoke/VarHandle") ∧
  (∀ sig, parseMethodDescriptor y.desc = some sig → n = sig.parameters.length) ∧ (Cond.methodLink own index y).before args s = true ∧ (Cond.instanceMethod y).before args s = true ∧ (Cond.selects C y y).before args s = true
theorem vx_cwVW {own C : String} {index maxL mc ms : Nat} {y : MethodName} {bytes : ByteArray} {ret : Option FieldType} {hh : List (Nat × Nat × Nat × Nat)} {Ts ws ws' : List Cond} {rm : Room} (n : Nat) (ht : ∀ w ∈ Ts, w.before args s = true) (hT : GoodIn Ts (wsV own index C y ws)) (hw : ws = Cond.codeWith y bytes maxL ret hh :: ws') (hrc : rm.cells = mc) (hrs : rm.slots = ms)
    (hd : y.cls = C ∧ y.cls ≠ "java/lang/invoke/MethodHandle" ∧ y.cls ≠ "java/lang/invoke/VarHandle" ∧ (parseMethodDescriptor y.desc).map (fun d => d.parameters.length) = some n) (hR : rm.frames + 1 ≤ R.frames ∧ 8 + (maxL + 11) + rm.locals ≤ R.locals) :
    vx_CVW R s args own C index y bytes maxL ret hh ws rm mc ms n := by
  obtain ⟨hC, hd⟩ := hd
  subst hC
  have ok : ∀ w ∈ wsV own index y.cls y ws, w.before args s = true := fun w h => ht w (hT w h).1
  have hG : GoodIn Ts ws := fun w h => hT w (by unfold wsV; exact List.mem_append_right _ h)
  have hc : Cond.codeWith y bytes maxL ret hh ∈ ws := by rw [hw]; exact List.mem_cons_self
  refine ⟨⟨hrc, hrs, hR.1, hR.2, pay_in ht hG, hc⟩, ht _ (hG _ hc).1, ok _ (by simp [wsV]), ⟨hd.1, hd.2.1⟩, fun sig h => ?_, ok _ (by simp [wsV]), ok _ (by simp [wsV]), ok _ (by simp [wsV])⟩
  have h2 := hd.2.2
  rw [h] at h2
  exact (Option.some.inj h2).symm
theorem vx_runVW {y : MethodName} {bytes cc : ByteArray} {maxL nL mc ms n index : Nat} {ret : Option FieldType} {hh : List (Nat × Nat × Nat × Nat)} {ws : List Cond} {rm : Room} {Pc : Array Value → State → Prop} {Qc : Array Value → State → Outcome → State → Prop} {free : Addr → Prop} {Ts : List Cond} {own C : String} {b : Addr} {As rest : List Value} {g : JFrame}
    (S : CallFix p m c cc nL s args Ts own) (hM : Met l y ws rm Pc Qc mc ms free) (cw : vx_CVW R s args own C index y bytes maxL ret hh ws rm mc ms n) (hp : PreV s H C b Pc As)
    (hg : g.method = m) (hn : As.length = n) (hsize : g.locals.size = nL) (hstack : g.stack = As.reverse ++ .ref b :: rest) (hW : 2 * g.monitorRoom + (rest.map fun v => v.category).sum ≤ 8) (hdg : decode cc g.pc = .ok (.invokevirtual index, 3)) (hf : cells + mc ≤ R.cells ∧ slots + ms ≤ R.slots) :
    va_Run p l e R s m args below meth c H locs cells slots mc ms g rest (Qc (Value.ref b :: As).toArray) free := by
  obtain ⟨⟨hrc, hrs, hfr, hlo, hws, hcw⟩, hcode, hini, hy, hlen, hl, hin, hse⟩ := cw
  have hK : Back l R p e below s args y 3 8 (PreOf R mc ms Pc) (PostOf Qc mc ms free) := va_backW (hh := hh) (bytes := bytes) (maxL := maxL) (ret := ret) hM hp.1 hrc hrs hfr hlo hws hcw (fun a' U hW => word_at hW (Or.inl (by first | rfl | simp [Cond.onTables, Cond.keeps, Cond.steady])) hini)
  obtain ⟨hx, hb, hml, ho, -⟩ := S
  obtain ⟨-, ⟨cellB, hcB, hoB, hclB⟩, hPc⟩ := hp
  intro T hT X
  obtain ⟨v, vm₁, ⟨U', l2, c2, s2⟩, hW₁, X', ⟨g', mk, t, L, e1, e2, hq, h1, hL, h2, h3⟩, st⟩ := vx_callVW X hx (C := C) (hh := hh) (bytes := bytes) (maxL := maxL) (ret := ret) ho hl hin hse hcode hy hK (by rw [hT]; exact hcB) hoB hclB hg (hsize.trans hml.symm) (argsL := As) (rest := rest) (fun sig h => hn.trans (hlen sig h)) hstack hW (by rw [hb]; exact hdg)
    (fun vm₁ hW₁ => ⟨hf.1, hf.2, hPc (T.setVm vm₁) hT hW₁⟩)
  dsimp only [Pt.U, Pt.locs, Pt.cells, Pt.slots] at X' e1 e2 h1 h2 h3 st
  subst h1; subst h2; subst h3
  exact ⟨v, (T.setVm vm₁).calling g' mk (Value.ref b :: As).toArray, t, U', L, hT, X', hL, e1, e2, hq, st⟩
section
variable {y : MethodName} {bytes cc : ByteArray} {maxL nL mc ms n index : Nat} {ret : Option FieldType} {ws : List Cond} {rm : Room} {Pc : Array Value → State → Prop} {Qc : Array Value → State → Outcome → State → Prop} {XC : String → State → State → Prop} {free : Addr → Prop} {Ts : List Cond} {own C : String} {b : Addr} {As rest : List Value} {g : JFrame}
theorem vx_runVX {hh : List (Nat × Nat × Nat × Nat)} (S : CallFix p m c cc nL s args Ts own) (hM : vx_Met l y ws rm Pc Qc XC mc ms free) (cw : vx_CVW R s args own C index y bytes maxL ret hh ws rm mc ms n) (hp : PreV s H C b Pc As)
    (hg : g.method = m) (hn : As.length = n) (hsize : g.locals.size = nL) (hstack : g.stack = As.reverse ++ .ref b :: rest) (hW : 2 * g.monitorRoom + (rest.map fun v => v.category).sum ≤ 8) (hdg : decode cc g.pc = .ok (.invokevirtual index, 3)) (hf : cells + mc ≤ R.cells ∧ slots + ms ≤ R.slots) :
    vx_Run p l e R s m args below meth c H locs cells slots mc ms g rest (Qc (Value.ref b :: As).toArray) XC free := by
  obtain ⟨⟨hrc, hrs, hfr, hlo, hws, hcw⟩, hcode, hini, hy, hlen, hl, hin, hse⟩ := cw
  have hK : vx_Back l R p e below s args y 3 8 (PreOf R mc ms Pc) (PostOf Qc mc ms free) (vx_Post XC mc ms free) := vx_backW (hh := hh) (bytes := bytes) (maxL := maxL) (ret := ret) hM hp.1 hrc hrs hfr hlo hws hcw (fun a' U hW => word_at hW (Or.inl (by first | rfl | simp [Cond.onTables, Cond.keeps, Cond.steady])) hini)
  obtain ⟨hx, hb, hml, ho, -⟩ := S
  obtain ⟨-, ⟨cellB, hcB, hoB, hclB⟩, hPc⟩ := hp
  intro T hT X
  rcases vx_callVX X hx (C := C) (hh := hh) (bytes := bytes) (maxL := maxL) (ret := ret) ho hl hin hse hcode hy hK (by rw [hT]; exact hcB) hoB hclB hg (hsize.trans hml.symm) (argsL := As) (rest := rest) (fun sig h => hn.trans (hlen sig h)) hstack hW (by rw [hb]; exact hdg)
    (fun vm₁ hW₁ => ⟨hf.1, hf.2, hPc (T.setVm vm₁) hT hW₁⟩) with ⟨v, vm₁, ⟨U', l2, c2, s2⟩, hW₁, X', ⟨g', mk, t, L, e1, e2, hq, h1, hL, h2, h3⟩, st⟩ | ⟨q, vm₁, ⟨U', l2, c2, s2⟩, hW₁, X', ⟨g', mk, t, L, E, ce, e1, e2, hq, hce, hcv, hcl, h1, hL, h2, h3⟩, st⟩
  · dsimp only [Pt.U, Pt.locs, Pt.cells, Pt.slots] at X' e1 e2 h1 h2 h3 st
    subst h1; subst h2; subst h3
    exact Or.inl ⟨v, (T.setVm vm₁).calling g' mk (Value.ref b :: As).toArray, t, U', L, hT, X', hL, e1, e2, hq, st⟩
  · dsimp only [Pt.U, Pt.locs, Pt.cells, Pt.slots] at X' e1 e2 h1 h2 h3 st hcl
    subst h1; subst h2; subst h3
    exact Or.inr ⟨q, (T.setVm vm₁).calling g' mk (Value.ref b :: As).toArray, t, U', L, E, ce, hT, X', hL, e1, e2, hq, hce, hcv, vx_cls hW₁ hcl, st⟩
theorem vx_runSX {hh : List (Nat × Nat × Nat × Nat)} (S : CallFix p m c cc nL s args Ts own) (hM : vx_Met l y ws rm Pc Qc XC mc ms free) (cw : vx_CSW R s args own index y bytes maxL ret hh ws rm mc ms n) (hp : PreS s H Pc As)
    (hg : g.method = m) (hn : As.length = n) (hsize : g.locals.size = nL) (hstack : g.stack = As.reverse ++ rest) (hW : 2 * g.monitorRoom + (rest.map fun v => v.category).sum ≤ 8) (hdg : decode cc g.pc = .ok (.invokestatic index, 3)) (hf : cells + mc ≤ R.cells ∧ slots + ms ≤ R.slots) :
    vx_Run p l e R s m args below meth c H locs cells slots mc ms g rest (Qc As.toArray) XC free := by
  obtain ⟨⟨hrc, hrs, hfr, hlo, hws, hcw⟩, hcode, hini, hy, hlen, hl, hstt⟩ := cw
  have hK : vx_Back l R p e below s args y 3 8 (PreOf R mc ms Pc) (PostOf Qc mc ms free) (vx_Post XC mc ms free) := vx_backW (hh := hh) (bytes := bytes) (maxL := maxL) (ret := ret) hM hp.1 hrc hrs hfr hlo hws hcw (fun a' U hW => word_at hW (Or.inl (by first | rfl | simp [Cond.onTables, Cond.keeps, Cond.steady])) hini)
  obtain ⟨hx, hb, hml, ho, -⟩ := S
  intro T hT X
  rcases vx_callSX X hx (hh := hh) (bytes := bytes) (maxL := maxL) (ret := ret) ho hl hstt hini hcode hy hK hg (hsize.trans hml.symm) (argsL := As) (rest := rest) (fun sig h => hn.trans (hlen sig h)) hstack hW (by rw [hb]; exact hdg)
    (fun vm₁ hW₁ => ⟨hf.1, hf.2, hp.2 (T.setVm vm₁) hT hW₁⟩) with ⟨v, vm₁, ⟨U', l2, c2, s2⟩, hW₁, X', ⟨g', mk, t, L, e1, e2, hq, h1, hL, h2, h3⟩, st⟩ | ⟨q, vm₁, ⟨U', l2, c2, s2⟩, hW₁, X', ⟨g', mk, t, L, E, ce, e1, e2, hq, hce, hcv, hcl, h1, hL, h2, h3⟩, st⟩
  · dsimp only [Pt.U, Pt.locs, Pt.cells, Pt.slots] at X' e1 e2 h1 h2 h3 st
    subst h1; subst h2; subst h3
    exact Or.inl ⟨v, (T.setVm vm₁).calling g' mk As.toArray, t, U', L, hT, X', hL, e1, e2, hq, st⟩
  · dsimp only [Pt.U, Pt.locs, Pt.cells, Pt.slots] at X' e1 e2 h1 h2 h3 st hcl
    subst h1; subst h2; subst h3
    exact Or.inr ⟨q, (T.setVm vm₁).calling g' mk As.toArray, t, U', L, E, ce, hT, X', hL, e1, e2, hq, hce, hcv, vx_cls hW₁ hcl, st⟩
end
end VXH
theorem vx_ofWH {l : Launch} {y : MethodName} {ws ws' : List Cond} {rm : Room} {Pc : Array Value → State → Prop} {Qc : Array Value → State → Outcome → State → Prop} {XC : String → State → State → Prop} {mc ms : Nat} {free : Addr → Prop} {cc : ByteArray} {maxL : Nat} {ret : Option FieldType} {hh : List (Nat × Nat × Nat × Nat)}
    (hy : plainName y.cls = true) (hw : ws = Cond.codeWith y cc maxL ret hh :: ws')
    (body : ∀ p e s m args below meth c s₁, BodyLoose p l y (headSpec ws rm) cc maxL ret e s m args below meth c s₁ → c.maxLocals = maxL → Pc args s →
      W p l e (headSpec ws rm).room s m args below meth c s.heap [] 0 0 (vx_MQ below Qc XC args s mc ms free) (entryFrame m args maxL)) : vx_Met l y ws rm Pc Qc XC mc ms free := by
  refine MetFree.of_bodyS (code := cc) (maxLocals := maxL) (ret := ret) hy ?_ ?_
  · intro args s m h hn
    obtain ⟨m9, meth, c, hn9, h1, h2, h3, h4, -, h5, h6, -⟩ := Cond.codeWith_spec (atoms_spec (ws := ws) h _ (by rw [hw]; exact List.mem_cons_self))
    cases hn.symm.trans hn9
    exact ⟨meth, c, h1, h2, h3, h4, h5, h6⟩
  · intro p e s m args below meth c s₁ B hml hP _
    have hh0 : s₁.heap = s.heap := by rw [B.state]; rfl
    obtain ⟨t, a1, o, b1, b2, b3⟩ := body p e s m args below meth c s₁ B hml hP s₁ hh0 (Stand.of_body B)
    exact ⟨t, o, a1, b1, b2, b3⟩
/-! ===== END ===== -/

/-! ===== BEGIN printed: names, fields, word lists, decode rows ===== -/
def RX0 : String := "Followrow$Ledger"
def TX0 : u_T := fun k => match k with
  | 0 => ("Followrow$Ledger", "authors", "[I", true)
  | 1 => ("Followrow$Ledger", "origins", "[I", true)
  | 2 => ("Followrow$Ledger", "deleted", "[Z", true)
  | _ => ("Followrow$Ledger", "made", "I", false)
def tyX0 : Nat → FieldType := fun k => match k with
  | 0 => .array .int
  | 1 => .array .int
  | 2 => .array .boolean
  | _ => .int
abbrev wsX00 : List Cond := u_ws RX0 TX0 4
theorem nmX0 : ∀ a, a < 4 → ∀ b, b < 4 → a ≠ b → (TX0 a).2.1 ≠ (TX0 b).2.1 := by decide +kernel
theorem tyX0_ok : ∀ k, k < 4 → parseFieldDescriptor (TX0 k).2.2.1 = some (tyX0 k) := by decide +kernel
abbrev cX0_init : ByteArray := prog_2_method_1_code
def yX0_init : MethodName := ⟨RX0, "<init>", "()V"⟩
abbrev cX0_made : ByteArray := prog_2_method_2_code
def yX0_made : MethodName := ⟨RX0, "made", "()I"⟩
abbrev cX0_has : ByteArray := prog_2_method_3_code
def yX0_has : MethodName := ⟨RX0, "has", "(I)Z"⟩
abbrev cX0_stands : ByteArray := prog_2_method_4_code
def yX0_stands : MethodName := ⟨RX0, "stands", "(I)Z"⟩
abbrev cX0_author : ByteArray := prog_2_method_5_code
def yX0_author : MethodName := ⟨RX0, "author", "(I)I"⟩
abbrev cX0_origin : ByteArray := prog_2_method_6_code
def yX0_origin : MethodName := ⟨RX0, "origin", "(I)I"⟩
abbrev cX0_add : ByteArray := prog_2_method_7_code
def yX0_add : MethodName := ⟨RX0, "add", "(II)V"⟩
abbrev cX0_remove : ByteArray := prog_2_method_8_code
def yX0_remove : MethodName := ⟨RX0, "remove", "(I)V"⟩
abbrev cX0_countStandingOf : ByteArray := prog_2_method_9_code
def yX0_countStandingOf : MethodName := ⟨RX0, "countStandingOf", "(I)I"⟩
def RX1 : String := "Followrow$Relation"
def TX1 : u_T := fun k => match k with
  | _ => ("Followrow$Relation", "pairs", "[Z", true)
def tyX1 : Nat → FieldType := fun k => match k with
  | _ => .array .boolean
abbrev wsX10 : List Cond := u_ws RX1 TX1 1
theorem nmX1 : ∀ a, a < 1 → ∀ b, b < 1 → a ≠ b → (TX1 a).2.1 ≠ (TX1 b).2.1 := by decide +kernel
theorem tyX1_ok : ∀ k, k < 1 → parseFieldDescriptor (TX1 k).2.2.1 = some (tyX1 k) := by decide +kernel
abbrev cX1_init : ByteArray := prog_3_method_1_code
def yX1_init : MethodName := ⟨RX1, "<init>", "()V"⟩
abbrev cX1_has : ByteArray := prog_3_method_2_code
def yX1_has : MethodName := ⟨RX1, "has", "(II)Z"⟩
abbrev cX1_put : ByteArray := prog_3_method_3_code
def yX1_put : MethodName := ⟨RX1, "put", "(IIZ)V"⟩
abbrev cX1_countTo : ByteArray := prog_3_method_4_code
def yX1_countTo : MethodName := ⟨RX1, "countTo", "(I)I"⟩
def RX2 : String := "Followrow$Row"
def TX2 : u_T := fun k => match k with
  | 0 => ("Followrow$Row", "owner", "I", true)
  | 1 => ("Followrow$Row", "numbers", "[I", true)
  | 2 => ("Followrow$Row", "count", "I", false)
  | _ => ("Followrow$Row", "floor", "I", false)
def tyX2 : Nat → FieldType := fun k => match k with
  | 0 => .int
  | 1 => .array .int
  | 2 => .int
  | _ => .int
abbrev wsX20 : List Cond := u_ws RX2 TX2 4
theorem nmX2 : ∀ a, a < 4 → ∀ b, b < 4 → a ≠ b → (TX2 a).2.1 ≠ (TX2 b).2.1 := by decide +kernel
theorem tyX2_ok : ∀ k, k < 4 → parseFieldDescriptor (TX2 k).2.2.1 = some (tyX2 k) := by decide +kernel
abbrev cX2_init : ByteArray := prog_4_method_1_code
def yX2_init : MethodName := ⟨RX2, "<init>", "(I)V"⟩
abbrev cX2_owner : ByteArray := prog_4_method_2_code
def yX2_owner : MethodName := ⟨RX2, "owner", "()I"⟩
abbrev cX2_floor : ByteArray := prog_4_method_3_code
def yX2_floor : MethodName := ⟨RX2, "floor", "()I"⟩
abbrev cX2_raiseFloor : ByteArray := prog_4_method_4_code
def yX2_raiseFloor : MethodName := ⟨RX2, "raiseFloor", "(I)V"⟩
abbrev cX2_count : ByteArray := prog_4_method_5_code
def yX2_count : MethodName := ⟨RX2, "count", "()I"⟩
abbrev cX2_fromNewest : ByteArray := prog_4_method_6_code
def yX2_fromNewest : MethodName := ⟨RX2, "fromNewest", "(I)I"⟩
abbrev cX2_empty : ByteArray := prog_4_method_7_code
def yX2_empty : MethodName := ⟨RX2, "empty", "()V"⟩
abbrev cX2_addBelow : ByteArray := prog_4_method_8_code
def yX2_addBelow : MethodName := ⟨RX2, "addBelow", "(I)V"⟩
def RX3 : String := "Followrow$Timeline"
def TX3 : u_T := fun k => match k with
  | 0 => ("Followrow$Timeline", "numbers", "[I", true)
  | 1 => ("Followrow$Timeline", "taken", "[Z", true)
  | _ => ("Followrow$Timeline", "count", "I", false)
def tyX3 : Nat → FieldType := fun k => match k with
  | 0 => .array .int
  | 1 => .array .boolean
  | _ => .int
abbrev wsX30 : List Cond := u_ws RX3 TX3 3
theorem nmX3 : ∀ a, a < 3 → ∀ b, b < 3 → a ≠ b → (TX3 a).2.1 ≠ (TX3 b).2.1 := by decide +kernel
theorem tyX3_ok : ∀ k, k < 3 → parseFieldDescriptor (TX3 k).2.2.1 = some (tyX3 k) := by decide +kernel
abbrev cX3_init : ByteArray := prog_5_method_1_code
def yX3_init : MethodName := ⟨RX3, "<init>", "()V"⟩
abbrev cX3_count : ByteArray := prog_5_method_2_code
def yX3_count : MethodName := ⟨RX3, "count", "()I"⟩
abbrev cX3_at : ByteArray := prog_5_method_3_code
def yX3_at : MethodName := ⟨RX3, "at", "(I)I"⟩
abbrev cX3_placeBelow : ByteArray := prog_5_method_4_code
def yX3_placeBelow : MethodName := ⟨RX3, "placeBelow", "(I)I"⟩
abbrev cX3_empty : ByteArray := prog_5_method_5_code
def yX3_empty : MethodName := ⟨RX3, "empty", "()V"⟩
abbrev cX3_addBelow : ByteArray := prog_5_method_6_code
def yX3_addBelow : MethodName := ⟨RX3, "addBelow", "(II)V"⟩
def RX4 : String := "Followrow"
def TX4 : u_T := fun k => match k with
  | 0 => ("Followrow", "following", "LFollowrow$Relation;", true)
  | 1 => ("Followrow", "muting", "LFollowrow$Relation;", true)
  | 2 => ("Followrow", "blocking", "LFollowrow$Relation;", true)
  | 3 => ("Followrow", "ledger", "LFollowrow$Ledger;", true)
  | 4 => ("Followrow", "rows", "[LFollowrow$Row;", true)
  | 5 => ("Followrow", "timeline", "LFollowrow$Timeline;", true)
  | 6 => ("Followrow", "mark", "I", false)
  | _ => ("Followrow", "room", "I", false)
def tyX4 : Nat → FieldType := fun k => match k with
  | 0 => .object "Followrow$Relation"
  | 1 => .object "Followrow$Relation"
  | 2 => .object "Followrow$Relation"
  | 3 => .object "Followrow$Ledger"
  | 4 => .array (.object "Followrow$Row")
  | 5 => .object "Followrow$Timeline"
  | 6 => .int
  | _ => .int
abbrev wsX40 : List Cond := u_ws RX4 TX4 8
theorem nmX4 : ∀ a, a < 8 → ∀ b, b < 8 → a ≠ b → (TX4 a).2.1 ≠ (TX4 b).2.1 := by decide +kernel
theorem tyX4_ok : ∀ k, k < 8 → parseFieldDescriptor (TX4 k).2.2.1 = some (tyX4 k) := by decide +kernel
abbrev cX4_init : ByteArray := prog_1_method_1_code
def yX4_init : MethodName := ⟨RX4, "<init>", "()V"⟩
abbrev cX4_follow : ByteArray := prog_1_method_2_code
def yX4_follow : MethodName := ⟨RX4, "follow", "(II)I"⟩
abbrev cX4_unfollow : ByteArray := prog_1_method_3_code
def yX4_unfollow : MethodName := ⟨RX4, "unfollow", "(II)I"⟩
abbrev cX4_mute : ByteArray := prog_1_method_4_code
def yX4_mute : MethodName := ⟨RX4, "mute", "(IIZ)Z"⟩
abbrev cX4_block : ByteArray := prog_1_method_5_code
def yX4_block : MethodName := ⟨RX4, "block", "(IIZ)Z"⟩
abbrev cX4_post : ByteArray := prog_1_method_6_code
def yX4_post : MethodName := ⟨RX4, "post", "(I)I"⟩
abbrev cX4_repost : ByteArray := prog_1_method_7_code
def yX4_repost : MethodName := ⟨RX4, "repost", "(II)I"⟩
abbrev cX4_delete : ByteArray := prog_1_method_8_code
def yX4_delete : MethodName := ⟨RX4, "delete", "(I)I"⟩
abbrev cX4_setMark : ByteArray := prog_1_method_9_code
def yX4_setMark : MethodName := ⟨RX4, "setMark", "(I)I"⟩
abbrev cX4_setRoom : ByteArray := prog_1_method_10_code
def yX4_setRoom : MethodName := ⟨RX4, "setRoom", "(I)I"⟩
abbrev cX4_entries : ByteArray := prog_1_method_11_code
def yX4_entries : MethodName := ⟨RX4, "entries", "()I"⟩
abbrev cX4_authorOf : ByteArray := prog_1_method_12_code
def yX4_authorOf : MethodName := ⟨RX4, "authorOf", "(I)I"⟩
abbrev cX4_originOf : ByteArray := prog_1_method_13_code
def yX4_originOf : MethodName := ⟨RX4, "originOf", "(I)I"⟩
abbrev cX4_follows : ByteArray := prog_1_method_14_code
def yX4_follows : MethodName := ⟨RX4, "follows", "(II)Z"⟩
abbrev cX4_followers : ByteArray := prog_1_method_15_code
def yX4_followers : MethodName := ⟨RX4, "followers", "(I)I"⟩
abbrev cX4_isLarge : ByteArray := prog_1_method_16_code
def yX4_isLarge : MethodName := ⟨RX4, "isLarge", "(I)Z"⟩
abbrev cX4_inRow : ByteArray := prog_1_method_17_code
def yX4_inRow : MethodName := ⟨RX4, "inRow", "(I)I"⟩
abbrev cX4_rowAt : ByteArray := prog_1_method_18_code
def yX4_rowAt : MethodName := ⟨RX4, "rowAt", "(II)I"⟩
abbrev cX4_floorOf : ByteArray := prog_1_method_19_code
def yX4_floorOf : MethodName := ⟨RX4, "floorOf", "(I)I"⟩
abbrev cX4_shows : ByteArray := prog_1_method_20_code
def yX4_shows : MethodName := ⟨RX4, "shows", "(II)Z"⟩
abbrev cX4_next : ByteArray := prog_1_method_21_code
def yX4_next : MethodName := ⟨RX4, "next", "(II)I"⟩
abbrev cX4_pageEnd : ByteArray := prog_1_method_22_code
def yX4_pageEnd : MethodName := ⟨RX4, "pageEnd", "(III)I"⟩
abbrev cX4_length : ByteArray := prog_1_method_23_code
def yX4_length : MethodName := ⟨RX4, "length", "(I)I"⟩
abbrev cX4_lengthByMerging : ByteArray := prog_1_method_24_code
def yX4_lengthByMerging : MethodName := ⟨RX4, "lengthByMerging", "(I)I"⟩
abbrev cX4_hasGap : ByteArray := prog_1_method_25_code
def yX4_hasGap : MethodName := ⟨RX4, "hasGap", "(I)Z"⟩
abbrev cX4_isPerson : ByteArray := prog_1_method_26_code
def yX4_isPerson : MethodName := ⟨RX4, "isPerson", "(I)Z"⟩
abbrev cX4_checkPerson : ByteArray := prog_1_method_27_code
def yX4_checkPerson : MethodName := ⟨RX4, "checkPerson", "(I)V"⟩
abbrev cX4_checkDifferent : ByteArray := prog_1_method_28_code
def yX4_checkDifferent : MethodName := ⟨RX4, "checkDifferent", "(II)V"⟩
abbrev cX4_checkRange : ByteArray := prog_1_method_29_code
def yX4_checkRange : MethodName := ⟨RX4, "checkRange", "(III)V"⟩
abbrev cX4_checkEntry : ByteArray := prog_1_method_30_code
def yX4_checkEntry : MethodName := ⟨RX4, "checkEntry", "(I)V"⟩
abbrev cX4_checkPlace : ByteArray := prog_1_method_31_code
def yX4_checkPlace : MethodName := ⟨RX4, "checkPlace", "()V"⟩
abbrev cX4_rowOf : ByteArray := prog_1_method_32_code
def yX4_rowOf : MethodName := ⟨RX4, "rowOf", "(I)LFollowrow$Row;"⟩
abbrev cX4_isOverMark : ByteArray := prog_1_method_33_code
def yX4_isOverMark : MethodName := ⟨RX4, "isOverMark", "(I)Z"⟩
abbrev cX4_countLarge : ByteArray := prog_1_method_34_code
def yX4_countLarge : MethodName := ⟨RX4, "countLarge", "()I"⟩
abbrev cX4_settleRows : ByteArray := prog_1_method_35_code
def yX4_settleRows : MethodName := ⟨RX4, "settleRows", "()V"⟩
abbrev cX4_settleRow : ByteArray := prog_1_method_36_code
def yX4_settleRow : MethodName := ⟨RX4, "settleRow", "(LFollowrow$Row;)V"⟩
abbrev cX4_isForRow : ByteArray := prog_1_method_37_code
def yX4_isForRow : MethodName := ⟨RX4, "isForRow", "(II)Z"⟩
abbrev cX4_readTimeline : ByteArray := prog_1_method_38_code
def yX4_readTimeline : MethodName := ⟨RX4, "readTimeline", "(LFollowrow$Row;)V"⟩
abbrev cX4_mergeTimeline : ByteArray := prog_1_method_39_code
def yX4_mergeTimeline : MethodName := ⟨RX4, "mergeTimeline", "(II)V"⟩
abbrev cX4_isFetched : ByteArray := prog_1_method_40_code
def yX4_isFetched : MethodName := ⟨RX4, "isFetched", "(II)Z"⟩
abbrev cX4_offer : ByteArray := prog_1_method_41_code
def yX4_offer : MethodName := ⟨RX4, "offer", "(II)V"⟩
abbrev cX4_isHidden : ByteArray := prog_1_method_42_code
def yX4_isHidden : MethodName := ⟨RX4, "isHidden", "(II)Z"⟩
def RX5 : String := "FollowrowModel"
def TX5 : u_T := fun k => match k with
  | 0 => ("FollowrowModel", "followed", "[Z", true)
  | 1 => ("FollowrowModel", "muted", "[Z", true)
  | 2 => ("FollowrowModel", "blocked", "[Z", true)
  | 3 => ("FollowrowModel", "author", "[I", true)
  | 4 => ("FollowrowModel", "origin", "[I", true)
  | 5 => ("FollowrowModel", "isGone", "[Z", true)
  | 6 => ("FollowrowModel", "entries", "I", false)
  | 7 => ("FollowrowModel", "mark", "I", false)
  | 8 => ("FollowrowModel", "room", "I", false)
  | 9 => ("FollowrowModel", "floor", "[I", true)
  | _ => ("FollowrowModel", "thrown", "I", false)
def tyX5 : Nat → FieldType := fun k => match k with
  | 0 => .array .boolean
  | 1 => .array .boolean
  | 2 => .array .boolean
  | 3 => .array .int
  | 4 => .array .int
  | 5 => .array .boolean
  | 6 => .int
  | 7 => .int
  | 8 => .int
  | 9 => .array .int
  | _ => .int
abbrev wsX50 : List Cond := u_ws RX5 TX5 11
theorem nmX5 : ∀ a, a < 11 → ∀ b, b < 11 → a ≠ b → (TX5 a).2.1 ≠ (TX5 b).2.1 := by decide +kernel
theorem tyX5_ok : ∀ k, k < 11 → parseFieldDescriptor (TX5 k).2.2.1 = some (tyX5 k) := by decide +kernel
abbrev cX5_init : ByteArray := prog_7_method_1_code
def yX5_init : MethodName := ⟨RX5, "<init>", "()V"⟩
abbrev cX5_thrown : ByteArray := prog_7_method_2_code
def yX5_thrown : MethodName := ⟨RX5, "thrown", "()I"⟩
abbrev cX5_in : ByteArray := prog_7_method_3_code
def yX5_in : MethodName := ⟨RX5, "in", "(III)Z"⟩
abbrev cX5_isFine : ByteArray := prog_7_method_4_code
def yX5_isFine : MethodName := ⟨RX5, "isFine", "(I)Z"⟩
abbrev cX5_isOne : ByteArray := prog_7_method_5_code
def yX5_isOne : MethodName := ⟨RX5, "isOne", "(I)Z"⟩
abbrev cX5_isEntry : ByteArray := prog_7_method_6_code
def yX5_isEntry : MethodName := ⟨RX5, "isEntry", "(I)Z"⟩
abbrev cX5_followersOf : ByteArray := prog_7_method_7_code
def yX5_followersOf : MethodName := ⟨RX5, "followersOf", "(I)I"⟩
abbrev cX5_large : ByteArray := prog_7_method_8_code
def yX5_large : MethodName := ⟨RX5, "large", "(I)Z"⟩
abbrev cX5_isInRow : ByteArray := prog_7_method_9_code
def yX5_isInRow : MethodName := ⟨RX5, "isInRow", "(II)Z"⟩
abbrev cX5_rowLength : ByteArray := prog_7_method_10_code
def yX5_rowLength : MethodName := ⟨RX5, "rowLength", "(I)I"⟩
abbrev cX5_cuts : ByteArray := prog_7_method_11_code
def yX5_cuts : MethodName := ⟨RX5, "cuts", "()V"⟩
abbrev cX5_follow : ByteArray := prog_7_method_12_code
def yX5_follow : MethodName := ⟨RX5, "follow", "(II)I"⟩
abbrev cX5_unfollow : ByteArray := prog_7_method_13_code
def yX5_unfollow : MethodName := ⟨RX5, "unfollow", "(II)I"⟩
abbrev cX5_mute : ByteArray := prog_7_method_14_code
def yX5_mute : MethodName := ⟨RX5, "mute", "(IIZ)Z"⟩
abbrev cX5_block : ByteArray := prog_7_method_15_code
def yX5_block : MethodName := ⟨RX5, "block", "(IIZ)Z"⟩
abbrev cX5_makes : ByteArray := prog_7_method_16_code
def yX5_makes : MethodName := ⟨RX5, "makes", "(II)I"⟩
abbrev cX5_post : ByteArray := prog_7_method_17_code
def yX5_post : MethodName := ⟨RX5, "post", "(I)I"⟩
abbrev cX5_repost : ByteArray := prog_7_method_18_code
def yX5_repost : MethodName := ⟨RX5, "repost", "(II)I"⟩
abbrev cX5_delete : ByteArray := prog_7_method_19_code
def yX5_delete : MethodName := ⟨RX5, "delete", "(I)I"⟩
abbrev cX5_setMark : ByteArray := prog_7_method_20_code
def yX5_setMark : MethodName := ⟨RX5, "setMark", "(I)I"⟩
abbrev cX5_setRoom : ByteArray := prog_7_method_21_code
def yX5_setRoom : MethodName := ⟨RX5, "setRoom", "(I)I"⟩
abbrev cX5_entries : ByteArray := prog_7_method_22_code
def yX5_entries : MethodName := ⟨RX5, "entries", "()I"⟩
abbrev cX5_authorOf : ByteArray := prog_7_method_23_code
def yX5_authorOf : MethodName := ⟨RX5, "authorOf", "(I)I"⟩
abbrev cX5_originOf : ByteArray := prog_7_method_24_code
def yX5_originOf : MethodName := ⟨RX5, "originOf", "(I)I"⟩
abbrev cX5_follows : ByteArray := prog_7_method_25_code
def yX5_follows : MethodName := ⟨RX5, "follows", "(II)Z"⟩
abbrev cX5_followers : ByteArray := prog_7_method_26_code
def yX5_followers : MethodName := ⟨RX5, "followers", "(I)I"⟩
abbrev cX5_isLarge : ByteArray := prog_7_method_27_code
def yX5_isLarge : MethodName := ⟨RX5, "isLarge", "(I)Z"⟩
abbrev cX5_inRow : ByteArray := prog_7_method_28_code
def yX5_inRow : MethodName := ⟨RX5, "inRow", "(I)I"⟩
abbrev cX5_rowAt : ByteArray := prog_7_method_29_code
def yX5_rowAt : MethodName := ⟨RX5, "rowAt", "(II)I"⟩
abbrev cX5_floorOf : ByteArray := prog_7_method_30_code
def yX5_floorOf : MethodName := ⟨RX5, "floorOf", "(I)I"⟩
abbrev cX5_isDue : ByteArray := prog_7_method_31_code
def yX5_isDue : MethodName := ⟨RX5, "isDue", "(II)Z"⟩
abbrev cX5_isShown : ByteArray := prog_7_method_32_code
def yX5_isShown : MethodName := ⟨RX5, "isShown", "(II)Z"⟩
abbrev cX5_shows : ByteArray := prog_7_method_33_code
def yX5_shows : MethodName := ⟨RX5, "shows", "(II)Z"⟩
abbrev cX5_nextBelow : ByteArray := prog_7_method_34_code
def yX5_nextBelow : MethodName := ⟨RX5, "nextBelow", "(II)I"⟩
abbrev cX5_next : ByteArray := prog_7_method_35_code
def yX5_next : MethodName := ⟨RX5, "next", "(II)I"⟩
abbrev cX5_pageEnd : ByteArray := prog_7_method_36_code
def yX5_pageEnd : MethodName := ⟨RX5, "pageEnd", "(III)I"⟩
abbrev cX5_length : ByteArray := prog_7_method_37_code
def yX5_length : MethodName := ⟨RX5, "length", "(I)I"⟩
abbrev cX5_lengthByMerging : ByteArray := prog_7_method_38_code
def yX5_lengthByMerging : MethodName := ⟨RX5, "lengthByMerging", "(I)I"⟩
abbrev cX5_hasGap : ByteArray := prog_7_method_39_code
def yX5_hasGap : MethodName := ⟨RX5, "hasGap", "(I)Z"⟩
def RJ9 : String := "java/lang/Math"
def TJ9 : u_T := fun k => match k with
  | _ => ("", "", "", false)
def tyJ9 : Nat → FieldType := fun k => match k with
  | _ => .int
abbrev wsJ90 : List Cond := u_ws RJ9 TJ9 0
theorem nmJ9 : ∀ a, a < 0 → ∀ b, b < 0 → a ≠ b → (TJ9 a).2.1 ≠ (TJ9 b).2.1 := by decide +kernel
theorem tyJ9_ok : ∀ k, k < 0 → parseFieldDescriptor (TJ9 k).2.2.1 = some (tyJ9 k) := by decide +kernel
abbrev cJ9_min_7cf53 : ByteArray := prog_12_method_69_code
def yJ9_min_7cf53 : MethodName := ⟨RJ9, "min", "(II)I"⟩
def RJ0 : String := "java/lang/String"
def TJ0 : u_T := fun k => match k with
  | _ => ("", "", "", false)
def tyJ0 : Nat → FieldType := fun k => match k with
  | _ => .int
abbrev wsJ00 : List Cond := u_ws RJ0 TJ0 0
theorem nmJ0 : ∀ a, a < 0 → ∀ b, b < 0 → a ≠ b → (TJ0 a).2.1 ≠ (TJ0 b).2.1 := by decide +kernel
theorem tyJ0_ok : ∀ k, k < 0 → parseFieldDescriptor (TJ0 k).2.2.1 = some (tyJ0 k) := by decide +kernel
def RL : String := "FollowrowLaw"
abbrev cL_follow : ByteArray := method_3_code
def yL_follow : MethodName := ⟨RL, "follow", "(LFollowrow;II[J)I"⟩
abbrev cL_unfollow : ByteArray := method_4_code
def yL_unfollow : MethodName := ⟨RL, "unfollow", "(LFollowrow;II[J)I"⟩
abbrev cL_mute : ByteArray := method_5_code
def yL_mute : MethodName := ⟨RL, "mute", "(LFollowrow;IIZ[J)I"⟩
abbrev cL_block : ByteArray := method_6_code
def yL_block : MethodName := ⟨RL, "block", "(LFollowrow;IIZ[J)I"⟩
abbrev cL_post : ByteArray := method_7_code
def yL_post : MethodName := ⟨RL, "post", "(LFollowrow;I[J)I"⟩
abbrev cL_repost : ByteArray := method_8_code
def yL_repost : MethodName := ⟨RL, "repost", "(LFollowrow;II[J)I"⟩
abbrev cL_delete : ByteArray := method_9_code
def yL_delete : MethodName := ⟨RL, "delete", "(LFollowrow;I[J)I"⟩
abbrev cL_setMark : ByteArray := method_10_code
def yL_setMark : MethodName := ⟨RL, "setMark", "(LFollowrow;I[J)I"⟩
abbrev cL_setRoom : ByteArray := method_11_code
def yL_setRoom : MethodName := ⟨RL, "setRoom", "(LFollowrow;I[J)I"⟩
abbrev cL_authorOf : ByteArray := method_12_code
def yL_authorOf : MethodName := ⟨RL, "authorOf", "(LFollowrow;I[J)I"⟩
abbrev cL_originOf : ByteArray := method_13_code
def yL_originOf : MethodName := ⟨RL, "originOf", "(LFollowrow;I[J)I"⟩
abbrev cL_follows : ByteArray := method_14_code
def yL_follows : MethodName := ⟨RL, "follows", "(LFollowrow;II[J)I"⟩
abbrev cL_followers : ByteArray := method_15_code
def yL_followers : MethodName := ⟨RL, "followers", "(LFollowrow;I[J)I"⟩
abbrev cL_isLarge : ByteArray := method_16_code
def yL_isLarge : MethodName := ⟨RL, "isLarge", "(LFollowrow;I[J)I"⟩
abbrev cL_inRow : ByteArray := method_17_code
def yL_inRow : MethodName := ⟨RL, "inRow", "(LFollowrow;I[J)I"⟩
abbrev cL_rowAt : ByteArray := method_18_code
def yL_rowAt : MethodName := ⟨RL, "rowAt", "(LFollowrow;II[J)I"⟩
abbrev cL_floorOf : ByteArray := method_19_code
def yL_floorOf : MethodName := ⟨RL, "floorOf", "(LFollowrow;I[J)I"⟩
abbrev cL_shows : ByteArray := method_20_code
def yL_shows : MethodName := ⟨RL, "shows", "(LFollowrow;II[J)I"⟩
abbrev cL_next : ByteArray := method_21_code
def yL_next : MethodName := ⟨RL, "next", "(LFollowrow;II[J)I"⟩
abbrev cL_pageEnd : ByteArray := method_22_code
def yL_pageEnd : MethodName := ⟨RL, "pageEnd", "(LFollowrow;III[J)I"⟩
abbrev cL_length : ByteArray := method_23_code
def yL_length : MethodName := ⟨RL, "length", "(LFollowrow;I[J)I"⟩
abbrev cL_lengthByMerging : ByteArray := method_24_code
def yL_lengthByMerging : MethodName := ⟨RL, "lengthByMerging", "(LFollowrow;I[J)I"⟩
abbrev cL_hasGap : ByteArray := method_25_code
def yL_hasGap : MethodName := ⟨RL, "hasGap", "(LFollowrow;I[J)I"⟩
abbrev cL_law : ByteArray := code
def yL_law : MethodName := ⟨RL, "law", "([I)Z"⟩
def wsX0_init : List Cond := .code yX0_init cX0_init 1 none :: ([.methodLink RX0 3 objectInit, .instanceMethod objectInit, .code objectInit ⟨#[0xb1]⟩ 1 none, .arrayClass .int, .fieldLink RX0 9 "Followrow$Ledger" "authors" "[I", .fieldLink RX0 15 "Followrow$Ledger" "origins" "[I", .arrayClass .boolean, .fieldLink RX0 18 "Followrow$Ledger" "deleted" "[Z"] ++ wsX00)
def wsX0_made : List Cond := .code yX0_made cX0_made 1 (some .int) :: ([.fieldLink RX0 22 "Followrow$Ledger" "made" "I"] ++ wsX00)
def wsX0_has : List Cond := .code yX0_has cX0_has 2 (some .boolean) :: ([.fieldLink RX0 22 "Followrow$Ledger" "made" "I"] ++ wsX00)
def wsX0_stands : List Cond := .code yX0_stands cX0_stands 2 (some .boolean) :: ([.fieldLink RX0 18 "Followrow$Ledger" "deleted" "[Z", .methodLink RX0 26 yX0_has, .instanceMethod yX0_has, .selects RX0 yX0_has yX0_has, .initialized RX0, .code yX0_has cX0_has 2 (some .boolean), .fieldLink RX0 22 "Followrow$Ledger" "made" "I"] ++ wsX00)
def wsX0_author : List Cond := .code yX0_author cX0_author 2 (some .int) :: ([.fieldLink RX0 9 "Followrow$Ledger" "authors" "[I", .methodLink RX0 26 yX0_has, .instanceMethod yX0_has, .selects RX0 yX0_has yX0_has, .initialized RX0, .code yX0_has cX0_has 2 (some .boolean), .fieldLink RX0 22 "Followrow$Ledger" "made" "I"] ++ wsX00)
def wsX0_origin : List Cond := .code yX0_origin cX0_origin 2 (some .int) :: ([.fieldLink RX0 15 "Followrow$Ledger" "origins" "[I", .methodLink RX0 26 yX0_has, .instanceMethod yX0_has, .selects RX0 yX0_has yX0_has, .initialized RX0, .code yX0_has cX0_has 2 (some .boolean), .fieldLink RX0 22 "Followrow$Ledger" "made" "I"] ++ wsX00)
def wsX0_add : List Cond := .code yX0_add cX0_add 3 none :: ([.fieldLink RX0 22 "Followrow$Ledger" "made" "I", .fieldLink RX0 9 "Followrow$Ledger" "authors" "[I", .fieldLink RX0 15 "Followrow$Ledger" "origins" "[I"] ++ wsX00)
def wsX0_remove : List Cond := .code yX0_remove cX0_remove 2 none :: ([.fieldLink RX0 18 "Followrow$Ledger" "deleted" "[Z", .methodLink RX0 26 yX0_has, .instanceMethod yX0_has, .selects RX0 yX0_has yX0_has, .initialized RX0, .code yX0_has cX0_has 2 (some .boolean), .fieldLink RX0 22 "Followrow$Ledger" "made" "I"] ++ wsX00)
def wsX0_countStandingOf : List Cond := .code yX0_countStandingOf cX0_countStandingOf 4 (some .int) :: ([.fieldLink RX0 22 "Followrow$Ledger" "made" "I", .methodLink RX0 30 yX0_origin, .instanceMethod yX0_origin, .selects RX0 yX0_origin yX0_origin, .initialized RX0, .code yX0_origin cX0_origin 2 (some .int), .fieldLink RX0 15 "Followrow$Ledger" "origins" "[I", .methodLink RX0 26 yX0_has, .instanceMethod yX0_has, .selects RX0 yX0_has yX0_has, .code yX0_has cX0_has 2 (some .boolean), .methodLink RX0 34 yX0_stands, .instanceMethod yX0_stands, .selects RX0 yX0_stands yX0_stands, .code yX0_stands cX0_stands 2 (some .boolean), .fieldLink RX0 18 "Followrow$Ledger" "deleted" "[Z"] ++ wsX00)
def wsX1_init : List Cond := .code yX1_init cX1_init 1 none :: ([.methodLink RX1 3 objectInit, .instanceMethod objectInit, .code objectInit ⟨#[0xb1]⟩ 1 none, .arrayClass .boolean, .fieldLink RX1 9 "Followrow$Relation" "pairs" "[Z"] ++ wsX10)
def wsX4_isPerson : List Cond := .code yX4_isPerson cX4_isPerson 1 (some .boolean) :: ([])
def wsX1_has : List Cond := .code yX1_has cX1_has 3 (some .boolean) :: ([.fieldLink RX1 9 "Followrow$Relation" "pairs" "[Z", .static yX4_isPerson, .initialized RX4, .code yX4_isPerson cX4_isPerson 1 (some .boolean)] ++ wsX10)
def wsX1_put : List Cond := .code yX1_put cX1_put 4 none :: ([.fieldLink RX1 9 "Followrow$Relation" "pairs" "[Z", .static yX4_isPerson, .initialized RX4, .code yX4_isPerson cX4_isPerson 1 (some .boolean)] ++ wsX10)
def wsX1_countTo : List Cond := .code yX1_countTo cX1_countTo 4 (some .int) :: ([.methodLink RX1 19 yX1_has, .instanceMethod yX1_has, .selects RX1 yX1_has yX1_has, .initialized RX1, .code yX1_has cX1_has 3 (some .boolean), .fieldLink RX1 9 "Followrow$Relation" "pairs" "[Z", .static yX4_isPerson, .initialized RX4, .code yX4_isPerson cX4_isPerson 1 (some .boolean)] ++ wsX10)
def wsX2_init : List Cond := .code yX2_init cX2_init 2 none :: ([.methodLink RX2 3 objectInit, .instanceMethod objectInit, .code objectInit ⟨#[0xb1]⟩ 1 none, .arrayClass .int, .fieldLink RX2 9 "Followrow$Row" "numbers" "[I", .fieldLink RX2 15 "Followrow$Row" "floor" "I", .fieldLink RX2 19 "Followrow$Row" "owner" "I"] ++ wsX20)
def wsX2_owner : List Cond := .code yX2_owner cX2_owner 1 (some .int) :: ([.fieldLink RX2 19 "Followrow$Row" "owner" "I"] ++ wsX20)
def wsX2_floor : List Cond := .code yX2_floor cX2_floor 1 (some .int) :: ([.fieldLink RX2 15 "Followrow$Row" "floor" "I"] ++ wsX20)
def wsX2_raiseFloor : List Cond := .code yX2_raiseFloor cX2_raiseFloor 2 none :: ([.fieldLink RX2 15 "Followrow$Row" "floor" "I"] ++ wsX20)
def wsX2_count : List Cond := .code yX2_count cX2_count 1 (some .int) :: ([.fieldLink RX2 22 "Followrow$Row" "count" "I"] ++ wsX20)
def wsX2_fromNewest : List Cond := .code yX2_fromNewest cX2_fromNewest 2 (some .int) :: ([.fieldLink RX2 22 "Followrow$Row" "count" "I", .fieldLink RX2 9 "Followrow$Row" "numbers" "[I"] ++ wsX20)
def wsX2_empty : List Cond := .code yX2_empty cX2_empty 1 none :: ([.fieldLink RX2 22 "Followrow$Row" "count" "I"] ++ wsX20)
def wsX2_addBelow : List Cond := .code yX2_addBelow cX2_addBelow 2 none :: ([.fieldLink RX2 22 "Followrow$Row" "count" "I", .fieldLink RX2 9 "Followrow$Row" "numbers" "[I"] ++ wsX20)
def wsX3_init : List Cond := .code yX3_init cX3_init 1 none :: ([.methodLink RX3 3 objectInit, .instanceMethod objectInit, .code objectInit ⟨#[0xb1]⟩ 1 none, .arrayClass .int, .fieldLink RX3 9 "Followrow$Timeline" "numbers" "[I", .arrayClass .boolean, .fieldLink RX3 15 "Followrow$Timeline" "taken" "[Z"] ++ wsX30)
def wsX3_count : List Cond := .code yX3_count cX3_count 1 (some .int) :: ([.fieldLink RX3 19 "Followrow$Timeline" "count" "I"] ++ wsX30)
def wsX3_at : List Cond := .code yX3_at cX3_at 2 (some .int) :: ([.fieldLink RX3 19 "Followrow$Timeline" "count" "I", .fieldLink RX3 9 "Followrow$Timeline" "numbers" "[I"] ++ wsX30)
def wsX3_placeBelow : List Cond := .code yX3_placeBelow cX3_placeBelow 3 (some .int) :: ([.fieldLink RX3 19 "Followrow$Timeline" "count" "I", .methodLink RX3 23 yX3_at, .instanceMethod yX3_at, .selects RX3 yX3_at yX3_at, .initialized RX3, .code yX3_at cX3_at 2 (some .int), .fieldLink RX3 9 "Followrow$Timeline" "numbers" "[I"] ++ wsX30)
def wsX3_empty : List Cond := .code yX3_empty cX3_empty 2 none :: ([.fieldLink RX3 19 "Followrow$Timeline" "count" "I", .fieldLink RX3 15 "Followrow$Timeline" "taken" "[Z"] ++ wsX30)
def wsX3_addBelow : List Cond := .code yX3_addBelow cX3_addBelow 4 none :: ([.fieldLink RX3 19 "Followrow$Timeline" "count" "I", .fieldLink RX3 15 "Followrow$Timeline" "taken" "[Z", .fieldLink RX3 9 "Followrow$Timeline" "numbers" "[I"] ++ wsX30)
def wsX4_init_r1 : List Cond := [Cond.methodLink RX4 1 objectInit, Cond.instanceMethod objectInit, Cond.code objectInit ⟨#[0xb1]⟩ 1 none, Cond.classLink RX4 7 RX1, Cond.instantiable RX1 1, Cond.initialized RX1, Cond.fieldLink RX4 10 "Followrow" "following" "LFollowrow$Relation;", Cond.fieldLink RX4 16 "Followrow" "muting" "LFollowrow$Relation;", Cond.fieldLink RX4 19 "Followrow" "blocking" "LFollowrow$Relation;", Cond.classLink RX4 22 RX0, Cond.instantiable RX0 4, Cond.initialized RX0, Cond.fieldLink RX4 25 "Followrow" "ledger" "LFollowrow$Ledger;", Cond.classLink RX4 29 RX2, Cond.fieldLink RX4 31 "Followrow" "rows" "[LFollowrow$Row;", Cond.classLink RX4 35 RX3, Cond.instantiable RX3 3, Cond.initialized RX3, Cond.fieldLink RX4 38 "Followrow" "timeline" "LFollowrow$Timeline;", Cond.fieldLink RX4 42 "Followrow" "mark" "I", Cond.fieldLink RX4 46 "Followrow" "room" "I", Cond.instantiable RX2 4, Cond.initialized RX2, Cond.instanceMethod yX1_init]
def wsX4_init_r2 : List Cond := [Cond.code yX1_init cX1_init 1 none, Cond.methodLink RX1 3 objectInit, Cond.arrayClass .boolean, Cond.fieldLink RX1 9 "Followrow$Relation" "pairs" "[Z", Cond.instanceMethod yX0_init, Cond.code yX0_init cX0_init 1 none, Cond.methodLink RX0 3 objectInit, Cond.arrayClass .int, Cond.fieldLink RX0 9 "Followrow$Ledger" "authors" "[I", Cond.fieldLink RX0 15 "Followrow$Ledger" "origins" "[I", Cond.fieldLink RX0 18 "Followrow$Ledger" "deleted" "[Z", Cond.instanceMethod yX3_init, Cond.code yX3_init cX3_init 1 none, Cond.methodLink RX3 3 objectInit, Cond.fieldLink RX3 9 "Followrow$Timeline" "numbers" "[I", Cond.fieldLink RX3 15 "Followrow$Timeline" "taken" "[Z", Cond.methodLink RX4 49 yX2_init, Cond.instanceMethod yX2_init, Cond.code yX2_init cX2_init 2 none, Cond.methodLink RX2 3 objectInit, Cond.fieldLink RX2 9 "Followrow$Row" "numbers" "[I", Cond.fieldLink RX2 15 "Followrow$Row" "floor" "I", Cond.fieldLink RX2 19 "Followrow$Row" "owner" "I"]
def wsX4_init : List Cond := .code yX4_init cX4_init 2 none :: ((wsX4_init_r1 ++ wsX4_init_r2) ++ wsX10 ++ wsX40 ++ wsX00 ++ wsX30 ++ wsX20)
def wsX4_checkPerson : List Cond := .code yX4_checkPerson cX4_checkPerson 1 none :: ([.classLink RX4 137 "java/lang/IndexOutOfBoundsException", .initialized "java/lang/IndexOutOfBoundsException", .methodLink RX4 168 yX4_isPerson, .static yX4_isPerson, .initialized RX4, .code yX4_isPerson cX4_isPerson 1 (some .boolean)] ++ (vx_atS RX4 141 "java/lang/IndexOutOfBoundsException" ["java/lang/RuntimeException", "java/lang/Exception"]).filter goodWord)
def wsX4_checkDifferent : List Cond := .code yX4_checkDifferent cX4_checkDifferent 2 none :: ([.classLink RX4 173 "java/lang/IllegalArgumentException", .initialized "java/lang/IllegalArgumentException"] ++ (vx_atS RX4 177 "java/lang/IllegalArgumentException" ["java/lang/RuntimeException", "java/lang/Exception"]).filter goodWord)
def wsX4_isOverMark : List Cond := .code yX4_isOverMark cX4_isOverMark 2 (some .boolean) :: ([.fieldLink RX4 10 "Followrow" "following" "LFollowrow$Relation;", .fieldLink RX4 42 "Followrow" "mark" "I", .methodLink RX4 79 yX1_countTo, .instanceMethod yX1_countTo, .selects RX1 yX1_countTo yX1_countTo, .initialized RX1, .code yX1_countTo cX1_countTo 4 (some .int), .methodLink RX1 19 yX1_has, .instanceMethod yX1_has, .selects RX1 yX1_has yX1_has, .code yX1_has cX1_has 3 (some .boolean), .fieldLink RX1 9 "Followrow$Relation" "pairs" "[Z", .static yX4_isPerson, .initialized RX4, .code yX4_isPerson cX4_isPerson 1 (some .boolean)] ++ wsX40 ++ wsX10)
def wsX4_isForRow_r1 : List Cond := [Cond.fieldLink RX4 25 "Followrow" "ledger" "LFollowrow$Ledger;", Cond.fieldLink RX4 10 "Followrow" "following" "LFollowrow$Relation;", Cond.methodLink RX4 107 yX0_author, Cond.instanceMethod yX0_author, Cond.selects RX0 yX0_author yX0_author, Cond.initialized RX0, Cond.code yX0_author cX0_author 2 (some .int), Cond.fieldLink RX0 9 "Followrow$Ledger" "authors" "[I", Cond.methodLink RX0 26 yX0_has, Cond.instanceMethod yX0_has, Cond.selects RX0 yX0_has yX0_has, Cond.code yX0_has cX0_has 2 (some .boolean), Cond.fieldLink RX0 22 "Followrow$Ledger" "made" "I", Cond.methodLink RX4 101 yX0_stands, Cond.instanceMethod yX0_stands, Cond.selects RX0 yX0_stands yX0_stands, Cond.code yX0_stands cX0_stands 2 (some .boolean), Cond.fieldLink RX0 18 "Followrow$Ledger" "deleted" "[Z", Cond.methodLink RX4 59 yX1_has, Cond.instanceMethod yX1_has, Cond.selects RX1 yX1_has yX1_has, Cond.initialized RX1, Cond.code yX1_has cX1_has 3 (some .boolean), Cond.fieldLink RX1 9 "Followrow$Relation" "pairs" "[Z"]
def wsX4_isForRow_r2 : List Cond := [Cond.static yX4_isPerson, Cond.initialized RX4, Cond.code yX4_isPerson cX4_isPerson 1 (some .boolean), Cond.methodLink RX4 127 yX4_isOverMark, Cond.instanceMethod yX4_isOverMark, Cond.selects RX4 yX4_isOverMark yX4_isOverMark, Cond.code yX4_isOverMark cX4_isOverMark 2 (some .boolean), Cond.fieldLink RX4 42 "Followrow" "mark" "I", Cond.methodLink RX4 79 yX1_countTo, Cond.instanceMethod yX1_countTo, Cond.selects RX1 yX1_countTo yX1_countTo, Cond.code yX1_countTo cX1_countTo 4 (some .int), Cond.methodLink RX1 19 yX1_has]
def wsX4_isForRow : List Cond := .code yX4_isForRow cX4_isForRow 4 (some .boolean) :: ((wsX4_isForRow_r1 ++ wsX4_isForRow_r2) ++ wsX40 ++ wsX00 ++ wsX10)
def wsX4_settleRow_r1 : List Cond := [Cond.fieldLink RX4 25 "Followrow" "ledger" "LFollowrow$Ledger;", Cond.fieldLink RX4 46 "Followrow" "room" "I", Cond.methodLink RX4 145 yX2_floor, Cond.instanceMethod yX2_floor, Cond.selects RX2 yX2_floor yX2_floor, Cond.initialized RX2, Cond.code yX2_floor cX2_floor 1 (some .int), Cond.fieldLink RX2 15 "Followrow$Row" "floor" "I", Cond.methodLink RX4 189 yX2_empty, Cond.instanceMethod yX2_empty, Cond.selects RX2 yX2_empty yX2_empty, Cond.code yX2_empty cX2_empty 1 none, Cond.fieldLink RX2 22 "Followrow$Row" "count" "I", Cond.methodLink RX4 88 yX0_made, Cond.instanceMethod yX0_made, Cond.selects RX0 yX0_made yX0_made, Cond.initialized RX0, Cond.code yX0_made cX0_made 1 (some .int), Cond.fieldLink RX0 22 "Followrow$Ledger" "made" "I", Cond.methodLink RX4 192 yX2_owner, Cond.instanceMethod yX2_owner, Cond.selects RX2 yX2_owner yX2_owner, Cond.code yX2_owner cX2_owner 1 (some .int), Cond.fieldLink RX2 19 "Followrow$Row" "owner" "I"]
def wsX4_settleRow_r2 : List Cond := [Cond.methodLink RX4 195 yX4_isForRow, Cond.instanceMethod yX4_isForRow, Cond.selects RX4 yX4_isForRow yX4_isForRow, Cond.initialized RX4, Cond.code yX4_isForRow cX4_isForRow 4 (some .boolean), Cond.fieldLink RX4 10 "Followrow" "following" "LFollowrow$Relation;", Cond.methodLink RX4 107 yX0_author, Cond.instanceMethod yX0_author, Cond.selects RX0 yX0_author yX0_author, Cond.code yX0_author cX0_author 2 (some .int), Cond.fieldLink RX0 9 "Followrow$Ledger" "authors" "[I", Cond.methodLink RX0 26 yX0_has, Cond.instanceMethod yX0_has, Cond.selects RX0 yX0_has yX0_has, Cond.code yX0_has cX0_has 2 (some .boolean), Cond.methodLink RX4 101 yX0_stands, Cond.instanceMethod yX0_stands, Cond.selects RX0 yX0_stands yX0_stands, Cond.code yX0_stands cX0_stands 2 (some .boolean), Cond.fieldLink RX0 18 "Followrow$Ledger" "deleted" "[Z", Cond.methodLink RX4 59 yX1_has, Cond.instanceMethod yX1_has, Cond.selects RX1 yX1_has yX1_has, Cond.initialized RX1]
def wsX4_settleRow_r3 : List Cond := [Cond.code yX1_has cX1_has 3 (some .boolean), Cond.fieldLink RX1 9 "Followrow$Relation" "pairs" "[Z", Cond.static yX4_isPerson, Cond.code yX4_isPerson cX4_isPerson 1 (some .boolean), Cond.methodLink RX4 127 yX4_isOverMark, Cond.instanceMethod yX4_isOverMark, Cond.selects RX4 yX4_isOverMark yX4_isOverMark, Cond.code yX4_isOverMark cX4_isOverMark 2 (some .boolean), Cond.fieldLink RX4 42 "Followrow" "mark" "I", Cond.methodLink RX4 79 yX1_countTo, Cond.instanceMethod yX1_countTo, Cond.selects RX1 yX1_countTo yX1_countTo, Cond.code yX1_countTo cX1_countTo 4 (some .int), Cond.methodLink RX1 19 yX1_has, Cond.methodLink RX4 134 yX2_count, Cond.instanceMethod yX2_count, Cond.selects RX2 yX2_count yX2_count, Cond.code yX2_count cX2_count 1 (some .int), Cond.methodLink RX4 198 yX2_raiseFloor, Cond.instanceMethod yX2_raiseFloor, Cond.selects RX2 yX2_raiseFloor yX2_raiseFloor, Cond.code yX2_raiseFloor cX2_raiseFloor 2 none, Cond.methodLink RX4 201 yX2_addBelow, Cond.instanceMethod yX2_addBelow]
def wsX4_settleRow_r4 : List Cond := [Cond.selects RX2 yX2_addBelow yX2_addBelow, Cond.code yX2_addBelow cX2_addBelow 2 none, Cond.fieldLink RX2 9 "Followrow$Row" "numbers" "[I"]
def wsX4_settleRow : List Cond := .code yX4_settleRow cX4_settleRow 4 none :: ((wsX4_settleRow_r1 ++ (wsX4_settleRow_r2 ++ (wsX4_settleRow_r3 ++ wsX4_settleRow_r4))) ++ wsX40 ++ wsX20 ++ wsX00 ++ wsX10)
def wsX4_settleRows_r1 : List Cond := [Cond.fieldLink RX4 31 "Followrow" "rows" "[LFollowrow$Row;", Cond.methodLink RX4 186 yX4_settleRow, Cond.instanceMethod yX4_settleRow, Cond.selects RX4 yX4_settleRow yX4_settleRow, Cond.initialized RX4, Cond.code yX4_settleRow cX4_settleRow 4 none, Cond.fieldLink RX4 25 "Followrow" "ledger" "LFollowrow$Ledger;", Cond.fieldLink RX4 46 "Followrow" "room" "I", Cond.methodLink RX4 145 yX2_floor, Cond.instanceMethod yX2_floor, Cond.selects RX2 yX2_floor yX2_floor, Cond.initialized RX2, Cond.code yX2_floor cX2_floor 1 (some .int), Cond.fieldLink RX2 15 "Followrow$Row" "floor" "I", Cond.methodLink RX4 189 yX2_empty, Cond.instanceMethod yX2_empty, Cond.selects RX2 yX2_empty yX2_empty, Cond.code yX2_empty cX2_empty 1 none, Cond.fieldLink RX2 22 "Followrow$Row" "count" "I", Cond.methodLink RX4 88 yX0_made, Cond.instanceMethod yX0_made, Cond.selects RX0 yX0_made yX0_made, Cond.initialized RX0, Cond.code yX0_made cX0_made 1 (some .int)]
def wsX4_settleRows_r2 : List Cond := [Cond.fieldLink RX0 22 "Followrow$Ledger" "made" "I", Cond.methodLink RX4 192 yX2_owner, Cond.instanceMethod yX2_owner, Cond.selects RX2 yX2_owner yX2_owner, Cond.code yX2_owner cX2_owner 1 (some .int), Cond.fieldLink RX2 19 "Followrow$Row" "owner" "I", Cond.methodLink RX4 195 yX4_isForRow, Cond.instanceMethod yX4_isForRow, Cond.selects RX4 yX4_isForRow yX4_isForRow, Cond.code yX4_isForRow cX4_isForRow 4 (some .boolean), Cond.fieldLink RX4 10 "Followrow" "following" "LFollowrow$Relation;", Cond.methodLink RX4 107 yX0_author, Cond.instanceMethod yX0_author, Cond.selects RX0 yX0_author yX0_author, Cond.code yX0_author cX0_author 2 (some .int), Cond.fieldLink RX0 9 "Followrow$Ledger" "authors" "[I", Cond.methodLink RX0 26 yX0_has, Cond.instanceMethod yX0_has, Cond.selects RX0 yX0_has yX0_has, Cond.code yX0_has cX0_has 2 (some .boolean), Cond.methodLink RX4 101 yX0_stands, Cond.instanceMethod yX0_stands, Cond.selects RX0 yX0_stands yX0_stands, Cond.code yX0_stands cX0_stands 2 (some .boolean)]
def wsX4_settleRows_r3 : List Cond := [Cond.fieldLink RX0 18 "Followrow$Ledger" "deleted" "[Z", Cond.methodLink RX4 59 yX1_has, Cond.instanceMethod yX1_has, Cond.selects RX1 yX1_has yX1_has, Cond.initialized RX1, Cond.code yX1_has cX1_has 3 (some .boolean), Cond.fieldLink RX1 9 "Followrow$Relation" "pairs" "[Z", Cond.static yX4_isPerson, Cond.code yX4_isPerson cX4_isPerson 1 (some .boolean), Cond.methodLink RX4 127 yX4_isOverMark, Cond.instanceMethod yX4_isOverMark, Cond.selects RX4 yX4_isOverMark yX4_isOverMark, Cond.code yX4_isOverMark cX4_isOverMark 2 (some .boolean), Cond.fieldLink RX4 42 "Followrow" "mark" "I", Cond.methodLink RX4 79 yX1_countTo, Cond.instanceMethod yX1_countTo, Cond.selects RX1 yX1_countTo yX1_countTo, Cond.code yX1_countTo cX1_countTo 4 (some .int), Cond.methodLink RX1 19 yX1_has, Cond.methodLink RX4 134 yX2_count, Cond.instanceMethod yX2_count, Cond.selects RX2 yX2_count yX2_count, Cond.code yX2_count cX2_count 1 (some .int), Cond.methodLink RX4 198 yX2_raiseFloor]
def wsX4_settleRows_r4 : List Cond := [Cond.instanceMethod yX2_raiseFloor, Cond.selects RX2 yX2_raiseFloor yX2_raiseFloor, Cond.code yX2_raiseFloor cX2_raiseFloor 2 none, Cond.methodLink RX4 201 yX2_addBelow, Cond.instanceMethod yX2_addBelow, Cond.selects RX2 yX2_addBelow yX2_addBelow, Cond.code yX2_addBelow cX2_addBelow 2 none, Cond.fieldLink RX2 9 "Followrow$Row" "numbers" "[I"]
def wsX4_settleRows : List Cond := .code yX4_settleRows cX4_settleRows 5 none :: ((wsX4_settleRows_r1 ++ (wsX4_settleRows_r2 ++ (wsX4_settleRows_r3 ++ wsX4_settleRows_r4))) ++ wsX40 ++ wsX20 ++ wsX00 ++ wsX10)
def wsX4_follow_r1 : List Cond := [Cond.classLink RX4 63 "java/lang/IllegalStateException", Cond.initialized "java/lang/IllegalStateException", Cond.fieldLink RX4 10 "Followrow" "following" "LFollowrow$Relation;", Cond.fieldLink RX4 19 "Followrow" "blocking" "LFollowrow$Relation;", Cond.methodLink RX4 52 yX4_checkPerson, Cond.static yX4_checkPerson, Cond.initialized RX4, Cond.code yX4_checkPerson cX4_checkPerson 1 none, Cond.classLink RX4 137 "java/lang/IndexOutOfBoundsException", Cond.initialized "java/lang/IndexOutOfBoundsException", Cond.methodLink RX4 168 yX4_isPerson, Cond.static yX4_isPerson, Cond.code yX4_isPerson cX4_isPerson 1 (some .boolean), Cond.methodLink RX4 55 yX4_checkDifferent, Cond.static yX4_checkDifferent, Cond.code yX4_checkDifferent cX4_checkDifferent 2 none, Cond.classLink RX4 173 "java/lang/IllegalArgumentException", Cond.initialized "java/lang/IllegalArgumentException", Cond.methodLink RX4 59 yX1_has, Cond.instanceMethod yX1_has, Cond.selects RX1 yX1_has yX1_has, Cond.initialized RX1, Cond.code yX1_has cX1_has 3 (some .boolean), Cond.fieldLink RX1 9 "Followrow$Relation" "pairs" "[Z"]
def wsX4_follow_r2 : List Cond := [Cond.methodLink RX4 72 yX1_put, Cond.instanceMethod yX1_put, Cond.selects RX1 yX1_put yX1_put, Cond.code yX1_put cX1_put 4 none, Cond.methodLink RX4 76 yX4_settleRows, Cond.instanceMethod yX4_settleRows, Cond.selects RX4 yX4_settleRows yX4_settleRows, Cond.code yX4_settleRows cX4_settleRows 5 none, Cond.fieldLink RX4 31 "Followrow" "rows" "[LFollowrow$Row;", Cond.methodLink RX4 186 yX4_settleRow, Cond.instanceMethod yX4_settleRow, Cond.selects RX4 yX4_settleRow yX4_settleRow, Cond.code yX4_settleRow cX4_settleRow 4 none, Cond.fieldLink RX4 25 "Followrow" "ledger" "LFollowrow$Ledger;", Cond.fieldLink RX4 46 "Followrow" "room" "I", Cond.methodLink RX4 145 yX2_floor, Cond.instanceMethod yX2_floor, Cond.selects RX2 yX2_floor yX2_floor, Cond.initialized RX2, Cond.code yX2_floor cX2_floor 1 (some .int), Cond.fieldLink RX2 15 "Followrow$Row" "floor" "I", Cond.methodLink RX4 189 yX2_empty, Cond.instanceMethod yX2_empty, Cond.selects RX2 yX2_empty yX2_empty]
def wsX4_follow_r3 : List Cond := [Cond.code yX2_empty cX2_empty 1 none, Cond.fieldLink RX2 22 "Followrow$Row" "count" "I", Cond.methodLink RX4 88 yX0_made, Cond.instanceMethod yX0_made, Cond.selects RX0 yX0_made yX0_made, Cond.initialized RX0, Cond.code yX0_made cX0_made 1 (some .int), Cond.fieldLink RX0 22 "Followrow$Ledger" "made" "I", Cond.methodLink RX4 192 yX2_owner, Cond.instanceMethod yX2_owner, Cond.selects RX2 yX2_owner yX2_owner, Cond.code yX2_owner cX2_owner 1 (some .int), Cond.fieldLink RX2 19 "Followrow$Row" "owner" "I", Cond.methodLink RX4 195 yX4_isForRow, Cond.instanceMethod yX4_isForRow, Cond.selects RX4 yX4_isForRow yX4_isForRow, Cond.code yX4_isForRow cX4_isForRow 4 (some .boolean), Cond.methodLink RX4 107 yX0_author, Cond.instanceMethod yX0_author, Cond.selects RX0 yX0_author yX0_author, Cond.code yX0_author cX0_author 2 (some .int), Cond.fieldLink RX0 9 "Followrow$Ledger" "authors" "[I", Cond.methodLink RX0 26 yX0_has, Cond.instanceMethod yX0_has]
def wsX4_follow_r4 : List Cond := [Cond.selects RX0 yX0_has yX0_has, Cond.code yX0_has cX0_has 2 (some .boolean), Cond.methodLink RX4 101 yX0_stands, Cond.instanceMethod yX0_stands, Cond.selects RX0 yX0_stands yX0_stands, Cond.code yX0_stands cX0_stands 2 (some .boolean), Cond.fieldLink RX0 18 "Followrow$Ledger" "deleted" "[Z", Cond.methodLink RX4 127 yX4_isOverMark, Cond.instanceMethod yX4_isOverMark, Cond.selects RX4 yX4_isOverMark yX4_isOverMark, Cond.code yX4_isOverMark cX4_isOverMark 2 (some .boolean), Cond.fieldLink RX4 42 "Followrow" "mark" "I", Cond.methodLink RX4 79 yX1_countTo, Cond.instanceMethod yX1_countTo, Cond.selects RX1 yX1_countTo yX1_countTo, Cond.code yX1_countTo cX1_countTo 4 (some .int), Cond.methodLink RX1 19 yX1_has, Cond.methodLink RX4 134 yX2_count, Cond.instanceMethod yX2_count, Cond.selects RX2 yX2_count yX2_count, Cond.code yX2_count cX2_count 1 (some .int), Cond.methodLink RX4 198 yX2_raiseFloor, Cond.instanceMethod yX2_raiseFloor, Cond.selects RX2 yX2_raiseFloor yX2_raiseFloor]
def wsX4_follow_r5 : List Cond := [Cond.code yX2_raiseFloor cX2_raiseFloor 2 none, Cond.methodLink RX4 201 yX2_addBelow, Cond.instanceMethod yX2_addBelow, Cond.selects RX2 yX2_addBelow yX2_addBelow, Cond.code yX2_addBelow cX2_addBelow 2 none, Cond.fieldLink RX2 9 "Followrow$Row" "numbers" "[I"]
def wsX4_follow : List Cond := .code yX4_follow cX4_follow 3 (some .int) :: ((wsX4_follow_r1 ++ (wsX4_follow_r2 ++ (wsX4_follow_r3 ++ (wsX4_follow_r4 ++ wsX4_follow_r5)))) ++ wsX40 ++ wsX10 ++ wsX20 ++ wsX00 ++ (vx_atS RX4 67 "java/lang/IllegalStateException" ["java/lang/RuntimeException", "java/lang/Exception"]).filter goodWord ++ (vx_atS RX4 141 "java/lang/IndexOutOfBoundsException" ["java/lang/RuntimeException", "java/lang/Exception"]).filter goodWord ++ (vx_atS RX4 177 "java/lang/IllegalArgumentException" ["java/lang/RuntimeException", "java/lang/Exception"]).filter goodWord)
def wsX4_unfollow_r1 : List Cond := [Cond.classLink RX4 63 "java/lang/IllegalStateException", Cond.initialized "java/lang/IllegalStateException", Cond.fieldLink RX4 10 "Followrow" "following" "LFollowrow$Relation;", Cond.methodLink RX4 52 yX4_checkPerson, Cond.static yX4_checkPerson, Cond.initialized RX4, Cond.code yX4_checkPerson cX4_checkPerson 1 none, Cond.classLink RX4 137 "java/lang/IndexOutOfBoundsException", Cond.initialized "java/lang/IndexOutOfBoundsException", Cond.methodLink RX4 168 yX4_isPerson, Cond.static yX4_isPerson, Cond.code yX4_isPerson cX4_isPerson 1 (some .boolean), Cond.methodLink RX4 59 yX1_has, Cond.instanceMethod yX1_has, Cond.selects RX1 yX1_has yX1_has, Cond.initialized RX1, Cond.code yX1_has cX1_has 3 (some .boolean), Cond.fieldLink RX1 9 "Followrow$Relation" "pairs" "[Z", Cond.methodLink RX4 72 yX1_put, Cond.instanceMethod yX1_put, Cond.selects RX1 yX1_put yX1_put, Cond.code yX1_put cX1_put 4 none, Cond.methodLink RX4 76 yX4_settleRows, Cond.instanceMethod yX4_settleRows]
def wsX4_unfollow_r2 : List Cond := [Cond.selects RX4 yX4_settleRows yX4_settleRows, Cond.code yX4_settleRows cX4_settleRows 5 none, Cond.fieldLink RX4 31 "Followrow" "rows" "[LFollowrow$Row;", Cond.methodLink RX4 186 yX4_settleRow, Cond.instanceMethod yX4_settleRow, Cond.selects RX4 yX4_settleRow yX4_settleRow, Cond.code yX4_settleRow cX4_settleRow 4 none, Cond.fieldLink RX4 25 "Followrow" "ledger" "LFollowrow$Ledger;", Cond.fieldLink RX4 46 "Followrow" "room" "I", Cond.methodLink RX4 145 yX2_floor, Cond.instanceMethod yX2_floor, Cond.selects RX2 yX2_floor yX2_floor, Cond.initialized RX2, Cond.code yX2_floor cX2_floor 1 (some .int), Cond.fieldLink RX2 15 "Followrow$Row" "floor" "I", Cond.methodLink RX4 189 yX2_empty, Cond.instanceMethod yX2_empty, Cond.selects RX2 yX2_empty yX2_empty, Cond.code yX2_empty cX2_empty 1 none, Cond.fieldLink RX2 22 "Followrow$Row" "count" "I", Cond.methodLink RX4 88 yX0_made, Cond.instanceMethod yX0_made, Cond.selects RX0 yX0_made yX0_made, Cond.initialized RX0]
def wsX4_unfollow_r3 : List Cond := [Cond.code yX0_made cX0_made 1 (some .int), Cond.fieldLink RX0 22 "Followrow$Ledger" "made" "I", Cond.methodLink RX4 192 yX2_owner, Cond.instanceMethod yX2_owner, Cond.selects RX2 yX2_owner yX2_owner, Cond.code yX2_owner cX2_owner 1 (some .int), Cond.fieldLink RX2 19 "Followrow$Row" "owner" "I", Cond.methodLink RX4 195 yX4_isForRow, Cond.instanceMethod yX4_isForRow, Cond.selects RX4 yX4_isForRow yX4_isForRow, Cond.code yX4_isForRow cX4_isForRow 4 (some .boolean), Cond.methodLink RX4 107 yX0_author, Cond.instanceMethod yX0_author, Cond.selects RX0 yX0_author yX0_author, Cond.code yX0_author cX0_author 2 (some .int), Cond.fieldLink RX0 9 "Followrow$Ledger" "authors" "[I", Cond.methodLink RX0 26 yX0_has, Cond.instanceMethod yX0_has, Cond.selects RX0 yX0_has yX0_has, Cond.code yX0_has cX0_has 2 (some .boolean), Cond.methodLink RX4 101 yX0_stands, Cond.instanceMethod yX0_stands, Cond.selects RX0 yX0_stands yX0_stands, Cond.code yX0_stands cX0_stands 2 (some .boolean)]
def wsX4_unfollow_r4 : List Cond := [Cond.fieldLink RX0 18 "Followrow$Ledger" "deleted" "[Z", Cond.methodLink RX4 127 yX4_isOverMark, Cond.instanceMethod yX4_isOverMark, Cond.selects RX4 yX4_isOverMark yX4_isOverMark, Cond.code yX4_isOverMark cX4_isOverMark 2 (some .boolean), Cond.fieldLink RX4 42 "Followrow" "mark" "I", Cond.methodLink RX4 79 yX1_countTo, Cond.instanceMethod yX1_countTo, Cond.selects RX1 yX1_countTo yX1_countTo, Cond.code yX1_countTo cX1_countTo 4 (some .int), Cond.methodLink RX1 19 yX1_has, Cond.methodLink RX4 134 yX2_count, Cond.instanceMethod yX2_count, Cond.selects RX2 yX2_count yX2_count, Cond.code yX2_count cX2_count 1 (some .int), Cond.methodLink RX4 198 yX2_raiseFloor, Cond.instanceMethod yX2_raiseFloor, Cond.selects RX2 yX2_raiseFloor yX2_raiseFloor, Cond.code yX2_raiseFloor cX2_raiseFloor 2 none, Cond.methodLink RX4 201 yX2_addBelow, Cond.instanceMethod yX2_addBelow, Cond.selects RX2 yX2_addBelow yX2_addBelow, Cond.code yX2_addBelow cX2_addBelow 2 none, Cond.fieldLink RX2 9 "Followrow$Row" "numbers" "[I"]
def wsX4_unfollow : List Cond := .code yX4_unfollow cX4_unfollow 3 (some .int) :: ((wsX4_unfollow_r1 ++ (wsX4_unfollow_r2 ++ (wsX4_unfollow_r3 ++ wsX4_unfollow_r4))) ++ wsX40 ++ wsX10 ++ wsX20 ++ wsX00 ++ (vx_atS RX4 67 "java/lang/IllegalStateException" ["java/lang/RuntimeException", "java/lang/Exception"]).filter goodWord ++ (vx_atS RX4 141 "java/lang/IndexOutOfBoundsException" ["java/lang/RuntimeException", "java/lang/Exception"]).filter goodWord)
def wsX4_mute_r1 : List Cond := [Cond.fieldLink RX4 16 "Followrow" "muting" "LFollowrow$Relation;", Cond.methodLink RX4 52 yX4_checkPerson, Cond.static yX4_checkPerson, Cond.initialized RX4, Cond.code yX4_checkPerson cX4_checkPerson 1 none, Cond.classLink RX4 137 "java/lang/IndexOutOfBoundsException", Cond.initialized "java/lang/IndexOutOfBoundsException", Cond.methodLink RX4 168 yX4_isPerson, Cond.static yX4_isPerson, Cond.code yX4_isPerson cX4_isPerson 1 (some .boolean), Cond.methodLink RX4 55 yX4_checkDifferent, Cond.static yX4_checkDifferent, Cond.code yX4_checkDifferent cX4_checkDifferent 2 none, Cond.classLink RX4 173 "java/lang/IllegalArgumentException", Cond.initialized "java/lang/IllegalArgumentException", Cond.methodLink RX4 59 yX1_has, Cond.instanceMethod yX1_has, Cond.selects RX1 yX1_has yX1_has, Cond.initialized RX1, Cond.code yX1_has cX1_has 3 (some .boolean), Cond.fieldLink RX1 9 "Followrow$Relation" "pairs" "[Z", Cond.methodLink RX4 72 yX1_put, Cond.instanceMethod yX1_put, Cond.selects RX1 yX1_put yX1_put]
def wsX4_mute_r2 : List Cond := [Cond.code yX1_put cX1_put 4 none]
def wsX4_mute : List Cond := .code yX4_mute cX4_mute 5 (some .boolean) :: ((wsX4_mute_r1 ++ wsX4_mute_r2) ++ wsX40 ++ wsX10 ++ (vx_atS RX4 141 "java/lang/IndexOutOfBoundsException" ["java/lang/RuntimeException", "java/lang/Exception"]).filter goodWord ++ (vx_atS RX4 177 "java/lang/IllegalArgumentException" ["java/lang/RuntimeException", "java/lang/Exception"]).filter goodWord)
def wsX4_block_r1 : List Cond := [Cond.fieldLink RX4 19 "Followrow" "blocking" "LFollowrow$Relation;", Cond.fieldLink RX4 10 "Followrow" "following" "LFollowrow$Relation;", Cond.methodLink RX4 52 yX4_checkPerson, Cond.static yX4_checkPerson, Cond.initialized RX4, Cond.code yX4_checkPerson cX4_checkPerson 1 none, Cond.classLink RX4 137 "java/lang/IndexOutOfBoundsException", Cond.initialized "java/lang/IndexOutOfBoundsException", Cond.methodLink RX4 168 yX4_isPerson, Cond.static yX4_isPerson, Cond.code yX4_isPerson cX4_isPerson 1 (some .boolean), Cond.methodLink RX4 55 yX4_checkDifferent, Cond.static yX4_checkDifferent, Cond.code yX4_checkDifferent cX4_checkDifferent 2 none, Cond.classLink RX4 173 "java/lang/IllegalArgumentException", Cond.initialized "java/lang/IllegalArgumentException", Cond.methodLink RX4 59 yX1_has, Cond.instanceMethod yX1_has, Cond.selects RX1 yX1_has yX1_has, Cond.initialized RX1, Cond.code yX1_has cX1_has 3 (some .boolean), Cond.fieldLink RX1 9 "Followrow$Relation" "pairs" "[Z", Cond.methodLink RX4 72 yX1_put, Cond.instanceMethod yX1_put]
def wsX4_block_r2 : List Cond := [Cond.selects RX1 yX1_put yX1_put, Cond.code yX1_put cX1_put 4 none, Cond.methodLink RX4 76 yX4_settleRows, Cond.instanceMethod yX4_settleRows, Cond.selects RX4 yX4_settleRows yX4_settleRows, Cond.code yX4_settleRows cX4_settleRows 5 none, Cond.fieldLink RX4 31 "Followrow" "rows" "[LFollowrow$Row;", Cond.methodLink RX4 186 yX4_settleRow, Cond.instanceMethod yX4_settleRow, Cond.selects RX4 yX4_settleRow yX4_settleRow, Cond.code yX4_settleRow cX4_settleRow 4 none, Cond.fieldLink RX4 25 "Followrow" "ledger" "LFollowrow$Ledger;", Cond.fieldLink RX4 46 "Followrow" "room" "I", Cond.methodLink RX4 145 yX2_floor, Cond.instanceMethod yX2_floor, Cond.selects RX2 yX2_floor yX2_floor, Cond.initialized RX2, Cond.code yX2_floor cX2_floor 1 (some .int), Cond.fieldLink RX2 15 "Followrow$Row" "floor" "I", Cond.methodLink RX4 189 yX2_empty, Cond.instanceMethod yX2_empty, Cond.selects RX2 yX2_empty yX2_empty, Cond.code yX2_empty cX2_empty 1 none, Cond.fieldLink RX2 22 "Followrow$Row" "count" "I"]
def wsX4_block_r3 : List Cond := [Cond.methodLink RX4 88 yX0_made, Cond.instanceMethod yX0_made, Cond.selects RX0 yX0_made yX0_made, Cond.initialized RX0, Cond.code yX0_made cX0_made 1 (some .int), Cond.fieldLink RX0 22 "Followrow$Ledger" "made" "I", Cond.methodLink RX4 192 yX2_owner, Cond.instanceMethod yX2_owner, Cond.selects RX2 yX2_owner yX2_owner, Cond.code yX2_owner cX2_owner 1 (some .int), Cond.fieldLink RX2 19 "Followrow$Row" "owner" "I", Cond.methodLink RX4 195 yX4_isForRow, Cond.instanceMethod yX4_isForRow, Cond.selects RX4 yX4_isForRow yX4_isForRow, Cond.code yX4_isForRow cX4_isForRow 4 (some .boolean), Cond.methodLink RX4 107 yX0_author, Cond.instanceMethod yX0_author, Cond.selects RX0 yX0_author yX0_author, Cond.code yX0_author cX0_author 2 (some .int), Cond.fieldLink RX0 9 "Followrow$Ledger" "authors" "[I", Cond.methodLink RX0 26 yX0_has, Cond.instanceMethod yX0_has, Cond.selects RX0 yX0_has yX0_has, Cond.code yX0_has cX0_has 2 (some .boolean)]
def wsX4_block_r4 : List Cond := [Cond.methodLink RX4 101 yX0_stands, Cond.instanceMethod yX0_stands, Cond.selects RX0 yX0_stands yX0_stands, Cond.code yX0_stands cX0_stands 2 (some .boolean), Cond.fieldLink RX0 18 "Followrow$Ledger" "deleted" "[Z", Cond.methodLink RX4 127 yX4_isOverMark, Cond.instanceMethod yX4_isOverMark, Cond.selects RX4 yX4_isOverMark yX4_isOverMark, Cond.code yX4_isOverMark cX4_isOverMark 2 (some .boolean), Cond.fieldLink RX4 42 "Followrow" "mark" "I", Cond.methodLink RX4 79 yX1_countTo, Cond.instanceMethod yX1_countTo, Cond.selects RX1 yX1_countTo yX1_countTo, Cond.code yX1_countTo cX1_countTo 4 (some .int), Cond.methodLink RX1 19 yX1_has, Cond.methodLink RX4 134 yX2_count, Cond.instanceMethod yX2_count, Cond.selects RX2 yX2_count yX2_count, Cond.code yX2_count cX2_count 1 (some .int), Cond.methodLink RX4 198 yX2_raiseFloor, Cond.instanceMethod yX2_raiseFloor, Cond.selects RX2 yX2_raiseFloor yX2_raiseFloor, Cond.code yX2_raiseFloor cX2_raiseFloor 2 none, Cond.methodLink RX4 201 yX2_addBelow]
def wsX4_block_r5 : List Cond := [Cond.instanceMethod yX2_addBelow, Cond.selects RX2 yX2_addBelow yX2_addBelow, Cond.code yX2_addBelow cX2_addBelow 2 none, Cond.fieldLink RX2 9 "Followrow$Row" "numbers" "[I"]
def wsX4_block : List Cond := .code yX4_block cX4_block 5 (some .boolean) :: ((wsX4_block_r1 ++ (wsX4_block_r2 ++ (wsX4_block_r3 ++ (wsX4_block_r4 ++ wsX4_block_r5)))) ++ wsX40 ++ wsX10 ++ wsX20 ++ wsX00 ++ (vx_atS RX4 141 "java/lang/IndexOutOfBoundsException" ["java/lang/RuntimeException", "java/lang/Exception"]).filter goodWord ++ (vx_atS RX4 177 "java/lang/IllegalArgumentException" ["java/lang/RuntimeException", "java/lang/Exception"]).filter goodWord)
def wsX4_checkPlace : List Cond := .code yX4_checkPlace cX4_checkPlace 1 none :: ([.classLink RX4 63 "java/lang/IllegalStateException", .initialized "java/lang/IllegalStateException", .fieldLink RX4 25 "Followrow" "ledger" "LFollowrow$Ledger;", .methodLink RX4 88 yX0_made, .instanceMethod yX0_made, .selects RX0 yX0_made yX0_made, .initialized RX0, .code yX0_made cX0_made 1 (some .int), .fieldLink RX0 22 "Followrow$Ledger" "made" "I"] ++ wsX40 ++ wsX00 ++ (vx_atS RX4 67 "java/lang/IllegalStateException" ["java/lang/RuntimeException", "java/lang/Exception"]).filter goodWord)
def wsX4_post_r1 : List Cond := [Cond.fieldLink RX4 25 "Followrow" "ledger" "LFollowrow$Ledger;", Cond.methodLink RX4 52 yX4_checkPerson, Cond.static yX4_checkPerson, Cond.initialized RX4, Cond.code yX4_checkPerson cX4_checkPerson 1 none, Cond.classLink RX4 137 "java/lang/IndexOutOfBoundsException", Cond.initialized "java/lang/IndexOutOfBoundsException", Cond.methodLink RX4 168 yX4_isPerson, Cond.static yX4_isPerson, Cond.code yX4_isPerson cX4_isPerson 1 (some .boolean), Cond.methodLink RX4 85 yX4_checkPlace, Cond.instanceMethod yX4_checkPlace, Cond.selects RX4 yX4_checkPlace yX4_checkPlace, Cond.code yX4_checkPlace cX4_checkPlace 1 none, Cond.classLink RX4 63 "java/lang/IllegalStateException", Cond.initialized "java/lang/IllegalStateException", Cond.methodLink RX4 88 yX0_made, Cond.instanceMethod yX0_made, Cond.selects RX0 yX0_made yX0_made, Cond.initialized RX0, Cond.code yX0_made cX0_made 1 (some .int), Cond.fieldLink RX0 22 "Followrow$Ledger" "made" "I", Cond.methodLink RX4 92 yX0_add, Cond.instanceMethod yX0_add]
def wsX4_post_r2 : List Cond := [Cond.selects RX0 yX0_add yX0_add, Cond.code yX0_add cX0_add 3 none, Cond.fieldLink RX0 9 "Followrow$Ledger" "authors" "[I", Cond.fieldLink RX0 15 "Followrow$Ledger" "origins" "[I", Cond.methodLink RX4 76 yX4_settleRows, Cond.instanceMethod yX4_settleRows, Cond.selects RX4 yX4_settleRows yX4_settleRows, Cond.code yX4_settleRows cX4_settleRows 5 none, Cond.fieldLink RX4 31 "Followrow" "rows" "[LFollowrow$Row;", Cond.methodLink RX4 186 yX4_settleRow, Cond.instanceMethod yX4_settleRow, Cond.selects RX4 yX4_settleRow yX4_settleRow, Cond.code yX4_settleRow cX4_settleRow 4 none, Cond.fieldLink RX4 46 "Followrow" "room" "I", Cond.methodLink RX4 145 yX2_floor, Cond.instanceMethod yX2_floor, Cond.selects RX2 yX2_floor yX2_floor, Cond.initialized RX2, Cond.code yX2_floor cX2_floor 1 (some .int), Cond.fieldLink RX2 15 "Followrow$Row" "floor" "I", Cond.methodLink RX4 189 yX2_empty, Cond.instanceMethod yX2_empty, Cond.selects RX2 yX2_empty yX2_empty, Cond.code yX2_empty cX2_empty 1 none]
def wsX4_post_r3 : List Cond := [Cond.fieldLink RX2 22 "Followrow$Row" "count" "I", Cond.methodLink RX4 192 yX2_owner, Cond.instanceMethod yX2_owner, Cond.selects RX2 yX2_owner yX2_owner, Cond.code yX2_owner cX2_owner 1 (some .int), Cond.fieldLink RX2 19 "Followrow$Row" "owner" "I", Cond.methodLink RX4 195 yX4_isForRow, Cond.instanceMethod yX4_isForRow, Cond.selects RX4 yX4_isForRow yX4_isForRow, Cond.code yX4_isForRow cX4_isForRow 4 (some .boolean), Cond.fieldLink RX4 10 "Followrow" "following" "LFollowrow$Relation;", Cond.methodLink RX4 107 yX0_author, Cond.instanceMethod yX0_author, Cond.selects RX0 yX0_author yX0_author, Cond.code yX0_author cX0_author 2 (some .int), Cond.methodLink RX0 26 yX0_has, Cond.instanceMethod yX0_has, Cond.selects RX0 yX0_has yX0_has, Cond.code yX0_has cX0_has 2 (some .boolean), Cond.methodLink RX4 101 yX0_stands, Cond.instanceMethod yX0_stands, Cond.selects RX0 yX0_stands yX0_stands, Cond.code yX0_stands cX0_stands 2 (some .boolean), Cond.fieldLink RX0 18 "Followrow$Ledger" "deleted" "[Z"]
def wsX4_post_r4 : List Cond := [Cond.methodLink RX4 59 yX1_has, Cond.instanceMethod yX1_has, Cond.selects RX1 yX1_has yX1_has, Cond.initialized RX1, Cond.code yX1_has cX1_has 3 (some .boolean), Cond.fieldLink RX1 9 "Followrow$Relation" "pairs" "[Z", Cond.methodLink RX4 127 yX4_isOverMark, Cond.instanceMethod yX4_isOverMark, Cond.selects RX4 yX4_isOverMark yX4_isOverMark, Cond.code yX4_isOverMark cX4_isOverMark 2 (some .boolean), Cond.fieldLink RX4 42 "Followrow" "mark" "I", Cond.methodLink RX4 79 yX1_countTo, Cond.instanceMethod yX1_countTo, Cond.selects RX1 yX1_countTo yX1_countTo, Cond.code yX1_countTo cX1_countTo 4 (some .int), Cond.methodLink RX1 19 yX1_has, Cond.methodLink RX4 134 yX2_count, Cond.instanceMethod yX2_count, Cond.selects RX2 yX2_count yX2_count, Cond.code yX2_count cX2_count 1 (some .int), Cond.methodLink RX4 198 yX2_raiseFloor, Cond.instanceMethod yX2_raiseFloor, Cond.selects RX2 yX2_raiseFloor yX2_raiseFloor, Cond.code yX2_raiseFloor cX2_raiseFloor 2 none]
def wsX4_post_r5 : List Cond := [Cond.methodLink RX4 201 yX2_addBelow, Cond.instanceMethod yX2_addBelow, Cond.selects RX2 yX2_addBelow yX2_addBelow, Cond.code yX2_addBelow cX2_addBelow 2 none, Cond.fieldLink RX2 9 "Followrow$Row" "numbers" "[I"]
def wsX4_post : List Cond := .code yX4_post cX4_post 3 (some .int) :: ((wsX4_post_r1 ++ (wsX4_post_r2 ++ (wsX4_post_r3 ++ (wsX4_post_r4 ++ wsX4_post_r5)))) ++ wsX40 ++ wsX00 ++ wsX20 ++ wsX10 ++ (vx_atS RX4 141 "java/lang/IndexOutOfBoundsException" ["java/lang/RuntimeException", "java/lang/Exception"]).filter goodWord ++ (vx_atS RX4 67 "java/lang/IllegalStateException" ["java/lang/RuntimeException", "java/lang/Exception"]).filter goodWord)
def wsX4_checkEntry : List Cond := .code yX4_checkEntry cX4_checkEntry 2 none :: ([.classLink RX4 137 "java/lang/IndexOutOfBoundsException", .initialized "java/lang/IndexOutOfBoundsException", .fieldLink RX4 25 "Followrow" "ledger" "LFollowrow$Ledger;", .methodLink RX4 180 yX0_has, .instanceMethod yX0_has, .selects RX0 yX0_has yX0_has, .initialized RX0, .code yX0_has cX0_has 2 (some .boolean), .fieldLink RX0 22 "Followrow$Ledger" "made" "I"] ++ wsX40 ++ wsX00 ++ (vx_atS RX4 141 "java/lang/IndexOutOfBoundsException" ["java/lang/RuntimeException", "java/lang/Exception"]).filter goodWord)
def wsX4_repost_r1 : List Cond := [Cond.classLink RX4 63 "java/lang/IllegalStateException", Cond.initialized "java/lang/IllegalStateException", Cond.fieldLink RX4 25 "Followrow" "ledger" "LFollowrow$Ledger;", Cond.fieldLink RX4 19 "Followrow" "blocking" "LFollowrow$Relation;", Cond.methodLink RX4 52 yX4_checkPerson, Cond.static yX4_checkPerson, Cond.initialized RX4, Cond.code yX4_checkPerson cX4_checkPerson 1 none, Cond.classLink RX4 137 "java/lang/IndexOutOfBoundsException", Cond.initialized "java/lang/IndexOutOfBoundsException", Cond.methodLink RX4 168 yX4_isPerson, Cond.static yX4_isPerson, Cond.code yX4_isPerson cX4_isPerson 1 (some .boolean), Cond.methodLink RX4 95 yX4_checkEntry, Cond.instanceMethod yX4_checkEntry, Cond.selects RX4 yX4_checkEntry yX4_checkEntry, Cond.code yX4_checkEntry cX4_checkEntry 2 none, Cond.methodLink RX4 180 yX0_has, Cond.instanceMethod yX0_has, Cond.selects RX0 yX0_has yX0_has, Cond.initialized RX0, Cond.code yX0_has cX0_has 2 (some .boolean), Cond.fieldLink RX0 22 "Followrow$Ledger" "made" "I", Cond.methodLink RX4 85 yX4_checkPlace]
def wsX4_repost_r2 : List Cond := [Cond.instanceMethod yX4_checkPlace, Cond.selects RX4 yX4_checkPlace yX4_checkPlace, Cond.code yX4_checkPlace cX4_checkPlace 1 none, Cond.methodLink RX4 88 yX0_made, Cond.instanceMethod yX0_made, Cond.selects RX0 yX0_made yX0_made, Cond.code yX0_made cX0_made 1 (some .int), Cond.methodLink RX4 98 yX0_origin, Cond.instanceMethod yX0_origin, Cond.selects RX0 yX0_origin yX0_origin, Cond.code yX0_origin cX0_origin 2 (some .int), Cond.fieldLink RX0 15 "Followrow$Ledger" "origins" "[I", Cond.methodLink RX0 26 yX0_has, Cond.methodLink RX4 101 yX0_stands, Cond.instanceMethod yX0_stands, Cond.selects RX0 yX0_stands yX0_stands, Cond.code yX0_stands cX0_stands 2 (some .boolean), Cond.fieldLink RX0 18 "Followrow$Ledger" "deleted" "[Z", Cond.methodLink RX4 107 yX0_author, Cond.instanceMethod yX0_author, Cond.selects RX0 yX0_author yX0_author, Cond.code yX0_author cX0_author 2 (some .int), Cond.fieldLink RX0 9 "Followrow$Ledger" "authors" "[I", Cond.methodLink RX4 59 yX1_has]
def wsX4_repost_r3 : List Cond := [Cond.instanceMethod yX1_has, Cond.selects RX1 yX1_has yX1_has, Cond.initialized RX1, Cond.code yX1_has cX1_has 3 (some .boolean), Cond.fieldLink RX1 9 "Followrow$Relation" "pairs" "[Z", Cond.methodLink RX4 92 yX0_add, Cond.instanceMethod yX0_add, Cond.selects RX0 yX0_add yX0_add, Cond.code yX0_add cX0_add 3 none, Cond.methodLink RX4 76 yX4_settleRows, Cond.instanceMethod yX4_settleRows, Cond.selects RX4 yX4_settleRows yX4_settleRows, Cond.code yX4_settleRows cX4_settleRows 5 none, Cond.fieldLink RX4 31 "Followrow" "rows" "[LFollowrow$Row;", Cond.methodLink RX4 186 yX4_settleRow, Cond.instanceMethod yX4_settleRow, Cond.selects RX4 yX4_settleRow yX4_settleRow, Cond.code yX4_settleRow cX4_settleRow 4 none, Cond.fieldLink RX4 46 "Followrow" "room" "I", Cond.methodLink RX4 145 yX2_floor, Cond.instanceMethod yX2_floor, Cond.selects RX2 yX2_floor yX2_floor, Cond.initialized RX2, Cond.code yX2_floor cX2_floor 1 (some .int)]
def wsX4_repost_r4 : List Cond := [Cond.fieldLink RX2 15 "Followrow$Row" "floor" "I", Cond.methodLink RX4 189 yX2_empty, Cond.instanceMethod yX2_empty, Cond.selects RX2 yX2_empty yX2_empty, Cond.code yX2_empty cX2_empty 1 none, Cond.fieldLink RX2 22 "Followrow$Row" "count" "I", Cond.methodLink RX4 192 yX2_owner, Cond.instanceMethod yX2_owner, Cond.selects RX2 yX2_owner yX2_owner, Cond.code yX2_owner cX2_owner 1 (some .int), Cond.fieldLink RX2 19 "Followrow$Row" "owner" "I", Cond.methodLink RX4 195 yX4_isForRow, Cond.instanceMethod yX4_isForRow, Cond.selects RX4 yX4_isForRow yX4_isForRow, Cond.code yX4_isForRow cX4_isForRow 4 (some .boolean), Cond.fieldLink RX4 10 "Followrow" "following" "LFollowrow$Relation;", Cond.methodLink RX4 127 yX4_isOverMark, Cond.instanceMethod yX4_isOverMark, Cond.selects RX4 yX4_isOverMark yX4_isOverMark, Cond.code yX4_isOverMark cX4_isOverMark 2 (some .boolean), Cond.fieldLink RX4 42 "Followrow" "mark" "I", Cond.methodLink RX4 79 yX1_countTo, Cond.instanceMethod yX1_countTo, Cond.selects RX1 yX1_countTo yX1_countTo]
def wsX4_repost_r5 : List Cond := [Cond.code yX1_countTo cX1_countTo 4 (some .int), Cond.methodLink RX1 19 yX1_has, Cond.methodLink RX4 134 yX2_count, Cond.instanceMethod yX2_count, Cond.selects RX2 yX2_count yX2_count, Cond.code yX2_count cX2_count 1 (some .int), Cond.methodLink RX4 198 yX2_raiseFloor, Cond.instanceMethod yX2_raiseFloor, Cond.selects RX2 yX2_raiseFloor yX2_raiseFloor, Cond.code yX2_raiseFloor cX2_raiseFloor 2 none, Cond.methodLink RX4 201 yX2_addBelow, Cond.instanceMethod yX2_addBelow, Cond.selects RX2 yX2_addBelow yX2_addBelow, Cond.code yX2_addBelow cX2_addBelow 2 none, Cond.fieldLink RX2 9 "Followrow$Row" "numbers" "[I"]
def wsX4_repost : List Cond := .code yX4_repost cX4_repost 5 (some .int) :: ((wsX4_repost_r1 ++ (wsX4_repost_r2 ++ (wsX4_repost_r3 ++ (wsX4_repost_r4 ++ wsX4_repost_r5)))) ++ wsX40 ++ wsX00 ++ wsX10 ++ wsX20 ++ (vx_atS RX4 67 "java/lang/IllegalStateException" ["java/lang/RuntimeException", "java/lang/Exception"]).filter goodWord ++ (vx_atS RX4 141 "java/lang/IndexOutOfBoundsException" ["java/lang/RuntimeException", "java/lang/Exception"]).filter goodWord)
def wsX4_delete_r1 : List Cond := [Cond.classLink RX4 63 "java/lang/IllegalStateException", Cond.initialized "java/lang/IllegalStateException", Cond.fieldLink RX4 25 "Followrow" "ledger" "LFollowrow$Ledger;", Cond.methodLink RX4 95 yX4_checkEntry, Cond.instanceMethod yX4_checkEntry, Cond.selects RX4 yX4_checkEntry yX4_checkEntry, Cond.initialized RX4, Cond.code yX4_checkEntry cX4_checkEntry 2 none, Cond.classLink RX4 137 "java/lang/IndexOutOfBoundsException", Cond.initialized "java/lang/IndexOutOfBoundsException", Cond.methodLink RX4 180 yX0_has, Cond.instanceMethod yX0_has, Cond.selects RX0 yX0_has yX0_has, Cond.initialized RX0, Cond.code yX0_has cX0_has 2 (some .boolean), Cond.fieldLink RX0 22 "Followrow$Ledger" "made" "I", Cond.methodLink RX4 101 yX0_stands, Cond.instanceMethod yX0_stands, Cond.selects RX0 yX0_stands yX0_stands, Cond.code yX0_stands cX0_stands 2 (some .boolean), Cond.fieldLink RX0 18 "Followrow$Ledger" "deleted" "[Z", Cond.methodLink RX0 26 yX0_has, Cond.methodLink RX4 114 yX0_remove, Cond.instanceMethod yX0_remove]
def wsX4_delete_r2 : List Cond := [Cond.selects RX0 yX0_remove yX0_remove, Cond.code yX0_remove cX0_remove 2 none, Cond.methodLink RX4 76 yX4_settleRows, Cond.instanceMethod yX4_settleRows, Cond.selects RX4 yX4_settleRows yX4_settleRows, Cond.code yX4_settleRows cX4_settleRows 5 none, Cond.fieldLink RX4 31 "Followrow" "rows" "[LFollowrow$Row;", Cond.methodLink RX4 186 yX4_settleRow, Cond.instanceMethod yX4_settleRow, Cond.selects RX4 yX4_settleRow yX4_settleRow, Cond.code yX4_settleRow cX4_settleRow 4 none, Cond.fieldLink RX4 46 "Followrow" "room" "I", Cond.methodLink RX4 145 yX2_floor, Cond.instanceMethod yX2_floor, Cond.selects RX2 yX2_floor yX2_floor, Cond.initialized RX2, Cond.code yX2_floor cX2_floor 1 (some .int), Cond.fieldLink RX2 15 "Followrow$Row" "floor" "I", Cond.methodLink RX4 189 yX2_empty, Cond.instanceMethod yX2_empty, Cond.selects RX2 yX2_empty yX2_empty, Cond.code yX2_empty cX2_empty 1 none, Cond.fieldLink RX2 22 "Followrow$Row" "count" "I", Cond.methodLink RX4 88 yX0_made]
def wsX4_delete_r3 : List Cond := [Cond.instanceMethod yX0_made, Cond.selects RX0 yX0_made yX0_made, Cond.code yX0_made cX0_made 1 (some .int), Cond.methodLink RX4 192 yX2_owner, Cond.instanceMethod yX2_owner, Cond.selects RX2 yX2_owner yX2_owner, Cond.code yX2_owner cX2_owner 1 (some .int), Cond.fieldLink RX2 19 "Followrow$Row" "owner" "I", Cond.methodLink RX4 195 yX4_isForRow, Cond.instanceMethod yX4_isForRow, Cond.selects RX4 yX4_isForRow yX4_isForRow, Cond.code yX4_isForRow cX4_isForRow 4 (some .boolean), Cond.fieldLink RX4 10 "Followrow" "following" "LFollowrow$Relation;", Cond.methodLink RX4 107 yX0_author, Cond.instanceMethod yX0_author, Cond.selects RX0 yX0_author yX0_author, Cond.code yX0_author cX0_author 2 (some .int), Cond.fieldLink RX0 9 "Followrow$Ledger" "authors" "[I", Cond.methodLink RX4 59 yX1_has, Cond.instanceMethod yX1_has, Cond.selects RX1 yX1_has yX1_has, Cond.initialized RX1, Cond.code yX1_has cX1_has 3 (some .boolean), Cond.fieldLink RX1 9 "Followrow$Relation" "pairs" "[Z"]
def wsX4_delete_r4 : List Cond := [Cond.static yX4_isPerson, Cond.code yX4_isPerson cX4_isPerson 1 (some .boolean), Cond.methodLink RX4 127 yX4_isOverMark, Cond.instanceMethod yX4_isOverMark, Cond.selects RX4 yX4_isOverMark yX4_isOverMark, Cond.code yX4_isOverMark cX4_isOverMark 2 (some .boolean), Cond.fieldLink RX4 42 "Followrow" "mark" "I", Cond.methodLink RX4 79 yX1_countTo, Cond.instanceMethod yX1_countTo, Cond.selects RX1 yX1_countTo yX1_countTo, Cond.code yX1_countTo cX1_countTo 4 (some .int), Cond.methodLink RX1 19 yX1_has, Cond.methodLink RX4 134 yX2_count, Cond.instanceMethod yX2_count, Cond.selects RX2 yX2_count yX2_count, Cond.code yX2_count cX2_count 1 (some .int), Cond.methodLink RX4 198 yX2_raiseFloor, Cond.instanceMethod yX2_raiseFloor, Cond.selects RX2 yX2_raiseFloor yX2_raiseFloor, Cond.code yX2_raiseFloor cX2_raiseFloor 2 none, Cond.methodLink RX4 201 yX2_addBelow, Cond.instanceMethod yX2_addBelow, Cond.selects RX2 yX2_addBelow yX2_addBelow, Cond.code yX2_addBelow cX2_addBelow 2 none]
def wsX4_delete_r5 : List Cond := [Cond.fieldLink RX2 9 "Followrow$Row" "numbers" "[I", Cond.methodLink RX4 117 yX0_countStandingOf, Cond.instanceMethod yX0_countStandingOf, Cond.selects RX0 yX0_countStandingOf yX0_countStandingOf, Cond.code yX0_countStandingOf cX0_countStandingOf 4 (some .int), Cond.methodLink RX0 30 yX0_origin, Cond.instanceMethod yX0_origin, Cond.selects RX0 yX0_origin yX0_origin, Cond.code yX0_origin cX0_origin 2 (some .int), Cond.fieldLink RX0 15 "Followrow$Ledger" "origins" "[I", Cond.methodLink RX0 34 yX0_stands]
def wsX4_delete : List Cond := .code yX4_delete cX4_delete 2 (some .int) :: ((wsX4_delete_r1 ++ (wsX4_delete_r2 ++ (wsX4_delete_r3 ++ (wsX4_delete_r4 ++ wsX4_delete_r5)))) ++ wsX40 ++ wsX00 ++ wsX20 ++ wsX10 ++ (vx_atS RX4 67 "java/lang/IllegalStateException" ["java/lang/RuntimeException", "java/lang/Exception"]).filter goodWord ++ (vx_atS RX4 141 "java/lang/IndexOutOfBoundsException" ["java/lang/RuntimeException", "java/lang/Exception"]).filter goodWord)
def wsX4_checkRange : List Cond := .code yX4_checkRange cX4_checkRange 3 none :: ([.classLink RX4 173 "java/lang/IllegalArgumentException", .initialized "java/lang/IllegalArgumentException"] ++ (vx_atS RX4 177 "java/lang/IllegalArgumentException" ["java/lang/RuntimeException", "java/lang/Exception"]).filter goodWord)
def wsX4_countLarge : List Cond := .code yX4_countLarge cX4_countLarge 3 (some .int) :: ([.methodLink RX4 127 yX4_isOverMark, .instanceMethod yX4_isOverMark, .selects RX4 yX4_isOverMark yX4_isOverMark, .initialized RX4, .code yX4_isOverMark cX4_isOverMark 2 (some .boolean), .fieldLink RX4 10 "Followrow" "following" "LFollowrow$Relation;", .fieldLink RX4 42 "Followrow" "mark" "I", .methodLink RX4 79 yX1_countTo, .instanceMethod yX1_countTo, .selects RX1 yX1_countTo yX1_countTo, .initialized RX1, .code yX1_countTo cX1_countTo 4 (some .int), .methodLink RX1 19 yX1_has, .instanceMethod yX1_has, .selects RX1 yX1_has yX1_has, .code yX1_has cX1_has 3 (some .boolean), .fieldLink RX1 9 "Followrow$Relation" "pairs" "[Z", .static yX4_isPerson, .code yX4_isPerson cX4_isPerson 1 (some .boolean)] ++ wsX40 ++ wsX10)
def wsX4_setMark_r1 : List Cond := [Cond.fieldLink RX4 42 "Followrow" "mark" "I", Cond.methodLink RX4 120 yX4_checkRange, Cond.static yX4_checkRange, Cond.initialized RX4, Cond.code yX4_checkRange cX4_checkRange 3 none, Cond.classLink RX4 173 "java/lang/IllegalArgumentException", Cond.initialized "java/lang/IllegalArgumentException", Cond.methodLink RX4 76 yX4_settleRows, Cond.instanceMethod yX4_settleRows, Cond.selects RX4 yX4_settleRows yX4_settleRows, Cond.code yX4_settleRows cX4_settleRows 5 none, Cond.fieldLink RX4 31 "Followrow" "rows" "[LFollowrow$Row;", Cond.methodLink RX4 186 yX4_settleRow, Cond.instanceMethod yX4_settleRow, Cond.selects RX4 yX4_settleRow yX4_settleRow, Cond.code yX4_settleRow cX4_settleRow 4 none, Cond.fieldLink RX4 25 "Followrow" "ledger" "LFollowrow$Ledger;", Cond.fieldLink RX4 46 "Followrow" "room" "I", Cond.methodLink RX4 145 yX2_floor, Cond.instanceMethod yX2_floor, Cond.selects RX2 yX2_floor yX2_floor, Cond.initialized RX2, Cond.code yX2_floor cX2_floor 1 (some .int), Cond.fieldLink RX2 15 "Followrow$Row" "floor" "I"]
def wsX4_setMark_r2 : List Cond := [Cond.methodLink RX4 189 yX2_empty, Cond.instanceMethod yX2_empty, Cond.selects RX2 yX2_empty yX2_empty, Cond.code yX2_empty cX2_empty 1 none, Cond.fieldLink RX2 22 "Followrow$Row" "count" "I", Cond.methodLink RX4 88 yX0_made, Cond.instanceMethod yX0_made, Cond.selects RX0 yX0_made yX0_made, Cond.initialized RX0, Cond.code yX0_made cX0_made 1 (some .int), Cond.fieldLink RX0 22 "Followrow$Ledger" "made" "I", Cond.methodLink RX4 192 yX2_owner, Cond.instanceMethod yX2_owner, Cond.selects RX2 yX2_owner yX2_owner, Cond.code yX2_owner cX2_owner 1 (some .int), Cond.fieldLink RX2 19 "Followrow$Row" "owner" "I", Cond.methodLink RX4 195 yX4_isForRow, Cond.instanceMethod yX4_isForRow, Cond.selects RX4 yX4_isForRow yX4_isForRow, Cond.code yX4_isForRow cX4_isForRow 4 (some .boolean), Cond.fieldLink RX4 10 "Followrow" "following" "LFollowrow$Relation;", Cond.methodLink RX4 107 yX0_author, Cond.instanceMethod yX0_author, Cond.selects RX0 yX0_author yX0_author]
def wsX4_setMark_r3 : List Cond := [Cond.code yX0_author cX0_author 2 (some .int), Cond.fieldLink RX0 9 "Followrow$Ledger" "authors" "[I", Cond.methodLink RX0 26 yX0_has, Cond.instanceMethod yX0_has, Cond.selects RX0 yX0_has yX0_has, Cond.code yX0_has cX0_has 2 (some .boolean), Cond.methodLink RX4 101 yX0_stands, Cond.instanceMethod yX0_stands, Cond.selects RX0 yX0_stands yX0_stands, Cond.code yX0_stands cX0_stands 2 (some .boolean), Cond.fieldLink RX0 18 "Followrow$Ledger" "deleted" "[Z", Cond.methodLink RX4 59 yX1_has, Cond.instanceMethod yX1_has, Cond.selects RX1 yX1_has yX1_has, Cond.initialized RX1, Cond.code yX1_has cX1_has 3 (some .boolean), Cond.fieldLink RX1 9 "Followrow$Relation" "pairs" "[Z", Cond.static yX4_isPerson, Cond.code yX4_isPerson cX4_isPerson 1 (some .boolean), Cond.methodLink RX4 127 yX4_isOverMark, Cond.instanceMethod yX4_isOverMark, Cond.selects RX4 yX4_isOverMark yX4_isOverMark, Cond.code yX4_isOverMark cX4_isOverMark 2 (some .boolean), Cond.methodLink RX4 79 yX1_countTo]
def wsX4_setMark_r4 : List Cond := [Cond.instanceMethod yX1_countTo, Cond.selects RX1 yX1_countTo yX1_countTo, Cond.code yX1_countTo cX1_countTo 4 (some .int), Cond.methodLink RX1 19 yX1_has, Cond.methodLink RX4 134 yX2_count, Cond.instanceMethod yX2_count, Cond.selects RX2 yX2_count yX2_count, Cond.code yX2_count cX2_count 1 (some .int), Cond.methodLink RX4 198 yX2_raiseFloor, Cond.instanceMethod yX2_raiseFloor, Cond.selects RX2 yX2_raiseFloor yX2_raiseFloor, Cond.code yX2_raiseFloor cX2_raiseFloor 2 none, Cond.methodLink RX4 201 yX2_addBelow, Cond.instanceMethod yX2_addBelow, Cond.selects RX2 yX2_addBelow yX2_addBelow, Cond.code yX2_addBelow cX2_addBelow 2 none, Cond.fieldLink RX2 9 "Followrow$Row" "numbers" "[I", Cond.methodLink RX4 124 yX4_countLarge, Cond.instanceMethod yX4_countLarge, Cond.selects RX4 yX4_countLarge yX4_countLarge, Cond.code yX4_countLarge cX4_countLarge 3 (some .int)]
def wsX4_setMark : List Cond := .code yX4_setMark cX4_setMark 2 (some .int) :: ((wsX4_setMark_r1 ++ (wsX4_setMark_r2 ++ (wsX4_setMark_r3 ++ wsX4_setMark_r4))) ++ wsX40 ++ wsX20 ++ wsX00 ++ wsX10 ++ (vx_atS RX4 177 "java/lang/IllegalArgumentException" ["java/lang/RuntimeException", "java/lang/Exception"]).filter goodWord)
def wsX4_setRoom_r1 : List Cond := [Cond.fieldLink RX4 46 "Followrow" "room" "I", Cond.methodLink RX4 120 yX4_checkRange, Cond.static yX4_checkRange, Cond.initialized RX4, Cond.code yX4_checkRange cX4_checkRange 3 none, Cond.classLink RX4 173 "java/lang/IllegalArgumentException", Cond.initialized "java/lang/IllegalArgumentException", Cond.methodLink RX4 76 yX4_settleRows, Cond.instanceMethod yX4_settleRows, Cond.selects RX4 yX4_settleRows yX4_settleRows, Cond.code yX4_settleRows cX4_settleRows 5 none, Cond.fieldLink RX4 31 "Followrow" "rows" "[LFollowrow$Row;", Cond.methodLink RX4 186 yX4_settleRow, Cond.instanceMethod yX4_settleRow, Cond.selects RX4 yX4_settleRow yX4_settleRow, Cond.code yX4_settleRow cX4_settleRow 4 none, Cond.fieldLink RX4 25 "Followrow" "ledger" "LFollowrow$Ledger;", Cond.methodLink RX4 145 yX2_floor, Cond.instanceMethod yX2_floor, Cond.selects RX2 yX2_floor yX2_floor, Cond.initialized RX2, Cond.code yX2_floor cX2_floor 1 (some .int), Cond.fieldLink RX2 15 "Followrow$Row" "floor" "I", Cond.methodLink RX4 189 yX2_empty]
def wsX4_setRoom_r2 : List Cond := [Cond.instanceMethod yX2_empty, Cond.selects RX2 yX2_empty yX2_empty, Cond.code yX2_empty cX2_empty 1 none, Cond.fieldLink RX2 22 "Followrow$Row" "count" "I", Cond.methodLink RX4 88 yX0_made, Cond.instanceMethod yX0_made, Cond.selects RX0 yX0_made yX0_made, Cond.initialized RX0, Cond.code yX0_made cX0_made 1 (some .int), Cond.fieldLink RX0 22 "Followrow$Ledger" "made" "I", Cond.methodLink RX4 192 yX2_owner, Cond.instanceMethod yX2_owner, Cond.selects RX2 yX2_owner yX2_owner, Cond.code yX2_owner cX2_owner 1 (some .int), Cond.fieldLink RX2 19 "Followrow$Row" "owner" "I", Cond.methodLink RX4 195 yX4_isForRow, Cond.instanceMethod yX4_isForRow, Cond.selects RX4 yX4_isForRow yX4_isForRow, Cond.code yX4_isForRow cX4_isForRow 4 (some .boolean), Cond.fieldLink RX4 10 "Followrow" "following" "LFollowrow$Relation;", Cond.methodLink RX4 107 yX0_author, Cond.instanceMethod yX0_author, Cond.selects RX0 yX0_author yX0_author, Cond.code yX0_author cX0_author 2 (some .int)]
def wsX4_setRoom_r3 : List Cond := [Cond.fieldLink RX0 9 "Followrow$Ledger" "authors" "[I", Cond.methodLink RX0 26 yX0_has, Cond.instanceMethod yX0_has, Cond.selects RX0 yX0_has yX0_has, Cond.code yX0_has cX0_has 2 (some .boolean), Cond.methodLink RX4 101 yX0_stands, Cond.instanceMethod yX0_stands, Cond.selects RX0 yX0_stands yX0_stands, Cond.code yX0_stands cX0_stands 2 (some .boolean), Cond.fieldLink RX0 18 "Followrow$Ledger" "deleted" "[Z", Cond.methodLink RX4 59 yX1_has, Cond.instanceMethod yX1_has, Cond.selects RX1 yX1_has yX1_has, Cond.initialized RX1, Cond.code yX1_has cX1_has 3 (some .boolean), Cond.fieldLink RX1 9 "Followrow$Relation" "pairs" "[Z", Cond.static yX4_isPerson, Cond.code yX4_isPerson cX4_isPerson 1 (some .boolean), Cond.methodLink RX4 127 yX4_isOverMark, Cond.instanceMethod yX4_isOverMark, Cond.selects RX4 yX4_isOverMark yX4_isOverMark, Cond.code yX4_isOverMark cX4_isOverMark 2 (some .boolean), Cond.fieldLink RX4 42 "Followrow" "mark" "I", Cond.methodLink RX4 79 yX1_countTo]
def wsX4_setRoom_r4 : List Cond := [Cond.instanceMethod yX1_countTo, Cond.selects RX1 yX1_countTo yX1_countTo, Cond.code yX1_countTo cX1_countTo 4 (some .int), Cond.methodLink RX1 19 yX1_has, Cond.methodLink RX4 134 yX2_count, Cond.instanceMethod yX2_count, Cond.selects RX2 yX2_count yX2_count, Cond.code yX2_count cX2_count 1 (some .int), Cond.methodLink RX4 198 yX2_raiseFloor, Cond.instanceMethod yX2_raiseFloor, Cond.selects RX2 yX2_raiseFloor yX2_raiseFloor, Cond.code yX2_raiseFloor cX2_raiseFloor 2 none, Cond.methodLink RX4 201 yX2_addBelow, Cond.instanceMethod yX2_addBelow, Cond.selects RX2 yX2_addBelow yX2_addBelow, Cond.code yX2_addBelow cX2_addBelow 2 none, Cond.fieldLink RX2 9 "Followrow$Row" "numbers" "[I"]
def wsX4_setRoom : List Cond := .code yX4_setRoom cX4_setRoom 3 (some .int) :: ((wsX4_setRoom_r1 ++ (wsX4_setRoom_r2 ++ (wsX4_setRoom_r3 ++ wsX4_setRoom_r4))) ++ wsX40 ++ wsX20 ++ wsX00 ++ wsX10 ++ (vx_atS RX4 177 "java/lang/IllegalArgumentException" ["java/lang/RuntimeException", "java/lang/Exception"]).filter goodWord)
def wsX4_entries : List Cond := .code yX4_entries cX4_entries 1 (some .int) :: ([.fieldLink RX4 25 "Followrow" "ledger" "LFollowrow$Ledger;", .methodLink RX4 88 yX0_made, .instanceMethod yX0_made, .selects RX0 yX0_made yX0_made, .initialized RX0, .code yX0_made cX0_made 1 (some .int), .fieldLink RX0 22 "Followrow$Ledger" "made" "I"] ++ wsX40 ++ wsX00)
def wsX4_authorOf : List Cond := .code yX4_authorOf cX4_authorOf 2 (some .int) :: ([.fieldLink RX4 25 "Followrow" "ledger" "LFollowrow$Ledger;", .methodLink RX4 95 yX4_checkEntry, .instanceMethod yX4_checkEntry, .selects RX4 yX4_checkEntry yX4_checkEntry, .initialized RX4, .code yX4_checkEntry cX4_checkEntry 2 none, .classLink RX4 137 "java/lang/IndexOutOfBoundsException", .initialized "java/lang/IndexOutOfBoundsException", .methodLink RX4 180 yX0_has, .instanceMethod yX0_has, .selects RX0 yX0_has yX0_has, .initialized RX0, .code yX0_has cX0_has 2 (some .boolean), .fieldLink RX0 22 "Followrow$Ledger" "made" "I", .methodLink RX4 107 yX0_author, .instanceMethod yX0_author, .selects RX0 yX0_author yX0_author, .code yX0_author cX0_author 2 (some .int), .fieldLink RX0 9 "Followrow$Ledger" "authors" "[I", .methodLink RX0 26 yX0_has] ++ wsX40 ++ wsX00 ++ (vx_atS RX4 141 "java/lang/IndexOutOfBoundsException" ["java/lang/RuntimeException", "java/lang/Exception"]).filter goodWord)
def wsX4_originOf : List Cond := .code yX4_originOf cX4_originOf 2 (some .int) :: ([.fieldLink RX4 25 "Followrow" "ledger" "LFollowrow$Ledger;", .methodLink RX4 95 yX4_checkEntry, .instanceMethod yX4_checkEntry, .selects RX4 yX4_checkEntry yX4_checkEntry, .initialized RX4, .code yX4_checkEntry cX4_checkEntry 2 none, .classLink RX4 137 "java/lang/IndexOutOfBoundsException", .initialized "java/lang/IndexOutOfBoundsException", .methodLink RX4 180 yX0_has, .instanceMethod yX0_has, .selects RX0 yX0_has yX0_has, .initialized RX0, .code yX0_has cX0_has 2 (some .boolean), .fieldLink RX0 22 "Followrow$Ledger" "made" "I", .methodLink RX4 98 yX0_origin, .instanceMethod yX0_origin, .selects RX0 yX0_origin yX0_origin, .code yX0_origin cX0_origin 2 (some .int), .fieldLink RX0 15 "Followrow$Ledger" "origins" "[I", .methodLink RX0 26 yX0_has] ++ wsX40 ++ wsX00 ++ (vx_atS RX4 141 "java/lang/IndexOutOfBoundsException" ["java/lang/RuntimeException", "java/lang/Exception"]).filter goodWord)
def wsX4_follows : List Cond := .code yX4_follows cX4_follows 3 (some .boolean) :: ([.fieldLink RX4 10 "Followrow" "following" "LFollowrow$Relation;", .methodLink RX4 52 yX4_checkPerson, .static yX4_checkPerson, .initialized RX4, .code yX4_checkPerson cX4_checkPerson 1 none, .classLink RX4 137 "java/lang/IndexOutOfBoundsException", .initialized "java/lang/IndexOutOfBoundsException", .methodLink RX4 168 yX4_isPerson, .static yX4_isPerson, .code yX4_isPerson cX4_isPerson 1 (some .boolean), .methodLink RX4 59 yX1_has, .instanceMethod yX1_has, .selects RX1 yX1_has yX1_has, .initialized RX1, .code yX1_has cX1_has 3 (some .boolean), .fieldLink RX1 9 "Followrow$Relation" "pairs" "[Z"] ++ wsX40 ++ wsX10 ++ (vx_atS RX4 141 "java/lang/IndexOutOfBoundsException" ["java/lang/RuntimeException", "java/lang/Exception"]).filter goodWord)
def wsX4_followers : List Cond := .code yX4_followers cX4_followers 2 (some .int) :: ([.fieldLink RX4 10 "Followrow" "following" "LFollowrow$Relation;", .methodLink RX4 52 yX4_checkPerson, .static yX4_checkPerson, .initialized RX4, .code yX4_checkPerson cX4_checkPerson 1 none, .classLink RX4 137 "java/lang/IndexOutOfBoundsException", .initialized "java/lang/IndexOutOfBoundsException", .methodLink RX4 168 yX4_isPerson, .static yX4_isPerson, .code yX4_isPerson cX4_isPerson 1 (some .boolean), .methodLink RX4 79 yX1_countTo, .instanceMethod yX1_countTo, .selects RX1 yX1_countTo yX1_countTo, .initialized RX1, .code yX1_countTo cX1_countTo 4 (some .int), .methodLink RX1 19 yX1_has, .instanceMethod yX1_has, .selects RX1 yX1_has yX1_has, .code yX1_has cX1_has 3 (some .boolean), .fieldLink RX1 9 "Followrow$Relation" "pairs" "[Z"] ++ wsX40 ++ wsX10 ++ (vx_atS RX4 141 "java/lang/IndexOutOfBoundsException" ["java/lang/RuntimeException", "java/lang/Exception"]).filter goodWord)
def wsX4_isLarge_r1 : List Cond := [Cond.methodLink RX4 52 yX4_checkPerson, Cond.static yX4_checkPerson, Cond.initialized RX4, Cond.code yX4_checkPerson cX4_checkPerson 1 none, Cond.classLink RX4 137 "java/lang/IndexOutOfBoundsException", Cond.initialized "java/lang/IndexOutOfBoundsException", Cond.methodLink RX4 168 yX4_isPerson, Cond.static yX4_isPerson, Cond.code yX4_isPerson cX4_isPerson 1 (some .boolean), Cond.methodLink RX4 127 yX4_isOverMark, Cond.instanceMethod yX4_isOverMark, Cond.selects RX4 yX4_isOverMark yX4_isOverMark, Cond.code yX4_isOverMark cX4_isOverMark 2 (some .boolean), Cond.fieldLink RX4 10 "Followrow" "following" "LFollowrow$Relation;", Cond.fieldLink RX4 42 "Followrow" "mark" "I", Cond.methodLink RX4 79 yX1_countTo, Cond.instanceMethod yX1_countTo, Cond.selects RX1 yX1_countTo yX1_countTo, Cond.initialized RX1, Cond.code yX1_countTo cX1_countTo 4 (some .int), Cond.methodLink RX1 19 yX1_has, Cond.instanceMethod yX1_has, Cond.selects RX1 yX1_has yX1_has, Cond.code yX1_has cX1_has 3 (some .boolean)]
def wsX4_isLarge_r2 : List Cond := [Cond.fieldLink RX1 9 "Followrow$Relation" "pairs" "[Z"]
def wsX4_isLarge : List Cond := .code yX4_isLarge cX4_isLarge 2 (some .boolean) :: ((wsX4_isLarge_r1 ++ wsX4_isLarge_r2) ++ wsX40 ++ wsX10 ++ (vx_atS RX4 141 "java/lang/IndexOutOfBoundsException" ["java/lang/RuntimeException", "java/lang/Exception"]).filter goodWord)
def wsX4_rowOf : List Cond := .code yX4_rowOf cX4_rowOf 2 (some (.object "Followrow$Row")) :: ([.fieldLink RX4 31 "Followrow" "rows" "[LFollowrow$Row;", .methodLink RX4 52 yX4_checkPerson, .static yX4_checkPerson, .initialized RX4, .code yX4_checkPerson cX4_checkPerson 1 none, .classLink RX4 137 "java/lang/IndexOutOfBoundsException", .initialized "java/lang/IndexOutOfBoundsException", .methodLink RX4 168 yX4_isPerson, .static yX4_isPerson, .code yX4_isPerson cX4_isPerson 1 (some .boolean)] ++ wsX40 ++ (vx_atS RX4 141 "java/lang/IndexOutOfBoundsException" ["java/lang/RuntimeException", "java/lang/Exception"]).filter goodWord)
def wsX4_inRow : List Cond := .code yX4_inRow cX4_inRow 2 (some .int) :: ([.methodLink RX4 130 yX4_rowOf, .instanceMethod yX4_rowOf, .selects RX4 yX4_rowOf yX4_rowOf, .initialized RX4, .code yX4_rowOf cX4_rowOf 2 (some (.object "Followrow$Row")), .fieldLink RX4 31 "Followrow" "rows" "[LFollowrow$Row;", .methodLink RX4 52 yX4_checkPerson, .static yX4_checkPerson, .code yX4_checkPerson cX4_checkPerson 1 none, .classLink RX4 137 "java/lang/IndexOutOfBoundsException", .initialized "java/lang/IndexOutOfBoundsException", .methodLink RX4 168 yX4_isPerson, .static yX4_isPerson, .code yX4_isPerson cX4_isPerson 1 (some .boolean), .methodLink RX4 134 yX2_count, .instanceMethod yX2_count, .selects RX2 yX2_count yX2_count, .initialized RX2, .code yX2_count cX2_count 1 (some .int), .fieldLink RX2 22 "Followrow$Row" "count" "I"] ++ wsX40 ++ wsX20 ++ (vx_atS RX4 141 "java/lang/IndexOutOfBoundsException" ["java/lang/RuntimeException", "java/lang/Exception"]).filter goodWord)
def wsX4_rowAt_r1 : List Cond := [Cond.classLink RX4 137 "java/lang/IndexOutOfBoundsException", Cond.initialized "java/lang/IndexOutOfBoundsException", Cond.methodLink RX4 130 yX4_rowOf, Cond.instanceMethod yX4_rowOf, Cond.selects RX4 yX4_rowOf yX4_rowOf, Cond.initialized RX4, Cond.code yX4_rowOf cX4_rowOf 2 (some (.object "Followrow$Row")), Cond.fieldLink RX4 31 "Followrow" "rows" "[LFollowrow$Row;", Cond.methodLink RX4 52 yX4_checkPerson, Cond.static yX4_checkPerson, Cond.code yX4_checkPerson cX4_checkPerson 1 none, Cond.methodLink RX4 168 yX4_isPerson, Cond.static yX4_isPerson, Cond.code yX4_isPerson cX4_isPerson 1 (some .boolean), Cond.methodLink RX4 134 yX2_count, Cond.instanceMethod yX2_count, Cond.selects RX2 yX2_count yX2_count, Cond.initialized RX2, Cond.code yX2_count cX2_count 1 (some .int), Cond.fieldLink RX2 22 "Followrow$Row" "count" "I", Cond.methodLink RX4 142 yX2_fromNewest, Cond.instanceMethod yX2_fromNewest, Cond.selects RX2 yX2_fromNewest yX2_fromNewest, Cond.code yX2_fromNewest cX2_fromNewest 2 (some .int)]
def wsX4_rowAt_r2 : List Cond := [Cond.fieldLink RX2 9 "Followrow$Row" "numbers" "[I"]
def wsX4_rowAt : List Cond := .code yX4_rowAt cX4_rowAt 4 (some .int) :: ((wsX4_rowAt_r1 ++ wsX4_rowAt_r2) ++ wsX40 ++ wsX20 ++ (vx_atS RX4 141 "java/lang/IndexOutOfBoundsException" ["java/lang/RuntimeException", "java/lang/Exception"]).filter goodWord)
def wsX4_floorOf : List Cond := .code yX4_floorOf cX4_floorOf 2 (some .int) :: ([.methodLink RX4 130 yX4_rowOf, .instanceMethod yX4_rowOf, .selects RX4 yX4_rowOf yX4_rowOf, .initialized RX4, .code yX4_rowOf cX4_rowOf 2 (some (.object "Followrow$Row")), .fieldLink RX4 31 "Followrow" "rows" "[LFollowrow$Row;", .methodLink RX4 52 yX4_checkPerson, .static yX4_checkPerson, .code yX4_checkPerson cX4_checkPerson 1 none, .classLink RX4 137 "java/lang/IndexOutOfBoundsException", .initialized "java/lang/IndexOutOfBoundsException", .methodLink RX4 168 yX4_isPerson, .static yX4_isPerson, .code yX4_isPerson cX4_isPerson 1 (some .boolean), .methodLink RX4 145 yX2_floor, .instanceMethod yX2_floor, .selects RX2 yX2_floor yX2_floor, .initialized RX2, .code yX2_floor cX2_floor 1 (some .int), .fieldLink RX2 15 "Followrow$Row" "floor" "I"] ++ wsX40 ++ wsX20 ++ (vx_atS RX4 141 "java/lang/IndexOutOfBoundsException" ["java/lang/RuntimeException", "java/lang/Exception"]).filter goodWord)
def wsX4_isFetched_r1 : List Cond := [Cond.fieldLink RX4 25 "Followrow" "ledger" "LFollowrow$Ledger;", Cond.fieldLink RX4 10 "Followrow" "following" "LFollowrow$Relation;", Cond.methodLink RX4 107 yX0_author, Cond.instanceMethod yX0_author, Cond.selects RX0 yX0_author yX0_author, Cond.initialized RX0, Cond.code yX0_author cX0_author 2 (some .int), Cond.fieldLink RX0 9 "Followrow$Ledger" "authors" "[I", Cond.methodLink RX0 26 yX0_has, Cond.instanceMethod yX0_has, Cond.selects RX0 yX0_has yX0_has, Cond.code yX0_has cX0_has 2 (some .boolean), Cond.fieldLink RX0 22 "Followrow$Ledger" "made" "I", Cond.methodLink RX4 59 yX1_has, Cond.instanceMethod yX1_has, Cond.selects RX1 yX1_has yX1_has, Cond.initialized RX1, Cond.code yX1_has cX1_has 3 (some .boolean), Cond.fieldLink RX1 9 "Followrow$Relation" "pairs" "[Z", Cond.static yX4_isPerson, Cond.initialized RX4, Cond.code yX4_isPerson cX4_isPerson 1 (some .boolean), Cond.methodLink RX4 127 yX4_isOverMark, Cond.instanceMethod yX4_isOverMark]
def wsX4_isFetched_r2 : List Cond := [Cond.selects RX4 yX4_isOverMark yX4_isOverMark, Cond.code yX4_isOverMark cX4_isOverMark 2 (some .boolean), Cond.fieldLink RX4 42 "Followrow" "mark" "I", Cond.methodLink RX4 79 yX1_countTo, Cond.instanceMethod yX1_countTo, Cond.selects RX1 yX1_countTo yX1_countTo, Cond.code yX1_countTo cX1_countTo 4 (some .int), Cond.methodLink RX1 19 yX1_has]
def wsX4_isFetched : List Cond := .code yX4_isFetched cX4_isFetched 4 (some .boolean) :: ((wsX4_isFetched_r1 ++ wsX4_isFetched_r2) ++ wsX40 ++ wsX00 ++ wsX10)
def wsX4_isHidden_r1 : List Cond := [Cond.fieldLink RX4 25 "Followrow" "ledger" "LFollowrow$Ledger;", Cond.fieldLink RX4 16 "Followrow" "muting" "LFollowrow$Relation;", Cond.fieldLink RX4 19 "Followrow" "blocking" "LFollowrow$Relation;", Cond.methodLink RX4 98 yX0_origin, Cond.instanceMethod yX0_origin, Cond.selects RX0 yX0_origin yX0_origin, Cond.initialized RX0, Cond.code yX0_origin cX0_origin 2 (some .int), Cond.fieldLink RX0 15 "Followrow$Ledger" "origins" "[I", Cond.methodLink RX0 26 yX0_has, Cond.instanceMethod yX0_has, Cond.selects RX0 yX0_has yX0_has, Cond.code yX0_has cX0_has 2 (some .boolean), Cond.fieldLink RX0 22 "Followrow$Ledger" "made" "I", Cond.methodLink RX4 101 yX0_stands, Cond.instanceMethod yX0_stands, Cond.selects RX0 yX0_stands yX0_stands, Cond.code yX0_stands cX0_stands 2 (some .boolean), Cond.fieldLink RX0 18 "Followrow$Ledger" "deleted" "[Z", Cond.methodLink RX4 107 yX0_author, Cond.instanceMethod yX0_author, Cond.selects RX0 yX0_author yX0_author, Cond.code yX0_author cX0_author 2 (some .int), Cond.fieldLink RX0 9 "Followrow$Ledger" "authors" "[I"]
def wsX4_isHidden_r2 : List Cond := [Cond.methodLink RX4 59 yX1_has, Cond.instanceMethod yX1_has, Cond.selects RX1 yX1_has yX1_has, Cond.initialized RX1, Cond.code yX1_has cX1_has 3 (some .boolean), Cond.fieldLink RX1 9 "Followrow$Relation" "pairs" "[Z", Cond.static yX4_isPerson, Cond.initialized RX4, Cond.code yX4_isPerson cX4_isPerson 1 (some .boolean)]
def wsX4_isHidden : List Cond := .code yX4_isHidden cX4_isHidden 5 (some .boolean) :: ((wsX4_isHidden_r1 ++ wsX4_isHidden_r2) ++ wsX40 ++ wsX00 ++ wsX10)
def wsX4_offer_r1 : List Cond := [Cond.fieldLink RX4 38 "Followrow" "timeline" "LFollowrow$Timeline;", Cond.fieldLink RX4 25 "Followrow" "ledger" "LFollowrow$Ledger;", Cond.methodLink RX4 211 yX4_isHidden, Cond.instanceMethod yX4_isHidden, Cond.selects RX4 yX4_isHidden yX4_isHidden, Cond.initialized RX4, Cond.code yX4_isHidden cX4_isHidden 5 (some .boolean), Cond.fieldLink RX4 16 "Followrow" "muting" "LFollowrow$Relation;", Cond.fieldLink RX4 19 "Followrow" "blocking" "LFollowrow$Relation;", Cond.methodLink RX4 98 yX0_origin, Cond.instanceMethod yX0_origin, Cond.selects RX0 yX0_origin yX0_origin, Cond.initialized RX0, Cond.code yX0_origin cX0_origin 2 (some .int), Cond.fieldLink RX0 15 "Followrow$Ledger" "origins" "[I", Cond.methodLink RX0 26 yX0_has, Cond.instanceMethod yX0_has, Cond.selects RX0 yX0_has yX0_has, Cond.code yX0_has cX0_has 2 (some .boolean), Cond.fieldLink RX0 22 "Followrow$Ledger" "made" "I", Cond.methodLink RX4 101 yX0_stands, Cond.instanceMethod yX0_stands, Cond.selects RX0 yX0_stands yX0_stands, Cond.code yX0_stands cX0_stands 2 (some .boolean)]
def wsX4_offer_r2 : List Cond := [Cond.fieldLink RX0 18 "Followrow$Ledger" "deleted" "[Z", Cond.methodLink RX4 107 yX0_author, Cond.instanceMethod yX0_author, Cond.selects RX0 yX0_author yX0_author, Cond.code yX0_author cX0_author 2 (some .int), Cond.fieldLink RX0 9 "Followrow$Ledger" "authors" "[I", Cond.methodLink RX4 59 yX1_has, Cond.instanceMethod yX1_has, Cond.selects RX1 yX1_has yX1_has, Cond.initialized RX1, Cond.code yX1_has cX1_has 3 (some .boolean), Cond.fieldLink RX1 9 "Followrow$Relation" "pairs" "[Z", Cond.static yX4_isPerson, Cond.code yX4_isPerson cX4_isPerson 1 (some .boolean), Cond.methodLink RX4 214 yX3_addBelow, Cond.instanceMethod yX3_addBelow, Cond.selects RX3 yX3_addBelow yX3_addBelow, Cond.initialized RX3, Cond.code yX3_addBelow cX3_addBelow 4 none, Cond.fieldLink RX3 19 "Followrow$Timeline" "count" "I", Cond.fieldLink RX3 15 "Followrow$Timeline" "taken" "[Z", Cond.fieldLink RX3 9 "Followrow$Timeline" "numbers" "[I"]
def wsX4_offer : List Cond := .code yX4_offer cX4_offer 3 none :: ((wsX4_offer_r1 ++ wsX4_offer_r2) ++ wsX40 ++ wsX00 ++ wsX10 ++ wsX30)
def wsX4_readTimeline_r1 : List Cond := [Cond.fieldLink RX4 38 "Followrow" "timeline" "LFollowrow$Timeline;", Cond.fieldLink RX4 25 "Followrow" "ledger" "LFollowrow$Ledger;", Cond.methodLink RX4 204 yX3_empty, Cond.instanceMethod yX3_empty, Cond.selects RX3 yX3_empty yX3_empty, Cond.initialized RX3, Cond.code yX3_empty cX3_empty 2 none, Cond.fieldLink RX3 19 "Followrow$Timeline" "count" "I", Cond.fieldLink RX3 15 "Followrow$Timeline" "taken" "[Z", Cond.methodLink RX4 88 yX0_made, Cond.instanceMethod yX0_made, Cond.selects RX0 yX0_made yX0_made, Cond.initialized RX0, Cond.code yX0_made cX0_made 1 (some .int), Cond.fieldLink RX0 22 "Followrow$Ledger" "made" "I", Cond.methodLink RX4 145 yX2_floor, Cond.instanceMethod yX2_floor, Cond.selects RX2 yX2_floor yX2_floor, Cond.initialized RX2, Cond.code yX2_floor cX2_floor 1 (some .int), Cond.fieldLink RX2 15 "Followrow$Row" "floor" "I", Cond.methodLink RX4 142 yX2_fromNewest, Cond.instanceMethod yX2_fromNewest, Cond.selects RX2 yX2_fromNewest yX2_fromNewest]
def wsX4_readTimeline_r2 : List Cond := [Cond.code yX2_fromNewest cX2_fromNewest 2 (some .int), Cond.fieldLink RX2 22 "Followrow$Row" "count" "I", Cond.fieldLink RX2 9 "Followrow$Row" "numbers" "[I", Cond.methodLink RX4 192 yX2_owner, Cond.instanceMethod yX2_owner, Cond.selects RX2 yX2_owner yX2_owner, Cond.code yX2_owner cX2_owner 1 (some .int), Cond.fieldLink RX2 19 "Followrow$Row" "owner" "I", Cond.methodLink RX4 205 yX4_isFetched, Cond.instanceMethod yX4_isFetched, Cond.selects RX4 yX4_isFetched yX4_isFetched, Cond.initialized RX4, Cond.code yX4_isFetched cX4_isFetched 4 (some .boolean), Cond.fieldLink RX4 10 "Followrow" "following" "LFollowrow$Relation;", Cond.methodLink RX4 107 yX0_author, Cond.instanceMethod yX0_author, Cond.selects RX0 yX0_author yX0_author, Cond.code yX0_author cX0_author 2 (some .int), Cond.fieldLink RX0 9 "Followrow$Ledger" "authors" "[I", Cond.methodLink RX0 26 yX0_has, Cond.instanceMethod yX0_has, Cond.selects RX0 yX0_has yX0_has, Cond.code yX0_has cX0_has 2 (some .boolean), Cond.methodLink RX4 59 yX1_has]
def wsX4_readTimeline_r3 : List Cond := [Cond.instanceMethod yX1_has, Cond.selects RX1 yX1_has yX1_has, Cond.initialized RX1, Cond.code yX1_has cX1_has 3 (some .boolean), Cond.fieldLink RX1 9 "Followrow$Relation" "pairs" "[Z", Cond.static yX4_isPerson, Cond.code yX4_isPerson cX4_isPerson 1 (some .boolean), Cond.methodLink RX4 127 yX4_isOverMark, Cond.instanceMethod yX4_isOverMark, Cond.selects RX4 yX4_isOverMark yX4_isOverMark, Cond.code yX4_isOverMark cX4_isOverMark 2 (some .boolean), Cond.fieldLink RX4 42 "Followrow" "mark" "I", Cond.methodLink RX4 79 yX1_countTo, Cond.instanceMethod yX1_countTo, Cond.selects RX1 yX1_countTo yX1_countTo, Cond.code yX1_countTo cX1_countTo 4 (some .int), Cond.methodLink RX1 19 yX1_has, Cond.methodLink RX4 208 yX4_offer, Cond.instanceMethod yX4_offer, Cond.selects RX4 yX4_offer yX4_offer, Cond.code yX4_offer cX4_offer 3 none, Cond.methodLink RX4 211 yX4_isHidden, Cond.instanceMethod yX4_isHidden, Cond.selects RX4 yX4_isHidden yX4_isHidden]
def wsX4_readTimeline_r4 : List Cond := [Cond.code yX4_isHidden cX4_isHidden 5 (some .boolean), Cond.fieldLink RX4 16 "Followrow" "muting" "LFollowrow$Relation;", Cond.fieldLink RX4 19 "Followrow" "blocking" "LFollowrow$Relation;", Cond.methodLink RX4 98 yX0_origin, Cond.instanceMethod yX0_origin, Cond.selects RX0 yX0_origin yX0_origin, Cond.code yX0_origin cX0_origin 2 (some .int), Cond.fieldLink RX0 15 "Followrow$Ledger" "origins" "[I", Cond.methodLink RX4 101 yX0_stands, Cond.instanceMethod yX0_stands, Cond.selects RX0 yX0_stands yX0_stands, Cond.code yX0_stands cX0_stands 2 (some .boolean), Cond.fieldLink RX0 18 "Followrow$Ledger" "deleted" "[Z", Cond.methodLink RX4 214 yX3_addBelow, Cond.instanceMethod yX3_addBelow, Cond.selects RX3 yX3_addBelow yX3_addBelow, Cond.code yX3_addBelow cX3_addBelow 4 none, Cond.fieldLink RX3 9 "Followrow$Timeline" "numbers" "[I"]
def wsX4_readTimeline : List Cond := .code yX4_readTimeline cX4_readTimeline 5 none :: ((wsX4_readTimeline_r1 ++ (wsX4_readTimeline_r2 ++ (wsX4_readTimeline_r3 ++ wsX4_readTimeline_r4))) ++ wsX40 ++ wsX30 ++ wsX00 ++ wsX20 ++ wsX10)
def wsX4_shows_r1 : List Cond := [Cond.fieldLink RX4 38 "Followrow" "timeline" "LFollowrow$Timeline;", Cond.methodLink RX4 130 yX4_rowOf, Cond.instanceMethod yX4_rowOf, Cond.selects RX4 yX4_rowOf yX4_rowOf, Cond.initialized RX4, Cond.code yX4_rowOf cX4_rowOf 2 (some (.object "Followrow$Row")), Cond.fieldLink RX4 31 "Followrow" "rows" "[LFollowrow$Row;", Cond.methodLink RX4 52 yX4_checkPerson, Cond.static yX4_checkPerson, Cond.code yX4_checkPerson cX4_checkPerson 1 none, Cond.classLink RX4 137 "java/lang/IndexOutOfBoundsException", Cond.initialized "java/lang/IndexOutOfBoundsException", Cond.methodLink RX4 168 yX4_isPerson, Cond.static yX4_isPerson, Cond.code yX4_isPerson cX4_isPerson 1 (some .boolean), Cond.methodLink RX4 95 yX4_checkEntry, Cond.instanceMethod yX4_checkEntry, Cond.selects RX4 yX4_checkEntry yX4_checkEntry, Cond.code yX4_checkEntry cX4_checkEntry 2 none, Cond.fieldLink RX4 25 "Followrow" "ledger" "LFollowrow$Ledger;", Cond.methodLink RX4 180 yX0_has, Cond.instanceMethod yX0_has, Cond.selects RX0 yX0_has yX0_has, Cond.initialized RX0]
def wsX4_shows_r2 : List Cond := [Cond.code yX0_has cX0_has 2 (some .boolean), Cond.fieldLink RX0 22 "Followrow$Ledger" "made" "I", Cond.methodLink RX4 148 yX4_readTimeline, Cond.instanceMethod yX4_readTimeline, Cond.selects RX4 yX4_readTimeline yX4_readTimeline, Cond.code yX4_readTimeline cX4_readTimeline 5 none, Cond.methodLink RX4 204 yX3_empty, Cond.instanceMethod yX3_empty, Cond.selects RX3 yX3_empty yX3_empty, Cond.initialized RX3, Cond.code yX3_empty cX3_empty 2 none, Cond.fieldLink RX3 19 "Followrow$Timeline" "count" "I", Cond.fieldLink RX3 15 "Followrow$Timeline" "taken" "[Z", Cond.methodLink RX4 88 yX0_made, Cond.instanceMethod yX0_made, Cond.selects RX0 yX0_made yX0_made, Cond.code yX0_made cX0_made 1 (some .int), Cond.methodLink RX4 145 yX2_floor, Cond.instanceMethod yX2_floor, Cond.selects RX2 yX2_floor yX2_floor, Cond.initialized RX2, Cond.code yX2_floor cX2_floor 1 (some .int), Cond.fieldLink RX2 15 "Followrow$Row" "floor" "I", Cond.methodLink RX4 142 yX2_fromNewest]
def wsX4_shows_r3 : List Cond := [Cond.instanceMethod yX2_fromNewest, Cond.selects RX2 yX2_fromNewest yX2_fromNewest, Cond.code yX2_fromNewest cX2_fromNewest 2 (some .int), Cond.fieldLink RX2 22 "Followrow$Row" "count" "I", Cond.fieldLink RX2 9 "Followrow$Row" "numbers" "[I", Cond.methodLink RX4 192 yX2_owner, Cond.instanceMethod yX2_owner, Cond.selects RX2 yX2_owner yX2_owner, Cond.code yX2_owner cX2_owner 1 (some .int), Cond.fieldLink RX2 19 "Followrow$Row" "owner" "I", Cond.methodLink RX4 205 yX4_isFetched, Cond.instanceMethod yX4_isFetched, Cond.selects RX4 yX4_isFetched yX4_isFetched, Cond.code yX4_isFetched cX4_isFetched 4 (some .boolean), Cond.fieldLink RX4 10 "Followrow" "following" "LFollowrow$Relation;", Cond.methodLink RX4 107 yX0_author, Cond.instanceMethod yX0_author, Cond.selects RX0 yX0_author yX0_author, Cond.code yX0_author cX0_author 2 (some .int), Cond.fieldLink RX0 9 "Followrow$Ledger" "authors" "[I", Cond.methodLink RX0 26 yX0_has, Cond.methodLink RX4 59 yX1_has, Cond.instanceMethod yX1_has, Cond.selects RX1 yX1_has yX1_has]
def wsX4_shows_r4 : List Cond := [Cond.initialized RX1, Cond.code yX1_has cX1_has 3 (some .boolean), Cond.fieldLink RX1 9 "Followrow$Relation" "pairs" "[Z", Cond.methodLink RX4 127 yX4_isOverMark, Cond.instanceMethod yX4_isOverMark, Cond.selects RX4 yX4_isOverMark yX4_isOverMark, Cond.code yX4_isOverMark cX4_isOverMark 2 (some .boolean), Cond.fieldLink RX4 42 "Followrow" "mark" "I", Cond.methodLink RX4 79 yX1_countTo, Cond.instanceMethod yX1_countTo, Cond.selects RX1 yX1_countTo yX1_countTo, Cond.code yX1_countTo cX1_countTo 4 (some .int), Cond.methodLink RX1 19 yX1_has, Cond.methodLink RX4 208 yX4_offer, Cond.instanceMethod yX4_offer, Cond.selects RX4 yX4_offer yX4_offer, Cond.code yX4_offer cX4_offer 3 none, Cond.methodLink RX4 211 yX4_isHidden, Cond.instanceMethod yX4_isHidden, Cond.selects RX4 yX4_isHidden yX4_isHidden, Cond.code yX4_isHidden cX4_isHidden 5 (some .boolean), Cond.fieldLink RX4 16 "Followrow" "muting" "LFollowrow$Relation;", Cond.fieldLink RX4 19 "Followrow" "blocking" "LFollowrow$Relation;", Cond.methodLink RX4 98 yX0_origin]
def wsX4_shows_r5 : List Cond := [Cond.instanceMethod yX0_origin, Cond.selects RX0 yX0_origin yX0_origin, Cond.code yX0_origin cX0_origin 2 (some .int), Cond.fieldLink RX0 15 "Followrow$Ledger" "origins" "[I", Cond.methodLink RX4 101 yX0_stands, Cond.instanceMethod yX0_stands, Cond.selects RX0 yX0_stands yX0_stands, Cond.code yX0_stands cX0_stands 2 (some .boolean), Cond.fieldLink RX0 18 "Followrow$Ledger" "deleted" "[Z", Cond.methodLink RX4 214 yX3_addBelow, Cond.instanceMethod yX3_addBelow, Cond.selects RX3 yX3_addBelow yX3_addBelow, Cond.code yX3_addBelow cX3_addBelow 4 none, Cond.fieldLink RX3 9 "Followrow$Timeline" "numbers" "[I", Cond.methodLink RX4 152 yX3_placeBelow, Cond.instanceMethod yX3_placeBelow, Cond.selects RX3 yX3_placeBelow yX3_placeBelow, Cond.code yX3_placeBelow cX3_placeBelow 3 (some .int), Cond.methodLink RX3 23 yX3_at, Cond.instanceMethod yX3_at, Cond.selects RX3 yX3_at yX3_at, Cond.code yX3_at cX3_at 2 (some .int), Cond.methodLink RX4 155 yX3_at]
def wsX4_shows : List Cond := .code yX4_shows cX4_shows 4 (some .boolean) :: ((wsX4_shows_r1 ++ (wsX4_shows_r2 ++ (wsX4_shows_r3 ++ (wsX4_shows_r4 ++ wsX4_shows_r5)))) ++ wsX40 ++ wsX00 ++ wsX30 ++ wsX20 ++ wsX10 ++ (vx_atS RX4 141 "java/lang/IndexOutOfBoundsException" ["java/lang/RuntimeException", "java/lang/Exception"]).filter goodWord)
def wsX4_next_r1 : List Cond := [Cond.fieldLink RX4 38 "Followrow" "timeline" "LFollowrow$Timeline;", Cond.methodLink RX4 130 yX4_rowOf, Cond.instanceMethod yX4_rowOf, Cond.selects RX4 yX4_rowOf yX4_rowOf, Cond.initialized RX4, Cond.code yX4_rowOf cX4_rowOf 2 (some (.object "Followrow$Row")), Cond.fieldLink RX4 31 "Followrow" "rows" "[LFollowrow$Row;", Cond.methodLink RX4 52 yX4_checkPerson, Cond.static yX4_checkPerson, Cond.code yX4_checkPerson cX4_checkPerson 1 none, Cond.classLink RX4 137 "java/lang/IndexOutOfBoundsException", Cond.initialized "java/lang/IndexOutOfBoundsException", Cond.methodLink RX4 168 yX4_isPerson, Cond.static yX4_isPerson, Cond.code yX4_isPerson cX4_isPerson 1 (some .boolean), Cond.methodLink RX4 120 yX4_checkRange, Cond.static yX4_checkRange, Cond.code yX4_checkRange cX4_checkRange 3 none, Cond.classLink RX4 173 "java/lang/IllegalArgumentException", Cond.initialized "java/lang/IllegalArgumentException", Cond.methodLink RX4 148 yX4_readTimeline, Cond.instanceMethod yX4_readTimeline, Cond.selects RX4 yX4_readTimeline yX4_readTimeline, Cond.code yX4_readTimeline cX4_readTimeline 5 none]
def wsX4_next_r2 : List Cond := [Cond.fieldLink RX4 25 "Followrow" "ledger" "LFollowrow$Ledger;", Cond.methodLink RX4 204 yX3_empty, Cond.instanceMethod yX3_empty, Cond.selects RX3 yX3_empty yX3_empty, Cond.initialized RX3, Cond.code yX3_empty cX3_empty 2 none, Cond.fieldLink RX3 19 "Followrow$Timeline" "count" "I", Cond.fieldLink RX3 15 "Followrow$Timeline" "taken" "[Z", Cond.methodLink RX4 88 yX0_made, Cond.instanceMethod yX0_made, Cond.selects RX0 yX0_made yX0_made, Cond.initialized RX0, Cond.code yX0_made cX0_made 1 (some .int), Cond.fieldLink RX0 22 "Followrow$Ledger" "made" "I", Cond.methodLink RX4 145 yX2_floor, Cond.instanceMethod yX2_floor, Cond.selects RX2 yX2_floor yX2_floor, Cond.initialized RX2, Cond.code yX2_floor cX2_floor 1 (some .int), Cond.fieldLink RX2 15 "Followrow$Row" "floor" "I", Cond.methodLink RX4 142 yX2_fromNewest, Cond.instanceMethod yX2_fromNewest, Cond.selects RX2 yX2_fromNewest yX2_fromNewest, Cond.code yX2_fromNewest cX2_fromNewest 2 (some .int)]
def wsX4_next_r3 : List Cond := [Cond.fieldLink RX2 22 "Followrow$Row" "count" "I", Cond.fieldLink RX2 9 "Followrow$Row" "numbers" "[I", Cond.methodLink RX4 192 yX2_owner, Cond.instanceMethod yX2_owner, Cond.selects RX2 yX2_owner yX2_owner, Cond.code yX2_owner cX2_owner 1 (some .int), Cond.fieldLink RX2 19 "Followrow$Row" "owner" "I", Cond.methodLink RX4 205 yX4_isFetched, Cond.instanceMethod yX4_isFetched, Cond.selects RX4 yX4_isFetched yX4_isFetched, Cond.code yX4_isFetched cX4_isFetched 4 (some .boolean), Cond.fieldLink RX4 10 "Followrow" "following" "LFollowrow$Relation;", Cond.methodLink RX4 107 yX0_author, Cond.instanceMethod yX0_author, Cond.selects RX0 yX0_author yX0_author, Cond.code yX0_author cX0_author 2 (some .int), Cond.fieldLink RX0 9 "Followrow$Ledger" "authors" "[I", Cond.methodLink RX0 26 yX0_has, Cond.instanceMethod yX0_has, Cond.selects RX0 yX0_has yX0_has, Cond.code yX0_has cX0_has 2 (some .boolean), Cond.methodLink RX4 59 yX1_has, Cond.instanceMethod yX1_has, Cond.selects RX1 yX1_has yX1_has]
def wsX4_next_r4 : List Cond := [Cond.initialized RX1, Cond.code yX1_has cX1_has 3 (some .boolean), Cond.fieldLink RX1 9 "Followrow$Relation" "pairs" "[Z", Cond.methodLink RX4 127 yX4_isOverMark, Cond.instanceMethod yX4_isOverMark, Cond.selects RX4 yX4_isOverMark yX4_isOverMark, Cond.code yX4_isOverMark cX4_isOverMark 2 (some .boolean), Cond.fieldLink RX4 42 "Followrow" "mark" "I", Cond.methodLink RX4 79 yX1_countTo, Cond.instanceMethod yX1_countTo, Cond.selects RX1 yX1_countTo yX1_countTo, Cond.code yX1_countTo cX1_countTo 4 (some .int), Cond.methodLink RX1 19 yX1_has, Cond.methodLink RX4 208 yX4_offer, Cond.instanceMethod yX4_offer, Cond.selects RX4 yX4_offer yX4_offer, Cond.code yX4_offer cX4_offer 3 none, Cond.methodLink RX4 211 yX4_isHidden, Cond.instanceMethod yX4_isHidden, Cond.selects RX4 yX4_isHidden yX4_isHidden, Cond.code yX4_isHidden cX4_isHidden 5 (some .boolean), Cond.fieldLink RX4 16 "Followrow" "muting" "LFollowrow$Relation;", Cond.fieldLink RX4 19 "Followrow" "blocking" "LFollowrow$Relation;", Cond.methodLink RX4 98 yX0_origin]
def wsX4_next_r5 : List Cond := [Cond.instanceMethod yX0_origin, Cond.selects RX0 yX0_origin yX0_origin, Cond.code yX0_origin cX0_origin 2 (some .int), Cond.fieldLink RX0 15 "Followrow$Ledger" "origins" "[I", Cond.methodLink RX4 101 yX0_stands, Cond.instanceMethod yX0_stands, Cond.selects RX0 yX0_stands yX0_stands, Cond.code yX0_stands cX0_stands 2 (some .boolean), Cond.fieldLink RX0 18 "Followrow$Ledger" "deleted" "[Z", Cond.methodLink RX4 214 yX3_addBelow, Cond.instanceMethod yX3_addBelow, Cond.selects RX3 yX3_addBelow yX3_addBelow, Cond.code yX3_addBelow cX3_addBelow 4 none, Cond.fieldLink RX3 9 "Followrow$Timeline" "numbers" "[I", Cond.methodLink RX4 152 yX3_placeBelow, Cond.instanceMethod yX3_placeBelow, Cond.selects RX3 yX3_placeBelow yX3_placeBelow, Cond.code yX3_placeBelow cX3_placeBelow 3 (some .int), Cond.methodLink RX3 23 yX3_at, Cond.instanceMethod yX3_at, Cond.selects RX3 yX3_at yX3_at, Cond.code yX3_at cX3_at 2 (some .int), Cond.methodLink RX4 155 yX3_at]
def wsX4_next : List Cond := .code yX4_next cX4_next 4 (some .int) :: ((wsX4_next_r1 ++ (wsX4_next_r2 ++ (wsX4_next_r3 ++ (wsX4_next_r4 ++ wsX4_next_r5)))) ++ wsX40 ++ wsX30 ++ wsX00 ++ wsX20 ++ wsX10 ++ (vx_atS RX4 141 "java/lang/IndexOutOfBoundsException" ["java/lang/RuntimeException", "java/lang/Exception"]).filter goodWord ++ (vx_atS RX4 177 "java/lang/IllegalArgumentException" ["java/lang/RuntimeException", "java/lang/Exception"]).filter goodWord)
def wsX4_pageEnd_r1 : List Cond := [Cond.fieldLink RX4 38 "Followrow" "timeline" "LFollowrow$Timeline;", Cond.methodLink RX4 159 Lib.Math.min.name, Cond.static Lib.Math.min.name, Cond.initialized "java/lang/Math", Cond.code Lib.Math.min.name Lib.Math.min.code 2 (some .int), Cond.methodLink RX4 130 yX4_rowOf, Cond.instanceMethod yX4_rowOf, Cond.selects RX4 yX4_rowOf yX4_rowOf, Cond.initialized RX4, Cond.code yX4_rowOf cX4_rowOf 2 (some (.object "Followrow$Row")), Cond.fieldLink RX4 31 "Followrow" "rows" "[LFollowrow$Row;", Cond.methodLink RX4 52 yX4_checkPerson, Cond.static yX4_checkPerson, Cond.code yX4_checkPerson cX4_checkPerson 1 none, Cond.classLink RX4 137 "java/lang/IndexOutOfBoundsException", Cond.initialized "java/lang/IndexOutOfBoundsException", Cond.methodLink RX4 168 yX4_isPerson, Cond.static yX4_isPerson, Cond.code yX4_isPerson cX4_isPerson 1 (some .boolean), Cond.methodLink RX4 120 yX4_checkRange, Cond.static yX4_checkRange, Cond.code yX4_checkRange cX4_checkRange 3 none, Cond.classLink RX4 173 "java/lang/IllegalArgumentException", Cond.initialized "java/lang/IllegalArgumentException"]
def wsX4_pageEnd_r2 : List Cond := [Cond.methodLink RX4 148 yX4_readTimeline, Cond.instanceMethod yX4_readTimeline, Cond.selects RX4 yX4_readTimeline yX4_readTimeline, Cond.code yX4_readTimeline cX4_readTimeline 5 none, Cond.fieldLink RX4 25 "Followrow" "ledger" "LFollowrow$Ledger;", Cond.methodLink RX4 204 yX3_empty, Cond.instanceMethod yX3_empty, Cond.selects RX3 yX3_empty yX3_empty, Cond.initialized RX3, Cond.code yX3_empty cX3_empty 2 none, Cond.fieldLink RX3 19 "Followrow$Timeline" "count" "I", Cond.fieldLink RX3 15 "Followrow$Timeline" "taken" "[Z", Cond.methodLink RX4 88 yX0_made, Cond.instanceMethod yX0_made, Cond.selects RX0 yX0_made yX0_made, Cond.initialized RX0, Cond.code yX0_made cX0_made 1 (some .int), Cond.fieldLink RX0 22 "Followrow$Ledger" "made" "I", Cond.methodLink RX4 145 yX2_floor, Cond.instanceMethod yX2_floor, Cond.selects RX2 yX2_floor yX2_floor, Cond.initialized RX2, Cond.code yX2_floor cX2_floor 1 (some .int), Cond.fieldLink RX2 15 "Followrow$Row" "floor" "I"]
def wsX4_pageEnd_r3 : List Cond := [Cond.methodLink RX4 142 yX2_fromNewest, Cond.instanceMethod yX2_fromNewest, Cond.selects RX2 yX2_fromNewest yX2_fromNewest, Cond.code yX2_fromNewest cX2_fromNewest 2 (some .int), Cond.fieldLink RX2 22 "Followrow$Row" "count" "I", Cond.fieldLink RX2 9 "Followrow$Row" "numbers" "[I", Cond.methodLink RX4 192 yX2_owner, Cond.instanceMethod yX2_owner, Cond.selects RX2 yX2_owner yX2_owner, Cond.code yX2_owner cX2_owner 1 (some .int), Cond.fieldLink RX2 19 "Followrow$Row" "owner" "I", Cond.methodLink RX4 205 yX4_isFetched, Cond.instanceMethod yX4_isFetched, Cond.selects RX4 yX4_isFetched yX4_isFetched, Cond.code yX4_isFetched cX4_isFetched 4 (some .boolean), Cond.fieldLink RX4 10 "Followrow" "following" "LFollowrow$Relation;", Cond.methodLink RX4 107 yX0_author, Cond.instanceMethod yX0_author, Cond.selects RX0 yX0_author yX0_author, Cond.code yX0_author cX0_author 2 (some .int), Cond.fieldLink RX0 9 "Followrow$Ledger" "authors" "[I", Cond.methodLink RX0 26 yX0_has, Cond.instanceMethod yX0_has, Cond.selects RX0 yX0_has yX0_has]
def wsX4_pageEnd_r4 : List Cond := [Cond.code yX0_has cX0_has 2 (some .boolean), Cond.methodLink RX4 59 yX1_has, Cond.instanceMethod yX1_has, Cond.selects RX1 yX1_has yX1_has, Cond.initialized RX1, Cond.code yX1_has cX1_has 3 (some .boolean), Cond.fieldLink RX1 9 "Followrow$Relation" "pairs" "[Z", Cond.methodLink RX4 127 yX4_isOverMark, Cond.instanceMethod yX4_isOverMark, Cond.selects RX4 yX4_isOverMark yX4_isOverMark, Cond.code yX4_isOverMark cX4_isOverMark 2 (some .boolean), Cond.fieldLink RX4 42 "Followrow" "mark" "I", Cond.methodLink RX4 79 yX1_countTo, Cond.instanceMethod yX1_countTo, Cond.selects RX1 yX1_countTo yX1_countTo, Cond.code yX1_countTo cX1_countTo 4 (some .int), Cond.methodLink RX1 19 yX1_has, Cond.methodLink RX4 208 yX4_offer, Cond.instanceMethod yX4_offer, Cond.selects RX4 yX4_offer yX4_offer, Cond.code yX4_offer cX4_offer 3 none, Cond.methodLink RX4 211 yX4_isHidden, Cond.instanceMethod yX4_isHidden, Cond.selects RX4 yX4_isHidden yX4_isHidden]
def wsX4_pageEnd_r5 : List Cond := [Cond.code yX4_isHidden cX4_isHidden 5 (some .boolean), Cond.fieldLink RX4 16 "Followrow" "muting" "LFollowrow$Relation;", Cond.fieldLink RX4 19 "Followrow" "blocking" "LFollowrow$Relation;", Cond.methodLink RX4 98 yX0_origin, Cond.instanceMethod yX0_origin, Cond.selects RX0 yX0_origin yX0_origin, Cond.code yX0_origin cX0_origin 2 (some .int), Cond.fieldLink RX0 15 "Followrow$Ledger" "origins" "[I", Cond.methodLink RX4 101 yX0_stands, Cond.instanceMethod yX0_stands, Cond.selects RX0 yX0_stands yX0_stands, Cond.code yX0_stands cX0_stands 2 (some .boolean), Cond.fieldLink RX0 18 "Followrow$Ledger" "deleted" "[Z", Cond.methodLink RX4 214 yX3_addBelow, Cond.instanceMethod yX3_addBelow, Cond.selects RX3 yX3_addBelow yX3_addBelow, Cond.code yX3_addBelow cX3_addBelow 4 none, Cond.fieldLink RX3 9 "Followrow$Timeline" "numbers" "[I", Cond.methodLink RX4 152 yX3_placeBelow, Cond.instanceMethod yX3_placeBelow, Cond.selects RX3 yX3_placeBelow yX3_placeBelow, Cond.code yX3_placeBelow cX3_placeBelow 3 (some .int), Cond.methodLink RX3 23 yX3_at, Cond.instanceMethod yX3_at]
def wsX4_pageEnd_r6 : List Cond := [Cond.selects RX3 yX3_at yX3_at, Cond.code yX3_at cX3_at 2 (some .int), Cond.methodLink RX4 158 yX3_count, Cond.instanceMethod yX3_count, Cond.selects RX3 yX3_count yX3_count, Cond.code yX3_count cX3_count 1 (some .int), Cond.methodLink RX4 155 yX3_at]
def wsX4_pageEnd : List Cond := .code yX4_pageEnd cX4_pageEnd 6 (some .int) :: ((wsX4_pageEnd_r1 ++ (wsX4_pageEnd_r2 ++ (wsX4_pageEnd_r3 ++ (wsX4_pageEnd_r4 ++ (wsX4_pageEnd_r5 ++ wsX4_pageEnd_r6))))) ++ wsX40 ++ wsX30 ++ wsX00 ++ wsX20 ++ wsX10 ++ (vx_atS RX4 141 "java/lang/IndexOutOfBoundsException" ["java/lang/RuntimeException", "java/lang/Exception"]).filter goodWord ++ (vx_atS RX4 177 "java/lang/IllegalArgumentException" ["java/lang/RuntimeException", "java/lang/Exception"]).filter goodWord)
def wsX4_length_r1 : List Cond := [Cond.fieldLink RX4 38 "Followrow" "timeline" "LFollowrow$Timeline;", Cond.methodLink RX4 130 yX4_rowOf, Cond.instanceMethod yX4_rowOf, Cond.selects RX4 yX4_rowOf yX4_rowOf, Cond.initialized RX4, Cond.code yX4_rowOf cX4_rowOf 2 (some (.object "Followrow$Row")), Cond.fieldLink RX4 31 "Followrow" "rows" "[LFollowrow$Row;", Cond.methodLink RX4 52 yX4_checkPerson, Cond.static yX4_checkPerson, Cond.code yX4_checkPerson cX4_checkPerson 1 none, Cond.classLink RX4 137 "java/lang/IndexOutOfBoundsException", Cond.initialized "java/lang/IndexOutOfBoundsException", Cond.methodLink RX4 168 yX4_isPerson, Cond.static yX4_isPerson, Cond.code yX4_isPerson cX4_isPerson 1 (some .boolean), Cond.methodLink RX4 148 yX4_readTimeline, Cond.instanceMethod yX4_readTimeline, Cond.selects RX4 yX4_readTimeline yX4_readTimeline, Cond.code yX4_readTimeline cX4_readTimeline 5 none, Cond.fieldLink RX4 25 "Followrow" "ledger" "LFollowrow$Ledger;", Cond.methodLink RX4 204 yX3_empty, Cond.instanceMethod yX3_empty, Cond.selects RX3 yX3_empty yX3_empty, Cond.initialized RX3]
def wsX4_length_r2 : List Cond := [Cond.code yX3_empty cX3_empty 2 none, Cond.fieldLink RX3 19 "Followrow$Timeline" "count" "I", Cond.fieldLink RX3 15 "Followrow$Timeline" "taken" "[Z", Cond.methodLink RX4 88 yX0_made, Cond.instanceMethod yX0_made, Cond.selects RX0 yX0_made yX0_made, Cond.initialized RX0, Cond.code yX0_made cX0_made 1 (some .int), Cond.fieldLink RX0 22 "Followrow$Ledger" "made" "I", Cond.methodLink RX4 145 yX2_floor, Cond.instanceMethod yX2_floor, Cond.selects RX2 yX2_floor yX2_floor, Cond.initialized RX2, Cond.code yX2_floor cX2_floor 1 (some .int), Cond.fieldLink RX2 15 "Followrow$Row" "floor" "I", Cond.methodLink RX4 142 yX2_fromNewest, Cond.instanceMethod yX2_fromNewest, Cond.selects RX2 yX2_fromNewest yX2_fromNewest, Cond.code yX2_fromNewest cX2_fromNewest 2 (some .int), Cond.fieldLink RX2 22 "Followrow$Row" "count" "I", Cond.fieldLink RX2 9 "Followrow$Row" "numbers" "[I", Cond.methodLink RX4 192 yX2_owner, Cond.instanceMethod yX2_owner, Cond.selects RX2 yX2_owner yX2_owner]
def wsX4_length_r3 : List Cond := [Cond.code yX2_owner cX2_owner 1 (some .int), Cond.fieldLink RX2 19 "Followrow$Row" "owner" "I", Cond.methodLink RX4 205 yX4_isFetched, Cond.instanceMethod yX4_isFetched, Cond.selects RX4 yX4_isFetched yX4_isFetched, Cond.code yX4_isFetched cX4_isFetched 4 (some .boolean), Cond.fieldLink RX4 10 "Followrow" "following" "LFollowrow$Relation;", Cond.methodLink RX4 107 yX0_author, Cond.instanceMethod yX0_author, Cond.selects RX0 yX0_author yX0_author, Cond.code yX0_author cX0_author 2 (some .int), Cond.fieldLink RX0 9 "Followrow$Ledger" "authors" "[I", Cond.methodLink RX0 26 yX0_has, Cond.instanceMethod yX0_has, Cond.selects RX0 yX0_has yX0_has, Cond.code yX0_has cX0_has 2 (some .boolean), Cond.methodLink RX4 59 yX1_has, Cond.instanceMethod yX1_has, Cond.selects RX1 yX1_has yX1_has, Cond.initialized RX1, Cond.code yX1_has cX1_has 3 (some .boolean), Cond.fieldLink RX1 9 "Followrow$Relation" "pairs" "[Z", Cond.methodLink RX4 127 yX4_isOverMark, Cond.instanceMethod yX4_isOverMark]
def wsX4_length_r4 : List Cond := [Cond.selects RX4 yX4_isOverMark yX4_isOverMark, Cond.code yX4_isOverMark cX4_isOverMark 2 (some .boolean), Cond.fieldLink RX4 42 "Followrow" "mark" "I", Cond.methodLink RX4 79 yX1_countTo, Cond.instanceMethod yX1_countTo, Cond.selects RX1 yX1_countTo yX1_countTo, Cond.code yX1_countTo cX1_countTo 4 (some .int), Cond.methodLink RX1 19 yX1_has, Cond.methodLink RX4 208 yX4_offer, Cond.instanceMethod yX4_offer, Cond.selects RX4 yX4_offer yX4_offer, Cond.code yX4_offer cX4_offer 3 none, Cond.methodLink RX4 211 yX4_isHidden, Cond.instanceMethod yX4_isHidden, Cond.selects RX4 yX4_isHidden yX4_isHidden, Cond.code yX4_isHidden cX4_isHidden 5 (some .boolean), Cond.fieldLink RX4 16 "Followrow" "muting" "LFollowrow$Relation;", Cond.fieldLink RX4 19 "Followrow" "blocking" "LFollowrow$Relation;", Cond.methodLink RX4 98 yX0_origin, Cond.instanceMethod yX0_origin, Cond.selects RX0 yX0_origin yX0_origin, Cond.code yX0_origin cX0_origin 2 (some .int), Cond.fieldLink RX0 15 "Followrow$Ledger" "origins" "[I", Cond.methodLink RX4 101 yX0_stands]
def wsX4_length_r5 : List Cond := [Cond.instanceMethod yX0_stands, Cond.selects RX0 yX0_stands yX0_stands, Cond.code yX0_stands cX0_stands 2 (some .boolean), Cond.fieldLink RX0 18 "Followrow$Ledger" "deleted" "[Z", Cond.methodLink RX4 214 yX3_addBelow, Cond.instanceMethod yX3_addBelow, Cond.selects RX3 yX3_addBelow yX3_addBelow, Cond.code yX3_addBelow cX3_addBelow 4 none, Cond.fieldLink RX3 9 "Followrow$Timeline" "numbers" "[I", Cond.methodLink RX4 158 yX3_count, Cond.instanceMethod yX3_count, Cond.selects RX3 yX3_count yX3_count, Cond.code yX3_count cX3_count 1 (some .int)]
def wsX4_length : List Cond := .code yX4_length cX4_length 2 (some .int) :: ((wsX4_length_r1 ++ (wsX4_length_r2 ++ (wsX4_length_r3 ++ (wsX4_length_r4 ++ wsX4_length_r5)))) ++ wsX40 ++ wsX30 ++ wsX00 ++ wsX20 ++ wsX10 ++ (vx_atS RX4 141 "java/lang/IndexOutOfBoundsException" ["java/lang/RuntimeException", "java/lang/Exception"]).filter goodWord)
def wsX4_mergeTimeline_r1 : List Cond := [Cond.fieldLink RX4 38 "Followrow" "timeline" "LFollowrow$Timeline;", Cond.fieldLink RX4 25 "Followrow" "ledger" "LFollowrow$Ledger;", Cond.fieldLink RX4 10 "Followrow" "following" "LFollowrow$Relation;", Cond.methodLink RX4 204 yX3_empty, Cond.instanceMethod yX3_empty, Cond.selects RX3 yX3_empty yX3_empty, Cond.initialized RX3, Cond.code yX3_empty cX3_empty 2 none, Cond.fieldLink RX3 19 "Followrow$Timeline" "count" "I", Cond.fieldLink RX3 15 "Followrow$Timeline" "taken" "[Z", Cond.methodLink RX4 88 yX0_made, Cond.instanceMethod yX0_made, Cond.selects RX0 yX0_made yX0_made, Cond.initialized RX0, Cond.code yX0_made cX0_made 1 (some .int), Cond.fieldLink RX0 22 "Followrow$Ledger" "made" "I", Cond.methodLink RX4 107 yX0_author, Cond.instanceMethod yX0_author, Cond.selects RX0 yX0_author yX0_author, Cond.code yX0_author cX0_author 2 (some .int), Cond.fieldLink RX0 9 "Followrow$Ledger" "authors" "[I", Cond.methodLink RX0 26 yX0_has, Cond.instanceMethod yX0_has, Cond.selects RX0 yX0_has yX0_has]
def wsX4_mergeTimeline_r2 : List Cond := [Cond.code yX0_has cX0_has 2 (some .boolean), Cond.methodLink RX4 59 yX1_has, Cond.instanceMethod yX1_has, Cond.selects RX1 yX1_has yX1_has, Cond.initialized RX1, Cond.code yX1_has cX1_has 3 (some .boolean), Cond.fieldLink RX1 9 "Followrow$Relation" "pairs" "[Z", Cond.static yX4_isPerson, Cond.initialized RX4, Cond.code yX4_isPerson cX4_isPerson 1 (some .boolean), Cond.methodLink RX4 208 yX4_offer, Cond.instanceMethod yX4_offer, Cond.selects RX4 yX4_offer yX4_offer, Cond.code yX4_offer cX4_offer 3 none, Cond.methodLink RX4 211 yX4_isHidden, Cond.instanceMethod yX4_isHidden, Cond.selects RX4 yX4_isHidden yX4_isHidden, Cond.code yX4_isHidden cX4_isHidden 5 (some .boolean), Cond.fieldLink RX4 16 "Followrow" "muting" "LFollowrow$Relation;", Cond.fieldLink RX4 19 "Followrow" "blocking" "LFollowrow$Relation;", Cond.methodLink RX4 98 yX0_origin, Cond.instanceMethod yX0_origin, Cond.selects RX0 yX0_origin yX0_origin, Cond.code yX0_origin cX0_origin 2 (some .int)]
def wsX4_mergeTimeline_r3 : List Cond := [Cond.fieldLink RX0 15 "Followrow$Ledger" "origins" "[I", Cond.methodLink RX4 101 yX0_stands, Cond.instanceMethod yX0_stands, Cond.selects RX0 yX0_stands yX0_stands, Cond.code yX0_stands cX0_stands 2 (some .boolean), Cond.fieldLink RX0 18 "Followrow$Ledger" "deleted" "[Z", Cond.methodLink RX4 214 yX3_addBelow, Cond.instanceMethod yX3_addBelow, Cond.selects RX3 yX3_addBelow yX3_addBelow, Cond.code yX3_addBelow cX3_addBelow 4 none, Cond.fieldLink RX3 9 "Followrow$Timeline" "numbers" "[I"]
def wsX4_mergeTimeline : List Cond := .code yX4_mergeTimeline cX4_mergeTimeline 4 none :: ((wsX4_mergeTimeline_r1 ++ (wsX4_mergeTimeline_r2 ++ wsX4_mergeTimeline_r3)) ++ wsX40 ++ wsX30 ++ wsX00 ++ wsX10)
def wsX4_lengthByMerging_r1 : List Cond := [Cond.fieldLink RX4 38 "Followrow" "timeline" "LFollowrow$Timeline;", Cond.methodLink RX4 130 yX4_rowOf, Cond.instanceMethod yX4_rowOf, Cond.selects RX4 yX4_rowOf yX4_rowOf, Cond.initialized RX4, Cond.code yX4_rowOf cX4_rowOf 2 (some (.object "Followrow$Row")), Cond.fieldLink RX4 31 "Followrow" "rows" "[LFollowrow$Row;", Cond.methodLink RX4 52 yX4_checkPerson, Cond.static yX4_checkPerson, Cond.code yX4_checkPerson cX4_checkPerson 1 none, Cond.classLink RX4 137 "java/lang/IndexOutOfBoundsException", Cond.initialized "java/lang/IndexOutOfBoundsException", Cond.methodLink RX4 168 yX4_isPerson, Cond.static yX4_isPerson, Cond.code yX4_isPerson cX4_isPerson 1 (some .boolean), Cond.methodLink RX4 145 yX2_floor, Cond.instanceMethod yX2_floor, Cond.selects RX2 yX2_floor yX2_floor, Cond.initialized RX2, Cond.code yX2_floor cX2_floor 1 (some .int), Cond.fieldLink RX2 15 "Followrow$Row" "floor" "I", Cond.methodLink RX4 165 yX4_mergeTimeline, Cond.instanceMethod yX4_mergeTimeline, Cond.selects RX4 yX4_mergeTimeline yX4_mergeTimeline]
def wsX4_lengthByMerging_r2 : List Cond := [Cond.code yX4_mergeTimeline cX4_mergeTimeline 4 none, Cond.fieldLink RX4 25 "Followrow" "ledger" "LFollowrow$Ledger;", Cond.fieldLink RX4 10 "Followrow" "following" "LFollowrow$Relation;", Cond.methodLink RX4 204 yX3_empty, Cond.instanceMethod yX3_empty, Cond.selects RX3 yX3_empty yX3_empty, Cond.initialized RX3, Cond.code yX3_empty cX3_empty 2 none, Cond.fieldLink RX3 19 "Followrow$Timeline" "count" "I", Cond.fieldLink RX3 15 "Followrow$Timeline" "taken" "[Z", Cond.methodLink RX4 88 yX0_made, Cond.instanceMethod yX0_made, Cond.selects RX0 yX0_made yX0_made, Cond.initialized RX0, Cond.code yX0_made cX0_made 1 (some .int), Cond.fieldLink RX0 22 "Followrow$Ledger" "made" "I", Cond.methodLink RX4 107 yX0_author, Cond.instanceMethod yX0_author, Cond.selects RX0 yX0_author yX0_author, Cond.code yX0_author cX0_author 2 (some .int), Cond.fieldLink RX0 9 "Followrow$Ledger" "authors" "[I", Cond.methodLink RX0 26 yX0_has, Cond.instanceMethod yX0_has, Cond.selects RX0 yX0_has yX0_has]
def wsX4_lengthByMerging_r3 : List Cond := [Cond.code yX0_has cX0_has 2 (some .boolean), Cond.methodLink RX4 59 yX1_has, Cond.instanceMethod yX1_has, Cond.selects RX1 yX1_has yX1_has, Cond.initialized RX1, Cond.code yX1_has cX1_has 3 (some .boolean), Cond.fieldLink RX1 9 "Followrow$Relation" "pairs" "[Z", Cond.methodLink RX4 208 yX4_offer, Cond.instanceMethod yX4_offer, Cond.selects RX4 yX4_offer yX4_offer, Cond.code yX4_offer cX4_offer 3 none, Cond.methodLink RX4 211 yX4_isHidden, Cond.instanceMethod yX4_isHidden, Cond.selects RX4 yX4_isHidden yX4_isHidden, Cond.code yX4_isHidden cX4_isHidden 5 (some .boolean), Cond.fieldLink RX4 16 "Followrow" "muting" "LFollowrow$Relation;", Cond.fieldLink RX4 19 "Followrow" "blocking" "LFollowrow$Relation;", Cond.methodLink RX4 98 yX0_origin, Cond.instanceMethod yX0_origin, Cond.selects RX0 yX0_origin yX0_origin, Cond.code yX0_origin cX0_origin 2 (some .int), Cond.fieldLink RX0 15 "Followrow$Ledger" "origins" "[I", Cond.methodLink RX4 101 yX0_stands, Cond.instanceMethod yX0_stands]
def wsX4_lengthByMerging_r4 : List Cond := [Cond.selects RX0 yX0_stands yX0_stands, Cond.code yX0_stands cX0_stands 2 (some .boolean), Cond.fieldLink RX0 18 "Followrow$Ledger" "deleted" "[Z", Cond.methodLink RX4 214 yX3_addBelow, Cond.instanceMethod yX3_addBelow, Cond.selects RX3 yX3_addBelow yX3_addBelow, Cond.code yX3_addBelow cX3_addBelow 4 none, Cond.fieldLink RX3 9 "Followrow$Timeline" "numbers" "[I", Cond.methodLink RX4 158 yX3_count, Cond.instanceMethod yX3_count, Cond.selects RX3 yX3_count yX3_count, Cond.code yX3_count cX3_count 1 (some .int)]
def wsX4_lengthByMerging : List Cond := .code yX4_lengthByMerging cX4_lengthByMerging 2 (some .int) :: ((wsX4_lengthByMerging_r1 ++ (wsX4_lengthByMerging_r2 ++ (wsX4_lengthByMerging_r3 ++ wsX4_lengthByMerging_r4))) ++ wsX40 ++ wsX20 ++ wsX30 ++ wsX00 ++ wsX10 ++ (vx_atS RX4 141 "java/lang/IndexOutOfBoundsException" ["java/lang/RuntimeException", "java/lang/Exception"]).filter goodWord)
def wsX4_hasGap_r1 : List Cond := [Cond.fieldLink RX4 25 "Followrow" "ledger" "LFollowrow$Ledger;", Cond.fieldLink RX4 10 "Followrow" "following" "LFollowrow$Relation;", Cond.methodLink RX4 130 yX4_rowOf, Cond.instanceMethod yX4_rowOf, Cond.selects RX4 yX4_rowOf yX4_rowOf, Cond.initialized RX4, Cond.code yX4_rowOf cX4_rowOf 2 (some (.object "Followrow$Row")), Cond.fieldLink RX4 31 "Followrow" "rows" "[LFollowrow$Row;", Cond.methodLink RX4 52 yX4_checkPerson, Cond.static yX4_checkPerson, Cond.code yX4_checkPerson cX4_checkPerson 1 none, Cond.classLink RX4 137 "java/lang/IndexOutOfBoundsException", Cond.initialized "java/lang/IndexOutOfBoundsException", Cond.methodLink RX4 168 yX4_isPerson, Cond.static yX4_isPerson, Cond.code yX4_isPerson cX4_isPerson 1 (some .boolean), Cond.methodLink RX4 145 yX2_floor, Cond.instanceMethod yX2_floor, Cond.selects RX2 yX2_floor yX2_floor, Cond.initialized RX2, Cond.code yX2_floor cX2_floor 1 (some .int), Cond.fieldLink RX2 15 "Followrow$Row" "floor" "I", Cond.methodLink RX4 101 yX0_stands, Cond.instanceMethod yX0_stands]
def wsX4_hasGap_r2 : List Cond := [Cond.selects RX0 yX0_stands yX0_stands, Cond.initialized RX0, Cond.code yX0_stands cX0_stands 2 (some .boolean), Cond.fieldLink RX0 18 "Followrow$Ledger" "deleted" "[Z", Cond.methodLink RX0 26 yX0_has, Cond.instanceMethod yX0_has, Cond.selects RX0 yX0_has yX0_has, Cond.code yX0_has cX0_has 2 (some .boolean), Cond.fieldLink RX0 22 "Followrow$Ledger" "made" "I", Cond.methodLink RX4 107 yX0_author, Cond.instanceMethod yX0_author, Cond.selects RX0 yX0_author yX0_author, Cond.code yX0_author cX0_author 2 (some .int), Cond.fieldLink RX0 9 "Followrow$Ledger" "authors" "[I", Cond.methodLink RX4 59 yX1_has, Cond.instanceMethod yX1_has, Cond.selects RX1 yX1_has yX1_has, Cond.initialized RX1, Cond.code yX1_has cX1_has 3 (some .boolean), Cond.fieldLink RX1 9 "Followrow$Relation" "pairs" "[Z"]
def wsX4_hasGap : List Cond := .code yX4_hasGap cX4_hasGap 4 (some .boolean) :: ((wsX4_hasGap_r1 ++ wsX4_hasGap_r2) ++ wsX40 ++ wsX20 ++ wsX00 ++ wsX10 ++ (vx_atS RX4 141 "java/lang/IndexOutOfBoundsException" ["java/lang/RuntimeException", "java/lang/Exception"]).filter goodWord)
def wsX5_init : List Cond := .code yX5_init cX5_init 2 none :: ([.methodLink RX5 1 objectInit, .instanceMethod objectInit, .code objectInit ⟨#[0xb1]⟩ 1 none, .arrayClass .boolean, .fieldLink RX5 7 "FollowrowModel" "followed" "[Z", .fieldLink RX5 13 "FollowrowModel" "muted" "[Z", .fieldLink RX5 16 "FollowrowModel" "blocked" "[Z", .arrayClass .int, .fieldLink RX5 19 "FollowrowModel" "author" "[I", .fieldLink RX5 23 "FollowrowModel" "origin" "[I", .fieldLink RX5 26 "FollowrowModel" "isGone" "[Z", .fieldLink RX5 29 "FollowrowModel" "mark" "I", .fieldLink RX5 33 "FollowrowModel" "room" "I", .fieldLink RX5 36 "FollowrowModel" "floor" "[I"] ++ wsX50)
def wsX5_thrown : List Cond := .code yX5_thrown cX5_thrown 1 (some .int) :: ([.fieldLink RX5 39 "FollowrowModel" "thrown" "I"] ++ wsX50)
def wsX5_in : List Cond := .code yX5_in cX5_in 3 (some .boolean) :: ([])
def wsX5_isFine : List Cond := .code yX5_isFine cX5_isFine 2 (some .boolean) :: ([.fieldLink RX5 39 "FollowrowModel" "thrown" "I"] ++ wsX50)
def wsX5_isOne : List Cond := .code yX5_isOne cX5_isOne 1 (some .boolean) :: ([.methodLink RX5 42 yX5_in, .static yX5_in, .initialized RX5, .code yX5_in cX5_in 3 (some .boolean)])
def wsX5_isEntry : List Cond := .code yX5_isEntry cX5_isEntry 2 (some .boolean) :: ([.fieldLink RX5 46 "FollowrowModel" "entries" "I", .methodLink RX5 42 yX5_in, .static yX5_in, .initialized RX5, .code yX5_in cX5_in 3 (some .boolean)] ++ wsX50)
def wsX5_followersOf : List Cond := .code yX5_followersOf cX5_followersOf 4 (some .int) :: ([.fieldLink RX5 7 "FollowrowModel" "followed" "[Z"] ++ wsX50)
def wsX5_large : List Cond := .code yX5_large cX5_large 2 (some .boolean) :: ([.fieldLink RX5 29 "FollowrowModel" "mark" "I", .methodLink RX5 49 yX5_followersOf, .instanceMethod yX5_followersOf, .selects RX5 yX5_followersOf yX5_followersOf, .initialized RX5, .code yX5_followersOf cX5_followersOf 4 (some .int), .fieldLink RX5 7 "FollowrowModel" "followed" "[Z"] ++ wsX50)
def wsX5_isInRow : List Cond := .code yX5_isInRow cX5_isInRow 3 (some .boolean) :: ([.fieldLink RX5 36 "FollowrowModel" "floor" "[I", .fieldLink RX5 26 "FollowrowModel" "isGone" "[Z", .fieldLink RX5 7 "FollowrowModel" "followed" "[Z", .fieldLink RX5 19 "FollowrowModel" "author" "[I", .methodLink RX5 53 yX5_large, .instanceMethod yX5_large, .selects RX5 yX5_large yX5_large, .initialized RX5, .code yX5_large cX5_large 2 (some .boolean), .fieldLink RX5 29 "FollowrowModel" "mark" "I", .methodLink RX5 49 yX5_followersOf, .instanceMethod yX5_followersOf, .selects RX5 yX5_followersOf yX5_followersOf, .code yX5_followersOf cX5_followersOf 4 (some .int)] ++ wsX50)
def wsX5_rowLength : List Cond := .code yX5_rowLength cX5_rowLength 4 (some .int) :: ([.fieldLink RX5 46 "FollowrowModel" "entries" "I", .methodLink RX5 57 yX5_isInRow, .instanceMethod yX5_isInRow, .selects RX5 yX5_isInRow yX5_isInRow, .initialized RX5, .code yX5_isInRow cX5_isInRow 3 (some .boolean), .fieldLink RX5 36 "FollowrowModel" "floor" "[I", .fieldLink RX5 26 "FollowrowModel" "isGone" "[Z", .fieldLink RX5 7 "FollowrowModel" "followed" "[Z", .fieldLink RX5 19 "FollowrowModel" "author" "[I", .methodLink RX5 53 yX5_large, .instanceMethod yX5_large, .selects RX5 yX5_large yX5_large, .code yX5_large cX5_large 2 (some .boolean), .fieldLink RX5 29 "FollowrowModel" "mark" "I", .methodLink RX5 49 yX5_followersOf, .instanceMethod yX5_followersOf, .selects RX5 yX5_followersOf yX5_followersOf, .code yX5_followersOf cX5_followersOf 4 (some .int)] ++ wsX50)
def wsX5_cuts : List Cond := .code yX5_cuts cX5_cuts 4 none :: ([.fieldLink RX5 33 "FollowrowModel" "room" "I", .fieldLink RX5 46 "FollowrowModel" "entries" "I", .fieldLink RX5 36 "FollowrowModel" "floor" "[I", .methodLink RX5 61 yX5_rowLength, .instanceMethod yX5_rowLength, .selects RX5 yX5_rowLength yX5_rowLength, .initialized RX5, .code yX5_rowLength cX5_rowLength 4 (some .int), .methodLink RX5 57 yX5_isInRow, .instanceMethod yX5_isInRow, .selects RX5 yX5_isInRow yX5_isInRow, .code yX5_isInRow cX5_isInRow 3 (some .boolean), .fieldLink RX5 26 "FollowrowModel" "isGone" "[Z", .fieldLink RX5 7 "FollowrowModel" "followed" "[Z", .fieldLink RX5 19 "FollowrowModel" "author" "[I", .methodLink RX5 53 yX5_large, .instanceMethod yX5_large, .selects RX5 yX5_large yX5_large, .code yX5_large cX5_large 2 (some .boolean), .fieldLink RX5 29 "FollowrowModel" "mark" "I", .methodLink RX5 49 yX5_followersOf, .instanceMethod yX5_followersOf, .selects RX5 yX5_followersOf yX5_followersOf, .code yX5_followersOf cX5_followersOf 4 (some .int)] ++ wsX50)
def wsX5_follow_r1 : List Cond := [Cond.fieldLink RX5 7 "FollowrowModel" "followed" "[Z", Cond.fieldLink RX5 16 "FollowrowModel" "blocked" "[Z", Cond.methodLink RX5 64 yX5_isOne, Cond.static yX5_isOne, Cond.initialized RX5, Cond.code yX5_isOne cX5_isOne 1 (some .boolean), Cond.methodLink RX5 42 yX5_in, Cond.static yX5_in, Cond.code yX5_in cX5_in 3 (some .boolean), Cond.methodLink RX5 67 yX5_isFine, Cond.instanceMethod yX5_isFine, Cond.selects RX5 yX5_isFine yX5_isFine, Cond.code yX5_isFine cX5_isFine 2 (some .boolean), Cond.fieldLink RX5 39 "FollowrowModel" "thrown" "I", Cond.methodLink RX5 70 yX5_cuts, Cond.instanceMethod yX5_cuts, Cond.selects RX5 yX5_cuts yX5_cuts, Cond.code yX5_cuts cX5_cuts 4 none, Cond.fieldLink RX5 33 "FollowrowModel" "room" "I", Cond.fieldLink RX5 46 "FollowrowModel" "entries" "I", Cond.fieldLink RX5 36 "FollowrowModel" "floor" "[I", Cond.methodLink RX5 61 yX5_rowLength, Cond.instanceMethod yX5_rowLength, Cond.selects RX5 yX5_rowLength yX5_rowLength]
def wsX5_follow_r2 : List Cond := [Cond.code yX5_rowLength cX5_rowLength 4 (some .int), Cond.methodLink RX5 57 yX5_isInRow, Cond.instanceMethod yX5_isInRow, Cond.selects RX5 yX5_isInRow yX5_isInRow, Cond.code yX5_isInRow cX5_isInRow 3 (some .boolean), Cond.fieldLink RX5 26 "FollowrowModel" "isGone" "[Z", Cond.fieldLink RX5 19 "FollowrowModel" "author" "[I", Cond.methodLink RX5 53 yX5_large, Cond.instanceMethod yX5_large, Cond.selects RX5 yX5_large yX5_large, Cond.code yX5_large cX5_large 2 (some .boolean), Cond.fieldLink RX5 29 "FollowrowModel" "mark" "I", Cond.methodLink RX5 49 yX5_followersOf, Cond.instanceMethod yX5_followersOf, Cond.selects RX5 yX5_followersOf yX5_followersOf, Cond.code yX5_followersOf cX5_followersOf 4 (some .int)]
def wsX5_follow : List Cond := .code yX5_follow cX5_follow 4 (some .int) :: ((wsX5_follow_r1 ++ wsX5_follow_r2) ++ wsX50)
def wsX5_unfollow_r1 : List Cond := [Cond.fieldLink RX5 7 "FollowrowModel" "followed" "[Z", Cond.methodLink RX5 64 yX5_isOne, Cond.static yX5_isOne, Cond.initialized RX5, Cond.code yX5_isOne cX5_isOne 1 (some .boolean), Cond.methodLink RX5 42 yX5_in, Cond.static yX5_in, Cond.code yX5_in cX5_in 3 (some .boolean), Cond.methodLink RX5 67 yX5_isFine, Cond.instanceMethod yX5_isFine, Cond.selects RX5 yX5_isFine yX5_isFine, Cond.code yX5_isFine cX5_isFine 2 (some .boolean), Cond.fieldLink RX5 39 "FollowrowModel" "thrown" "I", Cond.methodLink RX5 70 yX5_cuts, Cond.instanceMethod yX5_cuts, Cond.selects RX5 yX5_cuts yX5_cuts, Cond.code yX5_cuts cX5_cuts 4 none, Cond.fieldLink RX5 33 "FollowrowModel" "room" "I", Cond.fieldLink RX5 46 "FollowrowModel" "entries" "I", Cond.fieldLink RX5 36 "FollowrowModel" "floor" "[I", Cond.methodLink RX5 61 yX5_rowLength, Cond.instanceMethod yX5_rowLength, Cond.selects RX5 yX5_rowLength yX5_rowLength, Cond.code yX5_rowLength cX5_rowLength 4 (some .int)]
def wsX5_unfollow_r2 : List Cond := [Cond.methodLink RX5 57 yX5_isInRow, Cond.instanceMethod yX5_isInRow, Cond.selects RX5 yX5_isInRow yX5_isInRow, Cond.code yX5_isInRow cX5_isInRow 3 (some .boolean), Cond.fieldLink RX5 26 "FollowrowModel" "isGone" "[Z", Cond.fieldLink RX5 19 "FollowrowModel" "author" "[I", Cond.methodLink RX5 53 yX5_large, Cond.instanceMethod yX5_large, Cond.selects RX5 yX5_large yX5_large, Cond.code yX5_large cX5_large 2 (some .boolean), Cond.fieldLink RX5 29 "FollowrowModel" "mark" "I", Cond.methodLink RX5 49 yX5_followersOf, Cond.instanceMethod yX5_followersOf, Cond.selects RX5 yX5_followersOf yX5_followersOf, Cond.code yX5_followersOf cX5_followersOf 4 (some .int)]
def wsX5_unfollow : List Cond := .code yX5_unfollow cX5_unfollow 4 (some .int) :: ((wsX5_unfollow_r1 ++ wsX5_unfollow_r2) ++ wsX50)
def wsX5_mute : List Cond := .code yX5_mute cX5_mute 5 (some .boolean) :: ([.fieldLink RX5 13 "FollowrowModel" "muted" "[Z", .methodLink RX5 64 yX5_isOne, .static yX5_isOne, .initialized RX5, .code yX5_isOne cX5_isOne 1 (some .boolean), .methodLink RX5 42 yX5_in, .static yX5_in, .code yX5_in cX5_in 3 (some .boolean), .methodLink RX5 67 yX5_isFine, .instanceMethod yX5_isFine, .selects RX5 yX5_isFine yX5_isFine, .code yX5_isFine cX5_isFine 2 (some .boolean), .fieldLink RX5 39 "FollowrowModel" "thrown" "I"] ++ wsX50)
def wsX5_block_r1 : List Cond := [Cond.fieldLink RX5 16 "FollowrowModel" "blocked" "[Z", Cond.fieldLink RX5 7 "FollowrowModel" "followed" "[Z", Cond.methodLink RX5 64 yX5_isOne, Cond.static yX5_isOne, Cond.initialized RX5, Cond.code yX5_isOne cX5_isOne 1 (some .boolean), Cond.methodLink RX5 42 yX5_in, Cond.static yX5_in, Cond.code yX5_in cX5_in 3 (some .boolean), Cond.methodLink RX5 67 yX5_isFine, Cond.instanceMethod yX5_isFine, Cond.selects RX5 yX5_isFine yX5_isFine, Cond.code yX5_isFine cX5_isFine 2 (some .boolean), Cond.fieldLink RX5 39 "FollowrowModel" "thrown" "I", Cond.methodLink RX5 70 yX5_cuts, Cond.instanceMethod yX5_cuts, Cond.selects RX5 yX5_cuts yX5_cuts, Cond.code yX5_cuts cX5_cuts 4 none, Cond.fieldLink RX5 33 "FollowrowModel" "room" "I", Cond.fieldLink RX5 46 "FollowrowModel" "entries" "I", Cond.fieldLink RX5 36 "FollowrowModel" "floor" "[I", Cond.methodLink RX5 61 yX5_rowLength, Cond.instanceMethod yX5_rowLength, Cond.selects RX5 yX5_rowLength yX5_rowLength]
def wsX5_block_r2 : List Cond := [Cond.code yX5_rowLength cX5_rowLength 4 (some .int), Cond.methodLink RX5 57 yX5_isInRow, Cond.instanceMethod yX5_isInRow, Cond.selects RX5 yX5_isInRow yX5_isInRow, Cond.code yX5_isInRow cX5_isInRow 3 (some .boolean), Cond.fieldLink RX5 26 "FollowrowModel" "isGone" "[Z", Cond.fieldLink RX5 19 "FollowrowModel" "author" "[I", Cond.methodLink RX5 53 yX5_large, Cond.instanceMethod yX5_large, Cond.selects RX5 yX5_large yX5_large, Cond.code yX5_large cX5_large 2 (some .boolean), Cond.fieldLink RX5 29 "FollowrowModel" "mark" "I", Cond.methodLink RX5 49 yX5_followersOf, Cond.instanceMethod yX5_followersOf, Cond.selects RX5 yX5_followersOf yX5_followersOf, Cond.code yX5_followersOf cX5_followersOf 4 (some .int)]
def wsX5_block : List Cond := .code yX5_block cX5_block 5 (some .boolean) :: ((wsX5_block_r1 ++ wsX5_block_r2) ++ wsX50)
def wsX5_makes_r1 : List Cond := [Cond.fieldLink RX5 19 "FollowrowModel" "author" "[I", Cond.fieldLink RX5 46 "FollowrowModel" "entries" "I", Cond.fieldLink RX5 23 "FollowrowModel" "origin" "[I", Cond.methodLink RX5 70 yX5_cuts, Cond.instanceMethod yX5_cuts, Cond.selects RX5 yX5_cuts yX5_cuts, Cond.initialized RX5, Cond.code yX5_cuts cX5_cuts 4 none, Cond.fieldLink RX5 33 "FollowrowModel" "room" "I", Cond.fieldLink RX5 36 "FollowrowModel" "floor" "[I", Cond.methodLink RX5 61 yX5_rowLength, Cond.instanceMethod yX5_rowLength, Cond.selects RX5 yX5_rowLength yX5_rowLength, Cond.code yX5_rowLength cX5_rowLength 4 (some .int), Cond.methodLink RX5 57 yX5_isInRow, Cond.instanceMethod yX5_isInRow, Cond.selects RX5 yX5_isInRow yX5_isInRow, Cond.code yX5_isInRow cX5_isInRow 3 (some .boolean), Cond.fieldLink RX5 26 "FollowrowModel" "isGone" "[Z", Cond.fieldLink RX5 7 "FollowrowModel" "followed" "[Z", Cond.methodLink RX5 53 yX5_large, Cond.instanceMethod yX5_large, Cond.selects RX5 yX5_large yX5_large, Cond.code yX5_large cX5_large 2 (some .boolean)]
def wsX5_makes_r2 : List Cond := [Cond.fieldLink RX5 29 "FollowrowModel" "mark" "I", Cond.methodLink RX5 49 yX5_followersOf, Cond.instanceMethod yX5_followersOf, Cond.selects RX5 yX5_followersOf yX5_followersOf, Cond.code yX5_followersOf cX5_followersOf 4 (some .int)]
def wsX5_makes : List Cond := .code yX5_makes cX5_makes 3 (some .int) :: ((wsX5_makes_r1 ++ wsX5_makes_r2) ++ wsX50)
def wsX5_post_r1 : List Cond := [Cond.fieldLink RX5 46 "FollowrowModel" "entries" "I", Cond.methodLink RX5 64 yX5_isOne, Cond.static yX5_isOne, Cond.initialized RX5, Cond.code yX5_isOne cX5_isOne 1 (some .boolean), Cond.methodLink RX5 42 yX5_in, Cond.static yX5_in, Cond.code yX5_in cX5_in 3 (some .boolean), Cond.methodLink RX5 67 yX5_isFine, Cond.instanceMethod yX5_isFine, Cond.selects RX5 yX5_isFine yX5_isFine, Cond.code yX5_isFine cX5_isFine 2 (some .boolean), Cond.fieldLink RX5 39 "FollowrowModel" "thrown" "I", Cond.methodLink RX5 73 yX5_makes, Cond.instanceMethod yX5_makes, Cond.selects RX5 yX5_makes yX5_makes, Cond.code yX5_makes cX5_makes 3 (some .int), Cond.fieldLink RX5 19 "FollowrowModel" "author" "[I", Cond.fieldLink RX5 23 "FollowrowModel" "origin" "[I", Cond.methodLink RX5 70 yX5_cuts, Cond.instanceMethod yX5_cuts, Cond.selects RX5 yX5_cuts yX5_cuts, Cond.code yX5_cuts cX5_cuts 4 none, Cond.fieldLink RX5 33 "FollowrowModel" "room" "I"]
def wsX5_post_r2 : List Cond := [Cond.fieldLink RX5 36 "FollowrowModel" "floor" "[I", Cond.methodLink RX5 61 yX5_rowLength, Cond.instanceMethod yX5_rowLength, Cond.selects RX5 yX5_rowLength yX5_rowLength, Cond.code yX5_rowLength cX5_rowLength 4 (some .int), Cond.methodLink RX5 57 yX5_isInRow, Cond.instanceMethod yX5_isInRow, Cond.selects RX5 yX5_isInRow yX5_isInRow, Cond.code yX5_isInRow cX5_isInRow 3 (some .boolean), Cond.fieldLink RX5 26 "FollowrowModel" "isGone" "[Z", Cond.fieldLink RX5 7 "FollowrowModel" "followed" "[Z", Cond.methodLink RX5 53 yX5_large, Cond.instanceMethod yX5_large, Cond.selects RX5 yX5_large yX5_large, Cond.code yX5_large cX5_large 2 (some .boolean), Cond.fieldLink RX5 29 "FollowrowModel" "mark" "I", Cond.methodLink RX5 49 yX5_followersOf, Cond.instanceMethod yX5_followersOf, Cond.selects RX5 yX5_followersOf yX5_followersOf, Cond.code yX5_followersOf cX5_followersOf 4 (some .int)]
def wsX5_post : List Cond := .code yX5_post cX5_post 2 (some .int) :: ((wsX5_post_r1 ++ wsX5_post_r2) ++ wsX50)
def wsX5_repost_r1 : List Cond := [Cond.fieldLink RX5 46 "FollowrowModel" "entries" "I", Cond.fieldLink RX5 26 "FollowrowModel" "isGone" "[Z", Cond.fieldLink RX5 23 "FollowrowModel" "origin" "[I", Cond.fieldLink RX5 16 "FollowrowModel" "blocked" "[Z", Cond.fieldLink RX5 19 "FollowrowModel" "author" "[I", Cond.methodLink RX5 64 yX5_isOne, Cond.static yX5_isOne, Cond.initialized RX5, Cond.code yX5_isOne cX5_isOne 1 (some .boolean), Cond.methodLink RX5 42 yX5_in, Cond.static yX5_in, Cond.code yX5_in cX5_in 3 (some .boolean), Cond.methodLink RX5 77 yX5_isEntry, Cond.instanceMethod yX5_isEntry, Cond.selects RX5 yX5_isEntry yX5_isEntry, Cond.code yX5_isEntry cX5_isEntry 2 (some .boolean), Cond.methodLink RX5 67 yX5_isFine, Cond.instanceMethod yX5_isFine, Cond.selects RX5 yX5_isFine yX5_isFine, Cond.code yX5_isFine cX5_isFine 2 (some .boolean), Cond.fieldLink RX5 39 "FollowrowModel" "thrown" "I", Cond.methodLink RX5 73 yX5_makes, Cond.instanceMethod yX5_makes, Cond.selects RX5 yX5_makes yX5_makes]
def wsX5_repost_r2 : List Cond := [Cond.code yX5_makes cX5_makes 3 (some .int), Cond.methodLink RX5 70 yX5_cuts, Cond.instanceMethod yX5_cuts, Cond.selects RX5 yX5_cuts yX5_cuts, Cond.code yX5_cuts cX5_cuts 4 none, Cond.fieldLink RX5 33 "FollowrowModel" "room" "I", Cond.fieldLink RX5 36 "FollowrowModel" "floor" "[I", Cond.methodLink RX5 61 yX5_rowLength, Cond.instanceMethod yX5_rowLength, Cond.selects RX5 yX5_rowLength yX5_rowLength, Cond.code yX5_rowLength cX5_rowLength 4 (some .int), Cond.methodLink RX5 57 yX5_isInRow, Cond.instanceMethod yX5_isInRow, Cond.selects RX5 yX5_isInRow yX5_isInRow, Cond.code yX5_isInRow cX5_isInRow 3 (some .boolean), Cond.fieldLink RX5 7 "FollowrowModel" "followed" "[Z", Cond.methodLink RX5 53 yX5_large, Cond.instanceMethod yX5_large, Cond.selects RX5 yX5_large yX5_large, Cond.code yX5_large cX5_large 2 (some .boolean), Cond.fieldLink RX5 29 "FollowrowModel" "mark" "I", Cond.methodLink RX5 49 yX5_followersOf, Cond.instanceMethod yX5_followersOf, Cond.selects RX5 yX5_followersOf yX5_followersOf]
def wsX5_repost_r3 : List Cond := [Cond.code yX5_followersOf cX5_followersOf 4 (some .int)]
def wsX5_repost : List Cond := .code yX5_repost cX5_repost 4 (some .int) :: ((wsX5_repost_r1 ++ (wsX5_repost_r2 ++ wsX5_repost_r3)) ++ wsX50)
def wsX5_delete_r1 : List Cond := [Cond.fieldLink RX5 26 "FollowrowModel" "isGone" "[Z", Cond.fieldLink RX5 46 "FollowrowModel" "entries" "I", Cond.fieldLink RX5 23 "FollowrowModel" "origin" "[I", Cond.methodLink RX5 77 yX5_isEntry, Cond.instanceMethod yX5_isEntry, Cond.selects RX5 yX5_isEntry yX5_isEntry, Cond.initialized RX5, Cond.code yX5_isEntry cX5_isEntry 2 (some .boolean), Cond.methodLink RX5 42 yX5_in, Cond.static yX5_in, Cond.code yX5_in cX5_in 3 (some .boolean), Cond.methodLink RX5 67 yX5_isFine, Cond.instanceMethod yX5_isFine, Cond.selects RX5 yX5_isFine yX5_isFine, Cond.code yX5_isFine cX5_isFine 2 (some .boolean), Cond.fieldLink RX5 39 "FollowrowModel" "thrown" "I", Cond.methodLink RX5 70 yX5_cuts, Cond.instanceMethod yX5_cuts, Cond.selects RX5 yX5_cuts yX5_cuts, Cond.code yX5_cuts cX5_cuts 4 none, Cond.fieldLink RX5 33 "FollowrowModel" "room" "I", Cond.fieldLink RX5 36 "FollowrowModel" "floor" "[I", Cond.methodLink RX5 61 yX5_rowLength, Cond.instanceMethod yX5_rowLength]
def wsX5_delete_r2 : List Cond := [Cond.selects RX5 yX5_rowLength yX5_rowLength, Cond.code yX5_rowLength cX5_rowLength 4 (some .int), Cond.methodLink RX5 57 yX5_isInRow, Cond.instanceMethod yX5_isInRow, Cond.selects RX5 yX5_isInRow yX5_isInRow, Cond.code yX5_isInRow cX5_isInRow 3 (some .boolean), Cond.fieldLink RX5 7 "FollowrowModel" "followed" "[Z", Cond.fieldLink RX5 19 "FollowrowModel" "author" "[I", Cond.methodLink RX5 53 yX5_large, Cond.instanceMethod yX5_large, Cond.selects RX5 yX5_large yX5_large, Cond.code yX5_large cX5_large 2 (some .boolean), Cond.fieldLink RX5 29 "FollowrowModel" "mark" "I", Cond.methodLink RX5 49 yX5_followersOf, Cond.instanceMethod yX5_followersOf, Cond.selects RX5 yX5_followersOf yX5_followersOf, Cond.code yX5_followersOf cX5_followersOf 4 (some .int)]
def wsX5_delete : List Cond := .code yX5_delete cX5_delete 4 (some .int) :: ((wsX5_delete_r1 ++ wsX5_delete_r2) ++ wsX50)
def wsX5_setMark_r1 : List Cond := [Cond.fieldLink RX5 29 "FollowrowModel" "mark" "I", Cond.methodLink RX5 42 yX5_in, Cond.static yX5_in, Cond.initialized RX5, Cond.code yX5_in cX5_in 3 (some .boolean), Cond.methodLink RX5 67 yX5_isFine, Cond.instanceMethod yX5_isFine, Cond.selects RX5 yX5_isFine yX5_isFine, Cond.code yX5_isFine cX5_isFine 2 (some .boolean), Cond.fieldLink RX5 39 "FollowrowModel" "thrown" "I", Cond.methodLink RX5 70 yX5_cuts, Cond.instanceMethod yX5_cuts, Cond.selects RX5 yX5_cuts yX5_cuts, Cond.code yX5_cuts cX5_cuts 4 none, Cond.fieldLink RX5 33 "FollowrowModel" "room" "I", Cond.fieldLink RX5 46 "FollowrowModel" "entries" "I", Cond.fieldLink RX5 36 "FollowrowModel" "floor" "[I", Cond.methodLink RX5 61 yX5_rowLength, Cond.instanceMethod yX5_rowLength, Cond.selects RX5 yX5_rowLength yX5_rowLength, Cond.code yX5_rowLength cX5_rowLength 4 (some .int), Cond.methodLink RX5 57 yX5_isInRow, Cond.instanceMethod yX5_isInRow, Cond.selects RX5 yX5_isInRow yX5_isInRow]
def wsX5_setMark_r2 : List Cond := [Cond.code yX5_isInRow cX5_isInRow 3 (some .boolean), Cond.fieldLink RX5 26 "FollowrowModel" "isGone" "[Z", Cond.fieldLink RX5 7 "FollowrowModel" "followed" "[Z", Cond.fieldLink RX5 19 "FollowrowModel" "author" "[I", Cond.methodLink RX5 53 yX5_large, Cond.instanceMethod yX5_large, Cond.selects RX5 yX5_large yX5_large, Cond.code yX5_large cX5_large 2 (some .boolean), Cond.methodLink RX5 49 yX5_followersOf, Cond.instanceMethod yX5_followersOf, Cond.selects RX5 yX5_followersOf yX5_followersOf, Cond.code yX5_followersOf cX5_followersOf 4 (some .int)]
def wsX5_setMark : List Cond := .code yX5_setMark cX5_setMark 4 (some .int) :: ((wsX5_setMark_r1 ++ wsX5_setMark_r2) ++ wsX50)
def wsX5_setRoom_r1 : List Cond := [Cond.fieldLink RX5 33 "FollowrowModel" "room" "I", Cond.methodLink RX5 42 yX5_in, Cond.static yX5_in, Cond.initialized RX5, Cond.code yX5_in cX5_in 3 (some .boolean), Cond.methodLink RX5 67 yX5_isFine, Cond.instanceMethod yX5_isFine, Cond.selects RX5 yX5_isFine yX5_isFine, Cond.code yX5_isFine cX5_isFine 2 (some .boolean), Cond.fieldLink RX5 39 "FollowrowModel" "thrown" "I", Cond.methodLink RX5 70 yX5_cuts, Cond.instanceMethod yX5_cuts, Cond.selects RX5 yX5_cuts yX5_cuts, Cond.code yX5_cuts cX5_cuts 4 none, Cond.fieldLink RX5 46 "FollowrowModel" "entries" "I", Cond.fieldLink RX5 36 "FollowrowModel" "floor" "[I", Cond.methodLink RX5 61 yX5_rowLength, Cond.instanceMethod yX5_rowLength, Cond.selects RX5 yX5_rowLength yX5_rowLength, Cond.code yX5_rowLength cX5_rowLength 4 (some .int), Cond.methodLink RX5 57 yX5_isInRow, Cond.instanceMethod yX5_isInRow, Cond.selects RX5 yX5_isInRow yX5_isInRow, Cond.code yX5_isInRow cX5_isInRow 3 (some .boolean)]
def wsX5_setRoom_r2 : List Cond := [Cond.fieldLink RX5 26 "FollowrowModel" "isGone" "[Z", Cond.fieldLink RX5 7 "FollowrowModel" "followed" "[Z", Cond.fieldLink RX5 19 "FollowrowModel" "author" "[I", Cond.methodLink RX5 53 yX5_large, Cond.instanceMethod yX5_large, Cond.selects RX5 yX5_large yX5_large, Cond.code yX5_large cX5_large 2 (some .boolean), Cond.fieldLink RX5 29 "FollowrowModel" "mark" "I", Cond.methodLink RX5 49 yX5_followersOf, Cond.instanceMethod yX5_followersOf, Cond.selects RX5 yX5_followersOf yX5_followersOf, Cond.code yX5_followersOf cX5_followersOf 4 (some .int)]
def wsX5_setRoom : List Cond := .code yX5_setRoom cX5_setRoom 3 (some .int) :: ((wsX5_setRoom_r1 ++ wsX5_setRoom_r2) ++ wsX50)
def wsX5_entries : List Cond := .code yX5_entries cX5_entries 1 (some .int) :: ([.fieldLink RX5 39 "FollowrowModel" "thrown" "I", .fieldLink RX5 46 "FollowrowModel" "entries" "I"] ++ wsX50)
def wsX5_authorOf : List Cond := .code yX5_authorOf cX5_authorOf 2 (some .int) :: ([.fieldLink RX5 19 "FollowrowModel" "author" "[I", .methodLink RX5 77 yX5_isEntry, .instanceMethod yX5_isEntry, .selects RX5 yX5_isEntry yX5_isEntry, .initialized RX5, .code yX5_isEntry cX5_isEntry 2 (some .boolean), .fieldLink RX5 46 "FollowrowModel" "entries" "I", .methodLink RX5 42 yX5_in, .static yX5_in, .code yX5_in cX5_in 3 (some .boolean), .methodLink RX5 67 yX5_isFine, .instanceMethod yX5_isFine, .selects RX5 yX5_isFine yX5_isFine, .code yX5_isFine cX5_isFine 2 (some .boolean), .fieldLink RX5 39 "FollowrowModel" "thrown" "I"] ++ wsX50)
def wsX5_originOf : List Cond := .code yX5_originOf cX5_originOf 2 (some .int) :: ([.fieldLink RX5 23 "FollowrowModel" "origin" "[I", .methodLink RX5 77 yX5_isEntry, .instanceMethod yX5_isEntry, .selects RX5 yX5_isEntry yX5_isEntry, .initialized RX5, .code yX5_isEntry cX5_isEntry 2 (some .boolean), .fieldLink RX5 46 "FollowrowModel" "entries" "I", .methodLink RX5 42 yX5_in, .static yX5_in, .code yX5_in cX5_in 3 (some .boolean), .methodLink RX5 67 yX5_isFine, .instanceMethod yX5_isFine, .selects RX5 yX5_isFine yX5_isFine, .code yX5_isFine cX5_isFine 2 (some .boolean), .fieldLink RX5 39 "FollowrowModel" "thrown" "I"] ++ wsX50)
def wsX5_follows : List Cond := .code yX5_follows cX5_follows 3 (some .boolean) :: ([.fieldLink RX5 7 "FollowrowModel" "followed" "[Z", .methodLink RX5 64 yX5_isOne, .static yX5_isOne, .initialized RX5, .code yX5_isOne cX5_isOne 1 (some .boolean), .methodLink RX5 42 yX5_in, .static yX5_in, .code yX5_in cX5_in 3 (some .boolean), .methodLink RX5 67 yX5_isFine, .instanceMethod yX5_isFine, .selects RX5 yX5_isFine yX5_isFine, .code yX5_isFine cX5_isFine 2 (some .boolean), .fieldLink RX5 39 "FollowrowModel" "thrown" "I"] ++ wsX50)
def wsX5_followers : List Cond := .code yX5_followers cX5_followers 2 (some .int) :: ([.methodLink RX5 64 yX5_isOne, .static yX5_isOne, .initialized RX5, .code yX5_isOne cX5_isOne 1 (some .boolean), .methodLink RX5 42 yX5_in, .static yX5_in, .code yX5_in cX5_in 3 (some .boolean), .methodLink RX5 67 yX5_isFine, .instanceMethod yX5_isFine, .selects RX5 yX5_isFine yX5_isFine, .code yX5_isFine cX5_isFine 2 (some .boolean), .fieldLink RX5 39 "FollowrowModel" "thrown" "I", .methodLink RX5 49 yX5_followersOf, .instanceMethod yX5_followersOf, .selects RX5 yX5_followersOf yX5_followersOf, .code yX5_followersOf cX5_followersOf 4 (some .int), .fieldLink RX5 7 "FollowrowModel" "followed" "[Z"] ++ wsX50)
def wsX5_isLarge : List Cond := .code yX5_isLarge cX5_isLarge 2 (some .boolean) :: ([.methodLink RX5 64 yX5_isOne, .static yX5_isOne, .initialized RX5, .code yX5_isOne cX5_isOne 1 (some .boolean), .methodLink RX5 42 yX5_in, .static yX5_in, .code yX5_in cX5_in 3 (some .boolean), .methodLink RX5 67 yX5_isFine, .instanceMethod yX5_isFine, .selects RX5 yX5_isFine yX5_isFine, .code yX5_isFine cX5_isFine 2 (some .boolean), .fieldLink RX5 39 "FollowrowModel" "thrown" "I", .methodLink RX5 53 yX5_large, .instanceMethod yX5_large, .selects RX5 yX5_large yX5_large, .code yX5_large cX5_large 2 (some .boolean), .fieldLink RX5 29 "FollowrowModel" "mark" "I", .methodLink RX5 49 yX5_followersOf, .instanceMethod yX5_followersOf, .selects RX5 yX5_followersOf yX5_followersOf, .code yX5_followersOf cX5_followersOf 4 (some .int), .fieldLink RX5 7 "FollowrowModel" "followed" "[Z"] ++ wsX50)
def wsX5_inRow_r1 : List Cond := [Cond.methodLink RX5 64 yX5_isOne, Cond.static yX5_isOne, Cond.initialized RX5, Cond.code yX5_isOne cX5_isOne 1 (some .boolean), Cond.methodLink RX5 42 yX5_in, Cond.static yX5_in, Cond.code yX5_in cX5_in 3 (some .boolean), Cond.methodLink RX5 67 yX5_isFine, Cond.instanceMethod yX5_isFine, Cond.selects RX5 yX5_isFine yX5_isFine, Cond.code yX5_isFine cX5_isFine 2 (some .boolean), Cond.fieldLink RX5 39 "FollowrowModel" "thrown" "I", Cond.methodLink RX5 61 yX5_rowLength, Cond.instanceMethod yX5_rowLength, Cond.selects RX5 yX5_rowLength yX5_rowLength, Cond.code yX5_rowLength cX5_rowLength 4 (some .int), Cond.fieldLink RX5 46 "FollowrowModel" "entries" "I", Cond.methodLink RX5 57 yX5_isInRow, Cond.instanceMethod yX5_isInRow, Cond.selects RX5 yX5_isInRow yX5_isInRow, Cond.code yX5_isInRow cX5_isInRow 3 (some .boolean), Cond.fieldLink RX5 36 "FollowrowModel" "floor" "[I", Cond.fieldLink RX5 26 "FollowrowModel" "isGone" "[Z", Cond.fieldLink RX5 7 "FollowrowModel" "followed" "[Z"]
def wsX5_inRow_r2 : List Cond := [Cond.fieldLink RX5 19 "FollowrowModel" "author" "[I", Cond.methodLink RX5 53 yX5_large, Cond.instanceMethod yX5_large, Cond.selects RX5 yX5_large yX5_large, Cond.code yX5_large cX5_large 2 (some .boolean), Cond.fieldLink RX5 29 "FollowrowModel" "mark" "I", Cond.methodLink RX5 49 yX5_followersOf, Cond.instanceMethod yX5_followersOf, Cond.selects RX5 yX5_followersOf yX5_followersOf, Cond.code yX5_followersOf cX5_followersOf 4 (some .int)]
def wsX5_inRow : List Cond := .code yX5_inRow cX5_inRow 2 (some .int) :: ((wsX5_inRow_r1 ++ wsX5_inRow_r2) ++ wsX50)
def wsX5_rowAt_r1 : List Cond := [Cond.methodLink RX5 64 yX5_isOne, Cond.static yX5_isOne, Cond.initialized RX5, Cond.code yX5_isOne cX5_isOne 1 (some .boolean), Cond.methodLink RX5 42 yX5_in, Cond.static yX5_in, Cond.code yX5_in cX5_in 3 (some .boolean), Cond.methodLink RX5 61 yX5_rowLength, Cond.instanceMethod yX5_rowLength, Cond.selects RX5 yX5_rowLength yX5_rowLength, Cond.code yX5_rowLength cX5_rowLength 4 (some .int), Cond.fieldLink RX5 46 "FollowrowModel" "entries" "I", Cond.methodLink RX5 57 yX5_isInRow, Cond.instanceMethod yX5_isInRow, Cond.selects RX5 yX5_isInRow yX5_isInRow, Cond.code yX5_isInRow cX5_isInRow 3 (some .boolean), Cond.fieldLink RX5 36 "FollowrowModel" "floor" "[I", Cond.fieldLink RX5 26 "FollowrowModel" "isGone" "[Z", Cond.fieldLink RX5 7 "FollowrowModel" "followed" "[Z", Cond.fieldLink RX5 19 "FollowrowModel" "author" "[I", Cond.methodLink RX5 53 yX5_large, Cond.instanceMethod yX5_large, Cond.selects RX5 yX5_large yX5_large, Cond.code yX5_large cX5_large 2 (some .boolean)]
def wsX5_rowAt_r2 : List Cond := [Cond.fieldLink RX5 29 "FollowrowModel" "mark" "I", Cond.methodLink RX5 49 yX5_followersOf, Cond.instanceMethod yX5_followersOf, Cond.selects RX5 yX5_followersOf yX5_followersOf, Cond.code yX5_followersOf cX5_followersOf 4 (some .int), Cond.methodLink RX5 67 yX5_isFine, Cond.instanceMethod yX5_isFine, Cond.selects RX5 yX5_isFine yX5_isFine, Cond.code yX5_isFine cX5_isFine 2 (some .boolean), Cond.fieldLink RX5 39 "FollowrowModel" "thrown" "I"]
def wsX5_rowAt : List Cond := .code yX5_rowAt cX5_rowAt 5 (some .int) :: ((wsX5_rowAt_r1 ++ wsX5_rowAt_r2) ++ wsX50)
def wsX5_floorOf : List Cond := .code yX5_floorOf cX5_floorOf 2 (some .int) :: ([.fieldLink RX5 36 "FollowrowModel" "floor" "[I", .methodLink RX5 64 yX5_isOne, .static yX5_isOne, .initialized RX5, .code yX5_isOne cX5_isOne 1 (some .boolean), .methodLink RX5 42 yX5_in, .static yX5_in, .code yX5_in cX5_in 3 (some .boolean), .methodLink RX5 67 yX5_isFine, .instanceMethod yX5_isFine, .selects RX5 yX5_isFine yX5_isFine, .code yX5_isFine cX5_isFine 2 (some .boolean), .fieldLink RX5 39 "FollowrowModel" "thrown" "I"] ++ wsX50)
def wsX5_isDue : List Cond := .code yX5_isDue cX5_isDue 6 (some .boolean) :: ([.fieldLink RX5 19 "FollowrowModel" "author" "[I", .fieldLink RX5 23 "FollowrowModel" "origin" "[I", .fieldLink RX5 7 "FollowrowModel" "followed" "[Z", .fieldLink RX5 13 "FollowrowModel" "muted" "[Z", .fieldLink RX5 36 "FollowrowModel" "floor" "[I", .fieldLink RX5 26 "FollowrowModel" "isGone" "[Z", .fieldLink RX5 16 "FollowrowModel" "blocked" "[Z"] ++ wsX50)
def wsX5_isShown : List Cond := .code yX5_isShown cX5_isShown 5 (some .boolean) :: ([.fieldLink RX5 46 "FollowrowModel" "entries" "I", .fieldLink RX5 23 "FollowrowModel" "origin" "[I", .methodLink RX5 80 yX5_isDue, .instanceMethod yX5_isDue, .selects RX5 yX5_isDue yX5_isDue, .initialized RX5, .code yX5_isDue cX5_isDue 6 (some .boolean), .fieldLink RX5 19 "FollowrowModel" "author" "[I", .fieldLink RX5 7 "FollowrowModel" "followed" "[Z", .fieldLink RX5 13 "FollowrowModel" "muted" "[Z", .fieldLink RX5 36 "FollowrowModel" "floor" "[I", .fieldLink RX5 26 "FollowrowModel" "isGone" "[Z", .fieldLink RX5 16 "FollowrowModel" "blocked" "[Z"] ++ wsX50)
def wsX5_shows_r1 : List Cond := [Cond.methodLink RX5 64 yX5_isOne, Cond.static yX5_isOne, Cond.initialized RX5, Cond.code yX5_isOne cX5_isOne 1 (some .boolean), Cond.methodLink RX5 42 yX5_in, Cond.static yX5_in, Cond.code yX5_in cX5_in 3 (some .boolean), Cond.methodLink RX5 77 yX5_isEntry, Cond.instanceMethod yX5_isEntry, Cond.selects RX5 yX5_isEntry yX5_isEntry, Cond.code yX5_isEntry cX5_isEntry 2 (some .boolean), Cond.fieldLink RX5 46 "FollowrowModel" "entries" "I", Cond.methodLink RX5 67 yX5_isFine, Cond.instanceMethod yX5_isFine, Cond.selects RX5 yX5_isFine yX5_isFine, Cond.code yX5_isFine cX5_isFine 2 (some .boolean), Cond.fieldLink RX5 39 "FollowrowModel" "thrown" "I", Cond.methodLink RX5 83 yX5_isShown, Cond.instanceMethod yX5_isShown, Cond.selects RX5 yX5_isShown yX5_isShown, Cond.code yX5_isShown cX5_isShown 5 (some .boolean), Cond.fieldLink RX5 23 "FollowrowModel" "origin" "[I", Cond.methodLink RX5 80 yX5_isDue, Cond.instanceMethod yX5_isDue]
def wsX5_shows_r2 : List Cond := [Cond.selects RX5 yX5_isDue yX5_isDue, Cond.code yX5_isDue cX5_isDue 6 (some .boolean), Cond.fieldLink RX5 19 "FollowrowModel" "author" "[I", Cond.fieldLink RX5 7 "FollowrowModel" "followed" "[Z", Cond.fieldLink RX5 13 "FollowrowModel" "muted" "[Z", Cond.fieldLink RX5 36 "FollowrowModel" "floor" "[I", Cond.fieldLink RX5 26 "FollowrowModel" "isGone" "[Z", Cond.fieldLink RX5 16 "FollowrowModel" "blocked" "[Z"]
def wsX5_shows : List Cond := .code yX5_shows cX5_shows 3 (some .boolean) :: ((wsX5_shows_r1 ++ wsX5_shows_r2) ++ wsX50)
def wsX5_nextBelow : List Cond := .code yX5_nextBelow cX5_nextBelow 4 (some .int) :: ([.fieldLink RX5 46 "FollowrowModel" "entries" "I", .methodLink RX5 83 yX5_isShown, .instanceMethod yX5_isShown, .selects RX5 yX5_isShown yX5_isShown, .initialized RX5, .code yX5_isShown cX5_isShown 5 (some .boolean), .fieldLink RX5 23 "FollowrowModel" "origin" "[I", .methodLink RX5 80 yX5_isDue, .instanceMethod yX5_isDue, .selects RX5 yX5_isDue yX5_isDue, .code yX5_isDue cX5_isDue 6 (some .boolean), .fieldLink RX5 19 "FollowrowModel" "author" "[I", .fieldLink RX5 7 "FollowrowModel" "followed" "[Z", .fieldLink RX5 13 "FollowrowModel" "muted" "[Z", .fieldLink RX5 36 "FollowrowModel" "floor" "[I", .fieldLink RX5 26 "FollowrowModel" "isGone" "[Z", .fieldLink RX5 16 "FollowrowModel" "blocked" "[Z"] ++ wsX50)
def wsX5_next_r1 : List Cond := [Cond.methodLink RX5 64 yX5_isOne, Cond.static yX5_isOne, Cond.initialized RX5, Cond.code yX5_isOne cX5_isOne 1 (some .boolean), Cond.methodLink RX5 42 yX5_in, Cond.static yX5_in, Cond.code yX5_in cX5_in 3 (some .boolean), Cond.methodLink RX5 67 yX5_isFine, Cond.instanceMethod yX5_isFine, Cond.selects RX5 yX5_isFine yX5_isFine, Cond.code yX5_isFine cX5_isFine 2 (some .boolean), Cond.fieldLink RX5 39 "FollowrowModel" "thrown" "I", Cond.methodLink RX5 86 yX5_nextBelow, Cond.instanceMethod yX5_nextBelow, Cond.selects RX5 yX5_nextBelow yX5_nextBelow, Cond.code yX5_nextBelow cX5_nextBelow 4 (some .int), Cond.fieldLink RX5 46 "FollowrowModel" "entries" "I", Cond.methodLink RX5 83 yX5_isShown, Cond.instanceMethod yX5_isShown, Cond.selects RX5 yX5_isShown yX5_isShown, Cond.code yX5_isShown cX5_isShown 5 (some .boolean), Cond.fieldLink RX5 23 "FollowrowModel" "origin" "[I", Cond.methodLink RX5 80 yX5_isDue, Cond.instanceMethod yX5_isDue]
def wsX5_next_r2 : List Cond := [Cond.selects RX5 yX5_isDue yX5_isDue, Cond.code yX5_isDue cX5_isDue 6 (some .boolean), Cond.fieldLink RX5 19 "FollowrowModel" "author" "[I", Cond.fieldLink RX5 7 "FollowrowModel" "followed" "[Z", Cond.fieldLink RX5 13 "FollowrowModel" "muted" "[Z", Cond.fieldLink RX5 36 "FollowrowModel" "floor" "[I", Cond.fieldLink RX5 26 "FollowrowModel" "isGone" "[Z", Cond.fieldLink RX5 16 "FollowrowModel" "blocked" "[Z"]
def wsX5_next : List Cond := .code yX5_next cX5_next 3 (some .int) :: ((wsX5_next_r1 ++ wsX5_next_r2) ++ wsX50)
def wsX5_pageEnd_r1 : List Cond := [Cond.methodLink RX5 64 yX5_isOne, Cond.static yX5_isOne, Cond.initialized RX5, Cond.code yX5_isOne cX5_isOne 1 (some .boolean), Cond.methodLink RX5 42 yX5_in, Cond.static yX5_in, Cond.code yX5_in cX5_in 3 (some .boolean), Cond.methodLink RX5 67 yX5_isFine, Cond.instanceMethod yX5_isFine, Cond.selects RX5 yX5_isFine yX5_isFine, Cond.code yX5_isFine cX5_isFine 2 (some .boolean), Cond.fieldLink RX5 39 "FollowrowModel" "thrown" "I", Cond.methodLink RX5 86 yX5_nextBelow, Cond.instanceMethod yX5_nextBelow, Cond.selects RX5 yX5_nextBelow yX5_nextBelow, Cond.code yX5_nextBelow cX5_nextBelow 4 (some .int), Cond.fieldLink RX5 46 "FollowrowModel" "entries" "I", Cond.methodLink RX5 83 yX5_isShown, Cond.instanceMethod yX5_isShown, Cond.selects RX5 yX5_isShown yX5_isShown, Cond.code yX5_isShown cX5_isShown 5 (some .boolean), Cond.fieldLink RX5 23 "FollowrowModel" "origin" "[I", Cond.methodLink RX5 80 yX5_isDue, Cond.instanceMethod yX5_isDue]
def wsX5_pageEnd_r2 : List Cond := [Cond.selects RX5 yX5_isDue yX5_isDue, Cond.code yX5_isDue cX5_isDue 6 (some .boolean), Cond.fieldLink RX5 19 "FollowrowModel" "author" "[I", Cond.fieldLink RX5 7 "FollowrowModel" "followed" "[Z", Cond.fieldLink RX5 13 "FollowrowModel" "muted" "[Z", Cond.fieldLink RX5 36 "FollowrowModel" "floor" "[I", Cond.fieldLink RX5 26 "FollowrowModel" "isGone" "[Z", Cond.fieldLink RX5 16 "FollowrowModel" "blocked" "[Z"]
def wsX5_pageEnd : List Cond := .code yX5_pageEnd cX5_pageEnd 7 (some .int) :: ((wsX5_pageEnd_r1 ++ wsX5_pageEnd_r2) ++ wsX50)
def wsX5_length_r1 : List Cond := [Cond.fieldLink RX5 46 "FollowrowModel" "entries" "I", Cond.methodLink RX5 64 yX5_isOne, Cond.static yX5_isOne, Cond.initialized RX5, Cond.code yX5_isOne cX5_isOne 1 (some .boolean), Cond.methodLink RX5 42 yX5_in, Cond.static yX5_in, Cond.code yX5_in cX5_in 3 (some .boolean), Cond.methodLink RX5 67 yX5_isFine, Cond.instanceMethod yX5_isFine, Cond.selects RX5 yX5_isFine yX5_isFine, Cond.code yX5_isFine cX5_isFine 2 (some .boolean), Cond.fieldLink RX5 39 "FollowrowModel" "thrown" "I", Cond.methodLink RX5 83 yX5_isShown, Cond.instanceMethod yX5_isShown, Cond.selects RX5 yX5_isShown yX5_isShown, Cond.code yX5_isShown cX5_isShown 5 (some .boolean), Cond.fieldLink RX5 23 "FollowrowModel" "origin" "[I", Cond.methodLink RX5 80 yX5_isDue, Cond.instanceMethod yX5_isDue, Cond.selects RX5 yX5_isDue yX5_isDue, Cond.code yX5_isDue cX5_isDue 6 (some .boolean), Cond.fieldLink RX5 19 "FollowrowModel" "author" "[I", Cond.fieldLink RX5 7 "FollowrowModel" "followed" "[Z"]
def wsX5_length_r2 : List Cond := [Cond.fieldLink RX5 13 "FollowrowModel" "muted" "[Z", Cond.fieldLink RX5 36 "FollowrowModel" "floor" "[I", Cond.fieldLink RX5 26 "FollowrowModel" "isGone" "[Z", Cond.fieldLink RX5 16 "FollowrowModel" "blocked" "[Z"]
def wsX5_length : List Cond := .code yX5_length cX5_length 4 (some .int) :: ((wsX5_length_r1 ++ wsX5_length_r2) ++ wsX50)
def wsX5_lengthByMerging_r1 : List Cond := [Cond.methodLink RX5 89 yX5_length, Cond.instanceMethod yX5_length, Cond.selects RX5 yX5_length yX5_length, Cond.initialized RX5, Cond.code yX5_length cX5_length 4 (some .int), Cond.fieldLink RX5 46 "FollowrowModel" "entries" "I", Cond.methodLink RX5 64 yX5_isOne, Cond.static yX5_isOne, Cond.code yX5_isOne cX5_isOne 1 (some .boolean), Cond.methodLink RX5 42 yX5_in, Cond.static yX5_in, Cond.code yX5_in cX5_in 3 (some .boolean), Cond.methodLink RX5 67 yX5_isFine, Cond.instanceMethod yX5_isFine, Cond.selects RX5 yX5_isFine yX5_isFine, Cond.code yX5_isFine cX5_isFine 2 (some .boolean), Cond.fieldLink RX5 39 "FollowrowModel" "thrown" "I", Cond.methodLink RX5 83 yX5_isShown, Cond.instanceMethod yX5_isShown, Cond.selects RX5 yX5_isShown yX5_isShown, Cond.code yX5_isShown cX5_isShown 5 (some .boolean), Cond.fieldLink RX5 23 "FollowrowModel" "origin" "[I", Cond.methodLink RX5 80 yX5_isDue, Cond.instanceMethod yX5_isDue]
def wsX5_lengthByMerging_r2 : List Cond := [Cond.selects RX5 yX5_isDue yX5_isDue, Cond.code yX5_isDue cX5_isDue 6 (some .boolean), Cond.fieldLink RX5 19 "FollowrowModel" "author" "[I", Cond.fieldLink RX5 7 "FollowrowModel" "followed" "[Z", Cond.fieldLink RX5 13 "FollowrowModel" "muted" "[Z", Cond.fieldLink RX5 36 "FollowrowModel" "floor" "[I", Cond.fieldLink RX5 26 "FollowrowModel" "isGone" "[Z", Cond.fieldLink RX5 16 "FollowrowModel" "blocked" "[Z"]
def wsX5_lengthByMerging : List Cond := .code yX5_lengthByMerging cX5_lengthByMerging 2 (some .int) :: ((wsX5_lengthByMerging_r1 ++ wsX5_lengthByMerging_r2) ++ wsX50)
def wsX5_hasGap : List Cond := .code yX5_hasGap cX5_hasGap 4 (some .boolean) :: ([.fieldLink RX5 46 "FollowrowModel" "entries" "I", .fieldLink RX5 36 "FollowrowModel" "floor" "[I", .fieldLink RX5 26 "FollowrowModel" "isGone" "[Z", .fieldLink RX5 7 "FollowrowModel" "followed" "[Z", .fieldLink RX5 19 "FollowrowModel" "author" "[I", .methodLink RX5 64 yX5_isOne, .static yX5_isOne, .initialized RX5, .code yX5_isOne cX5_isOne 1 (some .boolean), .methodLink RX5 42 yX5_in, .static yX5_in, .code yX5_in cX5_in 3 (some .boolean), .methodLink RX5 67 yX5_isFine, .instanceMethod yX5_isFine, .selects RX5 yX5_isFine yX5_isFine, .code yX5_isFine cX5_isFine 2 (some .boolean), .fieldLink RX5 39 "FollowrowModel" "thrown" "I"] ++ wsX50)
def wsJ9_min_7cf53 : List Cond := .code yJ9_min_7cf53 cJ9_min_7cf53 2 (some .int) :: ([])
def wsL_follow_r1 : List Cond := [Cond.classLink RL 13 "java/lang/IndexOutOfBoundsException", Cond.classLink RL 15 "java/lang/IllegalArgumentException", Cond.classLink RL 17 "java/lang/IllegalStateException", Cond.methodLink RL 7 yX4_follow, Cond.instanceMethod yX4_follow, Cond.selects RX4 yX4_follow yX4_follow, Cond.initialized RX4, Cond.code yX4_follow cX4_follow 3 (some .int), Cond.classLink RX4 63 "java/lang/IllegalStateException", Cond.initialized "java/lang/IllegalStateException", Cond.fieldLink RX4 10 "Followrow" "following" "LFollowrow$Relation;", Cond.fieldLink RX4 19 "Followrow" "blocking" "LFollowrow$Relation;", Cond.methodLink RX4 52 yX4_checkPerson, Cond.static yX4_checkPerson, Cond.code yX4_checkPerson cX4_checkPerson 1 none, Cond.classLink RX4 137 "java/lang/IndexOutOfBoundsException", Cond.initialized "java/lang/IndexOutOfBoundsException", Cond.methodLink RX4 168 yX4_isPerson, Cond.static yX4_isPerson, Cond.code yX4_isPerson cX4_isPerson 1 (some .boolean), Cond.methodLink RX4 55 yX4_checkDifferent, Cond.static yX4_checkDifferent, Cond.code yX4_checkDifferent cX4_checkDifferent 2 none, Cond.classLink RX4 173 "java/lang/IllegalArgumentException"]
def wsL_follow_r2 : List Cond := [Cond.initialized "java/lang/IllegalArgumentException", Cond.methodLink RX4 59 yX1_has, Cond.instanceMethod yX1_has, Cond.selects RX1 yX1_has yX1_has, Cond.initialized RX1, Cond.code yX1_has cX1_has 3 (some .boolean), Cond.fieldLink RX1 9 "Followrow$Relation" "pairs" "[Z", Cond.methodLink RX4 72 yX1_put, Cond.instanceMethod yX1_put, Cond.selects RX1 yX1_put yX1_put, Cond.code yX1_put cX1_put 4 none, Cond.methodLink RX4 76 yX4_settleRows, Cond.instanceMethod yX4_settleRows, Cond.selects RX4 yX4_settleRows yX4_settleRows, Cond.code yX4_settleRows cX4_settleRows 5 none, Cond.fieldLink RX4 31 "Followrow" "rows" "[LFollowrow$Row;", Cond.methodLink RX4 186 yX4_settleRow, Cond.instanceMethod yX4_settleRow, Cond.selects RX4 yX4_settleRow yX4_settleRow, Cond.code yX4_settleRow cX4_settleRow 4 none, Cond.fieldLink RX4 25 "Followrow" "ledger" "LFollowrow$Ledger;", Cond.fieldLink RX4 46 "Followrow" "room" "I", Cond.methodLink RX4 145 yX2_floor, Cond.instanceMethod yX2_floor]
def wsL_follow_r3 : List Cond := [Cond.selects RX2 yX2_floor yX2_floor, Cond.initialized RX2, Cond.code yX2_floor cX2_floor 1 (some .int), Cond.fieldLink RX2 15 "Followrow$Row" "floor" "I", Cond.methodLink RX4 189 yX2_empty, Cond.instanceMethod yX2_empty, Cond.selects RX2 yX2_empty yX2_empty, Cond.code yX2_empty cX2_empty 1 none, Cond.fieldLink RX2 22 "Followrow$Row" "count" "I", Cond.methodLink RX4 88 yX0_made, Cond.instanceMethod yX0_made, Cond.selects RX0 yX0_made yX0_made, Cond.initialized RX0, Cond.code yX0_made cX0_made 1 (some .int), Cond.fieldLink RX0 22 "Followrow$Ledger" "made" "I", Cond.methodLink RX4 192 yX2_owner, Cond.instanceMethod yX2_owner, Cond.selects RX2 yX2_owner yX2_owner, Cond.code yX2_owner cX2_owner 1 (some .int), Cond.fieldLink RX2 19 "Followrow$Row" "owner" "I", Cond.methodLink RX4 195 yX4_isForRow, Cond.instanceMethod yX4_isForRow, Cond.selects RX4 yX4_isForRow yX4_isForRow, Cond.code yX4_isForRow cX4_isForRow 4 (some .boolean)]
def wsL_follow_r4 : List Cond := [Cond.methodLink RX4 107 yX0_author, Cond.instanceMethod yX0_author, Cond.selects RX0 yX0_author yX0_author, Cond.code yX0_author cX0_author 2 (some .int), Cond.fieldLink RX0 9 "Followrow$Ledger" "authors" "[I", Cond.methodLink RX0 26 yX0_has, Cond.instanceMethod yX0_has, Cond.selects RX0 yX0_has yX0_has, Cond.code yX0_has cX0_has 2 (some .boolean), Cond.methodLink RX4 101 yX0_stands, Cond.instanceMethod yX0_stands, Cond.selects RX0 yX0_stands yX0_stands, Cond.code yX0_stands cX0_stands 2 (some .boolean), Cond.fieldLink RX0 18 "Followrow$Ledger" "deleted" "[Z", Cond.methodLink RX4 127 yX4_isOverMark, Cond.instanceMethod yX4_isOverMark, Cond.selects RX4 yX4_isOverMark yX4_isOverMark, Cond.code yX4_isOverMark cX4_isOverMark 2 (some .boolean), Cond.fieldLink RX4 42 "Followrow" "mark" "I", Cond.methodLink RX4 79 yX1_countTo, Cond.instanceMethod yX1_countTo, Cond.selects RX1 yX1_countTo yX1_countTo, Cond.code yX1_countTo cX1_countTo 4 (some .int), Cond.methodLink RX1 19 yX1_has]
def wsL_follow_r5 : List Cond := [Cond.methodLink RX4 134 yX2_count, Cond.instanceMethod yX2_count, Cond.selects RX2 yX2_count yX2_count, Cond.code yX2_count cX2_count 1 (some .int), Cond.methodLink RX4 198 yX2_raiseFloor, Cond.instanceMethod yX2_raiseFloor, Cond.selects RX2 yX2_raiseFloor yX2_raiseFloor, Cond.code yX2_raiseFloor cX2_raiseFloor 2 none, Cond.methodLink RX4 201 yX2_addBelow, Cond.instanceMethod yX2_addBelow, Cond.selects RX2 yX2_addBelow yX2_addBelow, Cond.code yX2_addBelow cX2_addBelow 2 none, Cond.fieldLink RX2 9 "Followrow$Row" "numbers" "[I"]
def wsL_follow : List Cond := .codeWith yL_follow cL_follow 5 (some .int) [(0, 10, 13, 13), (0, 10, 17, 15), (0, 10, 21, 17)] :: ((wsL_follow_r1 ++ (wsL_follow_r2 ++ (wsL_follow_r3 ++ (wsL_follow_r4 ++ wsL_follow_r5)))) ++ wsX40 ++ wsX10 ++ wsX20 ++ wsX00 ++ (vx_atS RX4 67 "java/lang/IllegalStateException" ["java/lang/RuntimeException", "java/lang/Exception"]).filter goodWord ++ (vx_atS RX4 141 "java/lang/IndexOutOfBoundsException" ["java/lang/RuntimeException", "java/lang/Exception"]).filter goodWord ++ (vx_atS RX4 177 "java/lang/IllegalArgumentException" ["java/lang/RuntimeException", "java/lang/Exception"]).filter goodWord)
def wsL_unfollow_r1 : List Cond := [Cond.classLink RL 13 "java/lang/IndexOutOfBoundsException", Cond.classLink RL 17 "java/lang/IllegalStateException", Cond.methodLink RL 19 yX4_unfollow, Cond.instanceMethod yX4_unfollow, Cond.selects RX4 yX4_unfollow yX4_unfollow, Cond.initialized RX4, Cond.code yX4_unfollow cX4_unfollow 3 (some .int), Cond.classLink RX4 63 "java/lang/IllegalStateException", Cond.initialized "java/lang/IllegalStateException", Cond.fieldLink RX4 10 "Followrow" "following" "LFollowrow$Relation;", Cond.methodLink RX4 52 yX4_checkPerson, Cond.static yX4_checkPerson, Cond.code yX4_checkPerson cX4_checkPerson 1 none, Cond.classLink RX4 137 "java/lang/IndexOutOfBoundsException", Cond.initialized "java/lang/IndexOutOfBoundsException", Cond.methodLink RX4 168 yX4_isPerson, Cond.static yX4_isPerson, Cond.code yX4_isPerson cX4_isPerson 1 (some .boolean), Cond.methodLink RX4 59 yX1_has, Cond.instanceMethod yX1_has, Cond.selects RX1 yX1_has yX1_has, Cond.initialized RX1, Cond.code yX1_has cX1_has 3 (some .boolean), Cond.fieldLink RX1 9 "Followrow$Relation" "pairs" "[Z"]
def wsL_unfollow_r2 : List Cond := [Cond.methodLink RX4 72 yX1_put, Cond.instanceMethod yX1_put, Cond.selects RX1 yX1_put yX1_put, Cond.code yX1_put cX1_put 4 none, Cond.methodLink RX4 76 yX4_settleRows, Cond.instanceMethod yX4_settleRows, Cond.selects RX4 yX4_settleRows yX4_settleRows, Cond.code yX4_settleRows cX4_settleRows 5 none, Cond.fieldLink RX4 31 "Followrow" "rows" "[LFollowrow$Row;", Cond.methodLink RX4 186 yX4_settleRow, Cond.instanceMethod yX4_settleRow, Cond.selects RX4 yX4_settleRow yX4_settleRow, Cond.code yX4_settleRow cX4_settleRow 4 none, Cond.fieldLink RX4 25 "Followrow" "ledger" "LFollowrow$Ledger;", Cond.fieldLink RX4 46 "Followrow" "room" "I", Cond.methodLink RX4 145 yX2_floor, Cond.instanceMethod yX2_floor, Cond.selects RX2 yX2_floor yX2_floor, Cond.initialized RX2, Cond.code yX2_floor cX2_floor 1 (some .int), Cond.fieldLink RX2 15 "Followrow$Row" "floor" "I", Cond.methodLink RX4 189 yX2_empty, Cond.instanceMethod yX2_empty, Cond.selects RX2 yX2_empty yX2_empty]
def wsL_unfollow_r3 : List Cond := [Cond.code yX2_empty cX2_empty 1 none, Cond.fieldLink RX2 22 "Followrow$Row" "count" "I", Cond.methodLink RX4 88 yX0_made, Cond.instanceMethod yX0_made, Cond.selects RX0 yX0_made yX0_made, Cond.initialized RX0, Cond.code yX0_made cX0_made 1 (some .int), Cond.fieldLink RX0 22 "Followrow$Ledger" "made" "I", Cond.methodLink RX4 192 yX2_owner, Cond.instanceMethod yX2_owner, Cond.selects RX2 yX2_owner yX2_owner, Cond.code yX2_owner cX2_owner 1 (some .int), Cond.fieldLink RX2 19 "Followrow$Row" "owner" "I", Cond.methodLink RX4 195 yX4_isForRow, Cond.instanceMethod yX4_isForRow, Cond.selects RX4 yX4_isForRow yX4_isForRow, Cond.code yX4_isForRow cX4_isForRow 4 (some .boolean), Cond.methodLink RX4 107 yX0_author, Cond.instanceMethod yX0_author, Cond.selects RX0 yX0_author yX0_author, Cond.code yX0_author cX0_author 2 (some .int), Cond.fieldLink RX0 9 "Followrow$Ledger" "authors" "[I", Cond.methodLink RX0 26 yX0_has, Cond.instanceMethod yX0_has]
def wsL_unfollow_r4 : List Cond := [Cond.selects RX0 yX0_has yX0_has, Cond.code yX0_has cX0_has 2 (some .boolean), Cond.methodLink RX4 101 yX0_stands, Cond.instanceMethod yX0_stands, Cond.selects RX0 yX0_stands yX0_stands, Cond.code yX0_stands cX0_stands 2 (some .boolean), Cond.fieldLink RX0 18 "Followrow$Ledger" "deleted" "[Z", Cond.methodLink RX4 127 yX4_isOverMark, Cond.instanceMethod yX4_isOverMark, Cond.selects RX4 yX4_isOverMark yX4_isOverMark, Cond.code yX4_isOverMark cX4_isOverMark 2 (some .boolean), Cond.fieldLink RX4 42 "Followrow" "mark" "I", Cond.methodLink RX4 79 yX1_countTo, Cond.instanceMethod yX1_countTo, Cond.selects RX1 yX1_countTo yX1_countTo, Cond.code yX1_countTo cX1_countTo 4 (some .int), Cond.methodLink RX1 19 yX1_has, Cond.methodLink RX4 134 yX2_count, Cond.instanceMethod yX2_count, Cond.selects RX2 yX2_count yX2_count, Cond.code yX2_count cX2_count 1 (some .int), Cond.methodLink RX4 198 yX2_raiseFloor, Cond.instanceMethod yX2_raiseFloor, Cond.selects RX2 yX2_raiseFloor yX2_raiseFloor]
def wsL_unfollow_r5 : List Cond := [Cond.code yX2_raiseFloor cX2_raiseFloor 2 none, Cond.methodLink RX4 201 yX2_addBelow, Cond.instanceMethod yX2_addBelow, Cond.selects RX2 yX2_addBelow yX2_addBelow, Cond.code yX2_addBelow cX2_addBelow 2 none, Cond.fieldLink RX2 9 "Followrow$Row" "numbers" "[I"]
def wsL_unfollow : List Cond := .codeWith yL_unfollow cL_unfollow 5 (some .int) [(0, 10, 13, 13), (0, 10, 17, 17)] :: ((wsL_unfollow_r1 ++ (wsL_unfollow_r2 ++ (wsL_unfollow_r3 ++ (wsL_unfollow_r4 ++ wsL_unfollow_r5)))) ++ wsX40 ++ wsX10 ++ wsX20 ++ wsX00 ++ (vx_atS RX4 67 "java/lang/IllegalStateException" ["java/lang/RuntimeException", "java/lang/Exception"]).filter goodWord ++ (vx_atS RX4 141 "java/lang/IndexOutOfBoundsException" ["java/lang/RuntimeException", "java/lang/Exception"]).filter goodWord)
def wsL_mute_r1 : List Cond := [Cond.classLink RL 13 "java/lang/IndexOutOfBoundsException", Cond.classLink RL 15 "java/lang/IllegalArgumentException", Cond.methodLink RL 22 yX4_mute, Cond.instanceMethod yX4_mute, Cond.selects RX4 yX4_mute yX4_mute, Cond.initialized RX4, Cond.code yX4_mute cX4_mute 5 (some .boolean), Cond.fieldLink RX4 16 "Followrow" "muting" "LFollowrow$Relation;", Cond.methodLink RX4 52 yX4_checkPerson, Cond.static yX4_checkPerson, Cond.code yX4_checkPerson cX4_checkPerson 1 none, Cond.classLink RX4 137 "java/lang/IndexOutOfBoundsException", Cond.initialized "java/lang/IndexOutOfBoundsException", Cond.methodLink RX4 168 yX4_isPerson, Cond.static yX4_isPerson, Cond.code yX4_isPerson cX4_isPerson 1 (some .boolean), Cond.methodLink RX4 55 yX4_checkDifferent, Cond.static yX4_checkDifferent, Cond.code yX4_checkDifferent cX4_checkDifferent 2 none, Cond.classLink RX4 173 "java/lang/IllegalArgumentException", Cond.initialized "java/lang/IllegalArgumentException", Cond.methodLink RX4 59 yX1_has, Cond.instanceMethod yX1_has, Cond.selects RX1 yX1_has yX1_has]
def wsL_mute_r2 : List Cond := [Cond.initialized RX1, Cond.code yX1_has cX1_has 3 (some .boolean), Cond.fieldLink RX1 9 "Followrow$Relation" "pairs" "[Z", Cond.methodLink RX4 72 yX1_put, Cond.instanceMethod yX1_put, Cond.selects RX1 yX1_put yX1_put, Cond.code yX1_put cX1_put 4 none]
def wsL_mute : List Cond := .codeWith yL_mute cL_mute 6 (some .int) [(0, 19, 22, 13), (0, 19, 26, 15)] :: ((wsL_mute_r1 ++ wsL_mute_r2) ++ wsX40 ++ wsX10 ++ (vx_atS RX4 141 "java/lang/IndexOutOfBoundsException" ["java/lang/RuntimeException", "java/lang/Exception"]).filter goodWord ++ (vx_atS RX4 177 "java/lang/IllegalArgumentException" ["java/lang/RuntimeException", "java/lang/Exception"]).filter goodWord)
def wsL_block_r1 : List Cond := [Cond.classLink RL 13 "java/lang/IndexOutOfBoundsException", Cond.classLink RL 15 "java/lang/IllegalArgumentException", Cond.methodLink RL 26 yX4_block, Cond.instanceMethod yX4_block, Cond.selects RX4 yX4_block yX4_block, Cond.initialized RX4, Cond.code yX4_block cX4_block 5 (some .boolean), Cond.fieldLink RX4 19 "Followrow" "blocking" "LFollowrow$Relation;", Cond.fieldLink RX4 10 "Followrow" "following" "LFollowrow$Relation;", Cond.methodLink RX4 52 yX4_checkPerson, Cond.static yX4_checkPerson, Cond.code yX4_checkPerson cX4_checkPerson 1 none, Cond.classLink RX4 137 "java/lang/IndexOutOfBoundsException", Cond.initialized "java/lang/IndexOutOfBoundsException", Cond.methodLink RX4 168 yX4_isPerson, Cond.static yX4_isPerson, Cond.code yX4_isPerson cX4_isPerson 1 (some .boolean), Cond.methodLink RX4 55 yX4_checkDifferent, Cond.static yX4_checkDifferent, Cond.code yX4_checkDifferent cX4_checkDifferent 2 none, Cond.classLink RX4 173 "java/lang/IllegalArgumentException", Cond.initialized "java/lang/IllegalArgumentException", Cond.methodLink RX4 59 yX1_has, Cond.instanceMethod yX1_has]
def wsL_block_r2 : List Cond := [Cond.selects RX1 yX1_has yX1_has, Cond.initialized RX1, Cond.code yX1_has cX1_has 3 (some .boolean), Cond.fieldLink RX1 9 "Followrow$Relation" "pairs" "[Z", Cond.methodLink RX4 72 yX1_put, Cond.instanceMethod yX1_put, Cond.selects RX1 yX1_put yX1_put, Cond.code yX1_put cX1_put 4 none, Cond.methodLink RX4 76 yX4_settleRows, Cond.instanceMethod yX4_settleRows, Cond.selects RX4 yX4_settleRows yX4_settleRows, Cond.code yX4_settleRows cX4_settleRows 5 none, Cond.fieldLink RX4 31 "Followrow" "rows" "[LFollowrow$Row;", Cond.methodLink RX4 186 yX4_settleRow, Cond.instanceMethod yX4_settleRow, Cond.selects RX4 yX4_settleRow yX4_settleRow, Cond.code yX4_settleRow cX4_settleRow 4 none, Cond.fieldLink RX4 25 "Followrow" "ledger" "LFollowrow$Ledger;", Cond.fieldLink RX4 46 "Followrow" "room" "I", Cond.methodLink RX4 145 yX2_floor, Cond.instanceMethod yX2_floor, Cond.selects RX2 yX2_floor yX2_floor, Cond.initialized RX2, Cond.code yX2_floor cX2_floor 1 (some .int)]
def wsL_block_r3 : List Cond := [Cond.fieldLink RX2 15 "Followrow$Row" "floor" "I", Cond.methodLink RX4 189 yX2_empty, Cond.instanceMethod yX2_empty, Cond.selects RX2 yX2_empty yX2_empty, Cond.code yX2_empty cX2_empty 1 none, Cond.fieldLink RX2 22 "Followrow$Row" "count" "I", Cond.methodLink RX4 88 yX0_made, Cond.instanceMethod yX0_made, Cond.selects RX0 yX0_made yX0_made, Cond.initialized RX0, Cond.code yX0_made cX0_made 1 (some .int), Cond.fieldLink RX0 22 "Followrow$Ledger" "made" "I", Cond.methodLink RX4 192 yX2_owner, Cond.instanceMethod yX2_owner, Cond.selects RX2 yX2_owner yX2_owner, Cond.code yX2_owner cX2_owner 1 (some .int), Cond.fieldLink RX2 19 "Followrow$Row" "owner" "I", Cond.methodLink RX4 195 yX4_isForRow, Cond.instanceMethod yX4_isForRow, Cond.selects RX4 yX4_isForRow yX4_isForRow, Cond.code yX4_isForRow cX4_isForRow 4 (some .boolean), Cond.methodLink RX4 107 yX0_author, Cond.instanceMethod yX0_author, Cond.selects RX0 yX0_author yX0_author]
def wsL_block_r4 : List Cond := [Cond.code yX0_author cX0_author 2 (some .int), Cond.fieldLink RX0 9 "Followrow$Ledger" "authors" "[I", Cond.methodLink RX0 26 yX0_has, Cond.instanceMethod yX0_has, Cond.selects RX0 yX0_has yX0_has, Cond.code yX0_has cX0_has 2 (some .boolean), Cond.methodLink RX4 101 yX0_stands, Cond.instanceMethod yX0_stands, Cond.selects RX0 yX0_stands yX0_stands, Cond.code yX0_stands cX0_stands 2 (some .boolean), Cond.fieldLink RX0 18 "Followrow$Ledger" "deleted" "[Z", Cond.methodLink RX4 127 yX4_isOverMark, Cond.instanceMethod yX4_isOverMark, Cond.selects RX4 yX4_isOverMark yX4_isOverMark, Cond.code yX4_isOverMark cX4_isOverMark 2 (some .boolean), Cond.fieldLink RX4 42 "Followrow" "mark" "I", Cond.methodLink RX4 79 yX1_countTo, Cond.instanceMethod yX1_countTo, Cond.selects RX1 yX1_countTo yX1_countTo, Cond.code yX1_countTo cX1_countTo 4 (some .int), Cond.methodLink RX1 19 yX1_has, Cond.methodLink RX4 134 yX2_count, Cond.instanceMethod yX2_count, Cond.selects RX2 yX2_count yX2_count]
def wsL_block_r5 : List Cond := [Cond.code yX2_count cX2_count 1 (some .int), Cond.methodLink RX4 198 yX2_raiseFloor, Cond.instanceMethod yX2_raiseFloor, Cond.selects RX2 yX2_raiseFloor yX2_raiseFloor, Cond.code yX2_raiseFloor cX2_raiseFloor 2 none, Cond.methodLink RX4 201 yX2_addBelow, Cond.instanceMethod yX2_addBelow, Cond.selects RX2 yX2_addBelow yX2_addBelow, Cond.code yX2_addBelow cX2_addBelow 2 none, Cond.fieldLink RX2 9 "Followrow$Row" "numbers" "[I"]
def wsL_block : List Cond := .codeWith yL_block cL_block 6 (some .int) [(0, 19, 22, 13), (0, 19, 26, 15)] :: ((wsL_block_r1 ++ (wsL_block_r2 ++ (wsL_block_r3 ++ (wsL_block_r4 ++ wsL_block_r5)))) ++ wsX40 ++ wsX10 ++ wsX20 ++ wsX00 ++ (vx_atS RX4 141 "java/lang/IndexOutOfBoundsException" ["java/lang/RuntimeException", "java/lang/Exception"]).filter goodWord ++ (vx_atS RX4 177 "java/lang/IllegalArgumentException" ["java/lang/RuntimeException", "java/lang/Exception"]).filter goodWord)
def wsL_post_r1 : List Cond := [Cond.classLink RL 13 "java/lang/IndexOutOfBoundsException", Cond.classLink RL 17 "java/lang/IllegalStateException", Cond.methodLink RL 29 yX4_post, Cond.instanceMethod yX4_post, Cond.selects RX4 yX4_post yX4_post, Cond.initialized RX4, Cond.code yX4_post cX4_post 3 (some .int), Cond.fieldLink RX4 25 "Followrow" "ledger" "LFollowrow$Ledger;", Cond.methodLink RX4 52 yX4_checkPerson, Cond.static yX4_checkPerson, Cond.code yX4_checkPerson cX4_checkPerson 1 none, Cond.classLink RX4 137 "java/lang/IndexOutOfBoundsException", Cond.initialized "java/lang/IndexOutOfBoundsException", Cond.methodLink RX4 168 yX4_isPerson, Cond.static yX4_isPerson, Cond.code yX4_isPerson cX4_isPerson 1 (some .boolean), Cond.methodLink RX4 85 yX4_checkPlace, Cond.instanceMethod yX4_checkPlace, Cond.selects RX4 yX4_checkPlace yX4_checkPlace, Cond.code yX4_checkPlace cX4_checkPlace 1 none, Cond.classLink RX4 63 "java/lang/IllegalStateException", Cond.initialized "java/lang/IllegalStateException", Cond.methodLink RX4 88 yX0_made, Cond.instanceMethod yX0_made]
def wsL_post_r2 : List Cond := [Cond.selects RX0 yX0_made yX0_made, Cond.initialized RX0, Cond.code yX0_made cX0_made 1 (some .int), Cond.fieldLink RX0 22 "Followrow$Ledger" "made" "I", Cond.methodLink RX4 92 yX0_add, Cond.instanceMethod yX0_add, Cond.selects RX0 yX0_add yX0_add, Cond.code yX0_add cX0_add 3 none, Cond.fieldLink RX0 9 "Followrow$Ledger" "authors" "[I", Cond.fieldLink RX0 15 "Followrow$Ledger" "origins" "[I", Cond.methodLink RX4 76 yX4_settleRows, Cond.instanceMethod yX4_settleRows, Cond.selects RX4 yX4_settleRows yX4_settleRows, Cond.code yX4_settleRows cX4_settleRows 5 none, Cond.fieldLink RX4 31 "Followrow" "rows" "[LFollowrow$Row;", Cond.methodLink RX4 186 yX4_settleRow, Cond.instanceMethod yX4_settleRow, Cond.selects RX4 yX4_settleRow yX4_settleRow, Cond.code yX4_settleRow cX4_settleRow 4 none, Cond.fieldLink RX4 46 "Followrow" "room" "I", Cond.methodLink RX4 145 yX2_floor, Cond.instanceMethod yX2_floor, Cond.selects RX2 yX2_floor yX2_floor, Cond.initialized RX2]
def wsL_post_r3 : List Cond := [Cond.code yX2_floor cX2_floor 1 (some .int), Cond.fieldLink RX2 15 "Followrow$Row" "floor" "I", Cond.methodLink RX4 189 yX2_empty, Cond.instanceMethod yX2_empty, Cond.selects RX2 yX2_empty yX2_empty, Cond.code yX2_empty cX2_empty 1 none, Cond.fieldLink RX2 22 "Followrow$Row" "count" "I", Cond.methodLink RX4 192 yX2_owner, Cond.instanceMethod yX2_owner, Cond.selects RX2 yX2_owner yX2_owner, Cond.code yX2_owner cX2_owner 1 (some .int), Cond.fieldLink RX2 19 "Followrow$Row" "owner" "I", Cond.methodLink RX4 195 yX4_isForRow, Cond.instanceMethod yX4_isForRow, Cond.selects RX4 yX4_isForRow yX4_isForRow, Cond.code yX4_isForRow cX4_isForRow 4 (some .boolean), Cond.fieldLink RX4 10 "Followrow" "following" "LFollowrow$Relation;", Cond.methodLink RX4 107 yX0_author, Cond.instanceMethod yX0_author, Cond.selects RX0 yX0_author yX0_author, Cond.code yX0_author cX0_author 2 (some .int), Cond.methodLink RX0 26 yX0_has, Cond.instanceMethod yX0_has, Cond.selects RX0 yX0_has yX0_has]
def wsL_post_r4 : List Cond := [Cond.code yX0_has cX0_has 2 (some .boolean), Cond.methodLink RX4 101 yX0_stands, Cond.instanceMethod yX0_stands, Cond.selects RX0 yX0_stands yX0_stands, Cond.code yX0_stands cX0_stands 2 (some .boolean), Cond.fieldLink RX0 18 "Followrow$Ledger" "deleted" "[Z", Cond.methodLink RX4 59 yX1_has, Cond.instanceMethod yX1_has, Cond.selects RX1 yX1_has yX1_has, Cond.initialized RX1, Cond.code yX1_has cX1_has 3 (some .boolean), Cond.fieldLink RX1 9 "Followrow$Relation" "pairs" "[Z", Cond.methodLink RX4 127 yX4_isOverMark, Cond.instanceMethod yX4_isOverMark, Cond.selects RX4 yX4_isOverMark yX4_isOverMark, Cond.code yX4_isOverMark cX4_isOverMark 2 (some .boolean), Cond.fieldLink RX4 42 "Followrow" "mark" "I", Cond.methodLink RX4 79 yX1_countTo, Cond.instanceMethod yX1_countTo, Cond.selects RX1 yX1_countTo yX1_countTo, Cond.code yX1_countTo cX1_countTo 4 (some .int), Cond.methodLink RX1 19 yX1_has, Cond.methodLink RX4 134 yX2_count, Cond.instanceMethod yX2_count]
def wsL_post_r5 : List Cond := [Cond.selects RX2 yX2_count yX2_count, Cond.code yX2_count cX2_count 1 (some .int), Cond.methodLink RX4 198 yX2_raiseFloor, Cond.instanceMethod yX2_raiseFloor, Cond.selects RX2 yX2_raiseFloor yX2_raiseFloor, Cond.code yX2_raiseFloor cX2_raiseFloor 2 none, Cond.methodLink RX4 201 yX2_addBelow, Cond.instanceMethod yX2_addBelow, Cond.selects RX2 yX2_addBelow yX2_addBelow, Cond.code yX2_addBelow cX2_addBelow 2 none, Cond.fieldLink RX2 9 "Followrow$Row" "numbers" "[I"]
def wsL_post : List Cond := .codeWith yL_post cL_post 4 (some .int) [(0, 9, 12, 13), (0, 9, 15, 17)] :: ((wsL_post_r1 ++ (wsL_post_r2 ++ (wsL_post_r3 ++ (wsL_post_r4 ++ wsL_post_r5)))) ++ wsX40 ++ wsX00 ++ wsX20 ++ wsX10 ++ (vx_atS RX4 141 "java/lang/IndexOutOfBoundsException" ["java/lang/RuntimeException", "java/lang/Exception"]).filter goodWord ++ (vx_atS RX4 67 "java/lang/IllegalStateException" ["java/lang/RuntimeException", "java/lang/Exception"]).filter goodWord)
def wsL_repost_r1 : List Cond := [Cond.classLink RL 13 "java/lang/IndexOutOfBoundsException", Cond.classLink RL 17 "java/lang/IllegalStateException", Cond.methodLink RL 33 yX4_repost, Cond.instanceMethod yX4_repost, Cond.selects RX4 yX4_repost yX4_repost, Cond.initialized RX4, Cond.code yX4_repost cX4_repost 5 (some .int), Cond.classLink RX4 63 "java/lang/IllegalStateException", Cond.initialized "java/lang/IllegalStateException", Cond.fieldLink RX4 25 "Followrow" "ledger" "LFollowrow$Ledger;", Cond.fieldLink RX4 19 "Followrow" "blocking" "LFollowrow$Relation;", Cond.methodLink RX4 52 yX4_checkPerson, Cond.static yX4_checkPerson, Cond.code yX4_checkPerson cX4_checkPerson 1 none, Cond.classLink RX4 137 "java/lang/IndexOutOfBoundsException", Cond.initialized "java/lang/IndexOutOfBoundsException", Cond.methodLink RX4 168 yX4_isPerson, Cond.static yX4_isPerson, Cond.code yX4_isPerson cX4_isPerson 1 (some .boolean), Cond.methodLink RX4 95 yX4_checkEntry, Cond.instanceMethod yX4_checkEntry, Cond.selects RX4 yX4_checkEntry yX4_checkEntry, Cond.code yX4_checkEntry cX4_checkEntry 2 none, Cond.methodLink RX4 180 yX0_has]
def wsL_repost_r2 : List Cond := [Cond.instanceMethod yX0_has, Cond.selects RX0 yX0_has yX0_has, Cond.initialized RX0, Cond.code yX0_has cX0_has 2 (some .boolean), Cond.fieldLink RX0 22 "Followrow$Ledger" "made" "I", Cond.methodLink RX4 85 yX4_checkPlace, Cond.instanceMethod yX4_checkPlace, Cond.selects RX4 yX4_checkPlace yX4_checkPlace, Cond.code yX4_checkPlace cX4_checkPlace 1 none, Cond.methodLink RX4 88 yX0_made, Cond.instanceMethod yX0_made, Cond.selects RX0 yX0_made yX0_made, Cond.code yX0_made cX0_made 1 (some .int), Cond.methodLink RX4 98 yX0_origin, Cond.instanceMethod yX0_origin, Cond.selects RX0 yX0_origin yX0_origin, Cond.code yX0_origin cX0_origin 2 (some .int), Cond.fieldLink RX0 15 "Followrow$Ledger" "origins" "[I", Cond.methodLink RX0 26 yX0_has, Cond.methodLink RX4 101 yX0_stands, Cond.instanceMethod yX0_stands, Cond.selects RX0 yX0_stands yX0_stands, Cond.code yX0_stands cX0_stands 2 (some .boolean), Cond.fieldLink RX0 18 "Followrow$Ledger" "deleted" "[Z"]
def wsL_repost_r3 : List Cond := [Cond.methodLink RX4 107 yX0_author, Cond.instanceMethod yX0_author, Cond.selects RX0 yX0_author yX0_author, Cond.code yX0_author cX0_author 2 (some .int), Cond.fieldLink RX0 9 "Followrow$Ledger" "authors" "[I", Cond.methodLink RX4 59 yX1_has, Cond.instanceMethod yX1_has, Cond.selects RX1 yX1_has yX1_has, Cond.initialized RX1, Cond.code yX1_has cX1_has 3 (some .boolean), Cond.fieldLink RX1 9 "Followrow$Relation" "pairs" "[Z", Cond.methodLink RX4 92 yX0_add, Cond.instanceMethod yX0_add, Cond.selects RX0 yX0_add yX0_add, Cond.code yX0_add cX0_add 3 none, Cond.methodLink RX4 76 yX4_settleRows, Cond.instanceMethod yX4_settleRows, Cond.selects RX4 yX4_settleRows yX4_settleRows, Cond.code yX4_settleRows cX4_settleRows 5 none, Cond.fieldLink RX4 31 "Followrow" "rows" "[LFollowrow$Row;", Cond.methodLink RX4 186 yX4_settleRow, Cond.instanceMethod yX4_settleRow, Cond.selects RX4 yX4_settleRow yX4_settleRow, Cond.code yX4_settleRow cX4_settleRow 4 none]
def wsL_repost_r4 : List Cond := [Cond.fieldLink RX4 46 "Followrow" "room" "I", Cond.methodLink RX4 145 yX2_floor, Cond.instanceMethod yX2_floor, Cond.selects RX2 yX2_floor yX2_floor, Cond.initialized RX2, Cond.code yX2_floor cX2_floor 1 (some .int), Cond.fieldLink RX2 15 "Followrow$Row" "floor" "I", Cond.methodLink RX4 189 yX2_empty, Cond.instanceMethod yX2_empty, Cond.selects RX2 yX2_empty yX2_empty, Cond.code yX2_empty cX2_empty 1 none, Cond.fieldLink RX2 22 "Followrow$Row" "count" "I", Cond.methodLink RX4 192 yX2_owner, Cond.instanceMethod yX2_owner, Cond.selects RX2 yX2_owner yX2_owner, Cond.code yX2_owner cX2_owner 1 (some .int), Cond.fieldLink RX2 19 "Followrow$Row" "owner" "I", Cond.methodLink RX4 195 yX4_isForRow, Cond.instanceMethod yX4_isForRow, Cond.selects RX4 yX4_isForRow yX4_isForRow, Cond.code yX4_isForRow cX4_isForRow 4 (some .boolean), Cond.fieldLink RX4 10 "Followrow" "following" "LFollowrow$Relation;", Cond.methodLink RX4 127 yX4_isOverMark, Cond.instanceMethod yX4_isOverMark]
def wsL_repost_r5 : List Cond := [Cond.selects RX4 yX4_isOverMark yX4_isOverMark, Cond.code yX4_isOverMark cX4_isOverMark 2 (some .boolean), Cond.fieldLink RX4 42 "Followrow" "mark" "I", Cond.methodLink RX4 79 yX1_countTo, Cond.instanceMethod yX1_countTo, Cond.selects RX1 yX1_countTo yX1_countTo, Cond.code yX1_countTo cX1_countTo 4 (some .int), Cond.methodLink RX1 19 yX1_has, Cond.methodLink RX4 134 yX2_count, Cond.instanceMethod yX2_count, Cond.selects RX2 yX2_count yX2_count, Cond.code yX2_count cX2_count 1 (some .int), Cond.methodLink RX4 198 yX2_raiseFloor, Cond.instanceMethod yX2_raiseFloor, Cond.selects RX2 yX2_raiseFloor yX2_raiseFloor, Cond.code yX2_raiseFloor cX2_raiseFloor 2 none, Cond.methodLink RX4 201 yX2_addBelow, Cond.instanceMethod yX2_addBelow, Cond.selects RX2 yX2_addBelow yX2_addBelow, Cond.code yX2_addBelow cX2_addBelow 2 none, Cond.fieldLink RX2 9 "Followrow$Row" "numbers" "[I"]
def wsL_repost : List Cond := .codeWith yL_repost cL_repost 5 (some .int) [(0, 10, 13, 13), (0, 10, 17, 17)] :: ((wsL_repost_r1 ++ (wsL_repost_r2 ++ (wsL_repost_r3 ++ (wsL_repost_r4 ++ wsL_repost_r5)))) ++ wsX40 ++ wsX00 ++ wsX10 ++ wsX20 ++ (vx_atS RX4 67 "java/lang/IllegalStateException" ["java/lang/RuntimeException", "java/lang/Exception"]).filter goodWord ++ (vx_atS RX4 141 "java/lang/IndexOutOfBoundsException" ["java/lang/RuntimeException", "java/lang/Exception"]).filter goodWord)
def wsL_delete_r1 : List Cond := [Cond.classLink RL 13 "java/lang/IndexOutOfBoundsException", Cond.classLink RL 17 "java/lang/IllegalStateException", Cond.methodLink RL 36 yX4_delete, Cond.instanceMethod yX4_delete, Cond.selects RX4 yX4_delete yX4_delete, Cond.initialized RX4, Cond.code yX4_delete cX4_delete 2 (some .int), Cond.classLink RX4 63 "java/lang/IllegalStateException", Cond.initialized "java/lang/IllegalStateException", Cond.fieldLink RX4 25 "Followrow" "ledger" "LFollowrow$Ledger;", Cond.methodLink RX4 95 yX4_checkEntry, Cond.instanceMethod yX4_checkEntry, Cond.selects RX4 yX4_checkEntry yX4_checkEntry, Cond.code yX4_checkEntry cX4_checkEntry 2 none, Cond.classLink RX4 137 "java/lang/IndexOutOfBoundsException", Cond.initialized "java/lang/IndexOutOfBoundsException", Cond.methodLink RX4 180 yX0_has, Cond.instanceMethod yX0_has, Cond.selects RX0 yX0_has yX0_has, Cond.initialized RX0, Cond.code yX0_has cX0_has 2 (some .boolean), Cond.fieldLink RX0 22 "Followrow$Ledger" "made" "I", Cond.methodLink RX4 101 yX0_stands, Cond.instanceMethod yX0_stands]
def wsL_delete_r2 : List Cond := [Cond.selects RX0 yX0_stands yX0_stands, Cond.code yX0_stands cX0_stands 2 (some .boolean), Cond.fieldLink RX0 18 "Followrow$Ledger" "deleted" "[Z", Cond.methodLink RX0 26 yX0_has, Cond.methodLink RX4 114 yX0_remove, Cond.instanceMethod yX0_remove, Cond.selects RX0 yX0_remove yX0_remove, Cond.code yX0_remove cX0_remove 2 none, Cond.methodLink RX4 76 yX4_settleRows, Cond.instanceMethod yX4_settleRows, Cond.selects RX4 yX4_settleRows yX4_settleRows, Cond.code yX4_settleRows cX4_settleRows 5 none, Cond.fieldLink RX4 31 "Followrow" "rows" "[LFollowrow$Row;", Cond.methodLink RX4 186 yX4_settleRow, Cond.instanceMethod yX4_settleRow, Cond.selects RX4 yX4_settleRow yX4_settleRow, Cond.code yX4_settleRow cX4_settleRow 4 none, Cond.fieldLink RX4 46 "Followrow" "room" "I", Cond.methodLink RX4 145 yX2_floor, Cond.instanceMethod yX2_floor, Cond.selects RX2 yX2_floor yX2_floor, Cond.initialized RX2, Cond.code yX2_floor cX2_floor 1 (some .int), Cond.fieldLink RX2 15 "Followrow$Row" "floor" "I"]
def wsL_delete_r3 : List Cond := [Cond.methodLink RX4 189 yX2_empty, Cond.instanceMethod yX2_empty, Cond.selects RX2 yX2_empty yX2_empty, Cond.code yX2_empty cX2_empty 1 none, Cond.fieldLink RX2 22 "Followrow$Row" "count" "I", Cond.methodLink RX4 88 yX0_made, Cond.instanceMethod yX0_made, Cond.selects RX0 yX0_made yX0_made, Cond.code yX0_made cX0_made 1 (some .int), Cond.methodLink RX4 192 yX2_owner, Cond.instanceMethod yX2_owner, Cond.selects RX2 yX2_owner yX2_owner, Cond.code yX2_owner cX2_owner 1 (some .int), Cond.fieldLink RX2 19 "Followrow$Row" "owner" "I", Cond.methodLink RX4 195 yX4_isForRow, Cond.instanceMethod yX4_isForRow, Cond.selects RX4 yX4_isForRow yX4_isForRow, Cond.code yX4_isForRow cX4_isForRow 4 (some .boolean), Cond.fieldLink RX4 10 "Followrow" "following" "LFollowrow$Relation;", Cond.methodLink RX4 107 yX0_author, Cond.instanceMethod yX0_author, Cond.selects RX0 yX0_author yX0_author, Cond.code yX0_author cX0_author 2 (some .int), Cond.fieldLink RX0 9 "Followrow$Ledger" "authors" "[I"]
def wsL_delete_r4 : List Cond := [Cond.methodLink RX4 59 yX1_has, Cond.instanceMethod yX1_has, Cond.selects RX1 yX1_has yX1_has, Cond.initialized RX1, Cond.code yX1_has cX1_has 3 (some .boolean), Cond.fieldLink RX1 9 "Followrow$Relation" "pairs" "[Z", Cond.static yX4_isPerson, Cond.code yX4_isPerson cX4_isPerson 1 (some .boolean), Cond.methodLink RX4 127 yX4_isOverMark, Cond.instanceMethod yX4_isOverMark, Cond.selects RX4 yX4_isOverMark yX4_isOverMark, Cond.code yX4_isOverMark cX4_isOverMark 2 (some .boolean), Cond.fieldLink RX4 42 "Followrow" "mark" "I", Cond.methodLink RX4 79 yX1_countTo, Cond.instanceMethod yX1_countTo, Cond.selects RX1 yX1_countTo yX1_countTo, Cond.code yX1_countTo cX1_countTo 4 (some .int), Cond.methodLink RX1 19 yX1_has, Cond.methodLink RX4 134 yX2_count, Cond.instanceMethod yX2_count, Cond.selects RX2 yX2_count yX2_count, Cond.code yX2_count cX2_count 1 (some .int), Cond.methodLink RX4 198 yX2_raiseFloor, Cond.instanceMethod yX2_raiseFloor]
def wsL_delete_r5 : List Cond := [Cond.selects RX2 yX2_raiseFloor yX2_raiseFloor, Cond.code yX2_raiseFloor cX2_raiseFloor 2 none, Cond.methodLink RX4 201 yX2_addBelow, Cond.instanceMethod yX2_addBelow, Cond.selects RX2 yX2_addBelow yX2_addBelow, Cond.code yX2_addBelow cX2_addBelow 2 none, Cond.fieldLink RX2 9 "Followrow$Row" "numbers" "[I", Cond.methodLink RX4 117 yX0_countStandingOf, Cond.instanceMethod yX0_countStandingOf, Cond.selects RX0 yX0_countStandingOf yX0_countStandingOf, Cond.code yX0_countStandingOf cX0_countStandingOf 4 (some .int), Cond.methodLink RX0 30 yX0_origin, Cond.instanceMethod yX0_origin, Cond.selects RX0 yX0_origin yX0_origin, Cond.code yX0_origin cX0_origin 2 (some .int), Cond.fieldLink RX0 15 "Followrow$Ledger" "origins" "[I", Cond.methodLink RX0 34 yX0_stands]
def wsL_delete : List Cond := .codeWith yL_delete cL_delete 4 (some .int) [(0, 9, 12, 13), (0, 9, 15, 17)] :: ((wsL_delete_r1 ++ (wsL_delete_r2 ++ (wsL_delete_r3 ++ (wsL_delete_r4 ++ wsL_delete_r5)))) ++ wsX40 ++ wsX00 ++ wsX20 ++ wsX10 ++ (vx_atS RX4 67 "java/lang/IllegalStateException" ["java/lang/RuntimeException", "java/lang/Exception"]).filter goodWord ++ (vx_atS RX4 141 "java/lang/IndexOutOfBoundsException" ["java/lang/RuntimeException", "java/lang/Exception"]).filter goodWord)
def wsL_setMark_r1 : List Cond := [Cond.classLink RL 15 "java/lang/IllegalArgumentException", Cond.methodLink RL 39 yX4_setMark, Cond.instanceMethod yX4_setMark, Cond.selects RX4 yX4_setMark yX4_setMark, Cond.initialized RX4, Cond.code yX4_setMark cX4_setMark 2 (some .int), Cond.fieldLink RX4 42 "Followrow" "mark" "I", Cond.methodLink RX4 120 yX4_checkRange, Cond.static yX4_checkRange, Cond.code yX4_checkRange cX4_checkRange 3 none, Cond.classLink RX4 173 "java/lang/IllegalArgumentException", Cond.initialized "java/lang/IllegalArgumentException", Cond.methodLink RX4 76 yX4_settleRows, Cond.instanceMethod yX4_settleRows, Cond.selects RX4 yX4_settleRows yX4_settleRows, Cond.code yX4_settleRows cX4_settleRows 5 none, Cond.fieldLink RX4 31 "Followrow" "rows" "[LFollowrow$Row;", Cond.methodLink RX4 186 yX4_settleRow, Cond.instanceMethod yX4_settleRow, Cond.selects RX4 yX4_settleRow yX4_settleRow, Cond.code yX4_settleRow cX4_settleRow 4 none, Cond.fieldLink RX4 25 "Followrow" "ledger" "LFollowrow$Ledger;", Cond.fieldLink RX4 46 "Followrow" "room" "I", Cond.methodLink RX4 145 yX2_floor]
def wsL_setMark_r2 : List Cond := [Cond.instanceMethod yX2_floor, Cond.selects RX2 yX2_floor yX2_floor, Cond.initialized RX2, Cond.code yX2_floor cX2_floor 1 (some .int), Cond.fieldLink RX2 15 "Followrow$Row" "floor" "I", Cond.methodLink RX4 189 yX2_empty, Cond.instanceMethod yX2_empty, Cond.selects RX2 yX2_empty yX2_empty, Cond.code yX2_empty cX2_empty 1 none, Cond.fieldLink RX2 22 "Followrow$Row" "count" "I", Cond.methodLink RX4 88 yX0_made, Cond.instanceMethod yX0_made, Cond.selects RX0 yX0_made yX0_made, Cond.initialized RX0, Cond.code yX0_made cX0_made 1 (some .int), Cond.fieldLink RX0 22 "Followrow$Ledger" "made" "I", Cond.methodLink RX4 192 yX2_owner, Cond.instanceMethod yX2_owner, Cond.selects RX2 yX2_owner yX2_owner, Cond.code yX2_owner cX2_owner 1 (some .int), Cond.fieldLink RX2 19 "Followrow$Row" "owner" "I", Cond.methodLink RX4 195 yX4_isForRow, Cond.instanceMethod yX4_isForRow, Cond.selects RX4 yX4_isForRow yX4_isForRow]
def wsL_setMark_r3 : List Cond := [Cond.code yX4_isForRow cX4_isForRow 4 (some .boolean), Cond.fieldLink RX4 10 "Followrow" "following" "LFollowrow$Relation;", Cond.methodLink RX4 107 yX0_author, Cond.instanceMethod yX0_author, Cond.selects RX0 yX0_author yX0_author, Cond.code yX0_author cX0_author 2 (some .int), Cond.fieldLink RX0 9 "Followrow$Ledger" "authors" "[I", Cond.methodLink RX0 26 yX0_has, Cond.instanceMethod yX0_has, Cond.selects RX0 yX0_has yX0_has, Cond.code yX0_has cX0_has 2 (some .boolean), Cond.methodLink RX4 101 yX0_stands, Cond.instanceMethod yX0_stands, Cond.selects RX0 yX0_stands yX0_stands, Cond.code yX0_stands cX0_stands 2 (some .boolean), Cond.fieldLink RX0 18 "Followrow$Ledger" "deleted" "[Z", Cond.methodLink RX4 59 yX1_has, Cond.instanceMethod yX1_has, Cond.selects RX1 yX1_has yX1_has, Cond.initialized RX1, Cond.code yX1_has cX1_has 3 (some .boolean), Cond.fieldLink RX1 9 "Followrow$Relation" "pairs" "[Z", Cond.static yX4_isPerson, Cond.code yX4_isPerson cX4_isPerson 1 (some .boolean)]
def wsL_setMark_r4 : List Cond := [Cond.methodLink RX4 127 yX4_isOverMark, Cond.instanceMethod yX4_isOverMark, Cond.selects RX4 yX4_isOverMark yX4_isOverMark, Cond.code yX4_isOverMark cX4_isOverMark 2 (some .boolean), Cond.methodLink RX4 79 yX1_countTo, Cond.instanceMethod yX1_countTo, Cond.selects RX1 yX1_countTo yX1_countTo, Cond.code yX1_countTo cX1_countTo 4 (some .int), Cond.methodLink RX1 19 yX1_has, Cond.methodLink RX4 134 yX2_count, Cond.instanceMethod yX2_count, Cond.selects RX2 yX2_count yX2_count, Cond.code yX2_count cX2_count 1 (some .int), Cond.methodLink RX4 198 yX2_raiseFloor, Cond.instanceMethod yX2_raiseFloor, Cond.selects RX2 yX2_raiseFloor yX2_raiseFloor, Cond.code yX2_raiseFloor cX2_raiseFloor 2 none, Cond.methodLink RX4 201 yX2_addBelow, Cond.instanceMethod yX2_addBelow, Cond.selects RX2 yX2_addBelow yX2_addBelow, Cond.code yX2_addBelow cX2_addBelow 2 none, Cond.fieldLink RX2 9 "Followrow$Row" "numbers" "[I", Cond.methodLink RX4 124 yX4_countLarge, Cond.instanceMethod yX4_countLarge]
def wsL_setMark_r5 : List Cond := [Cond.selects RX4 yX4_countLarge yX4_countLarge, Cond.code yX4_countLarge cX4_countLarge 3 (some .int)]
def wsL_setMark : List Cond := .codeWith yL_setMark cL_setMark 4 (some .int) [(0, 9, 12, 15)] :: ((wsL_setMark_r1 ++ (wsL_setMark_r2 ++ (wsL_setMark_r3 ++ (wsL_setMark_r4 ++ wsL_setMark_r5)))) ++ wsX40 ++ wsX20 ++ wsX00 ++ wsX10 ++ (vx_atS RX4 177 "java/lang/IllegalArgumentException" ["java/lang/RuntimeException", "java/lang/Exception"]).filter goodWord)
def wsL_setRoom_r1 : List Cond := [Cond.classLink RL 15 "java/lang/IllegalArgumentException", Cond.methodLink RL 42 yX4_setRoom, Cond.instanceMethod yX4_setRoom, Cond.selects RX4 yX4_setRoom yX4_setRoom, Cond.initialized RX4, Cond.code yX4_setRoom cX4_setRoom 3 (some .int), Cond.fieldLink RX4 46 "Followrow" "room" "I", Cond.methodLink RX4 120 yX4_checkRange, Cond.static yX4_checkRange, Cond.code yX4_checkRange cX4_checkRange 3 none, Cond.classLink RX4 173 "java/lang/IllegalArgumentException", Cond.initialized "java/lang/IllegalArgumentException", Cond.methodLink RX4 76 yX4_settleRows, Cond.instanceMethod yX4_settleRows, Cond.selects RX4 yX4_settleRows yX4_settleRows, Cond.code yX4_settleRows cX4_settleRows 5 none, Cond.fieldLink RX4 31 "Followrow" "rows" "[LFollowrow$Row;", Cond.methodLink RX4 186 yX4_settleRow, Cond.instanceMethod yX4_settleRow, Cond.selects RX4 yX4_settleRow yX4_settleRow, Cond.code yX4_settleRow cX4_settleRow 4 none, Cond.fieldLink RX4 25 "Followrow" "ledger" "LFollowrow$Ledger;", Cond.methodLink RX4 145 yX2_floor, Cond.instanceMethod yX2_floor]
def wsL_setRoom_r2 : List Cond := [Cond.selects RX2 yX2_floor yX2_floor, Cond.initialized RX2, Cond.code yX2_floor cX2_floor 1 (some .int), Cond.fieldLink RX2 15 "Followrow$Row" "floor" "I", Cond.methodLink RX4 189 yX2_empty, Cond.instanceMethod yX2_empty, Cond.selects RX2 yX2_empty yX2_empty, Cond.code yX2_empty cX2_empty 1 none, Cond.fieldLink RX2 22 "Followrow$Row" "count" "I", Cond.methodLink RX4 88 yX0_made, Cond.instanceMethod yX0_made, Cond.selects RX0 yX0_made yX0_made, Cond.initialized RX0, Cond.code yX0_made cX0_made 1 (some .int), Cond.fieldLink RX0 22 "Followrow$Ledger" "made" "I", Cond.methodLink RX4 192 yX2_owner, Cond.instanceMethod yX2_owner, Cond.selects RX2 yX2_owner yX2_owner, Cond.code yX2_owner cX2_owner 1 (some .int), Cond.fieldLink RX2 19 "Followrow$Row" "owner" "I", Cond.methodLink RX4 195 yX4_isForRow, Cond.instanceMethod yX4_isForRow, Cond.selects RX4 yX4_isForRow yX4_isForRow, Cond.code yX4_isForRow cX4_isForRow 4 (some .boolean)]
def wsL_setRoom_r3 : List Cond := [Cond.fieldLink RX4 10 "Followrow" "following" "LFollowrow$Relation;", Cond.methodLink RX4 107 yX0_author, Cond.instanceMethod yX0_author, Cond.selects RX0 yX0_author yX0_author, Cond.code yX0_author cX0_author 2 (some .int), Cond.fieldLink RX0 9 "Followrow$Ledger" "authors" "[I", Cond.methodLink RX0 26 yX0_has, Cond.instanceMethod yX0_has, Cond.selects RX0 yX0_has yX0_has, Cond.code yX0_has cX0_has 2 (some .boolean), Cond.methodLink RX4 101 yX0_stands, Cond.instanceMethod yX0_stands, Cond.selects RX0 yX0_stands yX0_stands, Cond.code yX0_stands cX0_stands 2 (some .boolean), Cond.fieldLink RX0 18 "Followrow$Ledger" "deleted" "[Z", Cond.methodLink RX4 59 yX1_has, Cond.instanceMethod yX1_has, Cond.selects RX1 yX1_has yX1_has, Cond.initialized RX1, Cond.code yX1_has cX1_has 3 (some .boolean), Cond.fieldLink RX1 9 "Followrow$Relation" "pairs" "[Z", Cond.static yX4_isPerson, Cond.code yX4_isPerson cX4_isPerson 1 (some .boolean), Cond.methodLink RX4 127 yX4_isOverMark]
def wsL_setRoom_r4 : List Cond := [Cond.instanceMethod yX4_isOverMark, Cond.selects RX4 yX4_isOverMark yX4_isOverMark, Cond.code yX4_isOverMark cX4_isOverMark 2 (some .boolean), Cond.fieldLink RX4 42 "Followrow" "mark" "I", Cond.methodLink RX4 79 yX1_countTo, Cond.instanceMethod yX1_countTo, Cond.selects RX1 yX1_countTo yX1_countTo, Cond.code yX1_countTo cX1_countTo 4 (some .int), Cond.methodLink RX1 19 yX1_has, Cond.methodLink RX4 134 yX2_count, Cond.instanceMethod yX2_count, Cond.selects RX2 yX2_count yX2_count, Cond.code yX2_count cX2_count 1 (some .int), Cond.methodLink RX4 198 yX2_raiseFloor, Cond.instanceMethod yX2_raiseFloor, Cond.selects RX2 yX2_raiseFloor yX2_raiseFloor, Cond.code yX2_raiseFloor cX2_raiseFloor 2 none, Cond.methodLink RX4 201 yX2_addBelow, Cond.instanceMethod yX2_addBelow, Cond.selects RX2 yX2_addBelow yX2_addBelow, Cond.code yX2_addBelow cX2_addBelow 2 none, Cond.fieldLink RX2 9 "Followrow$Row" "numbers" "[I"]
def wsL_setRoom : List Cond := .codeWith yL_setRoom cL_setRoom 4 (some .int) [(0, 9, 12, 15)] :: ((wsL_setRoom_r1 ++ (wsL_setRoom_r2 ++ (wsL_setRoom_r3 ++ wsL_setRoom_r4))) ++ wsX40 ++ wsX20 ++ wsX00 ++ wsX10 ++ (vx_atS RX4 177 "java/lang/IllegalArgumentException" ["java/lang/RuntimeException", "java/lang/Exception"]).filter goodWord)
def wsL_authorOf_r1 : List Cond := [Cond.classLink RL 13 "java/lang/IndexOutOfBoundsException", Cond.methodLink RL 45 yX4_authorOf, Cond.instanceMethod yX4_authorOf, Cond.selects RX4 yX4_authorOf yX4_authorOf, Cond.initialized RX4, Cond.code yX4_authorOf cX4_authorOf 2 (some .int), Cond.fieldLink RX4 25 "Followrow" "ledger" "LFollowrow$Ledger;", Cond.methodLink RX4 95 yX4_checkEntry, Cond.instanceMethod yX4_checkEntry, Cond.selects RX4 yX4_checkEntry yX4_checkEntry, Cond.code yX4_checkEntry cX4_checkEntry 2 none, Cond.classLink RX4 137 "java/lang/IndexOutOfBoundsException", Cond.initialized "java/lang/IndexOutOfBoundsException", Cond.methodLink RX4 180 yX0_has, Cond.instanceMethod yX0_has, Cond.selects RX0 yX0_has yX0_has, Cond.initialized RX0, Cond.code yX0_has cX0_has 2 (some .boolean), Cond.fieldLink RX0 22 "Followrow$Ledger" "made" "I", Cond.methodLink RX4 107 yX0_author, Cond.instanceMethod yX0_author, Cond.selects RX0 yX0_author yX0_author, Cond.code yX0_author cX0_author 2 (some .int), Cond.fieldLink RX0 9 "Followrow$Ledger" "authors" "[I"]
def wsL_authorOf_r2 : List Cond := [Cond.methodLink RX0 26 yX0_has]
def wsL_authorOf : List Cond := .codeWith yL_authorOf cL_authorOf 4 (some .int) [(0, 9, 12, 13)] :: ((wsL_authorOf_r1 ++ wsL_authorOf_r2) ++ wsX40 ++ wsX00 ++ (vx_atS RX4 141 "java/lang/IndexOutOfBoundsException" ["java/lang/RuntimeException", "java/lang/Exception"]).filter goodWord)
def wsL_originOf_r1 : List Cond := [Cond.classLink RL 13 "java/lang/IndexOutOfBoundsException", Cond.methodLink RL 48 yX4_originOf, Cond.instanceMethod yX4_originOf, Cond.selects RX4 yX4_originOf yX4_originOf, Cond.initialized RX4, Cond.code yX4_originOf cX4_originOf 2 (some .int), Cond.fieldLink RX4 25 "Followrow" "ledger" "LFollowrow$Ledger;", Cond.methodLink RX4 95 yX4_checkEntry, Cond.instanceMethod yX4_checkEntry, Cond.selects RX4 yX4_checkEntry yX4_checkEntry, Cond.code yX4_checkEntry cX4_checkEntry 2 none, Cond.classLink RX4 137 "java/lang/IndexOutOfBoundsException", Cond.initialized "java/lang/IndexOutOfBoundsException", Cond.methodLink RX4 180 yX0_has, Cond.instanceMethod yX0_has, Cond.selects RX0 yX0_has yX0_has, Cond.initialized RX0, Cond.code yX0_has cX0_has 2 (some .boolean), Cond.fieldLink RX0 22 "Followrow$Ledger" "made" "I", Cond.methodLink RX4 98 yX0_origin, Cond.instanceMethod yX0_origin, Cond.selects RX0 yX0_origin yX0_origin, Cond.code yX0_origin cX0_origin 2 (some .int), Cond.fieldLink RX0 15 "Followrow$Ledger" "origins" "[I"]
def wsL_originOf_r2 : List Cond := [Cond.methodLink RX0 26 yX0_has]
def wsL_originOf : List Cond := .codeWith yL_originOf cL_originOf 4 (some .int) [(0, 9, 12, 13)] :: ((wsL_originOf_r1 ++ wsL_originOf_r2) ++ wsX40 ++ wsX00 ++ (vx_atS RX4 141 "java/lang/IndexOutOfBoundsException" ["java/lang/RuntimeException", "java/lang/Exception"]).filter goodWord)
def wsL_follows : List Cond := .codeWith yL_follows cL_follows 5 (some .int) [(0, 17, 20, 13)] :: ([.classLink RL 13 "java/lang/IndexOutOfBoundsException", .methodLink RL 51 yX4_follows, .instanceMethod yX4_follows, .selects RX4 yX4_follows yX4_follows, .initialized RX4, .code yX4_follows cX4_follows 3 (some .boolean), .fieldLink RX4 10 "Followrow" "following" "LFollowrow$Relation;", .methodLink RX4 52 yX4_checkPerson, .static yX4_checkPerson, .code yX4_checkPerson cX4_checkPerson 1 none, .classLink RX4 137 "java/lang/IndexOutOfBoundsException", .initialized "java/lang/IndexOutOfBoundsException", .methodLink RX4 168 yX4_isPerson, .static yX4_isPerson, .code yX4_isPerson cX4_isPerson 1 (some .boolean), .methodLink RX4 59 yX1_has, .instanceMethod yX1_has, .selects RX1 yX1_has yX1_has, .initialized RX1, .code yX1_has cX1_has 3 (some .boolean), .fieldLink RX1 9 "Followrow$Relation" "pairs" "[Z"] ++ wsX40 ++ wsX10 ++ (vx_atS RX4 141 "java/lang/IndexOutOfBoundsException" ["java/lang/RuntimeException", "java/lang/Exception"]).filter goodWord)
def wsL_followers_r1 : List Cond := [Cond.classLink RL 13 "java/lang/IndexOutOfBoundsException", Cond.methodLink RL 55 yX4_followers, Cond.instanceMethod yX4_followers, Cond.selects RX4 yX4_followers yX4_followers, Cond.initialized RX4, Cond.code yX4_followers cX4_followers 2 (some .int), Cond.fieldLink RX4 10 "Followrow" "following" "LFollowrow$Relation;", Cond.methodLink RX4 52 yX4_checkPerson, Cond.static yX4_checkPerson, Cond.code yX4_checkPerson cX4_checkPerson 1 none, Cond.classLink RX4 137 "java/lang/IndexOutOfBoundsException", Cond.initialized "java/lang/IndexOutOfBoundsException", Cond.methodLink RX4 168 yX4_isPerson, Cond.static yX4_isPerson, Cond.code yX4_isPerson cX4_isPerson 1 (some .boolean), Cond.methodLink RX4 79 yX1_countTo, Cond.instanceMethod yX1_countTo, Cond.selects RX1 yX1_countTo yX1_countTo, Cond.initialized RX1, Cond.code yX1_countTo cX1_countTo 4 (some .int), Cond.methodLink RX1 19 yX1_has, Cond.instanceMethod yX1_has, Cond.selects RX1 yX1_has yX1_has, Cond.code yX1_has cX1_has 3 (some .boolean)]
def wsL_followers_r2 : List Cond := [Cond.fieldLink RX1 9 "Followrow$Relation" "pairs" "[Z"]
def wsL_followers : List Cond := .codeWith yL_followers cL_followers 4 (some .int) [(0, 9, 12, 13)] :: ((wsL_followers_r1 ++ wsL_followers_r2) ++ wsX40 ++ wsX10 ++ (vx_atS RX4 141 "java/lang/IndexOutOfBoundsException" ["java/lang/RuntimeException", "java/lang/Exception"]).filter goodWord)
def wsL_isLarge_r1 : List Cond := [Cond.classLink RL 13 "java/lang/IndexOutOfBoundsException", Cond.methodLink RL 58 yX4_isLarge, Cond.instanceMethod yX4_isLarge, Cond.selects RX4 yX4_isLarge yX4_isLarge, Cond.initialized RX4, Cond.code yX4_isLarge cX4_isLarge 2 (some .boolean), Cond.methodLink RX4 52 yX4_checkPerson, Cond.static yX4_checkPerson, Cond.code yX4_checkPerson cX4_checkPerson 1 none, Cond.classLink RX4 137 "java/lang/IndexOutOfBoundsException", Cond.initialized "java/lang/IndexOutOfBoundsException", Cond.methodLink RX4 168 yX4_isPerson, Cond.static yX4_isPerson, Cond.code yX4_isPerson cX4_isPerson 1 (some .boolean), Cond.methodLink RX4 127 yX4_isOverMark, Cond.instanceMethod yX4_isOverMark, Cond.selects RX4 yX4_isOverMark yX4_isOverMark, Cond.code yX4_isOverMark cX4_isOverMark 2 (some .boolean), Cond.fieldLink RX4 10 "Followrow" "following" "LFollowrow$Relation;", Cond.fieldLink RX4 42 "Followrow" "mark" "I", Cond.methodLink RX4 79 yX1_countTo, Cond.instanceMethod yX1_countTo, Cond.selects RX1 yX1_countTo yX1_countTo, Cond.initialized RX1]
def wsL_isLarge_r2 : List Cond := [Cond.code yX1_countTo cX1_countTo 4 (some .int), Cond.methodLink RX1 19 yX1_has, Cond.instanceMethod yX1_has, Cond.selects RX1 yX1_has yX1_has, Cond.code yX1_has cX1_has 3 (some .boolean), Cond.fieldLink RX1 9 "Followrow$Relation" "pairs" "[Z"]
def wsL_isLarge : List Cond := .codeWith yL_isLarge cL_isLarge 4 (some .int) [(0, 16, 19, 13)] :: ((wsL_isLarge_r1 ++ wsL_isLarge_r2) ++ wsX40 ++ wsX10 ++ (vx_atS RX4 141 "java/lang/IndexOutOfBoundsException" ["java/lang/RuntimeException", "java/lang/Exception"]).filter goodWord)
def wsL_inRow_r1 : List Cond := [Cond.classLink RL 13 "java/lang/IndexOutOfBoundsException", Cond.methodLink RL 62 yX4_inRow, Cond.instanceMethod yX4_inRow, Cond.selects RX4 yX4_inRow yX4_inRow, Cond.initialized RX4, Cond.code yX4_inRow cX4_inRow 2 (some .int), Cond.methodLink RX4 130 yX4_rowOf, Cond.instanceMethod yX4_rowOf, Cond.selects RX4 yX4_rowOf yX4_rowOf, Cond.code yX4_rowOf cX4_rowOf 2 (some (.object "Followrow$Row")), Cond.fieldLink RX4 31 "Followrow" "rows" "[LFollowrow$Row;", Cond.methodLink RX4 52 yX4_checkPerson, Cond.static yX4_checkPerson, Cond.code yX4_checkPerson cX4_checkPerson 1 none, Cond.classLink RX4 137 "java/lang/IndexOutOfBoundsException", Cond.initialized "java/lang/IndexOutOfBoundsException", Cond.methodLink RX4 168 yX4_isPerson, Cond.static yX4_isPerson, Cond.code yX4_isPerson cX4_isPerson 1 (some .boolean), Cond.methodLink RX4 134 yX2_count, Cond.instanceMethod yX2_count, Cond.selects RX2 yX2_count yX2_count, Cond.initialized RX2, Cond.code yX2_count cX2_count 1 (some .int)]
def wsL_inRow_r2 : List Cond := [Cond.fieldLink RX2 22 "Followrow$Row" "count" "I"]
def wsL_inRow : List Cond := .codeWith yL_inRow cL_inRow 4 (some .int) [(0, 9, 12, 13)] :: ((wsL_inRow_r1 ++ wsL_inRow_r2) ++ wsX40 ++ wsX20 ++ (vx_atS RX4 141 "java/lang/IndexOutOfBoundsException" ["java/lang/RuntimeException", "java/lang/Exception"]).filter goodWord)
def wsL_rowAt_r1 : List Cond := [Cond.classLink RL 13 "java/lang/IndexOutOfBoundsException", Cond.methodLink RL 65 yX4_rowAt, Cond.instanceMethod yX4_rowAt, Cond.selects RX4 yX4_rowAt yX4_rowAt, Cond.initialized RX4, Cond.code yX4_rowAt cX4_rowAt 4 (some .int), Cond.classLink RX4 137 "java/lang/IndexOutOfBoundsException", Cond.initialized "java/lang/IndexOutOfBoundsException", Cond.methodLink RX4 130 yX4_rowOf, Cond.instanceMethod yX4_rowOf, Cond.selects RX4 yX4_rowOf yX4_rowOf, Cond.code yX4_rowOf cX4_rowOf 2 (some (.object "Followrow$Row")), Cond.fieldLink RX4 31 "Followrow" "rows" "[LFollowrow$Row;", Cond.methodLink RX4 52 yX4_checkPerson, Cond.static yX4_checkPerson, Cond.code yX4_checkPerson cX4_checkPerson 1 none, Cond.methodLink RX4 168 yX4_isPerson, Cond.static yX4_isPerson, Cond.code yX4_isPerson cX4_isPerson 1 (some .boolean), Cond.methodLink RX4 134 yX2_count, Cond.instanceMethod yX2_count, Cond.selects RX2 yX2_count yX2_count, Cond.initialized RX2, Cond.code yX2_count cX2_count 1 (some .int)]
def wsL_rowAt_r2 : List Cond := [Cond.fieldLink RX2 22 "Followrow$Row" "count" "I", Cond.methodLink RX4 142 yX2_fromNewest, Cond.instanceMethod yX2_fromNewest, Cond.selects RX2 yX2_fromNewest yX2_fromNewest, Cond.code yX2_fromNewest cX2_fromNewest 2 (some .int), Cond.fieldLink RX2 9 "Followrow$Row" "numbers" "[I"]
def wsL_rowAt : List Cond := .codeWith yL_rowAt cL_rowAt 5 (some .int) [(0, 10, 13, 13)] :: ((wsL_rowAt_r1 ++ wsL_rowAt_r2) ++ wsX40 ++ wsX20 ++ (vx_atS RX4 141 "java/lang/IndexOutOfBoundsException" ["java/lang/RuntimeException", "java/lang/Exception"]).filter goodWord)
def wsL_floorOf_r1 : List Cond := [Cond.classLink RL 13 "java/lang/IndexOutOfBoundsException", Cond.methodLink RL 68 yX4_floorOf, Cond.instanceMethod yX4_floorOf, Cond.selects RX4 yX4_floorOf yX4_floorOf, Cond.initialized RX4, Cond.code yX4_floorOf cX4_floorOf 2 (some .int), Cond.methodLink RX4 130 yX4_rowOf, Cond.instanceMethod yX4_rowOf, Cond.selects RX4 yX4_rowOf yX4_rowOf, Cond.code yX4_rowOf cX4_rowOf 2 (some (.object "Followrow$Row")), Cond.fieldLink RX4 31 "Followrow" "rows" "[LFollowrow$Row;", Cond.methodLink RX4 52 yX4_checkPerson, Cond.static yX4_checkPerson, Cond.code yX4_checkPerson cX4_checkPerson 1 none, Cond.classLink RX4 137 "java/lang/IndexOutOfBoundsException", Cond.initialized "java/lang/IndexOutOfBoundsException", Cond.methodLink RX4 168 yX4_isPerson, Cond.static yX4_isPerson, Cond.code yX4_isPerson cX4_isPerson 1 (some .boolean), Cond.methodLink RX4 145 yX2_floor, Cond.instanceMethod yX2_floor, Cond.selects RX2 yX2_floor yX2_floor, Cond.initialized RX2, Cond.code yX2_floor cX2_floor 1 (some .int)]
def wsL_floorOf_r2 : List Cond := [Cond.fieldLink RX2 15 "Followrow$Row" "floor" "I"]
def wsL_floorOf : List Cond := .codeWith yL_floorOf cL_floorOf 4 (some .int) [(0, 9, 12, 13)] :: ((wsL_floorOf_r1 ++ wsL_floorOf_r2) ++ wsX40 ++ wsX20 ++ (vx_atS RX4 141 "java/lang/IndexOutOfBoundsException" ["java/lang/RuntimeException", "java/lang/Exception"]).filter goodWord)
def wsL_shows_r1 : List Cond := [Cond.classLink RL 13 "java/lang/IndexOutOfBoundsException", Cond.methodLink RL 71 yX4_shows, Cond.instanceMethod yX4_shows, Cond.selects RX4 yX4_shows yX4_shows, Cond.initialized RX4, Cond.code yX4_shows cX4_shows 4 (some .boolean), Cond.fieldLink RX4 38 "Followrow" "timeline" "LFollowrow$Timeline;", Cond.methodLink RX4 130 yX4_rowOf, Cond.instanceMethod yX4_rowOf, Cond.selects RX4 yX4_rowOf yX4_rowOf, Cond.code yX4_rowOf cX4_rowOf 2 (some (.object "Followrow$Row")), Cond.fieldLink RX4 31 "Followrow" "rows" "[LFollowrow$Row;", Cond.methodLink RX4 52 yX4_checkPerson, Cond.static yX4_checkPerson, Cond.code yX4_checkPerson cX4_checkPerson 1 none, Cond.classLink RX4 137 "java/lang/IndexOutOfBoundsException", Cond.initialized "java/lang/IndexOutOfBoundsException", Cond.methodLink RX4 168 yX4_isPerson, Cond.static yX4_isPerson, Cond.code yX4_isPerson cX4_isPerson 1 (some .boolean), Cond.methodLink RX4 95 yX4_checkEntry, Cond.instanceMethod yX4_checkEntry, Cond.selects RX4 yX4_checkEntry yX4_checkEntry, Cond.code yX4_checkEntry cX4_checkEntry 2 none]
def wsL_shows_r2 : List Cond := [Cond.fieldLink RX4 25 "Followrow" "ledger" "LFollowrow$Ledger;", Cond.methodLink RX4 180 yX0_has, Cond.instanceMethod yX0_has, Cond.selects RX0 yX0_has yX0_has, Cond.initialized RX0, Cond.code yX0_has cX0_has 2 (some .boolean), Cond.fieldLink RX0 22 "Followrow$Ledger" "made" "I", Cond.methodLink RX4 148 yX4_readTimeline, Cond.instanceMethod yX4_readTimeline, Cond.selects RX4 yX4_readTimeline yX4_readTimeline, Cond.code yX4_readTimeline cX4_readTimeline 5 none, Cond.methodLink RX4 204 yX3_empty, Cond.instanceMethod yX3_empty, Cond.selects RX3 yX3_empty yX3_empty, Cond.initialized RX3, Cond.code yX3_empty cX3_empty 2 none, Cond.fieldLink RX3 19 "Followrow$Timeline" "count" "I", Cond.fieldLink RX3 15 "Followrow$Timeline" "taken" "[Z", Cond.methodLink RX4 88 yX0_made, Cond.instanceMethod yX0_made, Cond.selects RX0 yX0_made yX0_made, Cond.code yX0_made cX0_made 1 (some .int), Cond.methodLink RX4 145 yX2_floor, Cond.instanceMethod yX2_floor]
def wsL_shows_r3 : List Cond := [Cond.selects RX2 yX2_floor yX2_floor, Cond.initialized RX2, Cond.code yX2_floor cX2_floor 1 (some .int), Cond.fieldLink RX2 15 "Followrow$Row" "floor" "I", Cond.methodLink RX4 142 yX2_fromNewest, Cond.instanceMethod yX2_fromNewest, Cond.selects RX2 yX2_fromNewest yX2_fromNewest, Cond.code yX2_fromNewest cX2_fromNewest 2 (some .int), Cond.fieldLink RX2 22 "Followrow$Row" "count" "I", Cond.fieldLink RX2 9 "Followrow$Row" "numbers" "[I", Cond.methodLink RX4 192 yX2_owner, Cond.instanceMethod yX2_owner, Cond.selects RX2 yX2_owner yX2_owner, Cond.code yX2_owner cX2_owner 1 (some .int), Cond.fieldLink RX2 19 "Followrow$Row" "owner" "I", Cond.methodLink RX4 205 yX4_isFetched, Cond.instanceMethod yX4_isFetched, Cond.selects RX4 yX4_isFetched yX4_isFetched, Cond.code yX4_isFetched cX4_isFetched 4 (some .boolean), Cond.fieldLink RX4 10 "Followrow" "following" "LFollowrow$Relation;", Cond.methodLink RX4 107 yX0_author, Cond.instanceMethod yX0_author, Cond.selects RX0 yX0_author yX0_author, Cond.code yX0_author cX0_author 2 (some .int)]
def wsL_shows_r4 : List Cond := [Cond.fieldLink RX0 9 "Followrow$Ledger" "authors" "[I", Cond.methodLink RX0 26 yX0_has, Cond.methodLink RX4 59 yX1_has, Cond.instanceMethod yX1_has, Cond.selects RX1 yX1_has yX1_has, Cond.initialized RX1, Cond.code yX1_has cX1_has 3 (some .boolean), Cond.fieldLink RX1 9 "Followrow$Relation" "pairs" "[Z", Cond.methodLink RX4 127 yX4_isOverMark, Cond.instanceMethod yX4_isOverMark, Cond.selects RX4 yX4_isOverMark yX4_isOverMark, Cond.code yX4_isOverMark cX4_isOverMark 2 (some .boolean), Cond.fieldLink RX4 42 "Followrow" "mark" "I", Cond.methodLink RX4 79 yX1_countTo, Cond.instanceMethod yX1_countTo, Cond.selects RX1 yX1_countTo yX1_countTo, Cond.code yX1_countTo cX1_countTo 4 (some .int), Cond.methodLink RX1 19 yX1_has, Cond.methodLink RX4 208 yX4_offer, Cond.instanceMethod yX4_offer, Cond.selects RX4 yX4_offer yX4_offer, Cond.code yX4_offer cX4_offer 3 none, Cond.methodLink RX4 211 yX4_isHidden, Cond.instanceMethod yX4_isHidden]
def wsL_shows_r5 : List Cond := [Cond.selects RX4 yX4_isHidden yX4_isHidden, Cond.code yX4_isHidden cX4_isHidden 5 (some .boolean), Cond.fieldLink RX4 16 "Followrow" "muting" "LFollowrow$Relation;", Cond.fieldLink RX4 19 "Followrow" "blocking" "LFollowrow$Relation;", Cond.methodLink RX4 98 yX0_origin, Cond.instanceMethod yX0_origin, Cond.selects RX0 yX0_origin yX0_origin, Cond.code yX0_origin cX0_origin 2 (some .int), Cond.fieldLink RX0 15 "Followrow$Ledger" "origins" "[I", Cond.methodLink RX4 101 yX0_stands, Cond.instanceMethod yX0_stands, Cond.selects RX0 yX0_stands yX0_stands, Cond.code yX0_stands cX0_stands 2 (some .boolean), Cond.fieldLink RX0 18 "Followrow$Ledger" "deleted" "[Z", Cond.methodLink RX4 214 yX3_addBelow, Cond.instanceMethod yX3_addBelow, Cond.selects RX3 yX3_addBelow yX3_addBelow, Cond.code yX3_addBelow cX3_addBelow 4 none, Cond.fieldLink RX3 9 "Followrow$Timeline" "numbers" "[I", Cond.methodLink RX4 152 yX3_placeBelow, Cond.instanceMethod yX3_placeBelow, Cond.selects RX3 yX3_placeBelow yX3_placeBelow, Cond.code yX3_placeBelow cX3_placeBelow 3 (some .int), Cond.methodLink RX3 23 yX3_at]
def wsL_shows_r6 : List Cond := [Cond.instanceMethod yX3_at, Cond.selects RX3 yX3_at yX3_at, Cond.code yX3_at cX3_at 2 (some .int), Cond.methodLink RX4 155 yX3_at]
def wsL_shows : List Cond := .codeWith yL_shows cL_shows 5 (some .int) [(0, 17, 20, 13)] :: ((wsL_shows_r1 ++ (wsL_shows_r2 ++ (wsL_shows_r3 ++ (wsL_shows_r4 ++ (wsL_shows_r5 ++ wsL_shows_r6))))) ++ wsX40 ++ wsX00 ++ wsX30 ++ wsX20 ++ wsX10 ++ (vx_atS RX4 141 "java/lang/IndexOutOfBoundsException" ["java/lang/RuntimeException", "java/lang/Exception"]).filter goodWord)
def wsL_next_r1 : List Cond := [Cond.classLink RL 13 "java/lang/IndexOutOfBoundsException", Cond.classLink RL 15 "java/lang/IllegalArgumentException", Cond.methodLink RL 74 yX4_next, Cond.instanceMethod yX4_next, Cond.selects RX4 yX4_next yX4_next, Cond.initialized RX4, Cond.code yX4_next cX4_next 4 (some .int), Cond.fieldLink RX4 38 "Followrow" "timeline" "LFollowrow$Timeline;", Cond.methodLink RX4 130 yX4_rowOf, Cond.instanceMethod yX4_rowOf, Cond.selects RX4 yX4_rowOf yX4_rowOf, Cond.code yX4_rowOf cX4_rowOf 2 (some (.object "Followrow$Row")), Cond.fieldLink RX4 31 "Followrow" "rows" "[LFollowrow$Row;", Cond.methodLink RX4 52 yX4_checkPerson, Cond.static yX4_checkPerson, Cond.code yX4_checkPerson cX4_checkPerson 1 none, Cond.classLink RX4 137 "java/lang/IndexOutOfBoundsException", Cond.initialized "java/lang/IndexOutOfBoundsException", Cond.methodLink RX4 168 yX4_isPerson, Cond.static yX4_isPerson, Cond.code yX4_isPerson cX4_isPerson 1 (some .boolean), Cond.methodLink RX4 120 yX4_checkRange, Cond.static yX4_checkRange, Cond.code yX4_checkRange cX4_checkRange 3 none]
def wsL_next_r2 : List Cond := [Cond.classLink RX4 173 "java/lang/IllegalArgumentException", Cond.initialized "java/lang/IllegalArgumentException", Cond.methodLink RX4 148 yX4_readTimeline, Cond.instanceMethod yX4_readTimeline, Cond.selects RX4 yX4_readTimeline yX4_readTimeline, Cond.code yX4_readTimeline cX4_readTimeline 5 none, Cond.fieldLink RX4 25 "Followrow" "ledger" "LFollowrow$Ledger;", Cond.methodLink RX4 204 yX3_empty, Cond.instanceMethod yX3_empty, Cond.selects RX3 yX3_empty yX3_empty, Cond.initialized RX3, Cond.code yX3_empty cX3_empty 2 none, Cond.fieldLink RX3 19 "Followrow$Timeline" "count" "I", Cond.fieldLink RX3 15 "Followrow$Timeline" "taken" "[Z", Cond.methodLink RX4 88 yX0_made, Cond.instanceMethod yX0_made, Cond.selects RX0 yX0_made yX0_made, Cond.initialized RX0, Cond.code yX0_made cX0_made 1 (some .int), Cond.fieldLink RX0 22 "Followrow$Ledger" "made" "I", Cond.methodLink RX4 145 yX2_floor, Cond.instanceMethod yX2_floor, Cond.selects RX2 yX2_floor yX2_floor, Cond.initialized RX2]
def wsL_next_r3 : List Cond := [Cond.code yX2_floor cX2_floor 1 (some .int), Cond.fieldLink RX2 15 "Followrow$Row" "floor" "I", Cond.methodLink RX4 142 yX2_fromNewest, Cond.instanceMethod yX2_fromNewest, Cond.selects RX2 yX2_fromNewest yX2_fromNewest, Cond.code yX2_fromNewest cX2_fromNewest 2 (some .int), Cond.fieldLink RX2 22 "Followrow$Row" "count" "I", Cond.fieldLink RX2 9 "Followrow$Row" "numbers" "[I", Cond.methodLink RX4 192 yX2_owner, Cond.instanceMethod yX2_owner, Cond.selects RX2 yX2_owner yX2_owner, Cond.code yX2_owner cX2_owner 1 (some .int), Cond.fieldLink RX2 19 "Followrow$Row" "owner" "I", Cond.methodLink RX4 205 yX4_isFetched, Cond.instanceMethod yX4_isFetched, Cond.selects RX4 yX4_isFetched yX4_isFetched, Cond.code yX4_isFetched cX4_isFetched 4 (some .boolean), Cond.fieldLink RX4 10 "Followrow" "following" "LFollowrow$Relation;", Cond.methodLink RX4 107 yX0_author, Cond.instanceMethod yX0_author, Cond.selects RX0 yX0_author yX0_author, Cond.code yX0_author cX0_author 2 (some .int), Cond.fieldLink RX0 9 "Followrow$Ledger" "authors" "[I", Cond.methodLink RX0 26 yX0_has]
def wsL_next_r4 : List Cond := [Cond.instanceMethod yX0_has, Cond.selects RX0 yX0_has yX0_has, Cond.code yX0_has cX0_has 2 (some .boolean), Cond.methodLink RX4 59 yX1_has, Cond.instanceMethod yX1_has, Cond.selects RX1 yX1_has yX1_has, Cond.initialized RX1, Cond.code yX1_has cX1_has 3 (some .boolean), Cond.fieldLink RX1 9 "Followrow$Relation" "pairs" "[Z", Cond.methodLink RX4 127 yX4_isOverMark, Cond.instanceMethod yX4_isOverMark, Cond.selects RX4 yX4_isOverMark yX4_isOverMark, Cond.code yX4_isOverMark cX4_isOverMark 2 (some .boolean), Cond.fieldLink RX4 42 "Followrow" "mark" "I", Cond.methodLink RX4 79 yX1_countTo, Cond.instanceMethod yX1_countTo, Cond.selects RX1 yX1_countTo yX1_countTo, Cond.code yX1_countTo cX1_countTo 4 (some .int), Cond.methodLink RX1 19 yX1_has, Cond.methodLink RX4 208 yX4_offer, Cond.instanceMethod yX4_offer, Cond.selects RX4 yX4_offer yX4_offer, Cond.code yX4_offer cX4_offer 3 none, Cond.methodLink RX4 211 yX4_isHidden]
def wsL_next_r5 : List Cond := [Cond.instanceMethod yX4_isHidden, Cond.selects RX4 yX4_isHidden yX4_isHidden, Cond.code yX4_isHidden cX4_isHidden 5 (some .boolean), Cond.fieldLink RX4 16 "Followrow" "muting" "LFollowrow$Relation;", Cond.fieldLink RX4 19 "Followrow" "blocking" "LFollowrow$Relation;", Cond.methodLink RX4 98 yX0_origin, Cond.instanceMethod yX0_origin, Cond.selects RX0 yX0_origin yX0_origin, Cond.code yX0_origin cX0_origin 2 (some .int), Cond.fieldLink RX0 15 "Followrow$Ledger" "origins" "[I", Cond.methodLink RX4 101 yX0_stands, Cond.instanceMethod yX0_stands, Cond.selects RX0 yX0_stands yX0_stands, Cond.code yX0_stands cX0_stands 2 (some .boolean), Cond.fieldLink RX0 18 "Followrow$Ledger" "deleted" "[Z", Cond.methodLink RX4 214 yX3_addBelow, Cond.instanceMethod yX3_addBelow, Cond.selects RX3 yX3_addBelow yX3_addBelow, Cond.code yX3_addBelow cX3_addBelow 4 none, Cond.fieldLink RX3 9 "Followrow$Timeline" "numbers" "[I", Cond.methodLink RX4 152 yX3_placeBelow, Cond.instanceMethod yX3_placeBelow, Cond.selects RX3 yX3_placeBelow yX3_placeBelow, Cond.code yX3_placeBelow cX3_placeBelow 3 (some .int)]
def wsL_next_r6 : List Cond := [Cond.methodLink RX3 23 yX3_at, Cond.instanceMethod yX3_at, Cond.selects RX3 yX3_at yX3_at, Cond.code yX3_at cX3_at 2 (some .int), Cond.methodLink RX4 155 yX3_at]
def wsL_next : List Cond := .codeWith yL_next cL_next 5 (some .int) [(0, 10, 13, 13), (0, 10, 17, 15)] :: ((wsL_next_r1 ++ (wsL_next_r2 ++ (wsL_next_r3 ++ (wsL_next_r4 ++ (wsL_next_r5 ++ wsL_next_r6))))) ++ wsX40 ++ wsX30 ++ wsX00 ++ wsX20 ++ wsX10 ++ (vx_atS RX4 141 "java/lang/IndexOutOfBoundsException" ["java/lang/RuntimeException", "java/lang/Exception"]).filter goodWord ++ (vx_atS RX4 177 "java/lang/IllegalArgumentException" ["java/lang/RuntimeException", "java/lang/Exception"]).filter goodWord)
def wsL_pageEnd_r1 : List Cond := [Cond.classLink RL 13 "java/lang/IndexOutOfBoundsException", Cond.classLink RL 15 "java/lang/IllegalArgumentException", Cond.methodLink RL 77 yX4_pageEnd, Cond.instanceMethod yX4_pageEnd, Cond.selects RX4 yX4_pageEnd yX4_pageEnd, Cond.initialized RX4, Cond.code yX4_pageEnd cX4_pageEnd 6 (some .int), Cond.fieldLink RX4 38 "Followrow" "timeline" "LFollowrow$Timeline;", Cond.methodLink RX4 159 Lib.Math.min.name, Cond.static Lib.Math.min.name, Cond.initialized "java/lang/Math", Cond.code Lib.Math.min.name Lib.Math.min.code 2 (some .int), Cond.methodLink RX4 130 yX4_rowOf, Cond.instanceMethod yX4_rowOf, Cond.selects RX4 yX4_rowOf yX4_rowOf, Cond.code yX4_rowOf cX4_rowOf 2 (some (.object "Followrow$Row")), Cond.fieldLink RX4 31 "Followrow" "rows" "[LFollowrow$Row;", Cond.methodLink RX4 52 yX4_checkPerson, Cond.static yX4_checkPerson, Cond.code yX4_checkPerson cX4_checkPerson 1 none, Cond.classLink RX4 137 "java/lang/IndexOutOfBoundsException", Cond.initialized "java/lang/IndexOutOfBoundsException", Cond.methodLink RX4 168 yX4_isPerson, Cond.static yX4_isPerson]
def wsL_pageEnd_r2 : List Cond := [Cond.code yX4_isPerson cX4_isPerson 1 (some .boolean), Cond.methodLink RX4 120 yX4_checkRange, Cond.static yX4_checkRange, Cond.code yX4_checkRange cX4_checkRange 3 none, Cond.classLink RX4 173 "java/lang/IllegalArgumentException", Cond.initialized "java/lang/IllegalArgumentException", Cond.methodLink RX4 148 yX4_readTimeline, Cond.instanceMethod yX4_readTimeline, Cond.selects RX4 yX4_readTimeline yX4_readTimeline, Cond.code yX4_readTimeline cX4_readTimeline 5 none, Cond.fieldLink RX4 25 "Followrow" "ledger" "LFollowrow$Ledger;", Cond.methodLink RX4 204 yX3_empty, Cond.instanceMethod yX3_empty, Cond.selects RX3 yX3_empty yX3_empty, Cond.initialized RX3, Cond.code yX3_empty cX3_empty 2 none, Cond.fieldLink RX3 19 "Followrow$Timeline" "count" "I", Cond.fieldLink RX3 15 "Followrow$Timeline" "taken" "[Z", Cond.methodLink RX4 88 yX0_made, Cond.instanceMethod yX0_made, Cond.selects RX0 yX0_made yX0_made, Cond.initialized RX0, Cond.code yX0_made cX0_made 1 (some .int), Cond.fieldLink RX0 22 "Followrow$Ledger" "made" "I"]
def wsL_pageEnd_r3 : List Cond := [Cond.methodLink RX4 145 yX2_floor, Cond.instanceMethod yX2_floor, Cond.selects RX2 yX2_floor yX2_floor, Cond.initialized RX2, Cond.code yX2_floor cX2_floor 1 (some .int), Cond.fieldLink RX2 15 "Followrow$Row" "floor" "I", Cond.methodLink RX4 142 yX2_fromNewest, Cond.instanceMethod yX2_fromNewest, Cond.selects RX2 yX2_fromNewest yX2_fromNewest, Cond.code yX2_fromNewest cX2_fromNewest 2 (some .int), Cond.fieldLink RX2 22 "Followrow$Row" "count" "I", Cond.fieldLink RX2 9 "Followrow$Row" "numbers" "[I", Cond.methodLink RX4 192 yX2_owner, Cond.instanceMethod yX2_owner, Cond.selects RX2 yX2_owner yX2_owner, Cond.code yX2_owner cX2_owner 1 (some .int), Cond.fieldLink RX2 19 "Followrow$Row" "owner" "I", Cond.methodLink RX4 205 yX4_isFetched, Cond.instanceMethod yX4_isFetched, Cond.selects RX4 yX4_isFetched yX4_isFetched, Cond.code yX4_isFetched cX4_isFetched 4 (some .boolean), Cond.fieldLink RX4 10 "Followrow" "following" "LFollowrow$Relation;", Cond.methodLink RX4 107 yX0_author, Cond.instanceMethod yX0_author]
def wsL_pageEnd_r4 : List Cond := [Cond.selects RX0 yX0_author yX0_author, Cond.code yX0_author cX0_author 2 (some .int), Cond.fieldLink RX0 9 "Followrow$Ledger" "authors" "[I", Cond.methodLink RX0 26 yX0_has, Cond.instanceMethod yX0_has, Cond.selects RX0 yX0_has yX0_has, Cond.code yX0_has cX0_has 2 (some .boolean), Cond.methodLink RX4 59 yX1_has, Cond.instanceMethod yX1_has, Cond.selects RX1 yX1_has yX1_has, Cond.initialized RX1, Cond.code yX1_has cX1_has 3 (some .boolean), Cond.fieldLink RX1 9 "Followrow$Relation" "pairs" "[Z", Cond.methodLink RX4 127 yX4_isOverMark, Cond.instanceMethod yX4_isOverMark, Cond.selects RX4 yX4_isOverMark yX4_isOverMark, Cond.code yX4_isOverMark cX4_isOverMark 2 (some .boolean), Cond.fieldLink RX4 42 "Followrow" "mark" "I", Cond.methodLink RX4 79 yX1_countTo, Cond.instanceMethod yX1_countTo, Cond.selects RX1 yX1_countTo yX1_countTo, Cond.code yX1_countTo cX1_countTo 4 (some .int), Cond.methodLink RX1 19 yX1_has, Cond.methodLink RX4 208 yX4_offer]
def wsL_pageEnd_r5 : List Cond := [Cond.instanceMethod yX4_offer, Cond.selects RX4 yX4_offer yX4_offer, Cond.code yX4_offer cX4_offer 3 none, Cond.methodLink RX4 211 yX4_isHidden, Cond.instanceMethod yX4_isHidden, Cond.selects RX4 yX4_isHidden yX4_isHidden, Cond.code yX4_isHidden cX4_isHidden 5 (some .boolean), Cond.fieldLink RX4 16 "Followrow" "muting" "LFollowrow$Relation;", Cond.fieldLink RX4 19 "Followrow" "blocking" "LFollowrow$Relation;", Cond.methodLink RX4 98 yX0_origin, Cond.instanceMethod yX0_origin, Cond.selects RX0 yX0_origin yX0_origin, Cond.code yX0_origin cX0_origin 2 (some .int), Cond.fieldLink RX0 15 "Followrow$Ledger" "origins" "[I", Cond.methodLink RX4 101 yX0_stands, Cond.instanceMethod yX0_stands, Cond.selects RX0 yX0_stands yX0_stands, Cond.code yX0_stands cX0_stands 2 (some .boolean), Cond.fieldLink RX0 18 "Followrow$Ledger" "deleted" "[Z", Cond.methodLink RX4 214 yX3_addBelow, Cond.instanceMethod yX3_addBelow, Cond.selects RX3 yX3_addBelow yX3_addBelow, Cond.code yX3_addBelow cX3_addBelow 4 none, Cond.fieldLink RX3 9 "Followrow$Timeline" "numbers" "[I"]
def wsL_pageEnd_r6 : List Cond := [Cond.methodLink RX4 152 yX3_placeBelow, Cond.instanceMethod yX3_placeBelow, Cond.selects RX3 yX3_placeBelow yX3_placeBelow, Cond.code yX3_placeBelow cX3_placeBelow 3 (some .int), Cond.methodLink RX3 23 yX3_at, Cond.instanceMethod yX3_at, Cond.selects RX3 yX3_at yX3_at, Cond.code yX3_at cX3_at 2 (some .int), Cond.methodLink RX4 158 yX3_count, Cond.instanceMethod yX3_count, Cond.selects RX3 yX3_count yX3_count, Cond.code yX3_count cX3_count 1 (some .int), Cond.methodLink RX4 155 yX3_at]
def wsL_pageEnd : List Cond := .codeWith yL_pageEnd cL_pageEnd 6 (some .int) [(0, 12, 15, 13), (0, 12, 19, 15)] :: ((wsL_pageEnd_r1 ++ (wsL_pageEnd_r2 ++ (wsL_pageEnd_r3 ++ (wsL_pageEnd_r4 ++ (wsL_pageEnd_r5 ++ wsL_pageEnd_r6))))) ++ wsX40 ++ wsX30 ++ wsX00 ++ wsX20 ++ wsX10 ++ (vx_atS RX4 141 "java/lang/IndexOutOfBoundsException" ["java/lang/RuntimeException", "java/lang/Exception"]).filter goodWord ++ (vx_atS RX4 177 "java/lang/IllegalArgumentException" ["java/lang/RuntimeException", "java/lang/Exception"]).filter goodWord)
def wsL_length_r1 : List Cond := [Cond.classLink RL 13 "java/lang/IndexOutOfBoundsException", Cond.methodLink RL 81 yX4_length, Cond.instanceMethod yX4_length, Cond.selects RX4 yX4_length yX4_length, Cond.initialized RX4, Cond.code yX4_length cX4_length 2 (some .int), Cond.fieldLink RX4 38 "Followrow" "timeline" "LFollowrow$Timeline;", Cond.methodLink RX4 130 yX4_rowOf, Cond.instanceMethod yX4_rowOf, Cond.selects RX4 yX4_rowOf yX4_rowOf, Cond.code yX4_rowOf cX4_rowOf 2 (some (.object "Followrow$Row")), Cond.fieldLink RX4 31 "Followrow" "rows" "[LFollowrow$Row;", Cond.methodLink RX4 52 yX4_checkPerson, Cond.static yX4_checkPerson, Cond.code yX4_checkPerson cX4_checkPerson 1 none, Cond.classLink RX4 137 "java/lang/IndexOutOfBoundsException", Cond.initialized "java/lang/IndexOutOfBoundsException", Cond.methodLink RX4 168 yX4_isPerson, Cond.static yX4_isPerson, Cond.code yX4_isPerson cX4_isPerson 1 (some .boolean), Cond.methodLink RX4 148 yX4_readTimeline, Cond.instanceMethod yX4_readTimeline, Cond.selects RX4 yX4_readTimeline yX4_readTimeline, Cond.code yX4_readTimeline cX4_readTimeline 5 none]
def wsL_length_r2 : List Cond := [Cond.fieldLink RX4 25 "Followrow" "ledger" "LFollowrow$Ledger;", Cond.methodLink RX4 204 yX3_empty, Cond.instanceMethod yX3_empty, Cond.selects RX3 yX3_empty yX3_empty, Cond.initialized RX3, Cond.code yX3_empty cX3_empty 2 none, Cond.fieldLink RX3 19 "Followrow$Timeline" "count" "I", Cond.fieldLink RX3 15 "Followrow$Timeline" "taken" "[Z", Cond.methodLink RX4 88 yX0_made, Cond.instanceMethod yX0_made, Cond.selects RX0 yX0_made yX0_made, Cond.initialized RX0, Cond.code yX0_made cX0_made 1 (some .int), Cond.fieldLink RX0 22 "Followrow$Ledger" "made" "I", Cond.methodLink RX4 145 yX2_floor, Cond.instanceMethod yX2_floor, Cond.selects RX2 yX2_floor yX2_floor, Cond.initialized RX2, Cond.code yX2_floor cX2_floor 1 (some .int), Cond.fieldLink RX2 15 "Followrow$Row" "floor" "I", Cond.methodLink RX4 142 yX2_fromNewest, Cond.instanceMethod yX2_fromNewest, Cond.selects RX2 yX2_fromNewest yX2_fromNewest, Cond.code yX2_fromNewest cX2_fromNewest 2 (some .int)]
def wsL_length_r3 : List Cond := [Cond.fieldLink RX2 22 "Followrow$Row" "count" "I", Cond.fieldLink RX2 9 "Followrow$Row" "numbers" "[I", Cond.methodLink RX4 192 yX2_owner, Cond.instanceMethod yX2_owner, Cond.selects RX2 yX2_owner yX2_owner, Cond.code yX2_owner cX2_owner 1 (some .int), Cond.fieldLink RX2 19 "Followrow$Row" "owner" "I", Cond.methodLink RX4 205 yX4_isFetched, Cond.instanceMethod yX4_isFetched, Cond.selects RX4 yX4_isFetched yX4_isFetched, Cond.code yX4_isFetched cX4_isFetched 4 (some .boolean), Cond.fieldLink RX4 10 "Followrow" "following" "LFollowrow$Relation;", Cond.methodLink RX4 107 yX0_author, Cond.instanceMethod yX0_author, Cond.selects RX0 yX0_author yX0_author, Cond.code yX0_author cX0_author 2 (some .int), Cond.fieldLink RX0 9 "Followrow$Ledger" "authors" "[I", Cond.methodLink RX0 26 yX0_has, Cond.instanceMethod yX0_has, Cond.selects RX0 yX0_has yX0_has, Cond.code yX0_has cX0_has 2 (some .boolean), Cond.methodLink RX4 59 yX1_has, Cond.instanceMethod yX1_has, Cond.selects RX1 yX1_has yX1_has]
def wsL_length_r4 : List Cond := [Cond.initialized RX1, Cond.code yX1_has cX1_has 3 (some .boolean), Cond.fieldLink RX1 9 "Followrow$Relation" "pairs" "[Z", Cond.methodLink RX4 127 yX4_isOverMark, Cond.instanceMethod yX4_isOverMark, Cond.selects RX4 yX4_isOverMark yX4_isOverMark, Cond.code yX4_isOverMark cX4_isOverMark 2 (some .boolean), Cond.fieldLink RX4 42 "Followrow" "mark" "I", Cond.methodLink RX4 79 yX1_countTo, Cond.instanceMethod yX1_countTo, Cond.selects RX1 yX1_countTo yX1_countTo, Cond.code yX1_countTo cX1_countTo 4 (some .int), Cond.methodLink RX1 19 yX1_has, Cond.methodLink RX4 208 yX4_offer, Cond.instanceMethod yX4_offer, Cond.selects RX4 yX4_offer yX4_offer, Cond.code yX4_offer cX4_offer 3 none, Cond.methodLink RX4 211 yX4_isHidden, Cond.instanceMethod yX4_isHidden, Cond.selects RX4 yX4_isHidden yX4_isHidden, Cond.code yX4_isHidden cX4_isHidden 5 (some .boolean), Cond.fieldLink RX4 16 "Followrow" "muting" "LFollowrow$Relation;", Cond.fieldLink RX4 19 "Followrow" "blocking" "LFollowrow$Relation;", Cond.methodLink RX4 98 yX0_origin]
def wsL_length_r5 : List Cond := [Cond.instanceMethod yX0_origin, Cond.selects RX0 yX0_origin yX0_origin, Cond.code yX0_origin cX0_origin 2 (some .int), Cond.fieldLink RX0 15 "Followrow$Ledger" "origins" "[I", Cond.methodLink RX4 101 yX0_stands, Cond.instanceMethod yX0_stands, Cond.selects RX0 yX0_stands yX0_stands, Cond.code yX0_stands cX0_stands 2 (some .boolean), Cond.fieldLink RX0 18 "Followrow$Ledger" "deleted" "[Z", Cond.methodLink RX4 214 yX3_addBelow, Cond.instanceMethod yX3_addBelow, Cond.selects RX3 yX3_addBelow yX3_addBelow, Cond.code yX3_addBelow cX3_addBelow 4 none, Cond.fieldLink RX3 9 "Followrow$Timeline" "numbers" "[I", Cond.methodLink RX4 158 yX3_count, Cond.instanceMethod yX3_count, Cond.selects RX3 yX3_count yX3_count, Cond.code yX3_count cX3_count 1 (some .int)]
def wsL_length : List Cond := .codeWith yL_length cL_length 4 (some .int) [(0, 9, 12, 13)] :: ((wsL_length_r1 ++ (wsL_length_r2 ++ (wsL_length_r3 ++ (wsL_length_r4 ++ wsL_length_r5)))) ++ wsX40 ++ wsX30 ++ wsX00 ++ wsX20 ++ wsX10 ++ (vx_atS RX4 141 "java/lang/IndexOutOfBoundsException" ["java/lang/RuntimeException", "java/lang/Exception"]).filter goodWord)
def wsL_lengthByMerging_r1 : List Cond := [Cond.classLink RL 13 "java/lang/IndexOutOfBoundsException", Cond.methodLink RL 84 yX4_lengthByMerging, Cond.instanceMethod yX4_lengthByMerging, Cond.selects RX4 yX4_lengthByMerging yX4_lengthByMerging, Cond.initialized RX4, Cond.code yX4_lengthByMerging cX4_lengthByMerging 2 (some .int), Cond.fieldLink RX4 38 "Followrow" "timeline" "LFollowrow$Timeline;", Cond.methodLink RX4 130 yX4_rowOf, Cond.instanceMethod yX4_rowOf, Cond.selects RX4 yX4_rowOf yX4_rowOf, Cond.code yX4_rowOf cX4_rowOf 2 (some (.object "Followrow$Row")), Cond.fieldLink RX4 31 "Followrow" "rows" "[LFollowrow$Row;", Cond.methodLink RX4 52 yX4_checkPerson, Cond.static yX4_checkPerson, Cond.code yX4_checkPerson cX4_checkPerson 1 none, Cond.classLink RX4 137 "java/lang/IndexOutOfBoundsException", Cond.initialized "java/lang/IndexOutOfBoundsException", Cond.methodLink RX4 168 yX4_isPerson, Cond.static yX4_isPerson, Cond.code yX4_isPerson cX4_isPerson 1 (some .boolean), Cond.methodLink RX4 145 yX2_floor, Cond.instanceMethod yX2_floor, Cond.selects RX2 yX2_floor yX2_floor, Cond.initialized RX2]
def wsL_lengthByMerging_r2 : List Cond := [Cond.code yX2_floor cX2_floor 1 (some .int), Cond.fieldLink RX2 15 "Followrow$Row" "floor" "I", Cond.methodLink RX4 165 yX4_mergeTimeline, Cond.instanceMethod yX4_mergeTimeline, Cond.selects RX4 yX4_mergeTimeline yX4_mergeTimeline, Cond.code yX4_mergeTimeline cX4_mergeTimeline 4 none, Cond.fieldLink RX4 25 "Followrow" "ledger" "LFollowrow$Ledger;", Cond.fieldLink RX4 10 "Followrow" "following" "LFollowrow$Relation;", Cond.methodLink RX4 204 yX3_empty, Cond.instanceMethod yX3_empty, Cond.selects RX3 yX3_empty yX3_empty, Cond.initialized RX3, Cond.code yX3_empty cX3_empty 2 none, Cond.fieldLink RX3 19 "Followrow$Timeline" "count" "I", Cond.fieldLink RX3 15 "Followrow$Timeline" "taken" "[Z", Cond.methodLink RX4 88 yX0_made, Cond.instanceMethod yX0_made, Cond.selects RX0 yX0_made yX0_made, Cond.initialized RX0, Cond.code yX0_made cX0_made 1 (some .int), Cond.fieldLink RX0 22 "Followrow$Ledger" "made" "I", Cond.methodLink RX4 107 yX0_author, Cond.instanceMethod yX0_author, Cond.selects RX0 yX0_author yX0_author]
def wsL_lengthByMerging_r3 : List Cond := [Cond.code yX0_author cX0_author 2 (some .int), Cond.fieldLink RX0 9 "Followrow$Ledger" "authors" "[I", Cond.methodLink RX0 26 yX0_has, Cond.instanceMethod yX0_has, Cond.selects RX0 yX0_has yX0_has, Cond.code yX0_has cX0_has 2 (some .boolean), Cond.methodLink RX4 59 yX1_has, Cond.instanceMethod yX1_has, Cond.selects RX1 yX1_has yX1_has, Cond.initialized RX1, Cond.code yX1_has cX1_has 3 (some .boolean), Cond.fieldLink RX1 9 "Followrow$Relation" "pairs" "[Z", Cond.methodLink RX4 208 yX4_offer, Cond.instanceMethod yX4_offer, Cond.selects RX4 yX4_offer yX4_offer, Cond.code yX4_offer cX4_offer 3 none, Cond.methodLink RX4 211 yX4_isHidden, Cond.instanceMethod yX4_isHidden, Cond.selects RX4 yX4_isHidden yX4_isHidden, Cond.code yX4_isHidden cX4_isHidden 5 (some .boolean), Cond.fieldLink RX4 16 "Followrow" "muting" "LFollowrow$Relation;", Cond.fieldLink RX4 19 "Followrow" "blocking" "LFollowrow$Relation;", Cond.methodLink RX4 98 yX0_origin, Cond.instanceMethod yX0_origin]
def wsL_lengthByMerging_r4 : List Cond := [Cond.selects RX0 yX0_origin yX0_origin, Cond.code yX0_origin cX0_origin 2 (some .int), Cond.fieldLink RX0 15 "Followrow$Ledger" "origins" "[I", Cond.methodLink RX4 101 yX0_stands, Cond.instanceMethod yX0_stands, Cond.selects RX0 yX0_stands yX0_stands, Cond.code yX0_stands cX0_stands 2 (some .boolean), Cond.fieldLink RX0 18 "Followrow$Ledger" "deleted" "[Z", Cond.methodLink RX4 214 yX3_addBelow, Cond.instanceMethod yX3_addBelow, Cond.selects RX3 yX3_addBelow yX3_addBelow, Cond.code yX3_addBelow cX3_addBelow 4 none, Cond.fieldLink RX3 9 "Followrow$Timeline" "numbers" "[I", Cond.methodLink RX4 158 yX3_count, Cond.instanceMethod yX3_count, Cond.selects RX3 yX3_count yX3_count, Cond.code yX3_count cX3_count 1 (some .int)]
def wsL_lengthByMerging : List Cond := .codeWith yL_lengthByMerging cL_lengthByMerging 4 (some .int) [(0, 9, 12, 13)] :: ((wsL_lengthByMerging_r1 ++ (wsL_lengthByMerging_r2 ++ (wsL_lengthByMerging_r3 ++ wsL_lengthByMerging_r4))) ++ wsX40 ++ wsX20 ++ wsX30 ++ wsX00 ++ wsX10 ++ (vx_atS RX4 141 "java/lang/IndexOutOfBoundsException" ["java/lang/RuntimeException", "java/lang/Exception"]).filter goodWord)
def wsL_hasGap_r1 : List Cond := [Cond.classLink RL 13 "java/lang/IndexOutOfBoundsException", Cond.methodLink RL 87 yX4_hasGap, Cond.instanceMethod yX4_hasGap, Cond.selects RX4 yX4_hasGap yX4_hasGap, Cond.initialized RX4, Cond.code yX4_hasGap cX4_hasGap 4 (some .boolean), Cond.fieldLink RX4 25 "Followrow" "ledger" "LFollowrow$Ledger;", Cond.fieldLink RX4 10 "Followrow" "following" "LFollowrow$Relation;", Cond.methodLink RX4 130 yX4_rowOf, Cond.instanceMethod yX4_rowOf, Cond.selects RX4 yX4_rowOf yX4_rowOf, Cond.code yX4_rowOf cX4_rowOf 2 (some (.object "Followrow$Row")), Cond.fieldLink RX4 31 "Followrow" "rows" "[LFollowrow$Row;", Cond.methodLink RX4 52 yX4_checkPerson, Cond.static yX4_checkPerson, Cond.code yX4_checkPerson cX4_checkPerson 1 none, Cond.classLink RX4 137 "java/lang/IndexOutOfBoundsException", Cond.initialized "java/lang/IndexOutOfBoundsException", Cond.methodLink RX4 168 yX4_isPerson, Cond.static yX4_isPerson, Cond.code yX4_isPerson cX4_isPerson 1 (some .boolean), Cond.methodLink RX4 145 yX2_floor, Cond.instanceMethod yX2_floor, Cond.selects RX2 yX2_floor yX2_floor]
def wsL_hasGap_r2 : List Cond := [Cond.initialized RX2, Cond.code yX2_floor cX2_floor 1 (some .int), Cond.fieldLink RX2 15 "Followrow$Row" "floor" "I", Cond.methodLink RX4 101 yX0_stands, Cond.instanceMethod yX0_stands, Cond.selects RX0 yX0_stands yX0_stands, Cond.initialized RX0, Cond.code yX0_stands cX0_stands 2 (some .boolean), Cond.fieldLink RX0 18 "Followrow$Ledger" "deleted" "[Z", Cond.methodLink RX0 26 yX0_has, Cond.instanceMethod yX0_has, Cond.selects RX0 yX0_has yX0_has, Cond.code yX0_has cX0_has 2 (some .boolean), Cond.fieldLink RX0 22 "Followrow$Ledger" "made" "I", Cond.methodLink RX4 107 yX0_author, Cond.instanceMethod yX0_author, Cond.selects RX0 yX0_author yX0_author, Cond.code yX0_author cX0_author 2 (some .int), Cond.fieldLink RX0 9 "Followrow$Ledger" "authors" "[I", Cond.methodLink RX4 59 yX1_has, Cond.instanceMethod yX1_has, Cond.selects RX1 yX1_has yX1_has, Cond.initialized RX1, Cond.code yX1_has cX1_has 3 (some .boolean)]
def wsL_hasGap_r3 : List Cond := [Cond.fieldLink RX1 9 "Followrow$Relation" "pairs" "[Z"]
def wsL_hasGap : List Cond := .codeWith yL_hasGap cL_hasGap 4 (some .int) [(0, 16, 19, 13)] :: ((wsL_hasGap_r1 ++ (wsL_hasGap_r2 ++ wsL_hasGap_r3)) ++ wsX40 ++ wsX20 ++ wsX00 ++ wsX10 ++ (vx_atS RX4 141 "java/lang/IndexOutOfBoundsException" ["java/lang/RuntimeException", "java/lang/Exception"]).filter goodWord)
def wsL_law0_r1 : List Cond := [Cond.classLink RL 8 RX4, Cond.instantiable RX4 8, Cond.initialized RX4, Cond.classLink RL 91 RX5, Cond.instantiable RX5 11, Cond.initialized RX5, Cond.arrayClass .long, Cond.methodLink RL 90 yX4_init, Cond.instanceMethod yX4_init, Cond.code yX4_init cX4_init 2 none, Cond.methodLink RX4 1 objectInit, Cond.instanceMethod objectInit, Cond.code objectInit ⟨#[0xb1]⟩ 1 none, Cond.classLink RX4 7 RX1, Cond.instantiable RX1 1, Cond.initialized RX1, Cond.fieldLink RX4 10 "Followrow" "following" "LFollowrow$Relation;", Cond.fieldLink RX4 16 "Followrow" "muting" "LFollowrow$Relation;", Cond.fieldLink RX4 19 "Followrow" "blocking" "LFollowrow$Relation;", Cond.classLink RX4 22 RX0, Cond.instantiable RX0 4, Cond.initialized RX0, Cond.fieldLink RX4 25 "Followrow" "ledger" "LFollowrow$Ledger;", Cond.classLink RX4 29 RX2]
def wsL_law0_r2 : List Cond := [Cond.fieldLink RX4 31 "Followrow" "rows" "[LFollowrow$Row;", Cond.classLink RX4 35 RX3, Cond.instantiable RX3 3, Cond.initialized RX3, Cond.fieldLink RX4 38 "Followrow" "timeline" "LFollowrow$Timeline;", Cond.fieldLink RX4 42 "Followrow" "mark" "I", Cond.fieldLink RX4 46 "Followrow" "room" "I", Cond.instantiable RX2 4, Cond.initialized RX2, Cond.instanceMethod yX1_init, Cond.code yX1_init cX1_init 1 none, Cond.methodLink RX1 3 objectInit, Cond.arrayClass .boolean, Cond.fieldLink RX1 9 "Followrow$Relation" "pairs" "[Z", Cond.instanceMethod yX0_init, Cond.code yX0_init cX0_init 1 none, Cond.methodLink RX0 3 objectInit, Cond.arrayClass .int, Cond.fieldLink RX0 9 "Followrow$Ledger" "authors" "[I", Cond.fieldLink RX0 15 "Followrow$Ledger" "origins" "[I", Cond.fieldLink RX0 18 "Followrow$Ledger" "deleted" "[Z", Cond.instanceMethod yX3_init, Cond.code yX3_init cX3_init 1 none, Cond.methodLink RX3 3 objectInit]
def wsL_law0_r3 : List Cond := [Cond.fieldLink RX3 9 "Followrow$Timeline" "numbers" "[I", Cond.fieldLink RX3 15 "Followrow$Timeline" "taken" "[Z", Cond.methodLink RX4 49 yX2_init, Cond.instanceMethod yX2_init, Cond.code yX2_init cX2_init 2 none, Cond.methodLink RX2 3 objectInit, Cond.fieldLink RX2 9 "Followrow$Row" "numbers" "[I", Cond.fieldLink RX2 15 "Followrow$Row" "floor" "I", Cond.fieldLink RX2 19 "Followrow$Row" "owner" "I", Cond.methodLink RL 93 yX5_init, Cond.instanceMethod yX5_init, Cond.code yX5_init cX5_init 2 none, Cond.methodLink RX5 1 objectInit, Cond.fieldLink RX5 7 "FollowrowModel" "followed" "[Z", Cond.fieldLink RX5 13 "FollowrowModel" "muted" "[Z", Cond.fieldLink RX5 16 "FollowrowModel" "blocked" "[Z", Cond.fieldLink RX5 19 "FollowrowModel" "author" "[I", Cond.fieldLink RX5 23 "FollowrowModel" "origin" "[I", Cond.fieldLink RX5 26 "FollowrowModel" "isGone" "[Z", Cond.fieldLink RX5 29 "FollowrowModel" "mark" "I", Cond.fieldLink RX5 33 "FollowrowModel" "room" "I", Cond.fieldLink RX5 36 "FollowrowModel" "floor" "[I", Cond.methodLink RL 94 yL_follow, Cond.static yL_follow]
def wsL_law0_r4 : List Cond := [Cond.initialized RL, Cond.codeWith yL_follow cL_follow 5 (some .int) [(0, 10, 13, 13), (0, 10, 17, 15), (0, 10, 21, 17)], Cond.classLink RL 13 "java/lang/IndexOutOfBoundsException", Cond.classLink RL 15 "java/lang/IllegalArgumentException", Cond.classLink RL 17 "java/lang/IllegalStateException", Cond.methodLink RL 7 yX4_follow, Cond.instanceMethod yX4_follow, Cond.selects RX4 yX4_follow yX4_follow, Cond.code yX4_follow cX4_follow 3 (some .int), Cond.classLink RX4 63 "java/lang/IllegalStateException", Cond.initialized "java/lang/IllegalStateException", Cond.methodLink RX4 52 yX4_checkPerson, Cond.static yX4_checkPerson, Cond.code yX4_checkPerson cX4_checkPerson 1 none, Cond.classLink RX4 137 "java/lang/IndexOutOfBoundsException", Cond.initialized "java/lang/IndexOutOfBoundsException", Cond.methodLink RX4 168 yX4_isPerson, Cond.static yX4_isPerson, Cond.code yX4_isPerson cX4_isPerson 1 (some .boolean), Cond.methodLink RX4 55 yX4_checkDifferent, Cond.static yX4_checkDifferent, Cond.code yX4_checkDifferent cX4_checkDifferent 2 none, Cond.classLink RX4 173 "java/lang/IllegalArgumentException", Cond.initialized "java/lang/IllegalArgumentException"]
def wsL_law0_r5 : List Cond := [Cond.methodLink RX4 59 yX1_has, Cond.instanceMethod yX1_has, Cond.selects RX1 yX1_has yX1_has, Cond.code yX1_has cX1_has 3 (some .boolean), Cond.methodLink RX4 72 yX1_put, Cond.instanceMethod yX1_put, Cond.selects RX1 yX1_put yX1_put, Cond.code yX1_put cX1_put 4 none, Cond.methodLink RX4 76 yX4_settleRows, Cond.instanceMethod yX4_settleRows, Cond.selects RX4 yX4_settleRows yX4_settleRows, Cond.code yX4_settleRows cX4_settleRows 5 none, Cond.methodLink RX4 186 yX4_settleRow, Cond.instanceMethod yX4_settleRow, Cond.selects RX4 yX4_settleRow yX4_settleRow, Cond.code yX4_settleRow cX4_settleRow 4 none, Cond.methodLink RX4 145 yX2_floor, Cond.instanceMethod yX2_floor, Cond.selects RX2 yX2_floor yX2_floor, Cond.code yX2_floor cX2_floor 1 (some .int), Cond.methodLink RX4 189 yX2_empty, Cond.instanceMethod yX2_empty, Cond.selects RX2 yX2_empty yX2_empty, Cond.code yX2_empty cX2_empty 1 none]
def wsL_law0_r6 : List Cond := [Cond.fieldLink RX2 22 "Followrow$Row" "count" "I", Cond.methodLink RX4 88 yX0_made, Cond.instanceMethod yX0_made, Cond.selects RX0 yX0_made yX0_made, Cond.code yX0_made cX0_made 1 (some .int), Cond.fieldLink RX0 22 "Followrow$Ledger" "made" "I", Cond.methodLink RX4 192 yX2_owner, Cond.instanceMethod yX2_owner, Cond.selects RX2 yX2_owner yX2_owner, Cond.code yX2_owner cX2_owner 1 (some .int), Cond.methodLink RX4 195 yX4_isForRow, Cond.instanceMethod yX4_isForRow, Cond.selects RX4 yX4_isForRow yX4_isForRow, Cond.code yX4_isForRow cX4_isForRow 4 (some .boolean), Cond.methodLink RX4 107 yX0_author, Cond.instanceMethod yX0_author, Cond.selects RX0 yX0_author yX0_author, Cond.code yX0_author cX0_author 2 (some .int), Cond.methodLink RX0 26 yX0_has, Cond.instanceMethod yX0_has, Cond.selects RX0 yX0_has yX0_has, Cond.code yX0_has cX0_has 2 (some .boolean), Cond.methodLink RX4 101 yX0_stands, Cond.instanceMethod yX0_stands]
def wsL_law0_r7 : List Cond := [Cond.selects RX0 yX0_stands yX0_stands, Cond.code yX0_stands cX0_stands 2 (some .boolean), Cond.methodLink RX4 127 yX4_isOverMark, Cond.instanceMethod yX4_isOverMark, Cond.selects RX4 yX4_isOverMark yX4_isOverMark, Cond.code yX4_isOverMark cX4_isOverMark 2 (some .boolean), Cond.methodLink RX4 79 yX1_countTo, Cond.instanceMethod yX1_countTo, Cond.selects RX1 yX1_countTo yX1_countTo, Cond.code yX1_countTo cX1_countTo 4 (some .int), Cond.methodLink RX1 19 yX1_has, Cond.methodLink RX4 134 yX2_count, Cond.instanceMethod yX2_count, Cond.selects RX2 yX2_count yX2_count, Cond.code yX2_count cX2_count 1 (some .int), Cond.methodLink RX4 198 yX2_raiseFloor, Cond.instanceMethod yX2_raiseFloor, Cond.selects RX2 yX2_raiseFloor yX2_raiseFloor, Cond.code yX2_raiseFloor cX2_raiseFloor 2 none, Cond.methodLink RX4 201 yX2_addBelow, Cond.instanceMethod yX2_addBelow, Cond.selects RX2 yX2_addBelow yX2_addBelow, Cond.code yX2_addBelow cX2_addBelow 2 none, Cond.methodLink RL 99 yX5_follow]
def wsL_law0_r8 : List Cond := [Cond.instanceMethod yX5_follow, Cond.selects RX5 yX5_follow yX5_follow, Cond.code yX5_follow cX5_follow 4 (some .int), Cond.methodLink RX5 64 yX5_isOne, Cond.static yX5_isOne, Cond.code yX5_isOne cX5_isOne 1 (some .boolean), Cond.methodLink RX5 42 yX5_in, Cond.static yX5_in, Cond.code yX5_in cX5_in 3 (some .boolean), Cond.methodLink RX5 67 yX5_isFine, Cond.instanceMethod yX5_isFine, Cond.selects RX5 yX5_isFine yX5_isFine, Cond.code yX5_isFine cX5_isFine 2 (some .boolean), Cond.fieldLink RX5 39 "FollowrowModel" "thrown" "I", Cond.methodLink RX5 70 yX5_cuts, Cond.instanceMethod yX5_cuts, Cond.selects RX5 yX5_cuts yX5_cuts, Cond.code yX5_cuts cX5_cuts 4 none, Cond.fieldLink RX5 46 "FollowrowModel" "entries" "I", Cond.methodLink RX5 61 yX5_rowLength, Cond.instanceMethod yX5_rowLength, Cond.selects RX5 yX5_rowLength yX5_rowLength, Cond.code yX5_rowLength cX5_rowLength 4 (some .int), Cond.methodLink RX5 57 yX5_isInRow]
def wsL_law0_r9 : List Cond := [Cond.instanceMethod yX5_isInRow, Cond.selects RX5 yX5_isInRow yX5_isInRow, Cond.code yX5_isInRow cX5_isInRow 3 (some .boolean), Cond.methodLink RX5 53 yX5_large, Cond.instanceMethod yX5_large, Cond.selects RX5 yX5_large yX5_large, Cond.code yX5_large cX5_large 2 (some .boolean), Cond.methodLink RX5 49 yX5_followersOf, Cond.instanceMethod yX5_followersOf, Cond.selects RX5 yX5_followersOf yX5_followersOf, Cond.code yX5_followersOf cX5_followersOf 4 (some .int), Cond.methodLink RL 100 yX5_thrown, Cond.instanceMethod yX5_thrown, Cond.selects RX5 yX5_thrown yX5_thrown, Cond.code yX5_thrown cX5_thrown 1 (some .int), Cond.methodLink RL 104 yL_unfollow, Cond.static yL_unfollow, Cond.codeWith yL_unfollow cL_unfollow 5 (some .int) [(0, 10, 13, 13), (0, 10, 17, 17)], Cond.methodLink RL 19 yX4_unfollow, Cond.instanceMethod yX4_unfollow, Cond.selects RX4 yX4_unfollow yX4_unfollow, Cond.code yX4_unfollow cX4_unfollow 3 (some .int), Cond.methodLink RL 106 yX5_unfollow, Cond.instanceMethod yX5_unfollow]
def wsL_law0_r10 : List Cond := [Cond.selects RX5 yX5_unfollow yX5_unfollow, Cond.code yX5_unfollow cX5_unfollow 4 (some .int), Cond.methodLink RL 107 yL_mute, Cond.static yL_mute, Cond.codeWith yL_mute cL_mute 6 (some .int) [(0, 19, 22, 13), (0, 19, 26, 15)], Cond.methodLink RL 22 yX4_mute, Cond.instanceMethod yX4_mute, Cond.selects RX4 yX4_mute yX4_mute, Cond.code yX4_mute cX4_mute 5 (some .boolean), Cond.methodLink RL 110 yX5_mute, Cond.instanceMethod yX5_mute, Cond.selects RX5 yX5_mute yX5_mute, Cond.code yX5_mute cX5_mute 5 (some .boolean), Cond.methodLink RL 111 yL_block, Cond.static yL_block, Cond.codeWith yL_block cL_block 6 (some .int) [(0, 19, 22, 13), (0, 19, 26, 15)], Cond.methodLink RL 26 yX4_block, Cond.instanceMethod yX4_block, Cond.selects RX4 yX4_block yX4_block, Cond.code yX4_block cX4_block 5 (some .boolean), Cond.methodLink RL 113 yX5_block, Cond.instanceMethod yX5_block, Cond.selects RX5 yX5_block yX5_block, Cond.code yX5_block cX5_block 5 (some .boolean)]
def wsL_law0_r11 : List Cond := [Cond.methodLink RL 114 yL_post, Cond.static yL_post, Cond.codeWith yL_post cL_post 4 (some .int) [(0, 9, 12, 13), (0, 9, 15, 17)], Cond.methodLink RL 29 yX4_post, Cond.instanceMethod yX4_post, Cond.selects RX4 yX4_post yX4_post, Cond.code yX4_post cX4_post 3 (some .int), Cond.methodLink RX4 85 yX4_checkPlace, Cond.instanceMethod yX4_checkPlace, Cond.selects RX4 yX4_checkPlace yX4_checkPlace, Cond.code yX4_checkPlace cX4_checkPlace 1 none, Cond.methodLink RX4 92 yX0_add, Cond.instanceMethod yX0_add, Cond.selects RX0 yX0_add yX0_add, Cond.code yX0_add cX0_add 3 none, Cond.methodLink RL 117 yX5_post, Cond.instanceMethod yX5_post, Cond.selects RX5 yX5_post yX5_post, Cond.code yX5_post cX5_post 2 (some .int), Cond.methodLink RX5 73 yX5_makes, Cond.instanceMethod yX5_makes, Cond.selects RX5 yX5_makes yX5_makes, Cond.code yX5_makes cX5_makes 3 (some .int), Cond.methodLink RL 118 yL_repost]
def wsL_law0_r12 : List Cond := [Cond.static yL_repost, Cond.codeWith yL_repost cL_repost 5 (some .int) [(0, 10, 13, 13), (0, 10, 17, 17)], Cond.methodLink RL 33 yX4_repost, Cond.instanceMethod yX4_repost, Cond.selects RX4 yX4_repost yX4_repost, Cond.code yX4_repost cX4_repost 5 (some .int), Cond.methodLink RX4 95 yX4_checkEntry, Cond.instanceMethod yX4_checkEntry, Cond.selects RX4 yX4_checkEntry yX4_checkEntry, Cond.code yX4_checkEntry cX4_checkEntry 2 none, Cond.methodLink RX4 180 yX0_has, Cond.methodLink RX4 98 yX0_origin, Cond.instanceMethod yX0_origin, Cond.selects RX0 yX0_origin yX0_origin, Cond.code yX0_origin cX0_origin 2 (some .int), Cond.methodLink RL 120 yX5_repost, Cond.instanceMethod yX5_repost, Cond.selects RX5 yX5_repost yX5_repost, Cond.code yX5_repost cX5_repost 4 (some .int), Cond.methodLink RX5 77 yX5_isEntry, Cond.instanceMethod yX5_isEntry, Cond.selects RX5 yX5_isEntry yX5_isEntry, Cond.code yX5_isEntry cX5_isEntry 2 (some .boolean), Cond.methodLink RL 121 yL_delete]
def wsL_law0_r13 : List Cond := [Cond.static yL_delete, Cond.codeWith yL_delete cL_delete 4 (some .int) [(0, 9, 12, 13), (0, 9, 15, 17)], Cond.methodLink RL 36 yX4_delete, Cond.instanceMethod yX4_delete, Cond.selects RX4 yX4_delete yX4_delete, Cond.code yX4_delete cX4_delete 2 (some .int), Cond.methodLink RX4 114 yX0_remove, Cond.instanceMethod yX0_remove, Cond.selects RX0 yX0_remove yX0_remove, Cond.code yX0_remove cX0_remove 2 none, Cond.methodLink RX4 117 yX0_countStandingOf, Cond.instanceMethod yX0_countStandingOf, Cond.selects RX0 yX0_countStandingOf yX0_countStandingOf, Cond.code yX0_countStandingOf cX0_countStandingOf 4 (some .int), Cond.methodLink RX0 30 yX0_origin, Cond.methodLink RX0 34 yX0_stands, Cond.methodLink RL 123 yX5_delete, Cond.instanceMethod yX5_delete, Cond.selects RX5 yX5_delete yX5_delete, Cond.code yX5_delete cX5_delete 4 (some .int), Cond.methodLink RL 124 yL_setMark, Cond.static yL_setMark, Cond.codeWith yL_setMark cL_setMark 4 (some .int) [(0, 9, 12, 15)], Cond.methodLink RL 39 yX4_setMark]
def wsL_law0_r14 : List Cond := [Cond.instanceMethod yX4_setMark, Cond.selects RX4 yX4_setMark yX4_setMark, Cond.code yX4_setMark cX4_setMark 2 (some .int), Cond.methodLink RX4 120 yX4_checkRange, Cond.static yX4_checkRange, Cond.code yX4_checkRange cX4_checkRange 3 none, Cond.methodLink RX4 124 yX4_countLarge, Cond.instanceMethod yX4_countLarge, Cond.selects RX4 yX4_countLarge yX4_countLarge, Cond.code yX4_countLarge cX4_countLarge 3 (some .int), Cond.methodLink RL 126 yX5_setMark, Cond.instanceMethod yX5_setMark, Cond.selects RX5 yX5_setMark yX5_setMark, Cond.code yX5_setMark cX5_setMark 4 (some .int), Cond.methodLink RL 127 yL_setRoom, Cond.static yL_setRoom, Cond.codeWith yL_setRoom cL_setRoom 4 (some .int) [(0, 9, 12, 15)], Cond.methodLink RL 42 yX4_setRoom, Cond.instanceMethod yX4_setRoom, Cond.selects RX4 yX4_setRoom yX4_setRoom, Cond.code yX4_setRoom cX4_setRoom 3 (some .int), Cond.methodLink RL 129 yX5_setRoom, Cond.instanceMethod yX5_setRoom, Cond.selects RX5 yX5_setRoom yX5_setRoom]
def wsL_law0_r15 : List Cond := [Cond.code yX5_setRoom cX5_setRoom 3 (some .int), Cond.methodLink RL 130 yX4_entries, Cond.instanceMethod yX4_entries, Cond.selects RX4 yX4_entries yX4_entries, Cond.code yX4_entries cX4_entries 1 (some .int), Cond.methodLink RL 133 yX5_entries, Cond.instanceMethod yX5_entries, Cond.selects RX5 yX5_entries yX5_entries, Cond.code yX5_entries cX5_entries 1 (some .int), Cond.methodLink RL 134 yL_authorOf, Cond.static yL_authorOf, Cond.codeWith yL_authorOf cL_authorOf 4 (some .int) [(0, 9, 12, 13)], Cond.methodLink RL 45 yX4_authorOf, Cond.instanceMethod yX4_authorOf, Cond.selects RX4 yX4_authorOf yX4_authorOf, Cond.code yX4_authorOf cX4_authorOf 2 (some .int), Cond.methodLink RL 136 yX5_authorOf, Cond.instanceMethod yX5_authorOf, Cond.selects RX5 yX5_authorOf yX5_authorOf, Cond.code yX5_authorOf cX5_authorOf 2 (some .int), Cond.methodLink RL 137 yL_originOf, Cond.static yL_originOf, Cond.codeWith yL_originOf cL_originOf 4 (some .int) [(0, 9, 12, 13)], Cond.methodLink RL 48 yX4_originOf]
def wsL_law0_r16 : List Cond := [Cond.instanceMethod yX4_originOf, Cond.selects RX4 yX4_originOf yX4_originOf, Cond.code yX4_originOf cX4_originOf 2 (some .int), Cond.methodLink RL 139 yX5_originOf, Cond.instanceMethod yX5_originOf, Cond.selects RX5 yX5_originOf yX5_originOf, Cond.code yX5_originOf cX5_originOf 2 (some .int), Cond.methodLink RL 140 yL_follows, Cond.static yL_follows, Cond.codeWith yL_follows cL_follows 5 (some .int) [(0, 17, 20, 13)], Cond.methodLink RL 51 yX4_follows, Cond.instanceMethod yX4_follows, Cond.selects RX4 yX4_follows yX4_follows, Cond.code yX4_follows cX4_follows 3 (some .boolean), Cond.methodLink RL 142 yX5_follows, Cond.instanceMethod yX5_follows, Cond.selects RX5 yX5_follows yX5_follows, Cond.code yX5_follows cX5_follows 3 (some .boolean), Cond.methodLink RL 143 yL_followers, Cond.static yL_followers, Cond.codeWith yL_followers cL_followers 4 (some .int) [(0, 9, 12, 13)], Cond.methodLink RL 55 yX4_followers, Cond.instanceMethod yX4_followers, Cond.selects RX4 yX4_followers yX4_followers]
def wsL_law0_r17 : List Cond := [Cond.code yX4_followers cX4_followers 2 (some .int), Cond.methodLink RL 145 yX5_followers, Cond.instanceMethod yX5_followers, Cond.selects RX5 yX5_followers yX5_followers, Cond.code yX5_followers cX5_followers 2 (some .int), Cond.methodLink RL 146 yL_isLarge, Cond.static yL_isLarge, Cond.codeWith yL_isLarge cL_isLarge 4 (some .int) [(0, 16, 19, 13)], Cond.methodLink RL 58 yX4_isLarge, Cond.instanceMethod yX4_isLarge, Cond.selects RX4 yX4_isLarge yX4_isLarge, Cond.code yX4_isLarge cX4_isLarge 2 (some .boolean), Cond.methodLink RL 148 yX5_isLarge, Cond.instanceMethod yX5_isLarge, Cond.selects RX5 yX5_isLarge yX5_isLarge, Cond.code yX5_isLarge cX5_isLarge 2 (some .boolean), Cond.methodLink RL 149 yL_inRow, Cond.static yL_inRow, Cond.codeWith yL_inRow cL_inRow 4 (some .int) [(0, 9, 12, 13)], Cond.methodLink RL 62 yX4_inRow, Cond.instanceMethod yX4_inRow, Cond.selects RX4 yX4_inRow yX4_inRow, Cond.code yX4_inRow cX4_inRow 2 (some .int), Cond.methodLink RX4 130 yX4_rowOf]
def wsL_law0_r18 : List Cond := [Cond.instanceMethod yX4_rowOf, Cond.selects RX4 yX4_rowOf yX4_rowOf, Cond.code yX4_rowOf cX4_rowOf 2 (some (.object "Followrow$Row")), Cond.methodLink RL 151 yX5_inRow, Cond.instanceMethod yX5_inRow, Cond.selects RX5 yX5_inRow yX5_inRow, Cond.code yX5_inRow cX5_inRow 2 (some .int), Cond.methodLink RL 152 yL_rowAt, Cond.static yL_rowAt, Cond.codeWith yL_rowAt cL_rowAt 5 (some .int) [(0, 10, 13, 13)], Cond.methodLink RL 65 yX4_rowAt, Cond.instanceMethod yX4_rowAt, Cond.selects RX4 yX4_rowAt yX4_rowAt, Cond.code yX4_rowAt cX4_rowAt 4 (some .int), Cond.methodLink RX4 142 yX2_fromNewest, Cond.instanceMethod yX2_fromNewest, Cond.selects RX2 yX2_fromNewest yX2_fromNewest, Cond.code yX2_fromNewest cX2_fromNewest 2 (some .int), Cond.methodLink RL 154 yX5_rowAt, Cond.instanceMethod yX5_rowAt, Cond.selects RX5 yX5_rowAt yX5_rowAt, Cond.code yX5_rowAt cX5_rowAt 5 (some .int), Cond.methodLink RL 155 yL_floorOf, Cond.static yL_floorOf]
def wsL_law0_r19 : List Cond := [Cond.codeWith yL_floorOf cL_floorOf 4 (some .int) [(0, 9, 12, 13)], Cond.methodLink RL 68 yX4_floorOf, Cond.instanceMethod yX4_floorOf, Cond.selects RX4 yX4_floorOf yX4_floorOf, Cond.code yX4_floorOf cX4_floorOf 2 (some .int), Cond.methodLink RL 157 yX5_floorOf, Cond.instanceMethod yX5_floorOf, Cond.selects RX5 yX5_floorOf yX5_floorOf, Cond.code yX5_floorOf cX5_floorOf 2 (some .int), Cond.methodLink RL 158 yL_shows, Cond.static yL_shows, Cond.codeWith yL_shows cL_shows 5 (some .int) [(0, 17, 20, 13)], Cond.methodLink RL 71 yX4_shows, Cond.instanceMethod yX4_shows, Cond.selects RX4 yX4_shows yX4_shows, Cond.code yX4_shows cX4_shows 4 (some .boolean), Cond.methodLink RX4 148 yX4_readTimeline, Cond.instanceMethod yX4_readTimeline, Cond.selects RX4 yX4_readTimeline yX4_readTimeline, Cond.code yX4_readTimeline cX4_readTimeline 5 none, Cond.methodLink RX4 204 yX3_empty, Cond.instanceMethod yX3_empty, Cond.selects RX3 yX3_empty yX3_empty, Cond.code yX3_empty cX3_empty 2 none]
def wsL_law0_r20 : List Cond := [Cond.fieldLink RX3 19 "Followrow$Timeline" "count" "I", Cond.methodLink RX4 205 yX4_isFetched, Cond.instanceMethod yX4_isFetched, Cond.selects RX4 yX4_isFetched yX4_isFetched, Cond.code yX4_isFetched cX4_isFetched 4 (some .boolean), Cond.methodLink RX4 208 yX4_offer, Cond.instanceMethod yX4_offer, Cond.selects RX4 yX4_offer yX4_offer, Cond.code yX4_offer cX4_offer 3 none, Cond.methodLink RX4 211 yX4_isHidden, Cond.instanceMethod yX4_isHidden, Cond.selects RX4 yX4_isHidden yX4_isHidden, Cond.code yX4_isHidden cX4_isHidden 5 (some .boolean), Cond.methodLink RX4 214 yX3_addBelow, Cond.instanceMethod yX3_addBelow, Cond.selects RX3 yX3_addBelow yX3_addBelow, Cond.code yX3_addBelow cX3_addBelow 4 none, Cond.methodLink RX4 152 yX3_placeBelow, Cond.instanceMethod yX3_placeBelow, Cond.selects RX3 yX3_placeBelow yX3_placeBelow, Cond.code yX3_placeBelow cX3_placeBelow 3 (some .int), Cond.methodLink RX3 23 yX3_at, Cond.instanceMethod yX3_at, Cond.selects RX3 yX3_at yX3_at]
def wsL_law0_r21 : List Cond := [Cond.code yX3_at cX3_at 2 (some .int), Cond.methodLink RX4 155 yX3_at, Cond.methodLink RL 160 yX5_shows, Cond.instanceMethod yX5_shows, Cond.selects RX5 yX5_shows yX5_shows, Cond.code yX5_shows cX5_shows 3 (some .boolean), Cond.methodLink RX5 83 yX5_isShown, Cond.instanceMethod yX5_isShown, Cond.selects RX5 yX5_isShown yX5_isShown, Cond.code yX5_isShown cX5_isShown 5 (some .boolean), Cond.methodLink RX5 80 yX5_isDue, Cond.instanceMethod yX5_isDue, Cond.selects RX5 yX5_isDue yX5_isDue, Cond.code yX5_isDue cX5_isDue 6 (some .boolean), Cond.methodLink RL 161 yL_next, Cond.static yL_next, Cond.codeWith yL_next cL_next 5 (some .int) [(0, 10, 13, 13), (0, 10, 17, 15)], Cond.methodLink RL 74 yX4_next, Cond.instanceMethod yX4_next, Cond.selects RX4 yX4_next yX4_next, Cond.code yX4_next cX4_next 4 (some .int), Cond.methodLink RL 163 yX5_next, Cond.instanceMethod yX5_next, Cond.selects RX5 yX5_next yX5_next]
def wsL_law0_r22 : List Cond := [Cond.code yX5_next cX5_next 3 (some .int), Cond.methodLink RX5 86 yX5_nextBelow, Cond.instanceMethod yX5_nextBelow, Cond.selects RX5 yX5_nextBelow yX5_nextBelow, Cond.code yX5_nextBelow cX5_nextBelow 4 (some .int), Cond.methodLink RL 164 yL_pageEnd, Cond.static yL_pageEnd, Cond.codeWith yL_pageEnd cL_pageEnd 6 (some .int) [(0, 12, 15, 13), (0, 12, 19, 15)], Cond.methodLink RL 77 yX4_pageEnd, Cond.instanceMethod yX4_pageEnd, Cond.selects RX4 yX4_pageEnd yX4_pageEnd, Cond.code yX4_pageEnd cX4_pageEnd 6 (some .int), Cond.methodLink RX4 159 Lib.Math.min.name, Cond.static Lib.Math.min.name, Cond.initialized "java/lang/Math", Cond.code Lib.Math.min.name Lib.Math.min.code 2 (some .int), Cond.methodLink RX4 158 yX3_count, Cond.instanceMethod yX3_count, Cond.selects RX3 yX3_count yX3_count, Cond.code yX3_count cX3_count 1 (some .int), Cond.methodLink RL 167 yX5_pageEnd, Cond.instanceMethod yX5_pageEnd, Cond.selects RX5 yX5_pageEnd yX5_pageEnd, Cond.code yX5_pageEnd cX5_pageEnd 7 (some .int)]
def wsL_law0_r23 : List Cond := [Cond.methodLink RL 168 yL_length, Cond.static yL_length, Cond.codeWith yL_length cL_length 4 (some .int) [(0, 9, 12, 13)], Cond.methodLink RL 81 yX4_length, Cond.instanceMethod yX4_length, Cond.selects RX4 yX4_length yX4_length, Cond.code yX4_length cX4_length 2 (some .int), Cond.methodLink RL 170 yX5_length, Cond.instanceMethod yX5_length, Cond.selects RX5 yX5_length yX5_length, Cond.code yX5_length cX5_length 4 (some .int), Cond.methodLink RL 171 yL_lengthByMerging, Cond.static yL_lengthByMerging, Cond.codeWith yL_lengthByMerging cL_lengthByMerging 4 (some .int) [(0, 9, 12, 13)], Cond.methodLink RL 84 yX4_lengthByMerging, Cond.instanceMethod yX4_lengthByMerging, Cond.selects RX4 yX4_lengthByMerging yX4_lengthByMerging, Cond.code yX4_lengthByMerging cX4_lengthByMerging 2 (some .int), Cond.methodLink RX4 165 yX4_mergeTimeline, Cond.instanceMethod yX4_mergeTimeline, Cond.selects RX4 yX4_mergeTimeline yX4_mergeTimeline, Cond.code yX4_mergeTimeline cX4_mergeTimeline 4 none, Cond.methodLink RL 173 yX5_lengthByMerging, Cond.instanceMethod yX5_lengthByMerging]
def wsL_law0_r24 : List Cond := [Cond.selects RX5 yX5_lengthByMerging yX5_lengthByMerging, Cond.code yX5_lengthByMerging cX5_lengthByMerging 2 (some .int), Cond.methodLink RX5 89 yX5_length, Cond.methodLink RL 174 yL_hasGap, Cond.static yL_hasGap, Cond.codeWith yL_hasGap cL_hasGap 4 (some .int) [(0, 16, 19, 13)], Cond.methodLink RL 87 yX4_hasGap, Cond.instanceMethod yX4_hasGap, Cond.selects RX4 yX4_hasGap yX4_hasGap, Cond.code yX4_hasGap cX4_hasGap 4 (some .boolean), Cond.methodLink RL 176 yX5_hasGap, Cond.instanceMethod yX5_hasGap, Cond.selects RX5 yX5_hasGap yX5_hasGap, Cond.code yX5_hasGap cX5_hasGap 4 (some .boolean)]
def wsL_law0 : List Cond := (wsL_law0_r1 ++ (wsL_law0_r2 ++ (wsL_law0_r3 ++ (wsL_law0_r4 ++ (wsL_law0_r5 ++ (wsL_law0_r6 ++ (wsL_law0_r7 ++ (wsL_law0_r8 ++ (wsL_law0_r9 ++ (wsL_law0_r10 ++ (wsL_law0_r11 ++ (wsL_law0_r12 ++ (wsL_law0_r13 ++ (wsL_law0_r14 ++ (wsL_law0_r15 ++ (wsL_law0_r16 ++ (wsL_law0_r17 ++ (wsL_law0_r18 ++ (wsL_law0_r19 ++ (wsL_law0_r20 ++ (wsL_law0_r21 ++ (wsL_law0_r22 ++ (wsL_law0_r23 ++ wsL_law0_r24))))))))))))))))))))))) ++ wsX40 ++ wsX50 ++ wsX10 ++ wsX00 ++ wsX30 ++ wsX20 ++ ([] : List Cond)
def wsL_law : List Cond := wsL_law0 ++ (vx_atS RX4 67 "java/lang/IllegalStateException" ["java/lang/RuntimeException", "java/lang/Exception"]).filter goodWord ++ (vx_atS RX4 141 "java/lang/IndexOutOfBoundsException" ["java/lang/RuntimeException", "java/lang/Exception"]).filter goodWord ++ (vx_atS RX4 177 "java/lang/IllegalArgumentException" ["java/lang/RuntimeException", "java/lang/Exception"]).filter goodWord
abbrev vwCl : List vw_C := [(RX0, TX0, 4), (RX1, TX1, 1), (RX2, TX2, 4), (RX3, TX3, 3), (RX4, TX4, 8), (RX5, TX5, 11)]
end
section
/-! The forms of contracts of this claim: readers, writers, and those that may throw; and how each is proved and called. -/
abbrev GT : Type := va_G × (Nat → ClassId)
abbrev tysG (g : GT) : List (ClassId × FieldType) := [(g.2 0, .int), (g.2 1, .boolean), (g.2 2, .object RX2), (g.2 3, .long)]
abbrev gP (g : GT) (ws : va_W) (H : Heap) : Prop := va_P g.1 vwCl ws H
def adr (ws : va_W) : List Nat := ws.map Prod.fst
def exI : String := "java/lang/IndexOutOfBoundsException"
def exA : String := "java/lang/IllegalArgumentException"
def exS : String := "java/lang/IllegalStateException"
def exU : List String := ["java/lang/RuntimeException", "java/lang/Exception"]
def exN (n : Nat) : String := if n = 1 then exI else if n = 2 then exA else exS
def icI : Nat := 141
def icA : Nat := 177
def icS : Nat := 67
def isCD : Cond → Bool
  | .castable _ _ => true
  | .declares _ => true
  | _ => false
def xtraW : List Cond := (vx_atS RX4 icI exI exU).filter (fun w => !goodWord w) ++ ((vx_atS RX4 icA exA exU).filter (fun w => !goodWord w) ++ (vx_atS RX4 icS exS exU).filter (fun w => !goodWord w))
theorem xtraW_cd : ∀ w ∈ xtraW, isCD w = true := by decide +kernel
def nestW : List Cond := [.methodLinkNest RX4 9 yX1_init RX4, .methodLinkNest RX4 24 yX0_init RX4, .methodLinkNest RX4 37 yX3_init RX4, .methodLinkNest RX1 15 yX4_isPerson RX4]
def gStrs : List (Nat × String) := [(65, "the person follows the author already"), (70, "one of both has blocked the other one"), (83, "the person does not follow the author"), (105, "the entry or its origin is deleted"), (110, "the author of the origin has blocked the author"), (112, "the entry is deleted"), (139, "the row has not so many"), (171, "no such person or author"), (175, "both are the same"), (178, "out of range"), (182, "no such entry"), (184, "all entries were made")]
def ncP : List (String × String) := [(exI, exA), (exI, exS), (exA, exI), (exA, exS), (exS, exI), (exS, exA)]
/-- what the tables say all along -/
def gE (g : GT) (U : State) : Prop := va_K g.1 vwCl (tysG g) U ∧ (∀ w ∈ nestW, va_Nw w U) ∧ (∀ q ∈ gStrs, ∃ a, vk_R RX4 q.1 q.2 a U) ∧ (∀ w ∈ xtraW, va_Nw w U) ∧ ∀ q ∈ ncP, va_Nc q.1 q.2 U
theorem gE_warm {g : GT} {s U : State} (hW : s.WarmedH U.vm) (h : gE g s) : gE g U := by
  obtain ⟨h1, h2, h3, h4, h5⟩ := h
  refine ⟨va_K.moved hW.alike h1, fun w hw => ?_, fun q hq => ?_, fun w hw => ?_, fun q hq => va_Nc.moved hW.alike (h5 q hq)⟩
  · have h6 := h2 w hw
    simp only [nestW, List.mem_cons, List.not_mem_nil, or_false] at hw
    rcases hw with rfl | rfl | rfl | rfl <;> exact va_Nw.warmM hW h6
  · obtain ⟨a, ha⟩ := h3 q hq
    exact ⟨a, vk_R.warm hW ha⟩
  · have h6 := h4 w hw
    have h7 := xtraW_cd w hw
    cases w <;> first | exact va_Nw.warmC hW h6 | exact va_Nw.warmD hW h6 | (simp [isCD] at h7)
/-- the two statics that a throw reads lie in the heap -/
def xv (H : Heap) (U : State) : Prop := vx_Zq Bundle.tN "UNASSIGNED_STACK" Bundle.steD (fun q => H.size ≤ q) U H ∧ vx_Zq Bundle.tN "SUPPRESSED_SENTINEL" Bundle.listD (fun q => H.size ≤ q) U H
theorem xv_warm {H : Heap} {s U : State} (hW : s.WarmedH U.vm) (h : xv H s) : xv H U := ⟨vx_Zq.moved hW.alike h.1, vx_Zq.moved hW.alike h.2⟩
-- values
def bI (b : Bool) : Int32 := match b with
  | true => 1
  | false => 0
def fI (n : Nat) : Int32 := nI n - 1
def zc (F : Nat → Bool) : Nat → Int32 := fun i => bI (F i)
def nc (a : Nat → Nat) : Nat → Int32 := fun i => nI (a i)
def fc (a : Nat → Nat) : Nat → Int32 := fun i => fI (a i)
theorem bI_0 {b : Bool} : bI b = 0 ↔ b = false := by cases b <;> simp [bI]
theorem bI_narrow (b : Bool) : narrow .boolean (.int (bI b)) = .int (bI b) := by cases b <;> rfl
theorem bI_nar (b : Bool) : vp_nar .boolean (bI b) = bI b := by cases b <;> rfl
theorem zc_up (F : Nat → Bool) (k : Nat) (b : Bool) : upd (zc F) k (bI b) = zc (va_up F k b) := by
  funext j
  by_cases h : j = k <;> simp [upd, zc, va_up, h]
theorem nc_up (F : Nat → Nat) (k : Nat) (b : Nat) : upd (nc F) k (nI b) = nc (va_up F k b) := by
  funext j
  by_cases h : j = k <;> simp [upd, nc, va_up, h]
theorem fc_up (F : Nat → Nat) (k : Nat) (b : Nat) : upd (fc F) k (fI b) = fc (va_up F k b) := by
  funext j
  by_cases h : j = k <;> simp [upd, fc, va_up, h]
theorem fI_succ (n : Nat) : fI (n + 1) = nI n := nI_pred n
theorem fI_toInt {n : Nat} (h : n < 2 ^ 31) : (fI n).toInt = (n : Int) - 1 := by
  cases n with
  | zero => decide
  | succ k => rw [fI_succ, nI_toInt (by omega)]; omega
theorem fI_le {a b : Nat} (ha : a < 2 ^ 31) (hb : b < 2 ^ 31) : fI a ≤ fI b ↔ a ≤ b := by
  rw [Int32.le_iff_toInt_le, fI_toInt ha, fI_toInt hb]; omega
theorem fI_lt {a b : Nat} (ha : a < 2 ^ 31) (hb : b < 2 ^ 31) : fI a < fI b ↔ a < b := by
  rw [Int32.lt_iff_toInt_lt, fI_toInt ha, fI_toInt hb]; omega
theorem nI_fI {n : Nat} : nI n = fI (n + 1) := (fI_succ n).symm
theorem nI_lt_iff {a b : Nat} (ha : a < 2 ^ 31) (hb : b < 2 ^ 31) : nI a < nI b ↔ a < b := nI_ltI ha hb
def isP (x : Int32) : Bool := decide (0 ≤ x.toInt) && decide (x.toInt < 8)
def isB (x : Int32) (n : Nat) : Bool := decide (0 ≤ x.toInt) && decide (x.toInt < n)
def ix (x : Int32) : Nat := x.toInt.toNat
theorem isB_of {x : Int32} {n : Nat} (h : isB x n = true) (hn : n < 2 ^ 31) : ∃ j, j < n ∧ x = nI j ∧ ix x = j := by
  simp only [isB, Bool.and_eq_true, decide_eq_true_eq] at h
  refine ⟨x.toInt.toNat, by omega, ?_, rfl⟩
  apply Int32.toInt_inj.mp
  rw [nI_toInt (by omega)]
  omega
theorem isP_isB (x : Int32) : isP x = isB x 8 := rfl
theorem isP_of {x : Int32} (h : isP x = true) : ∃ j, j < 8 ∧ x = nI j ∧ ix x = j := isB_of (n := 8) h (by decide)
theorem isB_nI {j n : Nat} (hj : j < 2 ^ 31) : isB (nI j) n = decide (j < n) := by
  simp only [isB, nI_toInt hj]
  by_cases h : j < n
  · simp [h]
  · simp [h]
theorem isP_nI {j : Nat} (h : j < 8) : isP (nI j) = true := by
  rw [isP_isB, isB_nI (by omega)]
  exact decide_eq_true h
theorem ix_nI {j : Nat} (h : j < 2 ^ 31) : ix (nI j) = j := by
  simp [ix, nI_toInt h]
-- worlds
theorem gP_mem {g : GT} {ws : va_W} {H : Heap} : gP g ws H ↔ ∀ q ∈ ws, va_at g.1 vwCl q H := by
  constructor
  · intro h q hq
    obtain ⟨i, hi⟩ := List.getElem?_of_mem hq
    exact h i q hi
  · intro h k q hk
    exact h q (List.mem_of_getElem? hk)
theorem adr_mem {ws : va_W} {q : Nat × va_E} (h : q ∈ ws) : q.1 ∈ adr ws := List.mem_map.mpr ⟨q, h, rfl⟩
theorem P_keep {g : GT} {ws : va_W} {H H1 : Heap} {as : List Nat} (hP : gP g ws H) (hdis : ∀ x ∈ adr ws, x ∉ as) (hk : ∀ q : Nat, q < H.size → ¬ q ∈ as → H1[q]? = H[q]?) : gP g ws H1 := by
  rw [gP_mem] at hP ⊢
  intro q hq
  have h := hP q hq
  exact h.kept (hk q.1 h.lt (hdis _ (adr_mem hq)))
def Nd (l : List Nat) : Prop := ∀ (i j a : Nat), l[i]? = some a → l[j]? = some a → i = j
theorem adr_get {ws : va_W} {i : Nat} {q : Nat × va_E} (h : ws[i]? = some q) : (adr ws)[i]? = some q.1 := by simp [adr, h]
theorem P_upd {g : GT} {ws ws' wc w1 : va_W} {H H1 : Heap} (i j : Nat) (hP : gP g ws H) (hN : Nd (adr ws)) (hw : ws = ws.take i ++ (wc ++ ws.drop j)) (hw' : ws' = ws.take i ++ (w1 ++ ws.drop j)) (hk : ∀ q : Nat, q < H.size → ¬ q ∈ adr wc → H1[q]? = H[q]?) (hP1 : gP g w1 H1) : gP g ws' H1 := by
  generalize ha : ws.take i = a at hw hw'
  generalize hb : ws.drop j = b at hw hw'
  have hc : ∀ x ∈ wc, ∃ j0 : Nat, j0 < wc.length ∧ ws[a.length + j0]? = some x := by
    intro x hx
    obtain ⟨j0, hj0⟩ := List.getElem?_of_mem hx
    have hl2 := (List.getElem?_eq_some_iff.mp hj0).1
    refine ⟨j0, hl2, ?_⟩
    rw [hw, List.getElem?_append_right (by omega), Nat.add_sub_cancel_left, List.getElem?_append_left hl2]
    exact hj0
  rw [gP_mem] at hP hP1 ⊢
  subst hw'
  intro q hq
  rcases List.mem_append.mp hq with hq | hq
  · obtain ⟨i0, hi0⟩ := List.getElem?_of_mem hq
    have hl := (List.getElem?_eq_some_iff.mp hi0).1
    have hw0 : ws[i0]? = some q := by rw [hw, List.getElem?_append_left hl]; exact hi0
    have h := hP q (List.mem_of_getElem? hw0)
    refine h.kept (hk q.1 h.lt (fun hm => ?_))
    obtain ⟨x, hx, hxe⟩ := List.mem_map.mp hm
    obtain ⟨j0, hl2, hw1⟩ := hc x hx
    have h9 := hN i0 (a.length + j0) q.1 (adr_get hw0) (by rw [← hxe]; exact adr_get hw1)
    omega
  · rcases List.mem_append.mp hq with hq | hq
    · exact hP1 q hq
    · obtain ⟨i0, hi0⟩ := List.getElem?_of_mem hq
      have hw0 : ws[a.length + (wc.length + i0)]? = some q := by
        rw [hw, List.getElem?_append_right (by omega), Nat.add_sub_cancel_left, List.getElem?_append_right (by omega), Nat.add_sub_cancel_left]
        exact hi0
      have h := hP q (List.mem_of_getElem? hw0)
      refine h.kept (hk q.1 h.lt (fun hm => ?_))
      obtain ⟨x, hx, hxe⟩ := List.mem_map.mp hm
      obtain ⟨j0, hl2, hw1⟩ := hc x hx
      have h9 := hN (a.length + (wc.length + i0)) (a.length + j0) q.1 (adr_get hw0) (by rw [← hxe]; exact adr_get hw1)
      omega
theorem D_of {ws : va_W} {A : Nat → Prop} (hN : Nd (adr ws)) (hA : ∀ x ∈ adr ws, A x) : va_D A ws := by
  refine ⟨fun i j x y hi hj hxy => ?_, fun k q hk => hA _ (adr_mem (List.mem_of_getElem? hk))⟩
  exact hN i j x.1 (adr_get hi) (by rw [hxy]; exact adr_get hj)
def FN (ad : Nat → Nat) (n : Nat) : Prop := ∀ i j : Nat, i < n → j < n → ad i = ad j → i = j
theorem nd_of {ad : Nat → Nat} {n : Nat} (hN : FN ad n) (is : List Nat) (h : va_nd is = true) (hlt : ∀ i ∈ is, i < n) : Nd (is.map ad) := by
  intro i j a hi hj
  rw [List.getElem?_map] at hi hj
  obtain ⟨x, hx, hxa⟩ := Option.map_eq_some_iff.mp hi
  obtain ⟨y, hy, hya⟩ := Option.map_eq_some_iff.mp hj
  have hxy : x = y := hN x y (hlt x (List.mem_of_getElem? hx)) (hlt y (List.mem_of_getElem? hy)) (hxa.trans hya.symm)
  subst hxy
  exact va_nd_inj is h i j x hx hy
/-- the contracts -/
def rdP (g : GT) (av : List Value) (ws : va_W) : Array Value → State → Prop := fun v U => v = av.toArray ∧ gP g ws U.heap ∧ gE g U
def xP (g : GT) (av : List Value) (ws : va_W) : Array Value → State → Prop := fun v U => v = av.toArray ∧ gP g ws U.heap ∧ gE g U ∧ xv U.heap U
theorem rdP_blind {g : GT} {av : List Value} {ws : va_W} : FrameBlind (rdP g av ws) := fun a U gf mk h => ⟨h.1, h.2.1, gE_warm (s := U) (State.WarmedH.refl U) h.2.2⟩
theorem xP_blind {g : GT} {av : List Value} {ws : va_W} : FrameBlind (xP g av ws) := fun a U gf mk h => ⟨h.1, h.2.1, gE_warm (s := U) (State.WarmedH.refl U) h.2.2.1, xv_warm (s := U) (State.WarmedH.refl U) h.2.2.2⟩
def rdQ (v : Option Value) : Array Value → State → Outcome → State → Prop := fun _ st o t => o = .returned v ∧ t.heap = st.heap
def wrQ (v : Option Value) (B : Heap → Prop) (as : List Nat) : Array Value → State → Outcome → State → Prop := fun _ st o t => o = .returned v ∧ B t.heap ∧ va_F (fun q => q ∈ as) st t
def xrQ (er : Nat) (v : Option Value) : Array Value → State → Outcome → State → Prop := fun _ st o t => er = 0 ∧ o = .returned v ∧ t.heap = st.heap
def xwQ (er : Nat) (v : Option Value) (B : Heap → Prop) (as : List Nat) : Array Value → State → Outcome → State → Prop := fun _ st o t => er = 0 ∧ o = .returned v ∧ B t.heap ∧ va_F (fun q => q ∈ as) st t
def xX (er : Nat) : String → State → State → Prop := fun E st t => er ≠ 0 ∧ E = exN er ∧ va_F (fun _ => False) st t
abbrev rdM (l : Launch) (g : GT) (y : MethodName) (ws : List Cond) (fr lo : Nat) (av : List Value) (W0 : va_W) (v : Option Value) : Prop := Met l y ws ({ frames := fr, cells := 0, slots := 0, locals := lo }) (rdP g av W0) (rdQ v) 0 0 (fun _ => False)
abbrev wrM (l : Launch) (g : GT) (y : MethodName) (ws : List Cond) (fr lo : Nat) (av : List Value) (W0 : va_W) (v : Option Value) (B : Heap → Prop) (as : List Nat) : Prop := Met l y ws ({ frames := fr, cells := 0, slots := 0, locals := lo }) (rdP g av W0) (wrQ v B as) 0 0 (fun q => q ∈ as)
abbrev xrM (l : Launch) (g : GT) (y : MethodName) (ws : List Cond) (fr lo mc ms : Nat) (av : List Value) (W0 : va_W) (er : Nat) (v : Option Value) : Prop := vx_Met l y ws ({ frames := fr, cells := mc, slots := ms, locals := lo }) (xP g av W0) (xrQ er v) (xX er) mc ms (fun _ => False)
abbrev xwM (l : Launch) (g : GT) (y : MethodName) (ws : List Cond) (fr lo mc ms : Nat) (av : List Value) (W0 : va_W) (er : Nat) (v : Option Value) (B : Heap → Prop) (as : List Nat) : Prop := vx_Met l y ws ({ frames := fr, cells := mc, slots := ms, locals := lo }) (xP g av W0) (xwQ er v B as) (xX er) mc ms (fun q => q ∈ as)
theorem rd_of {l : Launch} {g : GT} {y : MethodName} {ws ws' : List Cond} {fr lo : Nat} {av : List Value} {W0 : va_W} {v : Option Value} {cc : ByteArray} {maxL : Nat} {ret : Option FieldType}
    (hy : plainName y.cls = true) (hw : ws = .code y cc maxL ret :: ws') (hlen : (lg_sl av).length ≤ maxL)
    (body : ∀ (p : Program) (e : Env) (s : State) (m : MethodId) (below : List Frame) (meth : Method) (c : Code) (ls : Array Slot),
      p.tables.exec = Jvm.exec → c.code = cc → meth.sig.returnType = ret → c.maxLocals = maxL → (∀ w ∈ ws, w.before av.toArray s = true) → s.vm.findClass y.cls = some m.cls → meth.locks = false → lv_has ls maxL (lv_args 0 av) → gP g W0 s.heap → gE g s →
      W p l e ({ frames := fr, cells := 0, slots := 0, locals := lo }) s m av.toArray below meth c s.heap [] 0 0 (MQ below (rdQ v) av.toArray s 0 0 (fun _ => False)) (F0 m 0 ls [])) :
    rdM l g y ws fr lo av W0 v := by
  refine Met.ofW (cc := cc) (maxL := maxL) (ret := ret) hy hw ?_
  intro p e s m args below meth c s₁ B hml hv
  obtain ⟨rfl, hP, hE⟩ := hv
  have hl := lv_entry av hlen
  rw [lg_entry_eq]
  exact body p e s m below meth c _ B.exec B.bytes B.returns hml (atoms_spec (ws := ws) B.pre) (findClass_of_methodNamed B.named) B.notSynchronized hl hP hE
theorem wr_of {l : Launch} {g : GT} {y : MethodName} {ws ws' : List Cond} {fr lo : Nat} {av : List Value} {W0 : va_W} {v : Option Value} {BB : Heap → Prop} {as : List Nat} {cc : ByteArray} {maxL : Nat} {ret : Option FieldType}
    (hy : plainName y.cls = true) (hw : ws = .code y cc maxL ret :: ws') (hlen : (lg_sl av).length ≤ maxL)
    (body : ∀ (p : Program) (e : Env) (s : State) (m : MethodId) (below : List Frame) (meth : Method) (c : Code) (ls : Array Slot),
      p.tables.exec = Jvm.exec → c.code = cc → meth.sig.returnType = ret → c.maxLocals = maxL → (∀ w ∈ ws, w.before av.toArray s = true) → s.vm.findClass y.cls = some m.cls → meth.locks = false → lv_has ls maxL (lv_args 0 av) → gP g W0 s.heap → gE g s → va_S (fun q => q ∈ as) s.heap s.heap [] →
      W p l e ({ frames := fr, cells := 0, slots := 0, locals := lo }) s m av.toArray below meth c s.heap [] 0 0 (MQ below (wrQ v BB as) av.toArray s 0 0 (fun q => q ∈ as)) (F0 m 0 ls [])) :
    wrM l g y ws fr lo av W0 v BB as := by
  refine Met.ofW (cc := cc) (maxL := maxL) (ret := ret) hy hw ?_
  intro p e s m args below meth c s₁ B hml hv
  obtain ⟨rfl, hP, hE⟩ := hv
  have hl := lv_entry av hlen
  rw [lg_entry_eq]
  exact body p e s m below meth c _ B.exec B.bytes B.returns hml (atoms_spec (ws := ws) B.pre) (findClass_of_methodNamed B.named) B.notSynchronized hl hP hE va_S.rf
theorem xr_of {l : Launch} {g : GT} {y : MethodName} {ws ws' : List Cond} {fr lo mc ms : Nat} {av : List Value} {W0 : va_W} {er : Nat} {v : Option Value} {cc : ByteArray} {maxL : Nat} {ret : Option FieldType}
    (hy : plainName y.cls = true) (hw : ws = .code y cc maxL ret :: ws') (hlen : (lg_sl av).length ≤ maxL)
    (body : ∀ (p : Program) (e : Env) (s : State) (m : MethodId) (below : List Frame) (meth : Method) (c : Code) (ls : Array Slot),
      p.tables.exec = Jvm.exec → c.code = cc → meth.sig.returnType = ret → c.maxLocals = maxL → (∀ w ∈ ws, w.before av.toArray s = true) → s.vm.findClass y.cls = some m.cls → meth.locks = false → lv_has ls maxL (lv_args 0 av) → gP g W0 s.heap → gE g s → xv s.heap s → (∀ x ∈ c.exceptionTable.toList, False) →
      W p l e ({ frames := fr, cells := mc, slots := ms, locals := lo }) s m av.toArray below meth c s.heap [] 0 0 (vx_MQ below (xrQ er v) (xX er) av.toArray s mc ms (fun _ => False)) (F0 m 0 ls [])) :
    xrM l g y ws fr lo mc ms av W0 er v := by
  refine vx_ofW (cc := cc) (maxL := maxL) (ret := ret) hy hw ?_
  intro p e s m args below meth c s₁ B hml ht hv
  obtain ⟨rfl, hP, hE, hxv⟩ := hv
  have hl := lv_entry av hlen
  rw [lg_entry_eq]
  exact body p e s m below meth c _ B.exec B.bytes B.returns hml (atoms_spec (ws := ws) B.pre) (findClass_of_methodNamed B.named) B.notSynchronized hl hP hE hxv ht
theorem xw_of {l : Launch} {g : GT} {y : MethodName} {ws ws' : List Cond} {fr lo mc ms : Nat} {av : List Value} {W0 : va_W} {er : Nat} {v : Option Value} {BB : Heap → Prop} {as : List Nat} {cc : ByteArray} {maxL : Nat} {ret : Option FieldType}
    (hy : plainName y.cls = true) (hw : ws = .code y cc maxL ret :: ws') (hlen : (lg_sl av).length ≤ maxL)
    (body : ∀ (p : Program) (e : Env) (s : State) (m : MethodId) (below : List Frame) (meth : Method) (c : Code) (ls : Array Slot),
      p.tables.exec = Jvm.exec → c.code = cc → meth.sig.returnType = ret → c.maxLocals = maxL → (∀ w ∈ ws, w.before av.toArray s = true) → s.vm.findClass y.cls = some m.cls → meth.locks = false → lv_has ls maxL (lv_args 0 av) → gP g W0 s.heap → gE g s → xv s.heap s → (∀ x ∈ c.exceptionTable.toList, False) → va_S (fun q => q ∈ as) s.heap s.heap [] →
      W p l e ({ frames := fr, cells := mc, slots := ms, locals := lo }) s m av.toArray below meth c s.heap [] 0 0 (vx_MQ below (xwQ er v BB as) (xX er) av.toArray s mc ms (fun q => q ∈ as)) (F0 m 0 ls [])) :
    xwM l g y ws fr lo mc ms av W0 er v BB as := by
  refine vx_ofW (cc := cc) (maxL := maxL) (ret := ret) hy hw ?_
  intro p e s m args below meth c s₁ B hml ht hv
  obtain ⟨rfl, hP, hE, hxv⟩ := hv
  have hl := lv_entry av hlen
  rw [lg_entry_eq]
  exact body p e s m below meth c _ B.exec B.bytes B.returns hml (atoms_spec (ws := ws) B.pre) (findClass_of_methodNamed B.named) B.notSynchronized hl hP hE hxv ht va_S.rf
abbrev pM (y : MethodName) (n : Nat) : Prop := y.cls ≠ "java/lang/invoke/MethodHandle" ∧ y.cls ≠ "java/lang/invoke/VarHandle" ∧ (parseMethodDescriptor y.desc).map (fun d => d.parameters.length) = some n
section RUNS
variable {p : Program} {l : Launch} {e : Env} {R : Room} {s : State} {m : MethodId} {args : Array Value} {below : List Frame} {meth : Method} {c : Code} {H : Heap} {locs : List Loc} {cells slots : Nat} {Q : State → Prop}
variable {g : GT} {y : MethodName} {wsY wsY' Ts : List Cond} {fr lo b nL maxL n index pc ci N mc ms : Nat} {As rest st0 : List Value} {W0 : va_W} {own C : String} {cc bytes : ByteArray} {ret : Option FieldType} {T : u_T} {fs : List Value} {ls : Array Slot}
theorem rn_V {Qc : Array Value → State → Outcome → State → Prop} {free : Addr → Prop} (S : CallFix p m c cc nL s args Ts own) (hM : Met l y wsY ({ frames := fr, cells := 0, slots := 0, locals := lo }) (rdP g (.ref b :: As) W0) Qc 0 0 free)
    (hG : GoodIn Ts (wsV own index C y wsY)) (hw : wsY = .code y bytes maxL ret :: wsY') (hd : y.cls = C ∧ pM y n) (hR : fr + 1 ≤ R.frames ∧ 8 + (maxL + 11) + lo ≤ R.locals) (hf : cells ≤ R.cells ∧ slots ≤ R.slots)
    (hP : gP g W0 H) (hE : gE g s) (h0 : W0[0]? = some (b, .inr (ci, fs))) (hc : vwCl[ci]? = some (C, T, N)) (hn : As.length = n) (hl : ls.size = nL) (hst : st0 = As.reverse ++ .ref b :: rest) (hW : (rest.map fun v => v.category).sum ≤ 8) (hdg : decode cc pc = .ok (.invokevirtual index, 3)) :
    CallRun p l e R s m args below meth c H locs cells slots 0 0 (F0 m pc ls st0) rest (Qc (Value.ref b :: As).toArray) free :=
  W.runV (g := F0 m pc ls st0) (rest := rest) (As := As) (b := b) S hM (cwV n S.2.2.2.2 hG hw rfl rfl hd hR) ⟨rdP_blind, va_recv hE.1 hP hc h0, fun U hU hW1 => ⟨rfl, by rw [hU]; exact hP, gE_warm hW1 hE⟩⟩ rfl hn hl hst (lv_room hW) hdg hf
theorem rn_S {Qc : Array Value → State → Outcome → State → Prop} {free : Addr → Prop} (S : CallFix p m c cc nL s args Ts own) (hM : Met l y wsY ({ frames := fr, cells := 0, slots := 0, locals := lo }) (rdP g As W0) Qc 0 0 free)
    (hG : GoodIn Ts (va_wsS own index y wsY)) (hw : wsY = .code y bytes maxL ret :: wsY') (hd : pM y n) (hR : fr + 1 ≤ R.frames ∧ 8 + (maxL + 11) + lo ≤ R.locals) (hf : cells ≤ R.cells ∧ slots ≤ R.slots)
    (hP : gP g W0 H) (hE : gE g s) (hn : As.length = n) (hl : ls.size = nL) (hst : st0 = As.reverse ++ rest) (hW : (rest.map fun v => v.category).sum ≤ 8) (hdg : decode cc pc = .ok (.invokestatic index, 3)) :
    CallRun p l e R s m args below meth c H locs cells slots 0 0 (F0 m pc ls st0) rest (Qc As.toArray) free :=
  W.runS (g := F0 m pc ls st0) (rest := rest) (As := As) S hM (va_cwS n S.2.2.2.2 hG hw rfl rfl hd hR) ⟨rdP_blind, fun U hU hW1 => ⟨rfl, by rw [hU]; exact hP, gE_warm hW1 hE⟩⟩ rfl hn hl hst (lv_room hW) hdg hf
theorem rn_SN {host : String} {Qc : Array Value → State → Outcome → State → Prop} {free : Addr → Prop} (S : CallFix p m c cc nL s args Ts own) (hM : Met l y wsY ({ frames := fr, cells := 0, slots := 0, locals := lo }) (rdP g As W0) Qc 0 0 free)
    (hG : GoodIn Ts wsY) (hw : wsY = .code y bytes maxL ret :: wsY') (hnw : va_Nw (.methodLinkNest own index y host) s) (hini : (Cond.initialized y.cls).before args s = true) (hstt : (Cond.static y).before args s = true) (hd : pM y n) (hR : fr + 1 ≤ R.frames ∧ 8 + (maxL + 11) + lo ≤ R.locals) (hf : cells ≤ R.cells ∧ slots ≤ R.slots)
    (hP : gP g W0 H) (hE : gE g s) (hn : As.length = n) (hl : ls.size = nL) (hst : st0 = As.reverse ++ rest) (hW : (rest.map fun v => v.category).sum ≤ 8) (hdg : decode cc pc = .ok (.invokestatic index, 3)) :
    CallRun p l e R s m args below meth c H locs cells slots 0 0 (F0 m pc ls st0) rest (Qc As.toArray) free := by
  have hr := va_runSN (host := host) (g := F0 m pc ls st0) (rest := rest) (As := As) (e := e) (R := R) (below := below) (meth := meth) (H := H) (locs := locs) (cells := cells) (slots := slots) S hM ⟨va_cnB n S.2.2.2.2 hG hw rfl rfl hnw hini hd hR, hstt, trivial⟩ ⟨rdP_blind, fun U hU hW1 => ⟨rfl, by rw [hU]; exact hP, gE_warm hW1 hE⟩⟩ rfl hn hl hst (lv_room hW) hdg hf
  intro T hT X
  obtain ⟨v, st₀, t, T', L, h0, X', hL, e1, -, hq, st⟩ := hr T hT X
  exact ⟨v, st₀, t, T', L, h0, X', hL, e1, hq, st⟩
theorem rd_go {v : Option Value} {a : Array Value} (hr : CallRun p l e R s m args below meth c H locs cells slots 0 0 (F0 m pc ls st0) rest (rdQ v a) (fun _ => False)) (kk : W p l e R s m args below meth c H locs cells slots Q (F0 m (pc + 3) ls (v.toList ++ rest))) : W p l e R s m args below meth c H locs cells slots Q (F0 m pc ls st0) := by
  intro T hT X
  obtain ⟨v', st₀, t, T', L, h0', X', hL, e1, ⟨hv, hh⟩, st⟩ := hr T hT X
  cases hv
  obtain ⟨t2, a1, b1⟩ := kk T' (by rw [e1, hh, h0']) (Stand.forget X' (fun q h => (hL q h).elim))
  exact ⟨t2, st t2 a1, b1⟩
theorem wr_go {v : Option Value} {a : Array Value} {B : Heap → Prop} {as : List Nat} {A0 : Nat → Prop} {H0 : Heap} (hr : CallRun p l e R s m args below meth c H locs cells slots 0 0 (F0 m pc ls st0) rest (wrQ v B as a) (fun q => q ∈ as)) (hS : va_S A0 H0 H locs) (has : ∀ x ∈ as, A0 x)
    (kk : ∀ (H1 : Heap) (locs1 : List Loc), B H1 → H.size ≤ H1.size → (∀ q : Nat, q < H.size → ¬ q ∈ as → H1[q]? = H[q]?) → va_S A0 H0 H1 locs1 → W p l e R s m args below meth c H1 locs1 cells slots Q (F0 m (pc + 3) ls (v.toList ++ rest))) : W p l e R s m args below meth c H locs cells slots Q (F0 m pc ls st0) := by
  intro T hT X
  obtain ⟨v', st₀, t, T', L, h0', X', hL, e1, ⟨hv, hB, hF⟩, st⟩ := hr T hT X
  cases hv
  obtain ⟨k1, k2, k3⟩ := vx_keep (A1 := fun q => q ∈ as) (free := fun q => q ∈ as) h0' e1 hS (fun q _ h => has q h) (fun q h => has q h) hL hF
  obtain ⟨t2, a1, b1⟩ := kk T'.heap (locs ++ L) (by rw [e1]; exact hB) k1 k2 k3 T' rfl X'
  exact ⟨t2, st t2 a1, b1⟩
theorem xn_V {Qc : Array Value → State → Outcome → State → Prop} {XC : String → State → State → Prop} {free : Addr → Prop} (S : CallFix p m c cc nL s args Ts own) (hM : vx_Met l y wsY ({ frames := fr, cells := mc, slots := ms, locals := lo }) (xP g (.ref b :: As) W0) Qc XC mc ms free)
    (hG : GoodIn Ts (wsV own index C y wsY)) (hw : wsY = .code y bytes maxL ret :: wsY') (hd : y.cls = C ∧ pM y n) (hR : fr + 1 ≤ R.frames ∧ 8 + (maxL + 11) + lo ≤ R.locals) (hf : cells + mc ≤ R.cells ∧ slots + ms ≤ R.slots)
    (hP : gP g W0 H) (hE : gE g s) (hxv : xv H s) (h0 : W0[0]? = some (b, .inr (ci, fs))) (hc : vwCl[ci]? = some (C, T, N)) (hn : As.length = n) (hl : ls.size = nL) (hst : st0 = As.reverse ++ .ref b :: rest) (hW : (rest.map fun v => v.category).sum ≤ 8) (hdg : decode cc pc = .ok (.invokevirtual index, 3)) :
    vx_Run p l e R s m args below meth c H locs cells slots mc ms (F0 m pc ls st0) rest (Qc (Value.ref b :: As).toArray) XC free :=
  vx_runV (g := F0 m pc ls st0) (rest := rest) (As := As) (b := b) S hM (cwV n S.2.2.2.2 hG hw rfl rfl hd hR) ⟨xP_blind, va_recv hE.1 hP hc h0, fun U hU hW1 => ⟨rfl, by rw [hU]; exact hP, gE_warm hW1 hE, by rw [hU]; exact xv_warm hW1 hxv⟩⟩ rfl hn hl hst (lv_room hW) hdg hf
theorem xn_S {Qc : Array Value → State → Outcome → State → Prop} {XC : String → State → State → Prop} {free : Addr → Prop} (S : CallFix p m c cc nL s args Ts own) (hM : vx_Met l y wsY ({ frames := fr, cells := mc, slots := ms, locals := lo }) (xP g As W0) Qc XC mc ms free)
    (hG : GoodIn Ts (va_wsS own index y wsY)) (hw : wsY = .code y bytes maxL ret :: wsY') (hd : pM y n) (hR : fr + 1 ≤ R.frames ∧ 8 + (maxL + 11) + lo ≤ R.locals) (hf : cells + mc ≤ R.cells ∧ slots + ms ≤ R.slots)
    (hP : gP g W0 H) (hE : gE g s) (hxv : xv H s) (hn : As.length = n) (hl : ls.size = nL) (hst : st0 = As.reverse ++ rest) (hW : (rest.map fun v => v.category).sum ≤ 8) (hdg : decode cc pc = .ok (.invokestatic index, 3)) :
    vx_Run p l e R s m args below meth c H locs cells slots mc ms (F0 m pc ls st0) rest (Qc As.toArray) XC free :=
  vx_runS (g := F0 m pc ls st0) (rest := rest) (As := As) S hM (va_cwS n S.2.2.2.2 hG hw rfl rfl hd hR) ⟨xP_blind, fun U hU hW1 => ⟨rfl, by rw [hU]; exact hP, gE_warm hW1 hE, by rw [hU]; exact xv_warm hW1 hxv⟩⟩ rfl hn hl hst (lv_room hW) hdg hf
/-- a reader that may throw, called where nothing was written; what it throws goes on -/
theorem xr_go {er erO MC MS : Nat} {v : Option Value} {a : Array Value} {Qc : Array Value → State → Outcome → State → Prop} {free : Addr → Prop} (hr : vx_Run p l e R s m args below meth c s.heap [] cells slots mc ms (F0 m pc ls st0) rest (xrQ er v a) (xX er) (fun _ => False)) (hout : ∀ x ∈ c.exceptionTable.toList, False) (hlocks : meth.locks = false) (herr : er ≠ 0 → erO = er) (hc : cells + mc ≤ MC) (hs : slots + ms ≤ MS)
    (kk : er = 0 → W p l e R s m args below meth c s.heap [] (cells + mc) (slots + ms) (vx_MQ below Qc (xX erO) args s MC MS free) (F0 m (pc + 3) ls (v.toList ++ rest))) : W p l e R s m args below meth c s.heap [] cells slots (vx_MQ below Qc (xX erO) args s MC MS free) (F0 m pc ls st0) := by
  intro T hT X
  rcases hr T hT X with ⟨v', st₀, t, T', L, h0, X', hL, e1, e2, ⟨he, hv, hh⟩, st⟩ | ⟨q, st₀, t, T', L, E, ce, h0, X', hL, e1, e2, ⟨he, hE, hF⟩, hce, hcv, hcl, st⟩
  · cases hv
    obtain ⟨t2, a1, b1⟩ := kk he T' (by rw [e1, hh, h0]) (Stand.forget X' (fun q h => (hL q h).elim))
    exact ⟨t2, st t2 a1, b1⟩
  · have hL0 : L = [] := by
      cases L with
      | nil => rfl
      | cons x _ => exact (hL x List.mem_cons_self).elim
    subst hL0
    have hw : vx_W p l e R s m args below meth c T'.heap [] (cells + mc) (slots + ms) (vx_MQ below Qc (xX erO) args s MC MS free) (F0 m pc ls rest) q := by
      refine vx_out (E := E) (ce := ce) (fun x hx => (hout x hx).elim) hlocks (by rw [e1]; exact hce) hcv hcl (fun t9 ht9 _ => ?_) (fun _ h => by cases h) hc hs
      rw [herr he]
      refine ⟨he, hE, ?_⟩
      obtain ⟨f1, f2⟩ := hF
      rw [h0] at f1 f2
      exact ⟨by rw [ht9, e1]; exact f1, fun q hq hn => by rw [ht9, e1]; exact f2 q hq hn⟩
    obtain ⟨t2, a1, b1⟩ := hw T' rfl X'
    exact ⟨t2, st.trans a1, b1⟩
-- ends
theorem rd_reti {v r : Int32} (hx : p.tables.exec = Jvm.exec) (hb : c.code = cc) (hr : meth.sig.returnType = some .int) (hlocks : meth.locks = false) (hv : v = r) (hdg : decode cc pc = .ok (.ireturn, 1)) : W p l e R s m args below meth c s.heap [] 0 0 (MQ below (rdQ (some (.int r))) args s 0 0 (fun _ => False)) (F0 m pc ls [.int v]) := by
  subst hv
  exact W.iret hx hb hr (fun t ht _ => ⟨rfl, ht⟩) (fun _ h => by cases h) hdg hlocks
theorem rd_retz {v r : Bool} (hx : p.tables.exec = Jvm.exec) (hb : c.code = cc) (hr : meth.sig.returnType = some .boolean) (hlocks : meth.locks = false) (hv : v = r) (hdg : decode cc pc = .ok (.ireturn, 1)) : W p l e R s m args below meth c s.heap [] 0 0 (MQ below (rdQ (some (.int (bI r)))) args s 0 0 (fun _ => False)) (F0 m pc ls [.int (bI v)]) := by
  subst hv
  exact W.zret hx hb hr (bI_narrow _) (fun t ht _ => ⟨rfl, ht⟩) (fun _ h => by cases h) hdg hlocks
theorem wr_reti {v r : Int32} {BB : Heap → Prop} {as : List Nat} (hx : p.tables.exec = Jvm.exec) (hb : c.code = cc) (hr : meth.sig.returnType = some .int) (hlocks : meth.locks = false) (hS : va_S (fun q => q ∈ as) s.heap H locs) (hB : BB H) (hv : v = r) (hdg : decode cc pc = .ok (.ireturn, 1)) : W p l e R s m args below meth c H locs 0 0 (MQ below (wrQ (some (.int r)) BB as) args s 0 0 (fun q => q ∈ as)) (F0 m pc ls [.int v]) := by
  subst hv
  exact W.iret hx hb hr (fun t ht _ => ⟨rfl, by rw [ht]; exact hB, hS.F ht⟩) hS.2.2 hdg hlocks
theorem wr_retz {v r : Bool} {BB : Heap → Prop} {as : List Nat} (hx : p.tables.exec = Jvm.exec) (hb : c.code = cc) (hr : meth.sig.returnType = some .boolean) (hlocks : meth.locks = false) (hS : va_S (fun q => q ∈ as) s.heap H locs) (hB : BB H) (hv : v = r) (hdg : decode cc pc = .ok (.ireturn, 1)) : W p l e R s m args below meth c H locs 0 0 (MQ below (wrQ (some (.int (bI r))) BB as) args s 0 0 (fun q => q ∈ as)) (F0 m pc ls [.int (bI v)]) := by
  subst hv
  exact W.zret hx hb hr (bI_narrow _) (fun t ht _ => ⟨rfl, by rw [ht]; exact hB, hS.F ht⟩) hS.2.2 hdg hlocks
theorem wr_retv {BB : Heap → Prop} {as : List Nat} (hx : p.tables.exec = Jvm.exec) (hb : c.code = cc) (hr : meth.sig.returnType = none) (hlocks : meth.locks = false) (hS : va_S (fun q => q ∈ as) s.heap H locs) (hB : BB H) (hdg : decode cc pc = .ok (.return_, 1)) : W p l e R s m args below meth c H locs 0 0 (MQ below (wrQ none BB as) args s 0 0 (fun q => q ∈ as)) (F0 m pc ls []) :=
  W.vret hx hb hr (fun t ht _ => ⟨rfl, by rw [ht]; exact hB, hS.F ht⟩) hS.2.2 hdg hlocks
theorem xr_reti {er MC MS : Nat} {v r : Int32} (hx : p.tables.exec = Jvm.exec) (hb : c.code = cc) (hr : meth.sig.returnType = some .int) (hlocks : meth.locks = false) (he : er = 0) (hv : v = r) (hc : cells ≤ MC) (hs : slots ≤ MS) (hdg : decode cc pc = .ok (.ireturn, 1)) : W p l e R s m args below meth c s.heap [] cells slots (vx_MQ below (xrQ er (some (.int r))) (xX er) args s MC MS (fun _ => False)) (F0 m pc ls [.int v]) := by
  subst hv
  exact W.widen hc hs (vx_ret (W.iret hx hb hr (fun t ht _ => ⟨he, rfl, ht⟩) (fun _ h => by cases h) hdg hlocks))
theorem xr_retz {er MC MS : Nat} {v r : Bool} (hx : p.tables.exec = Jvm.exec) (hb : c.code = cc) (hr : meth.sig.returnType = some .boolean) (hlocks : meth.locks = false) (he : er = 0) (hv : v = r) (hc : cells ≤ MC) (hs : slots ≤ MS) (hdg : decode cc pc = .ok (.ireturn, 1)) : W p l e R s m args below meth c s.heap [] cells slots (vx_MQ below (xrQ er (some (.int (bI r)))) (xX er) args s MC MS (fun _ => False)) (F0 m pc ls [.int (bI v)]) := by
  subst hv
  exact W.widen hc hs (vx_ret (W.zret hx hb hr (bI_narrow _) (fun t ht _ => ⟨he, rfl, ht⟩) (fun _ h => by cases h) hdg hlocks))
theorem xr_retv {er MC MS : Nat} (hx : p.tables.exec = Jvm.exec) (hb : c.code = cc) (hr : meth.sig.returnType = none) (hlocks : meth.locks = false) (he : er = 0) (hc : cells ≤ MC) (hs : slots ≤ MS) (hdg : decode cc pc = .ok (.return_, 1)) : W p l e R s m args below meth c s.heap [] cells slots (vx_MQ below (xrQ er none) (xX er) args s MC MS (fun _ => False)) (F0 m pc ls []) :=
  W.widen hc hs (vx_ret (W.vret hx hb hr (fun t ht _ => ⟨he, rfl, ht⟩) (fun _ h => by cases h) hdg hlocks))
theorem xr_reta {er MC MS : Nat} {a r : Nat} {cn : String} (hx : p.tables.exec = Jvm.exec) (hb : c.code = cc) (hr : meth.sig.returnType = some (.object cn)) (hlocks : meth.locks = false) (he : er = 0) (hv : a = r) (hc : cells ≤ MC) (hs : slots ≤ MS) (hdg : decode cc pc = .ok (.areturn, 1)) : W p l e R s m args below meth c s.heap [] cells slots (vx_MQ below (xrQ er (some (.ref r))) (xX er) args s MC MS (fun _ => False)) (F0 m pc ls [.ref a]) := by
  subst hv
  exact W.widen hc hs (vx_ret (W.aret hx hb hr (Or.inl ⟨_, rfl⟩) (Or.inr ⟨_, rfl⟩) (fun t ht _ => ⟨he, rfl, ht⟩) (fun _ h => by cases h) hdg hlocks))
theorem xw_reti {er MC MS : Nat} {v r : Int32} {BB : Heap → Prop} {as : List Nat} (hx : p.tables.exec = Jvm.exec) (hb : c.code = cc) (hr : meth.sig.returnType = some .int) (hlocks : meth.locks = false) (hS : va_S (fun q => q ∈ as) s.heap H locs) (hB : BB H) (he : er = 0) (hv : v = r) (hc : cells ≤ MC) (hs : slots ≤ MS) (hdg : decode cc pc = .ok (.ireturn, 1)) : W p l e R s m args below meth c H locs cells slots (vx_MQ below (xwQ er (some (.int r)) BB as) (xX er) args s MC MS (fun q => q ∈ as)) (F0 m pc ls [.int v]) := by
  subst hv
  exact W.widen hc hs (vx_ret (W.iret hx hb hr (fun t ht _ => ⟨he, rfl, by rw [ht]; exact hB, hS.F ht⟩) hS.2.2 hdg hlocks))
theorem xw_retz {er MC MS : Nat} {v r : Bool} {BB : Heap → Prop} {as : List Nat} (hx : p.tables.exec = Jvm.exec) (hb : c.code = cc) (hr : meth.sig.returnType = some .boolean) (hlocks : meth.locks = false) (hS : va_S (fun q => q ∈ as) s.heap H locs) (hB : BB H) (he : er = 0) (hv : v = r) (hc : cells ≤ MC) (hs : slots ≤ MS) (hdg : decode cc pc = .ok (.ireturn, 1)) : W p l e R s m args below meth c H locs cells slots (vx_MQ below (xwQ er (some (.int (bI r))) BB as) (xX er) args s MC MS (fun q => q ∈ as)) (F0 m pc ls [.int (bI v)]) := by
  subst hv
  exact W.widen hc hs (vx_ret (W.zret hx hb hr (bI_narrow _) (fun t ht _ => ⟨he, rfl, by rw [ht]; exact hB, hS.F ht⟩) hS.2.2 hdg hlocks))
-- a throw of its own, where nothing was written
theorem x_throw {cls text : String} {ik is ic er MC MS : Nat} {Qc : Array Value → State → Outcome → State → Prop} {free : Addr → Prop} (hx : p.tables.exec = Jvm.exec) (hb : c.code = cc) (hl : l.stackTraces = false) (hown : s.vm.findClass RX4 = some m.cls) (hts : ∀ w ∈ Ts, w.before args s = true) (hE : gE g s) (hxv : xv s.heap s)
    (hcls : Bundle.fit cls = true) (hk : Cond.classLink RX4 ik cls ∈ Ts) (hini : Cond.initialized cls ∈ Ts) (hat : ∀ w ∈ (vx_atS RX4 ic cls exU).filter goodWord, w ∈ Ts) (hxt : ∀ w ∈ (vx_atS RX4 ic cls exU).filter (fun w => !goodWord w), w ∈ xtraW)
    (hgood : ∀ w ∈ Cond.classLink RX4 ik cls :: Cond.initialized cls :: vx_atS RX4 ic cls exU, vx_ot w = true) (hstr : (is, text) ∈ gStrs) (hsize : ls.size = c.maxLocals)
    (d0 : decode cc pc = .ok (.new ik, 3)) (d3 : decode cc (pc + 3) = .ok (.dup, 1)) (d4 : decode cc (pc + 4) = .ok (.ldc is, 2)) (d6 : decode cc (pc + 6) = .ok (.invokespecial ic, 3)) (d9 : decode cc (pc + 9) = .ok (.athrow, 1))
    (hout : ∀ x ∈ c.exceptionTable.toList, False) (hRf : 5 < R.frames) (hRl : (rest.map fun v => v.category).sum + 82 ≤ R.locals) (hRc : cells + 1 ≤ R.cells) (hRs : slots + 6 ≤ R.slots) (hlocks : meth.locks = false) (he : er ≠ 0 ∧ cls = exN er) (hc : cells + 1 ≤ MC) (hs : slots + 6 ≤ MS) :
    W p l e R s m args below meth c s.heap [] cells slots (vx_MQ below Qc (xX er) args s MC MS free) (F0 m pc ls rest) := by
  obtain ⟨sa, hsa⟩ := hE.2.2.1 _ hstr
  refine vx_throwS (A := fun q => s.heap.size ≤ q) (names := exU) (sa := sa) hx hb hl hown hcls (by decide +kernel) (hts _ hk) (hts _ hini) hsa ?_ hgood hxv.1 hxv.2 va_S.rf hsize d0 d3 d4 d6 d9 (fun x h => (hout x h).elim) hRf hRl hRc hRs hlocks (fun t _ h1 h2 => ⟨he.1, he.2, h1, fun q hq _ => h2 q hq⟩) (fun _ h => by cases h) hc hs
  intro w hw
  by_cases hg : goodWord w = true
  · exact hts w (hat w (List.mem_filter.mpr ⟨hw, hg⟩))
  · have h1 : w ∈ xtraW := hxt w (List.mem_filter.mpr ⟨hw, by cases hgw : goodWord w <;> simp_all⟩)
    have h2 := hE.2.2.2.1 w h1
    have h3 := xtraW_cd w h1
    exact va_Nw.use (by cases w <;> first | rfl | (simp [isCD] at h3)) h2
-- steps
theorem tp_i {x z : Int32} (h : x = z) (k : W p l e R s m args below meth c H locs cells slots Q (F0 m pc ls (.int z :: rest))) : W p l e R s m args below meth c H locs cells slots Q (F0 m pc ls (.int x :: rest)) := by
  rw [h]; exact k
theorem br_eqB {b : Bool} {off : Int} {tgt : Nat} (hx : p.tables.exec = Jvm.exec) (hb : c.code = cc) (hdg : decode cc pc = .ok (.ifCond .eq off, 3)) (ht : (pc : Int) + off = (tgt : Int)) (kt : b = false → W p l e R s m args below meth c H locs cells slots Q (F0 m tgt ls rest)) (kf : b = true → W p l e R s m args below meth c H locs cells slots Q (F0 m (pc + 3) ls rest)) : W p l e R s m args below meth c H locs cells slots Q (F0 m pc ls (.int (bI b) :: rest)) :=
  lv_if_eq hx hb hdg ht (fun h => kt (bI_0.mp h)) (fun h => kf (by cases b with | true => rfl | false => exact absurd rfl h))
theorem br_neB {b : Bool} {off : Int} {tgt : Nat} (hx : p.tables.exec = Jvm.exec) (hb : c.code = cc) (hdg : decode cc pc = .ok (.ifCond .ne off, 3)) (ht : (pc : Int) + off = (tgt : Int)) (kt : b = true → W p l e R s m args below meth c H locs cells slots Q (F0 m tgt ls rest)) (kf : b = false → W p l e R s m args below meth c H locs cells slots Q (F0 m (pc + 3) ls rest)) : W p l e R s m args below meth c H locs cells slots Q (F0 m pc ls (.int (bI b) :: rest)) :=
  lv_if_ne hx hb hdg ht (fun h => kt (by cases b with | true => rfl | false => exact absurd rfl h)) (fun h => kf (bI_0.mp h))
theorem br_ltN {a b : Nat} {off : Int} {tgt : Nat} (hx : p.tables.exec = Jvm.exec) (hb : c.code = cc) (ha : a < 2 ^ 31) (hb2 : b < 2 ^ 31) (hdg : decode cc pc = .ok (.if_icmp .lt off, 3)) (ht : (pc : Int) + off = (tgt : Int)) (kt : a < b → W p l e R s m args below meth c H locs cells slots Q (F0 m tgt ls rest)) (kf : b ≤ a → W p l e R s m args below meth c H locs cells slots Q (F0 m (pc + 3) ls rest)) : W p l e R s m args below meth c H locs cells slots Q (F0 m pc ls (.int (nI b) :: .int (nI a) :: rest)) :=
  lv_icmp_lt hx hb hdg ht (fun h => kt ((nI_ltI ha hb2).mp h)) (fun h => kf (Nat.not_lt.mp (fun z => h ((nI_ltI ha hb2).mpr z))))
theorem br_geN {a b : Nat} {off : Int} {tgt : Nat} (hx : p.tables.exec = Jvm.exec) (hb : c.code = cc) (ha : a < 2 ^ 31) (hb2 : b < 2 ^ 31) (hdg : decode cc pc = .ok (.if_icmp .ge off, 3)) (ht : (pc : Int) + off = (tgt : Int)) (kt : b ≤ a → W p l e R s m args below meth c H locs cells slots Q (F0 m tgt ls rest)) (kf : a < b → W p l e R s m args below meth c H locs cells slots Q (F0 m (pc + 3) ls rest)) : W p l e R s m args below meth c H locs cells slots Q (F0 m pc ls (.int (nI b) :: .int (nI a) :: rest)) :=
  lv_icmp_ge hx hb hdg ht (fun h => kt ((nI_leI hb2 ha).mp h)) (fun h => kf (Nat.not_le.mp (fun z => h ((nI_leI hb2 ha).mpr z))))
theorem br_gtN {a b : Nat} {off : Int} {tgt : Nat} (hx : p.tables.exec = Jvm.exec) (hb : c.code = cc) (ha : a < 2 ^ 31) (hb2 : b < 2 ^ 31) (hdg : decode cc pc = .ok (.if_icmp .gt off, 3)) (ht : (pc : Int) + off = (tgt : Int)) (kt : b < a → W p l e R s m args below meth c H locs cells slots Q (F0 m tgt ls rest)) (kf : a ≤ b → W p l e R s m args below meth c H locs cells slots Q (F0 m (pc + 3) ls rest)) : W p l e R s m args below meth c H locs cells slots Q (F0 m pc ls (.int (nI b) :: .int (nI a) :: rest)) :=
  lv_icmp_gt hx hb hdg ht (fun h => kt ((nI_ltI hb2 ha).mp h)) (fun h => kf (Nat.not_lt.mp (fun z => h ((nI_ltI hb2 ha).mpr z))))
theorem br_leN {a b : Nat} {off : Int} {tgt : Nat} (hx : p.tables.exec = Jvm.exec) (hb : c.code = cc) (ha : a < 2 ^ 31) (hb2 : b < 2 ^ 31) (hdg : decode cc pc = .ok (.if_icmp .le off, 3)) (ht : (pc : Int) + off = (tgt : Int)) (kt : a ≤ b → W p l e R s m args below meth c H locs cells slots Q (F0 m tgt ls rest)) (kf : b < a → W p l e R s m args below meth c H locs cells slots Q (F0 m (pc + 3) ls rest)) : W p l e R s m args below meth c H locs cells slots Q (F0 m pc ls (.int (nI b) :: .int (nI a) :: rest)) :=
  lv_icmp_le hx hb hdg ht (fun h => kt ((nI_leI ha hb2).mp h)) (fun h => kf (Nat.not_le.mp (fun z => h ((nI_leI ha hb2).mpr z))))
theorem br_eqN {a b : Nat} {off : Int} {tgt : Nat} (hx : p.tables.exec = Jvm.exec) (hb : c.code = cc) (ha : a < 2 ^ 31) (hb2 : b < 2 ^ 31) (hdg : decode cc pc = .ok (.if_icmp .eq off, 3)) (ht : (pc : Int) + off = (tgt : Int)) (kt : a = b → W p l e R s m args below meth c H locs cells slots Q (F0 m tgt ls rest)) (kf : ¬ a = b → W p l e R s m args below meth c H locs cells slots Q (F0 m (pc + 3) ls rest)) : W p l e R s m args below meth c H locs cells slots Q (F0 m pc ls (.int (nI b) :: .int (nI a) :: rest)) :=
  lv_icmp_eq hx hb hdg ht (fun h => kt ((nI_eq ha hb2).mp h)) (fun h => kf (fun z => h ((nI_eq ha hb2).mpr z)))
theorem br_neN {a b : Nat} {off : Int} {tgt : Nat} (hx : p.tables.exec = Jvm.exec) (hb : c.code = cc) (ha : a < 2 ^ 31) (hb2 : b < 2 ^ 31) (hdg : decode cc pc = .ok (.if_icmp .ne off, 3)) (ht : (pc : Int) + off = (tgt : Int)) (kt : ¬ a = b → W p l e R s m args below meth c H locs cells slots Q (F0 m tgt ls rest)) (kf : a = b → W p l e R s m args below meth c H locs cells slots Q (F0 m (pc + 3) ls rest)) : W p l e R s m args below meth c H locs cells slots Q (F0 m pc ls (.int (nI b) :: .int (nI a) :: rest)) :=
  lv_icmp_ne hx hb hdg ht (fun h => kt (fun z => h ((nI_eq ha hb2).mpr z))) (fun h => kf ((nI_eq ha hb2).mp h))
theorem br_ltF {a b : Nat} {off : Int} {tgt : Nat} (hx : p.tables.exec = Jvm.exec) (hb : c.code = cc) (ha : a < 2 ^ 31) (hb2 : b < 2 ^ 31) (hdg : decode cc pc = .ok (.if_icmp .lt off, 3)) (ht : (pc : Int) + off = (tgt : Int)) (kt : a < b → W p l e R s m args below meth c H locs cells slots Q (F0 m tgt ls rest)) (kf : b ≤ a → W p l e R s m args below meth c H locs cells slots Q (F0 m (pc + 3) ls rest)) : W p l e R s m args below meth c H locs cells slots Q (F0 m pc ls (.int (fI b) :: .int (fI a) :: rest)) :=
  lv_icmp_lt hx hb hdg ht (fun h => kt ((fI_lt ha hb2).mp h)) (fun h => kf (Nat.not_lt.mp (fun z => h ((fI_lt ha hb2).mpr z))))
theorem br_geF {a b : Nat} {off : Int} {tgt : Nat} (hx : p.tables.exec = Jvm.exec) (hb : c.code = cc) (ha : a < 2 ^ 31) (hb2 : b < 2 ^ 31) (hdg : decode cc pc = .ok (.if_icmp .ge off, 3)) (ht : (pc : Int) + off = (tgt : Int)) (kt : b ≤ a → W p l e R s m args below meth c H locs cells slots Q (F0 m tgt ls rest)) (kf : a < b → W p l e R s m args below meth c H locs cells slots Q (F0 m (pc + 3) ls rest)) : W p l e R s m args below meth c H locs cells slots Q (F0 m pc ls (.int (fI b) :: .int (fI a) :: rest)) :=
  lv_icmp_ge hx hb hdg ht (fun h => kt ((fI_le hb2 ha).mp h)) (fun h => kf (Nat.not_le.mp (fun z => h ((fI_le hb2 ha).mpr z))))
theorem br_gtF {a b : Nat} {off : Int} {tgt : Nat} (hx : p.tables.exec = Jvm.exec) (hb : c.code = cc) (ha : a < 2 ^ 31) (hb2 : b < 2 ^ 31) (hdg : decode cc pc = .ok (.if_icmp .gt off, 3)) (ht : (pc : Int) + off = (tgt : Int)) (kt : b < a → W p l e R s m args below meth c H locs cells slots Q (F0 m tgt ls rest)) (kf : a ≤ b → W p l e R s m args below meth c H locs cells slots Q (F0 m (pc + 3) ls rest)) : W p l e R s m args below meth c H locs cells slots Q (F0 m pc ls (.int (fI b) :: .int (fI a) :: rest)) :=
  lv_icmp_gt hx hb hdg ht (fun h => kt ((fI_lt hb2 ha).mp h)) (fun h => kf (Nat.not_lt.mp (fun z => h ((fI_lt hb2 ha).mpr z))))
theorem br_leF {a b : Nat} {off : Int} {tgt : Nat} (hx : p.tables.exec = Jvm.exec) (hb : c.code = cc) (ha : a < 2 ^ 31) (hb2 : b < 2 ^ 31) (hdg : decode cc pc = .ok (.if_icmp .le off, 3)) (ht : (pc : Int) + off = (tgt : Int)) (kt : a ≤ b → W p l e R s m args below meth c H locs cells slots Q (F0 m tgt ls rest)) (kf : b < a → W p l e R s m args below meth c H locs cells slots Q (F0 m (pc + 3) ls rest)) : W p l e R s m args below meth c H locs cells slots Q (F0 m pc ls (.int (fI b) :: .int (fI a) :: rest)) :=
  lv_icmp_le hx hb hdg ht (fun h => kt ((fI_le ha hb2).mp h)) (fun h => kf (Nat.not_le.mp (fun z => h ((fI_le ha hb2).mpr z))))
theorem ra_z {a q0 i nn : Nat} {ws : va_W} {F : Nat → Bool} (hx : p.tables.exec = Jvm.exec) (hb : c.code = cc) (hE : gE g s) (hP : gP g ws H) (ha : ws[q0]? = some (a, .inl (g.2 1, nn, .inl (zc F)))) (hi : i < nn) (hn : nn < 2 ^ 31) (hdg : decode cc pc = .ok (.baload, 1)) (kk : W p l e R s m args below meth c H locs cells slots Q (F0 m (pc + 1) ls (.int (bI (F i)) :: rest))) : W p l e R s m args below meth c H locs cells slots Q (F0 m pc ls (.int (nI i) :: .ref a :: rest)) := by
  refine va_zald hx hb hE.1 hP q0 1 ha rfl (vp_in_nI hi hn) hdg ?_
  rw [nI_clamp (by omega)]
  exact kk
theorem ra_i {a q0 i nn : Nat} {ws : va_W} {f : Nat → Int32} (hx : p.tables.exec = Jvm.exec) (hb : c.code = cc) (hE : gE g s) (hP : gP g ws H) (ha : ws[q0]? = some (a, .inl (g.2 0, nn, .inl f))) (hi : i < nn) (hn : nn < 2 ^ 31) (hdg : decode cc pc = .ok (.iaload, 1)) (kk : W p l e R s m args below meth c H locs cells slots Q (F0 m (pc + 1) ls (.int (f i) :: rest))) : W p l e R s m args below meth c H locs cells slots Q (F0 m pc ls (.int (nI i) :: .ref a :: rest)) := by
  refine va_iald hx hb hE.1 hP q0 0 ha rfl (vp_in_nI hi hn) hdg ?_
  rw [nI_clamp (by omega)]
  exact kk
theorem ra_q {a q0 i nn : Nat} {ws : va_W} {f : Nat → Option Nat} (hx : p.tables.exec = Jvm.exec) (hb : c.code = cc) (hE : gE g s) (hP : gP g ws H) (ha : ws[q0]? = some (a, .inl (g.2 2, nn, .inr (.inr (.inr (.inr f)))))) (hi : i < nn) (hn : nn < 2 ^ 31) (hdg : decode cc pc = .ok (.aaload, 1)) (kk : W p l e R s m args below meth c H locs cells slots Q (F0 m (pc + 1) ls (va_rf (f i) :: rest))) : W p l e R s m args below meth c H locs cells slots Q (F0 m pc ls (.int (nI i) :: .ref a :: rest)) := by
  refine va_aldq hx hb hE.1 hP q0 2 ha rfl (vp_in_nI hi hn) hdg ?_
  rw [nI_clamp (by omega)]
  exact kk
theorem wa_z {a q0 i nn : Nat} {ws ws' : va_W} {F : Nat → Bool} {b : Bool} {A : Nat → Prop} {H0 : Heap} (hx : p.tables.exec = Jvm.exec) (hb : c.code = cc) (hE : gE g s) (hP : gP g ws H) (hD : va_D A ws) (hS : va_S A H0 H locs) (ha : ws[q0]? = some (a, .inl (g.2 1, nn, .inl (zc F)))) (hw : ws.set q0 (a, .inl (g.2 1, nn, .inl (zc (va_up F i b)))) = ws') (hi : i < nn) (hn : nn < 2 ^ 31) (hdg : decode cc pc = .ok (.bastore, 1))
    (kk : ∀ (H1 : Heap) (locs1 : List Loc), gP g ws' H1 → va_D A ws' → va_S A H0 H1 locs1 → W p l e R s m args below meth c H1 locs1 cells slots Q (F0 m (pc + 1) ls rest)) : W p l e R s m args below meth c H locs cells slots Q (F0 m pc ls (.int (bI b) :: .int (nI i) :: .ref a :: rest)) := by
  refine va_zast hx hb hE.1 hP hD hS q0 1 ha rfl (vp_in_nI hi hn) hdg (fun H1 locs1 hP1 hD1 hS1 => ?_)
  rw [nI_clamp (by omega), bI_nar, zc_up, hw] at hP1 hD1
  exact kk H1 locs1 hP1 hD1 hS1
theorem wa_i {a q0 i nn : Nat} {ws ws' : va_W} {f f' : Nat → Int32} {x : Int32} {A : Nat → Prop} {H0 : Heap} (hx : p.tables.exec = Jvm.exec) (hb : c.code = cc) (hE : gE g s) (hP : gP g ws H) (hD : va_D A ws) (hS : va_S A H0 H locs) (ha : ws[q0]? = some (a, .inl (g.2 0, nn, .inl f))) (hf : upd f i x = f') (hw : ws.set q0 (a, .inl (g.2 0, nn, .inl f')) = ws') (hi : i < nn) (hn : nn < 2 ^ 31) (hdg : decode cc pc = .ok (.iastore, 1))
    (kk : ∀ (H1 : Heap) (locs1 : List Loc), gP g ws' H1 → va_D A ws' → va_S A H0 H1 locs1 → W p l e R s m args below meth c H1 locs1 cells slots Q (F0 m (pc + 1) ls rest)) : W p l e R s m args below meth c H locs cells slots Q (F0 m pc ls (.int x :: .int (nI i) :: .ref a :: rest)) := by
  refine va_iast hx hb hE.1 hP hD hS q0 0 ha rfl (vp_in_nI hi hn) hdg (fun H1 locs1 hP1 hD1 hS1 => ?_)
  rw [nI_clamp (by omega), hf, hw] at hP1 hD1
  exact kk H1 locs1 hP1 hD1 hS1
end RUNS
end
section
theorem dX0_init_0 : decode cX0_init 0 = .ok (.aload_n 0, 1) := by decide +kernel
theorem dX0_init_1 : decode cX0_init 1 = .ok (.invokespecial 3, 3) := by decide +kernel
theorem dX0_init_4 : decode cX0_init 4 = .ok (.aload_n 0, 1) := by decide +kernel
theorem dX0_init_5 : decode cX0_init 5 = .ok (.sipush 150, 3) := by decide +kernel
theorem dX0_init_8 : decode cX0_init 8 = .ok (.newarray .int, 2) := by decide +kernel
theorem dX0_init_10 : decode cX0_init 10 = .ok (.putfield 9, 3) := by decide +kernel
theorem dX0_init_13 : decode cX0_init 13 = .ok (.aload_n 0, 1) := by decide +kernel
theorem dX0_init_14 : decode cX0_init 14 = .ok (.sipush 150, 3) := by decide +kernel
theorem dX0_init_17 : decode cX0_init 17 = .ok (.newarray .int, 2) := by decide +kernel
theorem dX0_init_19 : decode cX0_init 19 = .ok (.putfield 15, 3) := by decide +kernel
theorem dX0_init_22 : decode cX0_init 22 = .ok (.aload_n 0, 1) := by decide +kernel
theorem dX0_init_23 : decode cX0_init 23 = .ok (.sipush 150, 3) := by decide +kernel
theorem dX0_init_26 : decode cX0_init 26 = .ok (.newarray .boolean, 2) := by decide +kernel
theorem dX0_init_28 : decode cX0_init 28 = .ok (.putfield 18, 3) := by decide +kernel
theorem dX0_init_31 : decode cX0_init 31 = .ok (.return_, 1) := by decide +kernel
theorem dX0_made_0 : decode cX0_made 0 = .ok (.aload_n 0, 1) := by decide +kernel
theorem dX0_made_1 : decode cX0_made 1 = .ok (.getfield 22, 3) := by decide +kernel
theorem dX0_made_4 : decode cX0_made 4 = .ok (.ireturn, 1) := by decide +kernel
theorem dX0_has_0 : decode cX0_has 0 = .ok (.iload_n 1, 1) := by decide +kernel
theorem dX0_has_1 : decode cX0_has 1 = .ok (.ifCond .lt 15, 3) := by decide +kernel
theorem dX0_has_4 : decode cX0_has 4 = .ok (.iload_n 1, 1) := by decide +kernel
theorem dX0_has_5 : decode cX0_has 5 = .ok (.aload_n 0, 1) := by decide +kernel
theorem dX0_has_6 : decode cX0_has 6 = .ok (.getfield 22, 3) := by decide +kernel
theorem dX0_has_9 : decode cX0_has 9 = .ok (.if_icmp .ge 7, 3) := by decide +kernel
theorem dX0_has_12 : decode cX0_has 12 = .ok (.iconst 1, 1) := by decide +kernel
theorem dX0_has_13 : decode cX0_has 13 = .ok (.goto 4, 3) := by decide +kernel
theorem dX0_has_16 : decode cX0_has 16 = .ok (.iconst 0, 1) := by decide +kernel
theorem dX0_has_17 : decode cX0_has 17 = .ok (.ireturn, 1) := by decide +kernel
set_option maxRecDepth 20000 in
theorem ggX0_stands_X0_has : GoodIn wsX0_stands wsX0_has := goodIn_r _ [6, 7, 8, 9, 10, 11] (by decide +kernel) (by decide +kernel)
set_option maxRecDepth 20000 in
theorem gX0_stands_X0_has : GoodIn wsX0_stands (wsV RX0 26 RX0 yX0_has wsX0_has) := goodIn_app (goodIn_of _ (by decide +kernel)) ggX0_stands_X0_has
theorem dX0_stands_0 : decode cX0_stands 0 = .ok (.aload_n 0, 1) := by decide +kernel
theorem dX0_stands_1 : decode cX0_stands 1 = .ok (.iload_n 1, 1) := by decide +kernel
theorem dX0_stands_2 : decode cX0_stands 2 = .ok (.invokevirtual 26, 3) := by decide +kernel
theorem dX0_stands_5 : decode cX0_stands 5 = .ok (.ifCond .eq 16, 3) := by decide +kernel
theorem dX0_stands_8 : decode cX0_stands 8 = .ok (.aload_n 0, 1) := by decide +kernel
theorem dX0_stands_9 : decode cX0_stands 9 = .ok (.getfield 18, 3) := by decide +kernel
theorem dX0_stands_12 : decode cX0_stands 12 = .ok (.iload_n 1, 1) := by decide +kernel
theorem dX0_stands_13 : decode cX0_stands 13 = .ok (.baload, 1) := by decide +kernel
theorem dX0_stands_14 : decode cX0_stands 14 = .ok (.ifCond .ne 7, 3) := by decide +kernel
theorem dX0_stands_17 : decode cX0_stands 17 = .ok (.iconst 1, 1) := by decide +kernel
theorem dX0_stands_18 : decode cX0_stands 18 = .ok (.goto 4, 3) := by decide +kernel
theorem dX0_stands_21 : decode cX0_stands 21 = .ok (.iconst 0, 1) := by decide +kernel
theorem dX0_stands_22 : decode cX0_stands 22 = .ok (.ireturn, 1) := by decide +kernel
set_option maxRecDepth 20000 in
theorem ggX0_author_X0_has : GoodIn wsX0_author wsX0_has := goodIn_r _ [6, 7, 8, 9, 10, 11] (by decide +kernel) (by decide +kernel)
set_option maxRecDepth 20000 in
theorem gX0_author_X0_has : GoodIn wsX0_author (wsV RX0 26 RX0 yX0_has wsX0_has) := goodIn_app (goodIn_of _ (by decide +kernel)) ggX0_author_X0_has
theorem dX0_author_0 : decode cX0_author 0 = .ok (.aload_n 0, 1) := by decide +kernel
theorem dX0_author_1 : decode cX0_author 1 = .ok (.iload_n 1, 1) := by decide +kernel
theorem dX0_author_2 : decode cX0_author 2 = .ok (.invokevirtual 26, 3) := by decide +kernel
theorem dX0_author_5 : decode cX0_author 5 = .ok (.ifCond .eq 12, 3) := by decide +kernel
theorem dX0_author_8 : decode cX0_author 8 = .ok (.aload_n 0, 1) := by decide +kernel
theorem dX0_author_9 : decode cX0_author 9 = .ok (.getfield 9, 3) := by decide +kernel
theorem dX0_author_12 : decode cX0_author 12 = .ok (.iload_n 1, 1) := by decide +kernel
theorem dX0_author_13 : decode cX0_author 13 = .ok (.iaload, 1) := by decide +kernel
theorem dX0_author_14 : decode cX0_author 14 = .ok (.goto 4, 3) := by decide +kernel
theorem dX0_author_17 : decode cX0_author 17 = .ok (.iconst (-1), 1) := by decide +kernel
theorem dX0_author_18 : decode cX0_author 18 = .ok (.ireturn, 1) := by decide +kernel
set_option maxRecDepth 20000 in
theorem ggX0_origin_X0_has : GoodIn wsX0_origin wsX0_has := goodIn_r _ [6, 7, 8, 9, 10, 11] (by decide +kernel) (by decide +kernel)
set_option maxRecDepth 20000 in
theorem gX0_origin_X0_has : GoodIn wsX0_origin (wsV RX0 26 RX0 yX0_has wsX0_has) := goodIn_app (goodIn_of _ (by decide +kernel)) ggX0_origin_X0_has
theorem dX0_origin_0 : decode cX0_origin 0 = .ok (.aload_n 0, 1) := by decide +kernel
theorem dX0_origin_1 : decode cX0_origin 1 = .ok (.iload_n 1, 1) := by decide +kernel
theorem dX0_origin_2 : decode cX0_origin 2 = .ok (.invokevirtual 26, 3) := by decide +kernel
theorem dX0_origin_5 : decode cX0_origin 5 = .ok (.ifCond .eq 12, 3) := by decide +kernel
theorem dX0_origin_8 : decode cX0_origin 8 = .ok (.aload_n 0, 1) := by decide +kernel
theorem dX0_origin_9 : decode cX0_origin 9 = .ok (.getfield 15, 3) := by decide +kernel
theorem dX0_origin_12 : decode cX0_origin 12 = .ok (.iload_n 1, 1) := by decide +kernel
theorem dX0_origin_13 : decode cX0_origin 13 = .ok (.iaload, 1) := by decide +kernel
theorem dX0_origin_14 : decode cX0_origin 14 = .ok (.goto 4, 3) := by decide +kernel
theorem dX0_origin_17 : decode cX0_origin 17 = .ok (.iconst (-1), 1) := by decide +kernel
theorem dX0_origin_18 : decode cX0_origin 18 = .ok (.ireturn, 1) := by decide +kernel
theorem dX0_add_0 : decode cX0_add 0 = .ok (.aload_n 0, 1) := by decide +kernel
theorem dX0_add_1 : decode cX0_add 1 = .ok (.getfield 22, 3) := by decide +kernel
theorem dX0_add_4 : decode cX0_add 4 = .ok (.sipush 150, 3) := by decide +kernel
theorem dX0_add_7 : decode cX0_add 7 = .ok (.if_icmp .ge 33, 3) := by decide +kernel
theorem dX0_add_10 : decode cX0_add 10 = .ok (.aload_n 0, 1) := by decide +kernel
theorem dX0_add_11 : decode cX0_add 11 = .ok (.getfield 9, 3) := by decide +kernel
theorem dX0_add_14 : decode cX0_add 14 = .ok (.aload_n 0, 1) := by decide +kernel
theorem dX0_add_15 : decode cX0_add 15 = .ok (.getfield 22, 3) := by decide +kernel
theorem dX0_add_18 : decode cX0_add 18 = .ok (.iload_n 1, 1) := by decide +kernel
theorem dX0_add_19 : decode cX0_add 19 = .ok (.iastore, 1) := by decide +kernel
theorem dX0_add_20 : decode cX0_add 20 = .ok (.aload_n 0, 1) := by decide +kernel
theorem dX0_add_21 : decode cX0_add 21 = .ok (.getfield 15, 3) := by decide +kernel
theorem dX0_add_24 : decode cX0_add 24 = .ok (.aload_n 0, 1) := by decide +kernel
theorem dX0_add_25 : decode cX0_add 25 = .ok (.getfield 22, 3) := by decide +kernel
theorem dX0_add_28 : decode cX0_add 28 = .ok (.iload_n 2, 1) := by decide +kernel
theorem dX0_add_29 : decode cX0_add 29 = .ok (.iastore, 1) := by decide +kernel
theorem dX0_add_30 : decode cX0_add 30 = .ok (.aload_n 0, 1) := by decide +kernel
theorem dX0_add_31 : decode cX0_add 31 = .ok (.dup, 1) := by decide +kernel
theorem dX0_add_32 : decode cX0_add 32 = .ok (.getfield 22, 3) := by decide +kernel
theorem dX0_add_35 : decode cX0_add 35 = .ok (.iconst 1, 1) := by decide +kernel
theorem dX0_add_36 : decode cX0_add 36 = .ok (.iadd, 1) := by decide +kernel
theorem dX0_add_37 : decode cX0_add 37 = .ok (.putfield 22, 3) := by decide +kernel
theorem dX0_add_40 : decode cX0_add 40 = .ok (.return_, 1) := by decide +kernel
set_option maxRecDepth 20000 in
theorem ggX0_remove_X0_has : GoodIn wsX0_remove wsX0_has := goodIn_r _ [6, 7, 8, 9, 10, 11] (by decide +kernel) (by decide +kernel)
set_option maxRecDepth 20000 in
theorem gX0_remove_X0_has : GoodIn wsX0_remove (wsV RX0 26 RX0 yX0_has wsX0_has) := goodIn_app (goodIn_of _ (by decide +kernel)) ggX0_remove_X0_has
theorem dX0_remove_0 : decode cX0_remove 0 = .ok (.aload_n 0, 1) := by decide +kernel
theorem dX0_remove_1 : decode cX0_remove 1 = .ok (.iload_n 1, 1) := by decide +kernel
theorem dX0_remove_2 : decode cX0_remove 2 = .ok (.invokevirtual 26, 3) := by decide +kernel
theorem dX0_remove_5 : decode cX0_remove 5 = .ok (.ifCond .eq 10, 3) := by decide +kernel
theorem dX0_remove_8 : decode cX0_remove 8 = .ok (.aload_n 0, 1) := by decide +kernel
theorem dX0_remove_9 : decode cX0_remove 9 = .ok (.getfield 18, 3) := by decide +kernel
theorem dX0_remove_12 : decode cX0_remove 12 = .ok (.iload_n 1, 1) := by decide +kernel
theorem dX0_remove_13 : decode cX0_remove 13 = .ok (.iconst 1, 1) := by decide +kernel
theorem dX0_remove_14 : decode cX0_remove 14 = .ok (.bastore, 1) := by decide +kernel
theorem dX0_remove_15 : decode cX0_remove 15 = .ok (.return_, 1) := by decide +kernel
set_option maxRecDepth 20000 in
theorem ggX0_countStandingOf_X0_origin : GoodIn wsX0_countStandingOf wsX0_origin := goodIn_r _ [6, 7, 8, 9, 10, 5, 11, 1, 17, 18, 19, 20] (by decide +kernel) (by decide +kernel)
set_option maxRecDepth 20000 in
theorem gX0_countStandingOf_X0_origin : GoodIn wsX0_countStandingOf (wsV RX0 30 RX0 yX0_origin wsX0_origin) := goodIn_app (goodIn_of _ (by decide +kernel)) ggX0_countStandingOf_X0_origin
set_option maxRecDepth 20000 in
theorem ggX0_countStandingOf_X0_stands : GoodIn wsX0_countStandingOf wsX0_stands := goodIn_r _ [15, 16, 8, 9, 10, 5, 11, 1, 17, 18, 19, 20] (by decide +kernel) (by decide +kernel)
set_option maxRecDepth 20000 in
theorem gX0_countStandingOf_X0_stands : GoodIn wsX0_countStandingOf (wsV RX0 34 RX0 yX0_stands wsX0_stands) := goodIn_app (goodIn_of _ (by decide +kernel)) ggX0_countStandingOf_X0_stands
theorem dX0_countStandingOf_0 : decode cX0_countStandingOf 0 = .ok (.iconst 0, 1) := by decide +kernel
theorem dX0_countStandingOf_1 : decode cX0_countStandingOf 1 = .ok (.istore_n 2, 1) := by decide +kernel
theorem dX0_countStandingOf_2 : decode cX0_countStandingOf 2 = .ok (.iconst 0, 1) := by decide +kernel
theorem dX0_countStandingOf_3 : decode cX0_countStandingOf 3 = .ok (.istore_n 3, 1) := by decide +kernel
theorem dX0_countStandingOf_4 : decode cX0_countStandingOf 4 = .ok (.iload_n 3, 1) := by decide +kernel
theorem dX0_countStandingOf_5 : decode cX0_countStandingOf 5 = .ok (.aload_n 0, 1) := by decide +kernel
theorem dX0_countStandingOf_6 : decode cX0_countStandingOf 6 = .ok (.getfield 22, 3) := by decide +kernel
theorem dX0_countStandingOf_9 : decode cX0_countStandingOf 9 = .ok (.if_icmp .ge 29, 3) := by decide +kernel
theorem dX0_countStandingOf_12 : decode cX0_countStandingOf 12 = .ok (.aload_n 0, 1) := by decide +kernel
theorem dX0_countStandingOf_13 : decode cX0_countStandingOf 13 = .ok (.iload_n 3, 1) := by decide +kernel
theorem dX0_countStandingOf_14 : decode cX0_countStandingOf 14 = .ok (.invokevirtual 30, 3) := by decide +kernel
theorem dX0_countStandingOf_17 : decode cX0_countStandingOf 17 = .ok (.iload_n 1, 1) := by decide +kernel
theorem dX0_countStandingOf_18 : decode cX0_countStandingOf 18 = .ok (.if_icmp .ne 14, 3) := by decide +kernel
theorem dX0_countStandingOf_21 : decode cX0_countStandingOf 21 = .ok (.aload_n 0, 1) := by decide +kernel
theorem dX0_countStandingOf_22 : decode cX0_countStandingOf 22 = .ok (.iload_n 3, 1) := by decide +kernel
theorem dX0_countStandingOf_23 : decode cX0_countStandingOf 23 = .ok (.invokevirtual 34, 3) := by decide +kernel
theorem dX0_countStandingOf_26 : decode cX0_countStandingOf 26 = .ok (.ifCond .eq 6, 3) := by decide +kernel
theorem dX0_countStandingOf_29 : decode cX0_countStandingOf 29 = .ok (.iinc 2 1, 3) := by decide +kernel
theorem dX0_countStandingOf_32 : decode cX0_countStandingOf 32 = .ok (.iinc 3 1, 3) := by decide +kernel
theorem dX0_countStandingOf_35 : decode cX0_countStandingOf 35 = .ok (.goto (-31), 3) := by decide +kernel
theorem dX0_countStandingOf_38 : decode cX0_countStandingOf 38 = .ok (.iload_n 2, 1) := by decide +kernel
theorem dX0_countStandingOf_39 : decode cX0_countStandingOf 39 = .ok (.ireturn, 1) := by decide +kernel
theorem dX1_init_0 : decode cX1_init 0 = .ok (.aload_n 0, 1) := by decide +kernel
theorem dX1_init_1 : decode cX1_init 1 = .ok (.invokespecial 3, 3) := by decide +kernel
theorem dX1_init_4 : decode cX1_init 4 = .ok (.aload_n 0, 1) := by decide +kernel
theorem dX1_init_5 : decode cX1_init 5 = .ok (.bipush 64, 2) := by decide +kernel
theorem dX1_init_7 : decode cX1_init 7 = .ok (.newarray .boolean, 2) := by decide +kernel
theorem dX1_init_9 : decode cX1_init 9 = .ok (.putfield 9, 3) := by decide +kernel
theorem dX1_init_12 : decode cX1_init 12 = .ok (.return_, 1) := by decide +kernel
set_option maxRecDepth 20000 in
theorem ggX1_has_X4_isPerson : GoodIn wsX1_has wsX4_isPerson := goodIn_r _ [4] (by decide +kernel) (by decide +kernel)
set_option maxRecDepth 20000 in
theorem gX1_has_X4_isPerson_n15 : GoodIn wsX1_has (wsX4_isPerson) := ggX1_has_X4_isPerson
theorem dX1_has_0 : decode cX1_has 0 = .ok (.iload_n 1, 1) := by decide +kernel
theorem dX1_has_1 : decode cX1_has 1 = .ok (.invokestatic 15, 3) := by decide +kernel
theorem dX1_has_4 : decode cX1_has 4 = .ok (.ifCond .eq 28, 3) := by decide +kernel
theorem dX1_has_7 : decode cX1_has 7 = .ok (.iload_n 2, 1) := by decide +kernel
theorem dX1_has_8 : decode cX1_has 8 = .ok (.invokestatic 15, 3) := by decide +kernel
theorem dX1_has_11 : decode cX1_has 11 = .ok (.ifCond .eq 21, 3) := by decide +kernel
theorem dX1_has_14 : decode cX1_has 14 = .ok (.aload_n 0, 1) := by decide +kernel
theorem dX1_has_15 : decode cX1_has 15 = .ok (.getfield 9, 3) := by decide +kernel
theorem dX1_has_18 : decode cX1_has 18 = .ok (.iload_n 1, 1) := by decide +kernel
theorem dX1_has_19 : decode cX1_has 19 = .ok (.bipush 8, 2) := by decide +kernel
theorem dX1_has_21 : decode cX1_has 21 = .ok (.imul, 1) := by decide +kernel
theorem dX1_has_22 : decode cX1_has 22 = .ok (.iload_n 2, 1) := by decide +kernel
theorem dX1_has_23 : decode cX1_has 23 = .ok (.iadd, 1) := by decide +kernel
theorem dX1_has_24 : decode cX1_has 24 = .ok (.baload, 1) := by decide +kernel
theorem dX1_has_25 : decode cX1_has 25 = .ok (.ifCond .eq 7, 3) := by decide +kernel
theorem dX1_has_28 : decode cX1_has 28 = .ok (.iconst 1, 1) := by decide +kernel
theorem dX1_has_29 : decode cX1_has 29 = .ok (.goto 4, 3) := by decide +kernel
theorem dX1_has_32 : decode cX1_has 32 = .ok (.iconst 0, 1) := by decide +kernel
theorem dX1_has_33 : decode cX1_has 33 = .ok (.ireturn, 1) := by decide +kernel
set_option maxRecDepth 20000 in
theorem ggX1_put_X4_isPerson : GoodIn wsX1_put wsX4_isPerson := goodIn_r _ [4] (by decide +kernel) (by decide +kernel)
set_option maxRecDepth 20000 in
theorem gX1_put_X4_isPerson_n15 : GoodIn wsX1_put (wsX4_isPerson) := ggX1_put_X4_isPerson
theorem dX1_put_0 : decode cX1_put 0 = .ok (.iload_n 1, 1) := by decide +kernel
theorem dX1_put_1 : decode cX1_put 1 = .ok (.invokestatic 15, 3) := by decide +kernel
theorem dX1_put_4 : decode cX1_put 4 = .ok (.ifCond .eq 22, 3) := by decide +kernel
theorem dX1_put_7 : decode cX1_put 7 = .ok (.iload_n 2, 1) := by decide +kernel
theorem dX1_put_8 : decode cX1_put 8 = .ok (.invokestatic 15, 3) := by decide +kernel
theorem dX1_put_11 : decode cX1_put 11 = .ok (.ifCond .eq 15, 3) := by decide +kernel
theorem dX1_put_14 : decode cX1_put 14 = .ok (.aload_n 0, 1) := by decide +kernel
theorem dX1_put_15 : decode cX1_put 15 = .ok (.getfield 9, 3) := by decide +kernel
theorem dX1_put_18 : decode cX1_put 18 = .ok (.iload_n 1, 1) := by decide +kernel
theorem dX1_put_19 : decode cX1_put 19 = .ok (.bipush 8, 2) := by decide +kernel
theorem dX1_put_21 : decode cX1_put 21 = .ok (.imul, 1) := by decide +kernel
theorem dX1_put_22 : decode cX1_put 22 = .ok (.iload_n 2, 1) := by decide +kernel
theorem dX1_put_23 : decode cX1_put 23 = .ok (.iadd, 1) := by decide +kernel
theorem dX1_put_24 : decode cX1_put 24 = .ok (.iload_n 3, 1) := by decide +kernel
theorem dX1_put_25 : decode cX1_put 25 = .ok (.bastore, 1) := by decide +kernel
theorem dX1_put_26 : decode cX1_put 26 = .ok (.return_, 1) := by decide +kernel
set_option maxRecDepth 20000 in
theorem ggX1_countTo_X1_has : GoodIn wsX1_countTo wsX1_has := goodIn_r _ [5, 6, 7, 8, 9, 10] (by decide +kernel) (by decide +kernel)
set_option maxRecDepth 20000 in
theorem gX1_countTo_X1_has : GoodIn wsX1_countTo (wsV RX1 19 RX1 yX1_has wsX1_has) := goodIn_app (goodIn_of _ (by decide +kernel)) ggX1_countTo_X1_has
theorem dX1_countTo_0 : decode cX1_countTo 0 = .ok (.iconst 0, 1) := by decide +kernel
theorem dX1_countTo_1 : decode cX1_countTo 1 = .ok (.istore_n 2, 1) := by decide +kernel
theorem dX1_countTo_2 : decode cX1_countTo 2 = .ok (.iconst 0, 1) := by decide +kernel
theorem dX1_countTo_3 : decode cX1_countTo 3 = .ok (.istore_n 3, 1) := by decide +kernel
theorem dX1_countTo_4 : decode cX1_countTo 4 = .ok (.iload_n 3, 1) := by decide +kernel
theorem dX1_countTo_5 : decode cX1_countTo 5 = .ok (.bipush 8, 2) := by decide +kernel
theorem dX1_countTo_7 : decode cX1_countTo 7 = .ok (.if_icmp .ge 21, 3) := by decide +kernel
theorem dX1_countTo_10 : decode cX1_countTo 10 = .ok (.aload_n 0, 1) := by decide +kernel
theorem dX1_countTo_11 : decode cX1_countTo 11 = .ok (.iload_n 3, 1) := by decide +kernel
theorem dX1_countTo_12 : decode cX1_countTo 12 = .ok (.iload_n 1, 1) := by decide +kernel
theorem dX1_countTo_13 : decode cX1_countTo 13 = .ok (.invokevirtual 19, 3) := by decide +kernel
theorem dX1_countTo_16 : decode cX1_countTo 16 = .ok (.ifCond .eq 6, 3) := by decide +kernel
theorem dX1_countTo_19 : decode cX1_countTo 19 = .ok (.iinc 2 1, 3) := by decide +kernel
theorem dX1_countTo_22 : decode cX1_countTo 22 = .ok (.iinc 3 1, 3) := by decide +kernel
theorem dX1_countTo_25 : decode cX1_countTo 25 = .ok (.goto (-21), 3) := by decide +kernel
theorem dX1_countTo_28 : decode cX1_countTo 28 = .ok (.iload_n 2, 1) := by decide +kernel
theorem dX1_countTo_29 : decode cX1_countTo 29 = .ok (.ireturn, 1) := by decide +kernel
theorem dX2_init_0 : decode cX2_init 0 = .ok (.aload_n 0, 1) := by decide +kernel
theorem dX2_init_1 : decode cX2_init 1 = .ok (.invokespecial 3, 3) := by decide +kernel
theorem dX2_init_4 : decode cX2_init 4 = .ok (.aload_n 0, 1) := by decide +kernel
theorem dX2_init_5 : decode cX2_init 5 = .ok (.bipush 40, 2) := by decide +kernel
theorem dX2_init_7 : decode cX2_init 7 = .ok (.newarray .int, 2) := by decide +kernel
theorem dX2_init_9 : decode cX2_init 9 = .ok (.putfield 9, 3) := by decide +kernel
theorem dX2_init_12 : decode cX2_init 12 = .ok (.aload_n 0, 1) := by decide +kernel
theorem dX2_init_13 : decode cX2_init 13 = .ok (.iconst (-1), 1) := by decide +kernel
theorem dX2_init_14 : decode cX2_init 14 = .ok (.putfield 15, 3) := by decide +kernel
theorem dX2_init_17 : decode cX2_init 17 = .ok (.aload_n 0, 1) := by decide +kernel
theorem dX2_init_18 : decode cX2_init 18 = .ok (.iload_n 1, 1) := by decide +kernel
theorem dX2_init_19 : decode cX2_init 19 = .ok (.putfield 19, 3) := by decide +kernel
theorem dX2_init_22 : decode cX2_init 22 = .ok (.return_, 1) := by decide +kernel
theorem dX2_owner_0 : decode cX2_owner 0 = .ok (.aload_n 0, 1) := by decide +kernel
theorem dX2_owner_1 : decode cX2_owner 1 = .ok (.getfield 19, 3) := by decide +kernel
theorem dX2_owner_4 : decode cX2_owner 4 = .ok (.ireturn, 1) := by decide +kernel
theorem dX2_floor_0 : decode cX2_floor 0 = .ok (.aload_n 0, 1) := by decide +kernel
theorem dX2_floor_1 : decode cX2_floor 1 = .ok (.getfield 15, 3) := by decide +kernel
theorem dX2_floor_4 : decode cX2_floor 4 = .ok (.ireturn, 1) := by decide +kernel
theorem dX2_raiseFloor_0 : decode cX2_raiseFloor 0 = .ok (.aload_n 0, 1) := by decide +kernel
theorem dX2_raiseFloor_1 : decode cX2_raiseFloor 1 = .ok (.iload_n 1, 1) := by decide +kernel
theorem dX2_raiseFloor_2 : decode cX2_raiseFloor 2 = .ok (.putfield 15, 3) := by decide +kernel
theorem dX2_raiseFloor_5 : decode cX2_raiseFloor 5 = .ok (.return_, 1) := by decide +kernel
theorem dX2_count_0 : decode cX2_count 0 = .ok (.aload_n 0, 1) := by decide +kernel
theorem dX2_count_1 : decode cX2_count 1 = .ok (.getfield 22, 3) := by decide +kernel
theorem dX2_count_4 : decode cX2_count 4 = .ok (.ireturn, 1) := by decide +kernel
theorem dX2_fromNewest_0 : decode cX2_fromNewest 0 = .ok (.iload_n 1, 1) := by decide +kernel
theorem dX2_fromNewest_1 : decode cX2_fromNewest 1 = .ok (.ifCond .lt 20, 3) := by decide +kernel
theorem dX2_fromNewest_4 : decode cX2_fromNewest 4 = .ok (.iload_n 1, 1) := by decide +kernel
theorem dX2_fromNewest_5 : decode cX2_fromNewest 5 = .ok (.aload_n 0, 1) := by decide +kernel
theorem dX2_fromNewest_6 : decode cX2_fromNewest 6 = .ok (.getfield 22, 3) := by decide +kernel
theorem dX2_fromNewest_9 : decode cX2_fromNewest 9 = .ok (.if_icmp .ge 12, 3) := by decide +kernel
theorem dX2_fromNewest_12 : decode cX2_fromNewest 12 = .ok (.aload_n 0, 1) := by decide +kernel
theorem dX2_fromNewest_13 : decode cX2_fromNewest 13 = .ok (.getfield 9, 3) := by decide +kernel
theorem dX2_fromNewest_16 : decode cX2_fromNewest 16 = .ok (.iload_n 1, 1) := by decide +kernel
theorem dX2_fromNewest_17 : decode cX2_fromNewest 17 = .ok (.iaload, 1) := by decide +kernel
theorem dX2_fromNewest_18 : decode cX2_fromNewest 18 = .ok (.goto 4, 3) := by decide +kernel
theorem dX2_fromNewest_21 : decode cX2_fromNewest 21 = .ok (.iconst (-1), 1) := by decide +kernel
theorem dX2_fromNewest_22 : decode cX2_fromNewest 22 = .ok (.ireturn, 1) := by decide +kernel
theorem dX2_empty_0 : decode cX2_empty 0 = .ok (.aload_n 0, 1) := by decide +kernel
theorem dX2_empty_1 : decode cX2_empty 1 = .ok (.iconst 0, 1) := by decide +kernel
theorem dX2_empty_2 : decode cX2_empty 2 = .ok (.putfield 22, 3) := by decide +kernel
theorem dX2_empty_5 : decode cX2_empty 5 = .ok (.return_, 1) := by decide +kernel
theorem dX2_addBelow_0 : decode cX2_addBelow 0 = .ok (.aload_n 0, 1) := by decide +kernel
theorem dX2_addBelow_1 : decode cX2_addBelow 1 = .ok (.getfield 22, 3) := by decide +kernel
theorem dX2_addBelow_4 : decode cX2_addBelow 4 = .ok (.bipush 40, 2) := by decide +kernel
theorem dX2_addBelow_6 : decode cX2_addBelow 6 = .ok (.if_icmp .ge 23, 3) := by decide +kernel
theorem dX2_addBelow_9 : decode cX2_addBelow 9 = .ok (.aload_n 0, 1) := by decide +kernel
theorem dX2_addBelow_10 : decode cX2_addBelow 10 = .ok (.getfield 9, 3) := by decide +kernel
theorem dX2_addBelow_13 : decode cX2_addBelow 13 = .ok (.aload_n 0, 1) := by decide +kernel
theorem dX2_addBelow_14 : decode cX2_addBelow 14 = .ok (.getfield 22, 3) := by decide +kernel
theorem dX2_addBelow_17 : decode cX2_addBelow 17 = .ok (.iload_n 1, 1) := by decide +kernel
theorem dX2_addBelow_18 : decode cX2_addBelow 18 = .ok (.iastore, 1) := by decide +kernel
theorem dX2_addBelow_19 : decode cX2_addBelow 19 = .ok (.aload_n 0, 1) := by decide +kernel
theorem dX2_addBelow_20 : decode cX2_addBelow 20 = .ok (.dup, 1) := by decide +kernel
theorem dX2_addBelow_21 : decode cX2_addBelow 21 = .ok (.getfield 22, 3) := by decide +kernel
theorem dX2_addBelow_24 : decode cX2_addBelow 24 = .ok (.iconst 1, 1) := by decide +kernel
theorem dX2_addBelow_25 : decode cX2_addBelow 25 = .ok (.iadd, 1) := by decide +kernel
theorem dX2_addBelow_26 : decode cX2_addBelow 26 = .ok (.putfield 22, 3) := by decide +kernel
theorem dX2_addBelow_29 : decode cX2_addBelow 29 = .ok (.return_, 1) := by decide +kernel
theorem dX3_init_0 : decode cX3_init 0 = .ok (.aload_n 0, 1) := by decide +kernel
theorem dX3_init_1 : decode cX3_init 1 = .ok (.invokespecial 3, 3) := by decide +kernel
theorem dX3_init_4 : decode cX3_init 4 = .ok (.aload_n 0, 1) := by decide +kernel
theorem dX3_init_5 : decode cX3_init 5 = .ok (.sipush 150, 3) := by decide +kernel
theorem dX3_init_8 : decode cX3_init 8 = .ok (.newarray .int, 2) := by decide +kernel
theorem dX3_init_10 : decode cX3_init 10 = .ok (.putfield 9, 3) := by decide +kernel
theorem dX3_init_13 : decode cX3_init 13 = .ok (.aload_n 0, 1) := by decide +kernel
theorem dX3_init_14 : decode cX3_init 14 = .ok (.sipush 150, 3) := by decide +kernel
theorem dX3_init_17 : decode cX3_init 17 = .ok (.newarray .boolean, 2) := by decide +kernel
theorem dX3_init_19 : decode cX3_init 19 = .ok (.putfield 15, 3) := by decide +kernel
theorem dX3_init_22 : decode cX3_init 22 = .ok (.return_, 1) := by decide +kernel
theorem dX3_count_0 : decode cX3_count 0 = .ok (.aload_n 0, 1) := by decide +kernel
theorem dX3_count_1 : decode cX3_count 1 = .ok (.getfield 19, 3) := by decide +kernel
theorem dX3_count_4 : decode cX3_count 4 = .ok (.ireturn, 1) := by decide +kernel
theorem dX3_at_0 : decode cX3_at 0 = .ok (.iload_n 1, 1) := by decide +kernel
theorem dX3_at_1 : decode cX3_at 1 = .ok (.ifCond .lt 20, 3) := by decide +kernel
theorem dX3_at_4 : decode cX3_at 4 = .ok (.iload_n 1, 1) := by decide +kernel
theorem dX3_at_5 : decode cX3_at 5 = .ok (.aload_n 0, 1) := by decide +kernel
theorem dX3_at_6 : decode cX3_at 6 = .ok (.getfield 19, 3) := by decide +kernel
theorem dX3_at_9 : decode cX3_at 9 = .ok (.if_icmp .ge 12, 3) := by decide +kernel
theorem dX3_at_12 : decode cX3_at 12 = .ok (.aload_n 0, 1) := by decide +kernel
theorem dX3_at_13 : decode cX3_at 13 = .ok (.getfield 9, 3) := by decide +kernel
theorem dX3_at_16 : decode cX3_at 16 = .ok (.iload_n 1, 1) := by decide +kernel
theorem dX3_at_17 : decode cX3_at 17 = .ok (.iaload, 1) := by decide +kernel
theorem dX3_at_18 : decode cX3_at 18 = .ok (.goto 4, 3) := by decide +kernel
theorem dX3_at_21 : decode cX3_at 21 = .ok (.iconst (-1), 1) := by decide +kernel
theorem dX3_at_22 : decode cX3_at 22 = .ok (.ireturn, 1) := by decide +kernel
set_option maxRecDepth 20000 in
theorem ggX3_placeBelow_X3_at : GoodIn wsX3_placeBelow wsX3_at := goodIn_r _ [6, 1, 7, 8, 9, 10] (by decide +kernel) (by decide +kernel)
set_option maxRecDepth 20000 in
theorem gX3_placeBelow_X3_at : GoodIn wsX3_placeBelow (wsV RX3 23 RX3 yX3_at wsX3_at) := goodIn_app (goodIn_of _ (by decide +kernel)) ggX3_placeBelow_X3_at
theorem dX3_placeBelow_0 : decode cX3_placeBelow 0 = .ok (.iconst 0, 1) := by decide +kernel
theorem dX3_placeBelow_1 : decode cX3_placeBelow 1 = .ok (.istore_n 2, 1) := by decide +kernel
theorem dX3_placeBelow_2 : decode cX3_placeBelow 2 = .ok (.iload_n 2, 1) := by decide +kernel
theorem dX3_placeBelow_3 : decode cX3_placeBelow 3 = .ok (.aload_n 0, 1) := by decide +kernel
theorem dX3_placeBelow_4 : decode cX3_placeBelow 4 = .ok (.getfield 19, 3) := by decide +kernel
theorem dX3_placeBelow_7 : decode cX3_placeBelow 7 = .ok (.if_icmp .ge 20, 3) := by decide +kernel
theorem dX3_placeBelow_10 : decode cX3_placeBelow 10 = .ok (.aload_n 0, 1) := by decide +kernel
theorem dX3_placeBelow_11 : decode cX3_placeBelow 11 = .ok (.iload_n 2, 1) := by decide +kernel
theorem dX3_placeBelow_12 : decode cX3_placeBelow 12 = .ok (.invokevirtual 23, 3) := by decide +kernel
theorem dX3_placeBelow_15 : decode cX3_placeBelow 15 = .ok (.iload_n 1, 1) := by decide +kernel
theorem dX3_placeBelow_16 : decode cX3_placeBelow 16 = .ok (.if_icmp .ge 5, 3) := by decide +kernel
theorem dX3_placeBelow_19 : decode cX3_placeBelow 19 = .ok (.iload_n 2, 1) := by decide +kernel
theorem dX3_placeBelow_20 : decode cX3_placeBelow 20 = .ok (.ireturn, 1) := by decide +kernel
theorem dX3_placeBelow_21 : decode cX3_placeBelow 21 = .ok (.iinc 2 1, 3) := by decide +kernel
theorem dX3_placeBelow_24 : decode cX3_placeBelow 24 = .ok (.goto (-22), 3) := by decide +kernel
theorem dX3_placeBelow_27 : decode cX3_placeBelow 27 = .ok (.aload_n 0, 1) := by decide +kernel
theorem dX3_placeBelow_28 : decode cX3_placeBelow 28 = .ok (.getfield 19, 3) := by decide +kernel
theorem dX3_placeBelow_31 : decode cX3_placeBelow 31 = .ok (.ireturn, 1) := by decide +kernel
theorem dX3_empty_0 : decode cX3_empty 0 = .ok (.aload_n 0, 1) := by decide +kernel
theorem dX3_empty_1 : decode cX3_empty 1 = .ok (.iconst 0, 1) := by decide +kernel
theorem dX3_empty_2 : decode cX3_empty 2 = .ok (.putfield 19, 3) := by decide +kernel
theorem dX3_empty_5 : decode cX3_empty 5 = .ok (.iconst 0, 1) := by decide +kernel
theorem dX3_empty_6 : decode cX3_empty 6 = .ok (.istore_n 1, 1) := by decide +kernel
theorem dX3_empty_7 : decode cX3_empty 7 = .ok (.iload_n 1, 1) := by decide +kernel
theorem dX3_empty_8 : decode cX3_empty 8 = .ok (.sipush 150, 3) := by decide +kernel
theorem dX3_empty_11 : decode cX3_empty 11 = .ok (.if_icmp .ge 16, 3) := by decide +kernel
theorem dX3_empty_14 : decode cX3_empty 14 = .ok (.aload_n 0, 1) := by decide +kernel
theorem dX3_empty_15 : decode cX3_empty 15 = .ok (.getfield 15, 3) := by decide +kernel
theorem dX3_empty_18 : decode cX3_empty 18 = .ok (.iload_n 1, 1) := by decide +kernel
theorem dX3_empty_19 : decode cX3_empty 19 = .ok (.iconst 0, 1) := by decide +kernel
theorem dX3_empty_20 : decode cX3_empty 20 = .ok (.bastore, 1) := by decide +kernel
theorem dX3_empty_21 : decode cX3_empty 21 = .ok (.iinc 1 1, 3) := by decide +kernel
theorem dX3_empty_24 : decode cX3_empty 24 = .ok (.goto (-17), 3) := by decide +kernel
theorem dX3_empty_27 : decode cX3_empty 27 = .ok (.return_, 1) := by decide +kernel
theorem dX3_addBelow_0 : decode cX3_addBelow 0 = .ok (.aload_n 0, 1) := by decide +kernel
theorem dX3_addBelow_1 : decode cX3_addBelow 1 = .ok (.getfield 19, 3) := by decide +kernel
theorem dX3_addBelow_4 : decode cX3_addBelow 4 = .ok (.sipush 150, 3) := by decide +kernel
theorem dX3_addBelow_7 : decode cX3_addBelow 7 = .ok (.if_icmp .ge 18, 3) := by decide +kernel
theorem dX3_addBelow_10 : decode cX3_addBelow 10 = .ok (.iload_n 2, 1) := by decide +kernel
theorem dX3_addBelow_11 : decode cX3_addBelow 11 = .ok (.ifCond .lt 14, 3) := by decide +kernel
theorem dX3_addBelow_14 : decode cX3_addBelow 14 = .ok (.iload_n 2, 1) := by decide +kernel
theorem dX3_addBelow_15 : decode cX3_addBelow 15 = .ok (.sipush 150, 3) := by decide +kernel
theorem dX3_addBelow_18 : decode cX3_addBelow 18 = .ok (.if_icmp .ge 7, 3) := by decide +kernel
theorem dX3_addBelow_21 : decode cX3_addBelow 21 = .ok (.iconst 1, 1) := by decide +kernel
theorem dX3_addBelow_22 : decode cX3_addBelow 22 = .ok (.goto 4, 3) := by decide +kernel
theorem dX3_addBelow_25 : decode cX3_addBelow 25 = .ok (.iconst 0, 1) := by decide +kernel
theorem dX3_addBelow_26 : decode cX3_addBelow 26 = .ok (.istore_n 3, 1) := by decide +kernel
theorem dX3_addBelow_27 : decode cX3_addBelow 27 = .ok (.iload_n 3, 1) := by decide +kernel
theorem dX3_addBelow_28 : decode cX3_addBelow 28 = .ok (.ifCond .eq 39, 3) := by decide +kernel
theorem dX3_addBelow_31 : decode cX3_addBelow 31 = .ok (.aload_n 0, 1) := by decide +kernel
theorem dX3_addBelow_32 : decode cX3_addBelow 32 = .ok (.getfield 15, 3) := by decide +kernel
theorem dX3_addBelow_35 : decode cX3_addBelow 35 = .ok (.iload_n 2, 1) := by decide +kernel
theorem dX3_addBelow_36 : decode cX3_addBelow 36 = .ok (.baload, 1) := by decide +kernel
theorem dX3_addBelow_37 : decode cX3_addBelow 37 = .ok (.ifCond .ne 30, 3) := by decide +kernel
theorem dX3_addBelow_40 : decode cX3_addBelow 40 = .ok (.aload_n 0, 1) := by decide +kernel
theorem dX3_addBelow_41 : decode cX3_addBelow 41 = .ok (.getfield 15, 3) := by decide +kernel
theorem dX3_addBelow_44 : decode cX3_addBelow 44 = .ok (.iload_n 2, 1) := by decide +kernel
theorem dX3_addBelow_45 : decode cX3_addBelow 45 = .ok (.iconst 1, 1) := by decide +kernel
theorem dX3_addBelow_46 : decode cX3_addBelow 46 = .ok (.bastore, 1) := by decide +kernel
theorem dX3_addBelow_47 : decode cX3_addBelow 47 = .ok (.aload_n 0, 1) := by decide +kernel
theorem dX3_addBelow_48 : decode cX3_addBelow 48 = .ok (.getfield 9, 3) := by decide +kernel
theorem dX3_addBelow_51 : decode cX3_addBelow 51 = .ok (.aload_n 0, 1) := by decide +kernel
theorem dX3_addBelow_52 : decode cX3_addBelow 52 = .ok (.getfield 19, 3) := by decide +kernel
theorem dX3_addBelow_55 : decode cX3_addBelow 55 = .ok (.iload_n 1, 1) := by decide +kernel
theorem dX3_addBelow_56 : decode cX3_addBelow 56 = .ok (.iastore, 1) := by decide +kernel
theorem dX3_addBelow_57 : decode cX3_addBelow 57 = .ok (.aload_n 0, 1) := by decide +kernel
theorem dX3_addBelow_58 : decode cX3_addBelow 58 = .ok (.dup, 1) := by decide +kernel
theorem dX3_addBelow_59 : decode cX3_addBelow 59 = .ok (.getfield 19, 3) := by decide +kernel
theorem dX3_addBelow_62 : decode cX3_addBelow 62 = .ok (.iconst 1, 1) := by decide +kernel
theorem dX3_addBelow_63 : decode cX3_addBelow 63 = .ok (.iadd, 1) := by decide +kernel
theorem dX3_addBelow_64 : decode cX3_addBelow 64 = .ok (.putfield 19, 3) := by decide +kernel
theorem dX3_addBelow_67 : decode cX3_addBelow 67 = .ok (.return_, 1) := by decide +kernel
end
section
set_option maxRecDepth 20000 in
theorem ggX4_init_X1_init : GoodIn wsX4_init wsX1_init := goodIn_r _ [25, 26, 2, 3, 27, 28, 48] (by decide +kernel) (by decide +kernel)
set_option maxRecDepth 20000 in
theorem gX4_init_X1_init_n9 : GoodIn wsX4_init (wsX1_init) := ggX4_init_X1_init
set_option maxRecDepth 20000 in
theorem ggX4_init_X0_init : GoodIn wsX4_init wsX0_init := goodIn_r _ [30, 31, 2, 3, 32, 33, 34, 27, 35, 57, 58, 59, 60] (by decide +kernel) (by decide +kernel)
set_option maxRecDepth 20000 in
theorem gX4_init_X0_init_n24 : GoodIn wsX4_init (wsX0_init) := ggX4_init_X0_init
set_option maxRecDepth 20000 in
theorem ggX4_init_X3_init : GoodIn wsX4_init wsX3_init := goodIn_r _ [37, 38, 2, 3, 32, 39, 27, 40, 61, 62, 63] (by decide +kernel) (by decide +kernel)
set_option maxRecDepth 20000 in
theorem gX4_init_X3_init_n37 : GoodIn wsX4_init (wsX3_init) := ggX4_init_X3_init
set_option maxRecDepth 20000 in
theorem ggX4_init_X2_init : GoodIn wsX4_init wsX2_init := goodIn_r _ [43, 44, 2, 3, 32, 45, 46, 47, 64, 65, 66, 67] (by decide +kernel) (by decide +kernel)
set_option maxRecDepth 20000 in
theorem gX4_init_X2_init : GoodIn wsX4_init (wsX2_init) := ggX4_init_X2_init
theorem dX4_init_0 : decode cX4_init 0 = .ok (.aload_n 0, 1) := by decide +kernel
theorem dX4_init_1 : decode cX4_init 1 = .ok (.invokespecial 1, 3) := by decide +kernel
theorem dX4_init_4 : decode cX4_init 4 = .ok (.aload_n 0, 1) := by decide +kernel
theorem dX4_init_5 : decode cX4_init 5 = .ok (.new 7, 3) := by decide +kernel
theorem dX4_init_8 : decode cX4_init 8 = .ok (.dup, 1) := by decide +kernel
theorem dX4_init_9 : decode cX4_init 9 = .ok (.invokespecial 9, 3) := by decide +kernel
theorem dX4_init_12 : decode cX4_init 12 = .ok (.putfield 10, 3) := by decide +kernel
theorem dX4_init_15 : decode cX4_init 15 = .ok (.aload_n 0, 1) := by decide +kernel
theorem dX4_init_16 : decode cX4_init 16 = .ok (.new 7, 3) := by decide +kernel
theorem dX4_init_19 : decode cX4_init 19 = .ok (.dup, 1) := by decide +kernel
theorem dX4_init_20 : decode cX4_init 20 = .ok (.invokespecial 9, 3) := by decide +kernel
theorem dX4_init_23 : decode cX4_init 23 = .ok (.putfield 16, 3) := by decide +kernel
theorem dX4_init_26 : decode cX4_init 26 = .ok (.aload_n 0, 1) := by decide +kernel
theorem dX4_init_27 : decode cX4_init 27 = .ok (.new 7, 3) := by decide +kernel
theorem dX4_init_30 : decode cX4_init 30 = .ok (.dup, 1) := by decide +kernel
theorem dX4_init_31 : decode cX4_init 31 = .ok (.invokespecial 9, 3) := by decide +kernel
theorem dX4_init_34 : decode cX4_init 34 = .ok (.putfield 19, 3) := by decide +kernel
theorem dX4_init_37 : decode cX4_init 37 = .ok (.aload_n 0, 1) := by decide +kernel
theorem dX4_init_38 : decode cX4_init 38 = .ok (.new 22, 3) := by decide +kernel
theorem dX4_init_41 : decode cX4_init 41 = .ok (.dup, 1) := by decide +kernel
theorem dX4_init_42 : decode cX4_init 42 = .ok (.invokespecial 24, 3) := by decide +kernel
theorem dX4_init_45 : decode cX4_init 45 = .ok (.putfield 25, 3) := by decide +kernel
theorem dX4_init_48 : decode cX4_init 48 = .ok (.aload_n 0, 1) := by decide +kernel
theorem dX4_init_49 : decode cX4_init 49 = .ok (.bipush 8, 2) := by decide +kernel
theorem dX4_init_51 : decode cX4_init 51 = .ok (.anewarray 29, 3) := by decide +kernel
theorem dX4_init_54 : decode cX4_init 54 = .ok (.putfield 31, 3) := by decide +kernel
theorem dX4_init_57 : decode cX4_init 57 = .ok (.aload_n 0, 1) := by decide +kernel
theorem dX4_init_58 : decode cX4_init 58 = .ok (.new 35, 3) := by decide +kernel
theorem dX4_init_61 : decode cX4_init 61 = .ok (.dup, 1) := by decide +kernel
theorem dX4_init_62 : decode cX4_init 62 = .ok (.invokespecial 37, 3) := by decide +kernel
theorem dX4_init_65 : decode cX4_init 65 = .ok (.putfield 38, 3) := by decide +kernel
theorem dX4_init_68 : decode cX4_init 68 = .ok (.aload_n 0, 1) := by decide +kernel
theorem dX4_init_69 : decode cX4_init 69 = .ok (.iconst 3, 1) := by decide +kernel
theorem dX4_init_70 : decode cX4_init 70 = .ok (.putfield 42, 3) := by decide +kernel
theorem dX4_init_73 : decode cX4_init 73 = .ok (.aload_n 0, 1) := by decide +kernel
theorem dX4_init_74 : decode cX4_init 74 = .ok (.bipush 10, 2) := by decide +kernel
theorem dX4_init_76 : decode cX4_init 76 = .ok (.putfield 46, 3) := by decide +kernel
theorem dX4_init_79 : decode cX4_init 79 = .ok (.iconst 0, 1) := by decide +kernel
theorem dX4_init_80 : decode cX4_init 80 = .ok (.istore_n 1, 1) := by decide +kernel
theorem dX4_init_81 : decode cX4_init 81 = .ok (.iload_n 1, 1) := by decide +kernel
theorem dX4_init_82 : decode cX4_init 82 = .ok (.bipush 8, 2) := by decide +kernel
theorem dX4_init_84 : decode cX4_init 84 = .ok (.if_icmp .ge 23, 3) := by decide +kernel
theorem dX4_init_87 : decode cX4_init 87 = .ok (.aload_n 0, 1) := by decide +kernel
theorem dX4_init_88 : decode cX4_init 88 = .ok (.getfield 31, 3) := by decide +kernel
theorem dX4_init_91 : decode cX4_init 91 = .ok (.iload_n 1, 1) := by decide +kernel
theorem dX4_init_92 : decode cX4_init 92 = .ok (.new 29, 3) := by decide +kernel
theorem dX4_init_95 : decode cX4_init 95 = .ok (.dup, 1) := by decide +kernel
theorem dX4_init_96 : decode cX4_init 96 = .ok (.iload_n 1, 1) := by decide +kernel
theorem dX4_init_97 : decode cX4_init 97 = .ok (.invokespecial 49, 3) := by decide +kernel
theorem dX4_init_100 : decode cX4_init 100 = .ok (.aastore, 1) := by decide +kernel
theorem dX4_init_101 : decode cX4_init 101 = .ok (.iinc 1 1, 3) := by decide +kernel
theorem dX4_init_104 : decode cX4_init 104 = .ok (.goto (-23), 3) := by decide +kernel
theorem dX4_init_107 : decode cX4_init 107 = .ok (.return_, 1) := by decide +kernel
set_option maxRecDepth 20000 in
theorem ggX4_follow_X4_checkPerson : GoodIn wsX4_follow wsX4_checkPerson := goodIn_ca (goodIn_r _ [8, 9, 10, 11, 12, 7, 13] (by decide +kernel) (by decide +kernel)) (goodIn_sub (fun _ h => List.mem_cons_of_mem _ (List.mem_append_left _ (List.mem_append_right _ h))) (by decide +kernel))
set_option maxRecDepth 20000 in
theorem gX4_follow_X4_checkPerson : GoodIn wsX4_follow (va_wsS RX4 52 yX4_checkPerson wsX4_checkPerson) := goodIn_app (goodIn_of _ (by decide +kernel)) ggX4_follow_X4_checkPerson
set_option maxRecDepth 20000 in
theorem ggX4_follow_X4_checkDifferent : GoodIn wsX4_follow wsX4_checkDifferent := goodIn_ca (goodIn_r _ [16, 17, 18] (by decide +kernel) (by decide +kernel)) (goodIn_sub (fun _ h => List.mem_cons_of_mem _ (List.mem_append_right _ h)) (by decide +kernel))
set_option maxRecDepth 20000 in
theorem gX4_follow_X4_checkDifferent : GoodIn wsX4_follow (va_wsS RX4 55 yX4_checkDifferent wsX4_checkDifferent) := goodIn_app (goodIn_of _ (by decide +kernel)) ggX4_follow_X4_checkDifferent
set_option maxRecDepth 20000 in
theorem ggX4_follow_X1_has : GoodIn wsX4_follow wsX1_has := goodIn_r _ [23, 24, 12, 7, 13, 111] (by decide +kernel) (by decide +kernel)
set_option maxRecDepth 20000 in
theorem gX4_follow_X1_has : GoodIn wsX4_follow (wsV RX4 59 RX1 yX1_has wsX1_has) := goodIn_app (goodIn_of _ (by decide +kernel)) ggX4_follow_X1_has
set_option maxRecDepth 20000 in
theorem ggX4_follow_X1_put : GoodIn wsX4_follow wsX1_put := goodIn_r _ [28, 24, 12, 7, 13, 111] (by decide +kernel) (by decide +kernel)
set_option maxRecDepth 20000 in
theorem gX4_follow_X1_put : GoodIn wsX4_follow (wsV RX4 72 RX1 yX1_put wsX1_put) := goodIn_app (goodIn_of _ (by decide +kernel)) ggX4_follow_X1_put
set_option maxRecDepth 20000 in
theorem ggX4_follow_X4_settleRows : GoodIn wsX4_follow wsX4_settleRows := goodIn_r _ [32, 33, 34, 35, 36, 7, 37, 38, 39, 40, 41, 42, 43, 44, 45, 46, 47, 48, 49, 50, 51, 52, 53, 54, 55, 56, 57, 58, 59, 60, 61, 62, 63, 64, 65, 3, 66, 67, 68, 69, 70, 71, 72, 73, 74, 75, 76, 77, 78, 79, 19, 20, 21, 22, 23, 24, 12, 13, 80, 81, 82, 83, 84, 85, 86, 87, 88, 89, 90, 91, 92, 93, 94, 95, 96, 97, 98, 99, 100, 101, 102, 103, 104, 105, 106, 107, 108, 109, 110, 112, 113, 114, 115, 116, 117, 118, 119, 111] (by decide +kernel) (by decide +kernel)
set_option maxRecDepth 20000 in
theorem gX4_follow_X4_settleRows : GoodIn wsX4_follow (wsV RX4 76 RX4 yX4_settleRows wsX4_settleRows) := goodIn_app (goodIn_of _ (by decide +kernel)) ggX4_follow_X4_settleRows
set_option maxRecDepth 20000 in
theorem ggX4_follow_X1_countTo : GoodIn wsX4_follow wsX1_countTo := goodIn_r _ [88, 89, 20, 21, 22, 23, 24, 12, 7, 13, 111] (by decide +kernel) (by decide +kernel)
set_option maxRecDepth 20000 in
theorem gX4_follow_X1_countTo : GoodIn wsX4_follow (wsV RX4 79 RX1 yX1_countTo wsX1_countTo) := goodIn_app (goodIn_of _ (by decide +kernel)) ggX4_follow_X1_countTo
theorem dX4_follow_0 : decode cX4_follow 0 = .ok (.iload_n 1, 1) := by decide +kernel
theorem dX4_follow_1 : decode cX4_follow 1 = .ok (.invokestatic 52, 3) := by decide +kernel
theorem dX4_follow_4 : decode cX4_follow 4 = .ok (.iload_n 2, 1) := by decide +kernel
theorem dX4_follow_5 : decode cX4_follow 5 = .ok (.invokestatic 52, 3) := by decide +kernel
theorem dX4_follow_8 : decode cX4_follow 8 = .ok (.iload_n 1, 1) := by decide +kernel
theorem dX4_follow_9 : decode cX4_follow 9 = .ok (.iload_n 2, 1) := by decide +kernel
theorem dX4_follow_10 : decode cX4_follow 10 = .ok (.invokestatic 55, 3) := by decide +kernel
theorem dX4_follow_13 : decode cX4_follow 13 = .ok (.aload_n 0, 1) := by decide +kernel
theorem dX4_follow_14 : decode cX4_follow 14 = .ok (.getfield 10, 3) := by decide +kernel
theorem dX4_follow_17 : decode cX4_follow 17 = .ok (.iload_n 1, 1) := by decide +kernel
theorem dX4_follow_18 : decode cX4_follow 18 = .ok (.iload_n 2, 1) := by decide +kernel
theorem dX4_follow_19 : decode cX4_follow 19 = .ok (.invokevirtual 59, 3) := by decide +kernel
theorem dX4_follow_22 : decode cX4_follow 22 = .ok (.ifCond .eq 13, 3) := by decide +kernel
theorem dX4_follow_25 : decode cX4_follow 25 = .ok (.new 63, 3) := by decide +kernel
theorem dX4_follow_28 : decode cX4_follow 28 = .ok (.dup, 1) := by decide +kernel
theorem dX4_follow_29 : decode cX4_follow 29 = .ok (.ldc 65, 2) := by decide +kernel
theorem dX4_follow_31 : decode cX4_follow 31 = .ok (.invokespecial 67, 3) := by decide +kernel
theorem dX4_follow_34 : decode cX4_follow 34 = .ok (.athrow, 1) := by decide +kernel
theorem dX4_follow_35 : decode cX4_follow 35 = .ok (.aload_n 0, 1) := by decide +kernel
theorem dX4_follow_36 : decode cX4_follow 36 = .ok (.getfield 19, 3) := by decide +kernel
theorem dX4_follow_39 : decode cX4_follow 39 = .ok (.iload_n 2, 1) := by decide +kernel
theorem dX4_follow_40 : decode cX4_follow 40 = .ok (.iload_n 1, 1) := by decide +kernel
theorem dX4_follow_41 : decode cX4_follow 41 = .ok (.invokevirtual 59, 3) := by decide +kernel
theorem dX4_follow_44 : decode cX4_follow 44 = .ok (.ifCond .ne 15, 3) := by decide +kernel
theorem dX4_follow_47 : decode cX4_follow 47 = .ok (.aload_n 0, 1) := by decide +kernel
theorem dX4_follow_48 : decode cX4_follow 48 = .ok (.getfield 19, 3) := by decide +kernel
theorem dX4_follow_51 : decode cX4_follow 51 = .ok (.iload_n 1, 1) := by decide +kernel
theorem dX4_follow_52 : decode cX4_follow 52 = .ok (.iload_n 2, 1) := by decide +kernel
theorem dX4_follow_53 : decode cX4_follow 53 = .ok (.invokevirtual 59, 3) := by decide +kernel
theorem dX4_follow_56 : decode cX4_follow 56 = .ok (.ifCond .eq 13, 3) := by decide +kernel
theorem dX4_follow_59 : decode cX4_follow 59 = .ok (.new 63, 3) := by decide +kernel
theorem dX4_follow_62 : decode cX4_follow 62 = .ok (.dup, 1) := by decide +kernel
theorem dX4_follow_63 : decode cX4_follow 63 = .ok (.ldc 70, 2) := by decide +kernel
theorem dX4_follow_65 : decode cX4_follow 65 = .ok (.invokespecial 67, 3) := by decide +kernel
theorem dX4_follow_68 : decode cX4_follow 68 = .ok (.athrow, 1) := by decide +kernel
theorem dX4_follow_69 : decode cX4_follow 69 = .ok (.aload_n 0, 1) := by decide +kernel
theorem dX4_follow_70 : decode cX4_follow 70 = .ok (.getfield 10, 3) := by decide +kernel
theorem dX4_follow_73 : decode cX4_follow 73 = .ok (.iload_n 1, 1) := by decide +kernel
theorem dX4_follow_74 : decode cX4_follow 74 = .ok (.iload_n 2, 1) := by decide +kernel
theorem dX4_follow_75 : decode cX4_follow 75 = .ok (.iconst 1, 1) := by decide +kernel
theorem dX4_follow_76 : decode cX4_follow 76 = .ok (.invokevirtual 72, 3) := by decide +kernel
theorem dX4_follow_79 : decode cX4_follow 79 = .ok (.aload_n 0, 1) := by decide +kernel
theorem dX4_follow_80 : decode cX4_follow 80 = .ok (.invokevirtual 76, 3) := by decide +kernel
theorem dX4_follow_83 : decode cX4_follow 83 = .ok (.aload_n 0, 1) := by decide +kernel
theorem dX4_follow_84 : decode cX4_follow 84 = .ok (.getfield 10, 3) := by decide +kernel
theorem dX4_follow_87 : decode cX4_follow 87 = .ok (.iload_n 2, 1) := by decide +kernel
theorem dX4_follow_88 : decode cX4_follow 88 = .ok (.invokevirtual 79, 3) := by decide +kernel
theorem dX4_follow_91 : decode cX4_follow 91 = .ok (.ireturn, 1) := by decide +kernel
set_option maxRecDepth 20000 in
theorem ggX4_unfollow_X4_checkPerson : GoodIn wsX4_unfollow wsX4_checkPerson := goodIn_ca (goodIn_r _ [7, 8, 9, 10, 11, 6, 12] (by decide +kernel) (by decide +kernel)) (goodIn_sub (fun _ h => List.mem_cons_of_mem _ (List.mem_append_right _ h)) (by decide +kernel))
set_option maxRecDepth 20000 in
theorem gX4_unfollow_X4_checkPerson : GoodIn wsX4_unfollow (va_wsS RX4 52 yX4_checkPerson wsX4_checkPerson) := goodIn_app (goodIn_of _ (by decide +kernel)) ggX4_unfollow_X4_checkPerson
set_option maxRecDepth 20000 in
theorem ggX4_unfollow_X1_has : GoodIn wsX4_unfollow wsX1_has := goodIn_r _ [17, 18, 11, 6, 12, 105] (by decide +kernel) (by decide +kernel)
set_option maxRecDepth 20000 in
theorem gX4_unfollow_X1_has : GoodIn wsX4_unfollow (wsV RX4 59 RX1 yX1_has wsX1_has) := goodIn_app (goodIn_of _ (by decide +kernel)) ggX4_unfollow_X1_has
set_option maxRecDepth 20000 in
theorem ggX4_unfollow_X1_put : GoodIn wsX4_unfollow wsX1_put := goodIn_r _ [22, 18, 11, 6, 12, 105] (by decide +kernel) (by decide +kernel)
set_option maxRecDepth 20000 in
theorem gX4_unfollow_X1_put : GoodIn wsX4_unfollow (wsV RX4 72 RX1 yX1_put wsX1_put) := goodIn_app (goodIn_of _ (by decide +kernel)) ggX4_unfollow_X1_put
set_option maxRecDepth 20000 in
theorem ggX4_unfollow_X4_settleRows : GoodIn wsX4_unfollow wsX4_settleRows := goodIn_r _ [26, 27, 28, 29, 30, 6, 31, 32, 33, 34, 35, 36, 37, 38, 39, 40, 41, 42, 43, 44, 45, 46, 47, 48, 49, 50, 51, 52, 53, 54, 55, 56, 57, 58, 59, 3, 60, 61, 62, 63, 64, 65, 66, 67, 68, 69, 70, 71, 72, 73, 13, 14, 15, 16, 17, 18, 11, 12, 74, 75, 76, 77, 78, 79, 80, 81, 82, 83, 84, 85, 86, 87, 88, 89, 90, 91, 92, 93, 94, 95, 96, 97, 98, 99, 100, 101, 102, 103, 104, 106, 107, 108, 109, 110, 111, 112, 113, 105] (by decide +kernel) (by decide +kernel)
set_option maxRecDepth 20000 in
theorem gX4_unfollow_X4_settleRows : GoodIn wsX4_unfollow (wsV RX4 76 RX4 yX4_settleRows wsX4_settleRows) := goodIn_app (goodIn_of _ (by decide +kernel)) ggX4_unfollow_X4_settleRows
set_option maxRecDepth 20000 in
theorem ggX4_unfollow_X1_countTo : GoodIn wsX4_unfollow wsX1_countTo := goodIn_r _ [82, 83, 14, 15, 16, 17, 18, 11, 6, 12, 105] (by decide +kernel) (by decide +kernel)
set_option maxRecDepth 20000 in
theorem gX4_unfollow_X1_countTo : GoodIn wsX4_unfollow (wsV RX4 79 RX1 yX1_countTo wsX1_countTo) := goodIn_app (goodIn_of _ (by decide +kernel)) ggX4_unfollow_X1_countTo
theorem dX4_unfollow_0 : decode cX4_unfollow 0 = .ok (.iload_n 1, 1) := by decide +kernel
theorem dX4_unfollow_1 : decode cX4_unfollow 1 = .ok (.invokestatic 52, 3) := by decide +kernel
theorem dX4_unfollow_4 : decode cX4_unfollow 4 = .ok (.iload_n 2, 1) := by decide +kernel
theorem dX4_unfollow_5 : decode cX4_unfollow 5 = .ok (.invokestatic 52, 3) := by decide +kernel
theorem dX4_unfollow_8 : decode cX4_unfollow 8 = .ok (.aload_n 0, 1) := by decide +kernel
theorem dX4_unfollow_9 : decode cX4_unfollow 9 = .ok (.getfield 10, 3) := by decide +kernel
theorem dX4_unfollow_12 : decode cX4_unfollow 12 = .ok (.iload_n 1, 1) := by decide +kernel
theorem dX4_unfollow_13 : decode cX4_unfollow 13 = .ok (.iload_n 2, 1) := by decide +kernel
theorem dX4_unfollow_14 : decode cX4_unfollow 14 = .ok (.invokevirtual 59, 3) := by decide +kernel
theorem dX4_unfollow_17 : decode cX4_unfollow 17 = .ok (.ifCond .ne 13, 3) := by decide +kernel
theorem dX4_unfollow_20 : decode cX4_unfollow 20 = .ok (.new 63, 3) := by decide +kernel
theorem dX4_unfollow_23 : decode cX4_unfollow 23 = .ok (.dup, 1) := by decide +kernel
theorem dX4_unfollow_24 : decode cX4_unfollow 24 = .ok (.ldc 83, 2) := by decide +kernel
theorem dX4_unfollow_26 : decode cX4_unfollow 26 = .ok (.invokespecial 67, 3) := by decide +kernel
theorem dX4_unfollow_29 : decode cX4_unfollow 29 = .ok (.athrow, 1) := by decide +kernel
theorem dX4_unfollow_30 : decode cX4_unfollow 30 = .ok (.aload_n 0, 1) := by decide +kernel
theorem dX4_unfollow_31 : decode cX4_unfollow 31 = .ok (.getfield 10, 3) := by decide +kernel
theorem dX4_unfollow_34 : decode cX4_unfollow 34 = .ok (.iload_n 1, 1) := by decide +kernel
theorem dX4_unfollow_35 : decode cX4_unfollow 35 = .ok (.iload_n 2, 1) := by decide +kernel
theorem dX4_unfollow_36 : decode cX4_unfollow 36 = .ok (.iconst 0, 1) := by decide +kernel
theorem dX4_unfollow_37 : decode cX4_unfollow 37 = .ok (.invokevirtual 72, 3) := by decide +kernel
theorem dX4_unfollow_40 : decode cX4_unfollow 40 = .ok (.aload_n 0, 1) := by decide +kernel
theorem dX4_unfollow_41 : decode cX4_unfollow 41 = .ok (.invokevirtual 76, 3) := by decide +kernel
theorem dX4_unfollow_44 : decode cX4_unfollow 44 = .ok (.aload_n 0, 1) := by decide +kernel
theorem dX4_unfollow_45 : decode cX4_unfollow 45 = .ok (.getfield 10, 3) := by decide +kernel
theorem dX4_unfollow_48 : decode cX4_unfollow 48 = .ok (.iload_n 2, 1) := by decide +kernel
theorem dX4_unfollow_49 : decode cX4_unfollow 49 = .ok (.invokevirtual 79, 3) := by decide +kernel
theorem dX4_unfollow_52 : decode cX4_unfollow 52 = .ok (.ireturn, 1) := by decide +kernel
set_option maxRecDepth 20000 in
theorem ggX4_mute_X4_checkPerson : GoodIn wsX4_mute wsX4_checkPerson := goodIn_ca (goodIn_r _ [5, 6, 7, 8, 9, 4, 10] (by decide +kernel) (by decide +kernel)) (goodIn_sub (fun _ h => List.mem_cons_of_mem _ (List.mem_append_left _ (List.mem_append_right _ h))) (by decide +kernel))
set_option maxRecDepth 20000 in
theorem gX4_mute_X4_checkPerson : GoodIn wsX4_mute (va_wsS RX4 52 yX4_checkPerson wsX4_checkPerson) := goodIn_app (goodIn_of _ (by decide +kernel)) ggX4_mute_X4_checkPerson
set_option maxRecDepth 20000 in
theorem ggX4_mute_X4_checkDifferent : GoodIn wsX4_mute wsX4_checkDifferent := goodIn_ca (goodIn_r _ [13, 14, 15] (by decide +kernel) (by decide +kernel)) (goodIn_sub (fun _ h => List.mem_cons_of_mem _ (List.mem_append_right _ h)) (by decide +kernel))
set_option maxRecDepth 20000 in
theorem gX4_mute_X4_checkDifferent : GoodIn wsX4_mute (va_wsS RX4 55 yX4_checkDifferent wsX4_checkDifferent) := goodIn_app (goodIn_of _ (by decide +kernel)) ggX4_mute_X4_checkDifferent
set_option maxRecDepth 20000 in
theorem ggX4_mute_X1_has : GoodIn wsX4_mute wsX1_has := goodIn_r _ [20, 21, 9, 4, 10, 34] (by decide +kernel) (by decide +kernel)
set_option maxRecDepth 20000 in
theorem gX4_mute_X1_has : GoodIn wsX4_mute (wsV RX4 59 RX1 yX1_has wsX1_has) := goodIn_app (goodIn_of _ (by decide +kernel)) ggX4_mute_X1_has
set_option maxRecDepth 20000 in
theorem ggX4_mute_X1_put : GoodIn wsX4_mute wsX1_put := goodIn_r _ [25, 21, 9, 4, 10, 34] (by decide +kernel) (by decide +kernel)
set_option maxRecDepth 20000 in
theorem gX4_mute_X1_put : GoodIn wsX4_mute (wsV RX4 72 RX1 yX1_put wsX1_put) := goodIn_app (goodIn_of _ (by decide +kernel)) ggX4_mute_X1_put
theorem dX4_mute_0 : decode cX4_mute 0 = .ok (.iload_n 1, 1) := by decide +kernel
theorem dX4_mute_1 : decode cX4_mute 1 = .ok (.invokestatic 52, 3) := by decide +kernel
theorem dX4_mute_4 : decode cX4_mute 4 = .ok (.iload_n 2, 1) := by decide +kernel
theorem dX4_mute_5 : decode cX4_mute 5 = .ok (.invokestatic 52, 3) := by decide +kernel
theorem dX4_mute_8 : decode cX4_mute 8 = .ok (.iload_n 1, 1) := by decide +kernel
theorem dX4_mute_9 : decode cX4_mute 9 = .ok (.iload_n 2, 1) := by decide +kernel
theorem dX4_mute_10 : decode cX4_mute 10 = .ok (.invokestatic 55, 3) := by decide +kernel
theorem dX4_mute_13 : decode cX4_mute 13 = .ok (.aload_n 0, 1) := by decide +kernel
theorem dX4_mute_14 : decode cX4_mute 14 = .ok (.getfield 16, 3) := by decide +kernel
theorem dX4_mute_17 : decode cX4_mute 17 = .ok (.iload_n 1, 1) := by decide +kernel
theorem dX4_mute_18 : decode cX4_mute 18 = .ok (.iload_n 2, 1) := by decide +kernel
theorem dX4_mute_19 : decode cX4_mute 19 = .ok (.invokevirtual 59, 3) := by decide +kernel
theorem dX4_mute_22 : decode cX4_mute 22 = .ok (.istore 4, 2) := by decide +kernel
theorem dX4_mute_24 : decode cX4_mute 24 = .ok (.aload_n 0, 1) := by decide +kernel
theorem dX4_mute_25 : decode cX4_mute 25 = .ok (.getfield 16, 3) := by decide +kernel
theorem dX4_mute_28 : decode cX4_mute 28 = .ok (.iload_n 1, 1) := by decide +kernel
theorem dX4_mute_29 : decode cX4_mute 29 = .ok (.iload_n 2, 1) := by decide +kernel
theorem dX4_mute_30 : decode cX4_mute 30 = .ok (.iload_n 3, 1) := by decide +kernel
theorem dX4_mute_31 : decode cX4_mute 31 = .ok (.invokevirtual 72, 3) := by decide +kernel
theorem dX4_mute_34 : decode cX4_mute 34 = .ok (.iload 4, 2) := by decide +kernel
theorem dX4_mute_36 : decode cX4_mute 36 = .ok (.ireturn, 1) := by decide +kernel
set_option maxRecDepth 20000 in
theorem ggX4_block_X4_checkPerson : GoodIn wsX4_block wsX4_checkPerson := goodIn_ca (goodIn_r _ [6, 7, 8, 9, 10, 5, 11] (by decide +kernel) (by decide +kernel)) (goodIn_sub (fun _ h => List.mem_cons_of_mem _ (List.mem_append_left _ (List.mem_append_right _ h))) (by decide +kernel))
set_option maxRecDepth 20000 in
theorem gX4_block_X4_checkPerson : GoodIn wsX4_block (va_wsS RX4 52 yX4_checkPerson wsX4_checkPerson) := goodIn_app (goodIn_of _ (by decide +kernel)) ggX4_block_X4_checkPerson
set_option maxRecDepth 20000 in
theorem ggX4_block_X4_checkDifferent : GoodIn wsX4_block wsX4_checkDifferent := goodIn_ca (goodIn_r _ [14, 15, 16] (by decide +kernel) (by decide +kernel)) (goodIn_sub (fun _ h => List.mem_cons_of_mem _ (List.mem_append_right _ h)) (by decide +kernel))
set_option maxRecDepth 20000 in
theorem gX4_block_X4_checkDifferent : GoodIn wsX4_block (va_wsS RX4 55 yX4_checkDifferent wsX4_checkDifferent) := goodIn_app (goodIn_of _ (by decide +kernel)) ggX4_block_X4_checkDifferent
set_option maxRecDepth 20000 in
theorem ggX4_block_X1_has : GoodIn wsX4_block wsX1_has := goodIn_r _ [21, 22, 10, 5, 11, 109] (by decide +kernel) (by decide +kernel)
set_option maxRecDepth 20000 in
theorem gX4_block_X1_has : GoodIn wsX4_block (wsV RX4 59 RX1 yX1_has wsX1_has) := goodIn_app (goodIn_of _ (by decide +kernel)) ggX4_block_X1_has
set_option maxRecDepth 20000 in
theorem ggX4_block_X1_put : GoodIn wsX4_block wsX1_put := goodIn_r _ [26, 22, 10, 5, 11, 109] (by decide +kernel) (by decide +kernel)
set_option maxRecDepth 20000 in
theorem gX4_block_X1_put : GoodIn wsX4_block (wsV RX4 72 RX1 yX1_put wsX1_put) := goodIn_app (goodIn_of _ (by decide +kernel)) ggX4_block_X1_put
set_option maxRecDepth 20000 in
theorem ggX4_block_X4_settleRows : GoodIn wsX4_block wsX4_settleRows := goodIn_r _ [30, 31, 32, 33, 34, 5, 35, 36, 37, 38, 39, 40, 41, 42, 43, 44, 45, 46, 47, 48, 49, 50, 51, 52, 53, 54, 55, 56, 57, 58, 59, 60, 61, 62, 63, 2, 64, 65, 66, 67, 68, 69, 70, 71, 72, 73, 74, 75, 76, 77, 17, 18, 19, 20, 21, 22, 10, 11, 78, 79, 80, 81, 82, 83, 84, 85, 86, 87, 88, 89, 90, 91, 92, 93, 94, 95, 96, 97, 98, 99, 100, 101, 102, 103, 104, 105, 106, 107, 108, 110, 111, 112, 113, 114, 115, 116, 117, 109] (by decide +kernel) (by decide +kernel)
set_option maxRecDepth 20000 in
theorem gX4_block_X4_settleRows : GoodIn wsX4_block (wsV RX4 76 RX4 yX4_settleRows wsX4_settleRows) := goodIn_app (goodIn_of _ (by decide +kernel)) ggX4_block_X4_settleRows
theorem dX4_block_0 : decode cX4_block 0 = .ok (.iload_n 1, 1) := by decide +kernel
theorem dX4_block_1 : decode cX4_block 1 = .ok (.invokestatic 52, 3) := by decide +kernel
theorem dX4_block_4 : decode cX4_block 4 = .ok (.iload_n 2, 1) := by decide +kernel
theorem dX4_block_5 : decode cX4_block 5 = .ok (.invokestatic 52, 3) := by decide +kernel
theorem dX4_block_8 : decode cX4_block 8 = .ok (.iload_n 1, 1) := by decide +kernel
theorem dX4_block_9 : decode cX4_block 9 = .ok (.iload_n 2, 1) := by decide +kernel
theorem dX4_block_10 : decode cX4_block 10 = .ok (.invokestatic 55, 3) := by decide +kernel
theorem dX4_block_13 : decode cX4_block 13 = .ok (.aload_n 0, 1) := by decide +kernel
theorem dX4_block_14 : decode cX4_block 14 = .ok (.getfield 19, 3) := by decide +kernel
theorem dX4_block_17 : decode cX4_block 17 = .ok (.iload_n 1, 1) := by decide +kernel
theorem dX4_block_18 : decode cX4_block 18 = .ok (.iload_n 2, 1) := by decide +kernel
theorem dX4_block_19 : decode cX4_block 19 = .ok (.invokevirtual 59, 3) := by decide +kernel
theorem dX4_block_22 : decode cX4_block 22 = .ok (.istore 4, 2) := by decide +kernel
theorem dX4_block_24 : decode cX4_block 24 = .ok (.aload_n 0, 1) := by decide +kernel
theorem dX4_block_25 : decode cX4_block 25 = .ok (.getfield 19, 3) := by decide +kernel
theorem dX4_block_28 : decode cX4_block 28 = .ok (.iload_n 1, 1) := by decide +kernel
theorem dX4_block_29 : decode cX4_block 29 = .ok (.iload_n 2, 1) := by decide +kernel
theorem dX4_block_30 : decode cX4_block 30 = .ok (.iload_n 3, 1) := by decide +kernel
theorem dX4_block_31 : decode cX4_block 31 = .ok (.invokevirtual 72, 3) := by decide +kernel
theorem dX4_block_34 : decode cX4_block 34 = .ok (.iload_n 3, 1) := by decide +kernel
theorem dX4_block_35 : decode cX4_block 35 = .ok (.ifCond .eq 27, 3) := by decide +kernel
theorem dX4_block_38 : decode cX4_block 38 = .ok (.aload_n 0, 1) := by decide +kernel
theorem dX4_block_39 : decode cX4_block 39 = .ok (.getfield 10, 3) := by decide +kernel
theorem dX4_block_42 : decode cX4_block 42 = .ok (.iload_n 1, 1) := by decide +kernel
theorem dX4_block_43 : decode cX4_block 43 = .ok (.iload_n 2, 1) := by decide +kernel
theorem dX4_block_44 : decode cX4_block 44 = .ok (.iconst 0, 1) := by decide +kernel
theorem dX4_block_45 : decode cX4_block 45 = .ok (.invokevirtual 72, 3) := by decide +kernel
theorem dX4_block_48 : decode cX4_block 48 = .ok (.aload_n 0, 1) := by decide +kernel
theorem dX4_block_49 : decode cX4_block 49 = .ok (.getfield 10, 3) := by decide +kernel
theorem dX4_block_52 : decode cX4_block 52 = .ok (.iload_n 2, 1) := by decide +kernel
theorem dX4_block_53 : decode cX4_block 53 = .ok (.iload_n 1, 1) := by decide +kernel
theorem dX4_block_54 : decode cX4_block 54 = .ok (.iconst 0, 1) := by decide +kernel
theorem dX4_block_55 : decode cX4_block 55 = .ok (.invokevirtual 72, 3) := by decide +kernel
theorem dX4_block_58 : decode cX4_block 58 = .ok (.aload_n 0, 1) := by decide +kernel
theorem dX4_block_59 : decode cX4_block 59 = .ok (.invokevirtual 76, 3) := by decide +kernel
theorem dX4_block_62 : decode cX4_block 62 = .ok (.iload 4, 2) := by decide +kernel
theorem dX4_block_64 : decode cX4_block 64 = .ok (.ireturn, 1) := by decide +kernel
set_option maxRecDepth 20000 in
theorem ggX4_post_X4_checkPerson : GoodIn wsX4_post wsX4_checkPerson := goodIn_ca (goodIn_r _ [5, 6, 7, 8, 9, 4, 10] (by decide +kernel) (by decide +kernel)) (goodIn_sub (fun _ h => List.mem_cons_of_mem _ (List.mem_append_left _ (List.mem_append_right _ h))) (by decide +kernel))
set_option maxRecDepth 20000 in
theorem gX4_post_X4_checkPerson : GoodIn wsX4_post (va_wsS RX4 52 yX4_checkPerson wsX4_checkPerson) := goodIn_app (goodIn_of _ (by decide +kernel)) ggX4_post_X4_checkPerson
set_option maxRecDepth 20000 in
theorem ggX4_post_X4_checkPlace : GoodIn wsX4_post wsX4_checkPlace := goodIn_ca (goodIn_r _ [14, 15, 16, 1, 17, 18, 19, 20, 21, 22, 102, 103, 104, 105, 106, 107, 108, 109, 110, 111, 112, 113] (by decide +kernel) (by decide +kernel)) (goodIn_sub (fun _ h => List.mem_cons_of_mem _ (List.mem_append_right _ h)) (by decide +kernel))
set_option maxRecDepth 20000 in
theorem gX4_post_X4_checkPlace : GoodIn wsX4_post (wsV RX4 85 RX4 yX4_checkPlace wsX4_checkPlace) := goodIn_app (goodIn_of _ (by decide +kernel)) ggX4_post_X4_checkPlace
set_option maxRecDepth 20000 in
theorem ggX4_post_X0_made : GoodIn wsX4_post wsX0_made := goodIn_r _ [21, 22, 110, 111, 112, 113] (by decide +kernel) (by decide +kernel)
set_option maxRecDepth 20000 in
theorem gX4_post_X0_made : GoodIn wsX4_post (wsV RX4 88 RX0 yX0_made wsX0_made) := goodIn_app (goodIn_of _ (by decide +kernel)) ggX4_post_X0_made
set_option maxRecDepth 20000 in
theorem ggX4_post_X0_add : GoodIn wsX4_post wsX0_add := goodIn_r _ [26, 22, 27, 28, 110, 111, 112, 113] (by decide +kernel) (by decide +kernel)
set_option maxRecDepth 20000 in
theorem gX4_post_X0_add : GoodIn wsX4_post (wsV RX4 92 RX0 yX0_add wsX0_add) := goodIn_app (goodIn_of _ (by decide +kernel)) ggX4_post_X0_add
set_option maxRecDepth 20000 in
theorem ggX4_post_X4_settleRows : GoodIn wsX4_post wsX4_settleRows := goodIn_r _ [32, 33, 34, 35, 36, 4, 37, 1, 38, 39, 40, 41, 42, 43, 44, 45, 46, 47, 48, 49, 17, 18, 19, 20, 21, 22, 50, 51, 52, 53, 54, 55, 56, 57, 58, 59, 60, 61, 62, 63, 27, 64, 65, 66, 67, 68, 69, 70, 71, 72, 73, 74, 75, 76, 77, 78, 9, 10, 79, 80, 81, 82, 83, 84, 85, 86, 87, 88, 89, 90, 91, 92, 93, 94, 95, 96, 97, 98, 99, 100, 101, 102, 103, 104, 105, 106, 107, 108, 109, 114, 115, 116, 117, 110, 111, 112, 113, 118] (by decide +kernel) (by decide +kernel)
set_option maxRecDepth 20000 in
theorem gX4_post_X4_settleRows : GoodIn wsX4_post (wsV RX4 76 RX4 yX4_settleRows wsX4_settleRows) := goodIn_app (goodIn_of _ (by decide +kernel)) ggX4_post_X4_settleRows
theorem dX4_post_0 : decode cX4_post 0 = .ok (.iload_n 1, 1) := by decide +kernel
theorem dX4_post_1 : decode cX4_post 1 = .ok (.invokestatic 52, 3) := by decide +kernel
theorem dX4_post_4 : decode cX4_post 4 = .ok (.aload_n 0, 1) := by decide +kernel
theorem dX4_post_5 : decode cX4_post 5 = .ok (.invokevirtual 85, 3) := by decide +kernel
theorem dX4_post_8 : decode cX4_post 8 = .ok (.aload_n 0, 1) := by decide +kernel
theorem dX4_post_9 : decode cX4_post 9 = .ok (.getfield 25, 3) := by decide +kernel
theorem dX4_post_12 : decode cX4_post 12 = .ok (.invokevirtual 88, 3) := by decide +kernel
theorem dX4_post_15 : decode cX4_post 15 = .ok (.istore_n 2, 1) := by decide +kernel
theorem dX4_post_16 : decode cX4_post 16 = .ok (.aload_n 0, 1) := by decide +kernel
theorem dX4_post_17 : decode cX4_post 17 = .ok (.getfield 25, 3) := by decide +kernel
theorem dX4_post_20 : decode cX4_post 20 = .ok (.iload_n 1, 1) := by decide +kernel
theorem dX4_post_21 : decode cX4_post 21 = .ok (.iload_n 2, 1) := by decide +kernel
theorem dX4_post_22 : decode cX4_post 22 = .ok (.invokevirtual 92, 3) := by decide +kernel
theorem dX4_post_25 : decode cX4_post 25 = .ok (.aload_n 0, 1) := by decide +kernel
theorem dX4_post_26 : decode cX4_post 26 = .ok (.invokevirtual 76, 3) := by decide +kernel
theorem dX4_post_29 : decode cX4_post 29 = .ok (.iload_n 2, 1) := by decide +kernel
theorem dX4_post_30 : decode cX4_post 30 = .ok (.ireturn, 1) := by decide +kernel
set_option maxRecDepth 20000 in
theorem ggX4_repost_X4_checkPerson : GoodIn wsX4_repost wsX4_checkPerson := goodIn_ca (goodIn_r _ [8, 9, 10, 11, 12, 7, 13] (by decide +kernel) (by decide +kernel)) (goodIn_sub (fun _ h => List.mem_cons_of_mem _ (List.mem_append_right _ h)) (by decide +kernel))
set_option maxRecDepth 20000 in
theorem gX4_repost_X4_checkPerson : GoodIn wsX4_repost (va_wsS RX4 52 yX4_checkPerson wsX4_checkPerson) := goodIn_app (goodIn_of _ (by decide +kernel)) ggX4_repost_X4_checkPerson
set_option maxRecDepth 20000 in
theorem ggX4_repost_X4_checkEntry : GoodIn wsX4_repost wsX4_checkEntry := goodIn_ca (goodIn_r _ [17, 9, 10, 3, 18, 19, 20, 21, 22, 23, 112, 113, 114, 115, 116, 117, 118, 119, 120, 121, 122, 123] (by decide +kernel) (by decide +kernel)) (goodIn_sub (fun _ h => List.mem_cons_of_mem _ (List.mem_append_right _ h)) (by decide +kernel))
set_option maxRecDepth 20000 in
theorem gX4_repost_X4_checkEntry : GoodIn wsX4_repost (wsV RX4 95 RX4 yX4_checkEntry wsX4_checkEntry) := goodIn_app (goodIn_of _ (by decide +kernel)) ggX4_repost_X4_checkEntry
set_option maxRecDepth 20000 in
theorem ggX4_repost_X4_checkPlace : GoodIn wsX4_repost wsX4_checkPlace := goodIn_ca (goodIn_r _ [27, 1, 2, 3, 28, 29, 30, 21, 31, 23, 112, 113, 114, 115, 116, 117, 118, 119, 120, 121, 122, 123] (by decide +kernel) (by decide +kernel)) (goodIn_sub (fun _ h => List.mem_cons_of_mem _ (List.mem_append_left _ (List.mem_append_right _ h))) (by decide +kernel))
set_option maxRecDepth 20000 in
theorem gX4_repost_X4_checkPlace : GoodIn wsX4_repost (wsV RX4 85 RX4 yX4_checkPlace wsX4_checkPlace) := goodIn_app (goodIn_of _ (by decide +kernel)) ggX4_repost_X4_checkPlace
set_option maxRecDepth 20000 in
theorem ggX4_repost_X0_origin : GoodIn wsX4_repost wsX0_origin := goodIn_r _ [35, 36, 37, 19, 20, 21, 22, 23, 120, 121, 122, 123] (by decide +kernel) (by decide +kernel)
set_option maxRecDepth 20000 in
theorem gX4_repost_X0_origin : GoodIn wsX4_repost (wsV RX4 98 RX0 yX0_origin wsX0_origin) := goodIn_app (goodIn_of _ (by decide +kernel)) ggX4_repost_X0_origin
set_option maxRecDepth 20000 in
theorem ggX4_repost_X0_stands : GoodIn wsX4_repost wsX0_stands := goodIn_r _ [41, 42, 37, 19, 20, 21, 22, 23, 120, 121, 122, 123] (by decide +kernel) (by decide +kernel)
set_option maxRecDepth 20000 in
theorem gX4_repost_X0_stands : GoodIn wsX4_repost (wsV RX4 101 RX0 yX0_stands wsX0_stands) := goodIn_app (goodIn_of _ (by decide +kernel)) ggX4_repost_X0_stands
set_option maxRecDepth 20000 in
theorem ggX4_repost_X0_author : GoodIn wsX4_repost wsX0_author := goodIn_r _ [46, 47, 37, 19, 20, 21, 22, 23, 120, 121, 122, 123] (by decide +kernel) (by decide +kernel)
set_option maxRecDepth 20000 in
theorem gX4_repost_X0_author : GoodIn wsX4_repost (wsV RX4 107 RX0 yX0_author wsX0_author) := goodIn_app (goodIn_of _ (by decide +kernel)) ggX4_repost_X0_author
set_option maxRecDepth 20000 in
theorem ggX4_repost_X1_has : GoodIn wsX4_repost wsX1_has := goodIn_r _ [52, 53, 12, 7, 13, 124] (by decide +kernel) (by decide +kernel)
set_option maxRecDepth 20000 in
theorem gX4_repost_X1_has : GoodIn wsX4_repost (wsV RX4 59 RX1 yX1_has wsX1_has) := goodIn_app (goodIn_of _ (by decide +kernel)) ggX4_repost_X1_has
set_option maxRecDepth 20000 in
theorem ggX4_repost_X0_made : GoodIn wsX4_repost wsX0_made := goodIn_r _ [31, 23, 120, 121, 122, 123] (by decide +kernel) (by decide +kernel)
set_option maxRecDepth 20000 in
theorem gX4_repost_X0_made : GoodIn wsX4_repost (wsV RX4 88 RX0 yX0_made wsX0_made) := goodIn_app (goodIn_of _ (by decide +kernel)) ggX4_repost_X0_made
set_option maxRecDepth 20000 in
theorem ggX4_repost_X0_add : GoodIn wsX4_repost wsX0_add := goodIn_r _ [57, 23, 47, 36, 120, 121, 122, 123] (by decide +kernel) (by decide +kernel)
set_option maxRecDepth 20000 in
theorem gX4_repost_X0_add : GoodIn wsX4_repost (wsV RX4 92 RX0 yX0_add wsX0_add) := goodIn_app (goodIn_of _ (by decide +kernel)) ggX4_repost_X0_add
set_option maxRecDepth 20000 in
theorem ggX4_repost_X4_settleRows : GoodIn wsX4_repost wsX4_settleRows := goodIn_r _ [61, 62, 63, 64, 65, 7, 66, 3, 67, 68, 69, 70, 71, 72, 73, 74, 75, 76, 77, 78, 28, 29, 30, 21, 31, 23, 79, 80, 81, 82, 83, 84, 85, 86, 87, 88, 43, 44, 45, 46, 47, 37, 19, 20, 22, 38, 39, 40, 41, 42, 48, 49, 50, 51, 52, 53, 12, 13, 89, 90, 91, 92, 93, 94, 95, 96, 97, 98, 99, 100, 101, 102, 103, 104, 105, 106, 107, 108, 109, 110, 111, 112, 113, 114, 115, 116, 117, 118, 119, 125, 126, 127, 128, 120, 121, 122, 123, 124] (by decide +kernel) (by decide +kernel)
set_option maxRecDepth 20000 in
theorem gX4_repost_X4_settleRows : GoodIn wsX4_repost (wsV RX4 76 RX4 yX4_settleRows wsX4_settleRows) := goodIn_app (goodIn_of _ (by decide +kernel)) ggX4_repost_X4_settleRows
theorem dX4_repost_0 : decode cX4_repost 0 = .ok (.iload_n 1, 1) := by decide +kernel
theorem dX4_repost_1 : decode cX4_repost 1 = .ok (.invokestatic 52, 3) := by decide +kernel
theorem dX4_repost_4 : decode cX4_repost 4 = .ok (.aload_n 0, 1) := by decide +kernel
theorem dX4_repost_5 : decode cX4_repost 5 = .ok (.iload_n 2, 1) := by decide +kernel
theorem dX4_repost_6 : decode cX4_repost 6 = .ok (.invokevirtual 95, 3) := by decide +kernel
theorem dX4_repost_9 : decode cX4_repost 9 = .ok (.aload_n 0, 1) := by decide +kernel
theorem dX4_repost_10 : decode cX4_repost 10 = .ok (.invokevirtual 85, 3) := by decide +kernel
theorem dX4_repost_13 : decode cX4_repost 13 = .ok (.aload_n 0, 1) := by decide +kernel
theorem dX4_repost_14 : decode cX4_repost 14 = .ok (.getfield 25, 3) := by decide +kernel
theorem dX4_repost_17 : decode cX4_repost 17 = .ok (.iload_n 2, 1) := by decide +kernel
theorem dX4_repost_18 : decode cX4_repost 18 = .ok (.invokevirtual 98, 3) := by decide +kernel
theorem dX4_repost_21 : decode cX4_repost 21 = .ok (.istore_n 3, 1) := by decide +kernel
theorem dX4_repost_22 : decode cX4_repost 22 = .ok (.aload_n 0, 1) := by decide +kernel
theorem dX4_repost_23 : decode cX4_repost 23 = .ok (.getfield 25, 3) := by decide +kernel
theorem dX4_repost_26 : decode cX4_repost 26 = .ok (.iload_n 2, 1) := by decide +kernel
theorem dX4_repost_27 : decode cX4_repost 27 = .ok (.invokevirtual 101, 3) := by decide +kernel
theorem dX4_repost_30 : decode cX4_repost 30 = .ok (.ifCond .eq 14, 3) := by decide +kernel
theorem dX4_repost_33 : decode cX4_repost 33 = .ok (.aload_n 0, 1) := by decide +kernel
theorem dX4_repost_34 : decode cX4_repost 34 = .ok (.getfield 25, 3) := by decide +kernel
theorem dX4_repost_37 : decode cX4_repost 37 = .ok (.iload_n 3, 1) := by decide +kernel
theorem dX4_repost_38 : decode cX4_repost 38 = .ok (.invokevirtual 101, 3) := by decide +kernel
theorem dX4_repost_41 : decode cX4_repost 41 = .ok (.ifCond .ne 13, 3) := by decide +kernel
theorem dX4_repost_44 : decode cX4_repost 44 = .ok (.new 63, 3) := by decide +kernel
theorem dX4_repost_47 : decode cX4_repost 47 = .ok (.dup, 1) := by decide +kernel
theorem dX4_repost_48 : decode cX4_repost 48 = .ok (.ldc 105, 2) := by decide +kernel
theorem dX4_repost_50 : decode cX4_repost 50 = .ok (.invokespecial 67, 3) := by decide +kernel
theorem dX4_repost_53 : decode cX4_repost 53 = .ok (.athrow, 1) := by decide +kernel
theorem dX4_repost_54 : decode cX4_repost 54 = .ok (.aload_n 0, 1) := by decide +kernel
theorem dX4_repost_55 : decode cX4_repost 55 = .ok (.getfield 19, 3) := by decide +kernel
theorem dX4_repost_58 : decode cX4_repost 58 = .ok (.aload_n 0, 1) := by decide +kernel
theorem dX4_repost_59 : decode cX4_repost 59 = .ok (.getfield 25, 3) := by decide +kernel
theorem dX4_repost_62 : decode cX4_repost 62 = .ok (.iload_n 3, 1) := by decide +kernel
theorem dX4_repost_63 : decode cX4_repost 63 = .ok (.invokevirtual 107, 3) := by decide +kernel
theorem dX4_repost_66 : decode cX4_repost 66 = .ok (.iload_n 1, 1) := by decide +kernel
theorem dX4_repost_67 : decode cX4_repost 67 = .ok (.invokevirtual 59, 3) := by decide +kernel
theorem dX4_repost_70 : decode cX4_repost 70 = .ok (.ifCond .eq 13, 3) := by decide +kernel
theorem dX4_repost_73 : decode cX4_repost 73 = .ok (.new 63, 3) := by decide +kernel
theorem dX4_repost_76 : decode cX4_repost 76 = .ok (.dup, 1) := by decide +kernel
theorem dX4_repost_77 : decode cX4_repost 77 = .ok (.ldc 110, 2) := by decide +kernel
theorem dX4_repost_79 : decode cX4_repost 79 = .ok (.invokespecial 67, 3) := by decide +kernel
theorem dX4_repost_82 : decode cX4_repost 82 = .ok (.athrow, 1) := by decide +kernel
theorem dX4_repost_83 : decode cX4_repost 83 = .ok (.aload_n 0, 1) := by decide +kernel
theorem dX4_repost_84 : decode cX4_repost 84 = .ok (.getfield 25, 3) := by decide +kernel
theorem dX4_repost_87 : decode cX4_repost 87 = .ok (.invokevirtual 88, 3) := by decide +kernel
theorem dX4_repost_90 : decode cX4_repost 90 = .ok (.istore 4, 2) := by decide +kernel
theorem dX4_repost_92 : decode cX4_repost 92 = .ok (.aload_n 0, 1) := by decide +kernel
theorem dX4_repost_93 : decode cX4_repost 93 = .ok (.getfield 25, 3) := by decide +kernel
theorem dX4_repost_96 : decode cX4_repost 96 = .ok (.iload_n 1, 1) := by decide +kernel
theorem dX4_repost_97 : decode cX4_repost 97 = .ok (.iload_n 3, 1) := by decide +kernel
theorem dX4_repost_98 : decode cX4_repost 98 = .ok (.invokevirtual 92, 3) := by decide +kernel
theorem dX4_repost_101 : decode cX4_repost 101 = .ok (.aload_n 0, 1) := by decide +kernel
theorem dX4_repost_102 : decode cX4_repost 102 = .ok (.invokevirtual 76, 3) := by decide +kernel
theorem dX4_repost_105 : decode cX4_repost 105 = .ok (.iload 4, 2) := by decide +kernel
theorem dX4_repost_107 : decode cX4_repost 107 = .ok (.ireturn, 1) := by decide +kernel
set_option maxRecDepth 20000 in
theorem ggX4_delete_X4_checkEntry : GoodIn wsX4_delete wsX4_checkEntry := goodIn_ca (goodIn_r _ [8, 9, 10, 3, 11, 12, 13, 14, 15, 16, 108, 109, 110, 111, 112, 113, 114, 115, 116, 117, 118, 119] (by decide +kernel) (by decide +kernel)) (goodIn_sub (fun _ h => List.mem_cons_of_mem _ (List.mem_append_right _ h)) (by decide +kernel))
set_option maxRecDepth 20000 in
theorem gX4_delete_X4_checkEntry : GoodIn wsX4_delete (wsV RX4 95 RX4 yX4_checkEntry wsX4_checkEntry) := goodIn_app (goodIn_of _ (by decide +kernel)) ggX4_delete_X4_checkEntry
set_option maxRecDepth 20000 in
theorem ggX4_delete_X0_stands : GoodIn wsX4_delete wsX0_stands := goodIn_r _ [20, 21, 22, 12, 13, 14, 15, 16, 116, 117, 118, 119] (by decide +kernel) (by decide +kernel)
set_option maxRecDepth 20000 in
theorem gX4_delete_X0_stands : GoodIn wsX4_delete (wsV RX4 101 RX0 yX0_stands wsX0_stands) := goodIn_app (goodIn_of _ (by decide +kernel)) ggX4_delete_X0_stands
set_option maxRecDepth 20000 in
theorem ggX4_delete_X0_remove : GoodIn wsX4_delete wsX0_remove := goodIn_r _ [26, 21, 22, 12, 13, 14, 15, 16, 116, 117, 118, 119] (by decide +kernel) (by decide +kernel)
set_option maxRecDepth 20000 in
theorem gX4_delete_X0_remove : GoodIn wsX4_delete (wsV RX4 114 RX0 yX0_remove wsX0_remove) := goodIn_app (goodIn_of _ (by decide +kernel)) ggX4_delete_X0_remove
set_option maxRecDepth 20000 in
theorem ggX4_delete_X4_settleRows : GoodIn wsX4_delete wsX4_settleRows := goodIn_r _ [30, 31, 32, 33, 34, 7, 35, 3, 36, 37, 38, 39, 40, 41, 42, 43, 44, 45, 46, 47, 48, 49, 50, 14, 51, 16, 52, 53, 54, 55, 56, 57, 58, 59, 60, 61, 62, 63, 64, 65, 66, 22, 12, 13, 15, 17, 18, 19, 20, 21, 67, 68, 69, 70, 71, 72, 73, 74, 75, 76, 77, 78, 79, 80, 81, 82, 83, 84, 85, 86, 87, 88, 89, 90, 91, 92, 93, 94, 95, 96, 97, 108, 109, 110, 111, 112, 113, 114, 115, 120, 121, 122, 123, 116, 117, 118, 119, 124] (by decide +kernel) (by decide +kernel)
set_option maxRecDepth 20000 in
theorem gX4_delete_X4_settleRows : GoodIn wsX4_delete (wsV RX4 76 RX4 yX4_settleRows wsX4_settleRows) := goodIn_app (goodIn_of _ (by decide +kernel)) ggX4_delete_X4_settleRows
set_option maxRecDepth 20000 in
theorem ggX4_delete_X0_countStandingOf : GoodIn wsX4_delete wsX0_countStandingOf := goodIn_r _ [101, 16, 102, 103, 104, 14, 105, 106, 22, 12, 13, 15, 107, 18, 19, 20, 21, 116, 117, 118, 119] (by decide +kernel) (by decide +kernel)
set_option maxRecDepth 20000 in
theorem gX4_delete_X0_countStandingOf : GoodIn wsX4_delete (wsV RX4 117 RX0 yX0_countStandingOf wsX0_countStandingOf) := goodIn_app (goodIn_of _ (by decide +kernel)) ggX4_delete_X0_countStandingOf
theorem dX4_delete_0 : decode cX4_delete 0 = .ok (.aload_n 0, 1) := by decide +kernel
theorem dX4_delete_1 : decode cX4_delete 1 = .ok (.iload_n 1, 1) := by decide +kernel
theorem dX4_delete_2 : decode cX4_delete 2 = .ok (.invokevirtual 95, 3) := by decide +kernel
theorem dX4_delete_5 : decode cX4_delete 5 = .ok (.aload_n 0, 1) := by decide +kernel
theorem dX4_delete_6 : decode cX4_delete 6 = .ok (.getfield 25, 3) := by decide +kernel
theorem dX4_delete_9 : decode cX4_delete 9 = .ok (.iload_n 1, 1) := by decide +kernel
theorem dX4_delete_10 : decode cX4_delete 10 = .ok (.invokevirtual 101, 3) := by decide +kernel
theorem dX4_delete_13 : decode cX4_delete 13 = .ok (.ifCond .ne 13, 3) := by decide +kernel
theorem dX4_delete_16 : decode cX4_delete 16 = .ok (.new 63, 3) := by decide +kernel
theorem dX4_delete_19 : decode cX4_delete 19 = .ok (.dup, 1) := by decide +kernel
theorem dX4_delete_20 : decode cX4_delete 20 = .ok (.ldc 112, 2) := by decide +kernel
theorem dX4_delete_22 : decode cX4_delete 22 = .ok (.invokespecial 67, 3) := by decide +kernel
theorem dX4_delete_25 : decode cX4_delete 25 = .ok (.athrow, 1) := by decide +kernel
theorem dX4_delete_26 : decode cX4_delete 26 = .ok (.aload_n 0, 1) := by decide +kernel
theorem dX4_delete_27 : decode cX4_delete 27 = .ok (.getfield 25, 3) := by decide +kernel
theorem dX4_delete_30 : decode cX4_delete 30 = .ok (.iload_n 1, 1) := by decide +kernel
theorem dX4_delete_31 : decode cX4_delete 31 = .ok (.invokevirtual 114, 3) := by decide +kernel
theorem dX4_delete_34 : decode cX4_delete 34 = .ok (.aload_n 0, 1) := by decide +kernel
theorem dX4_delete_35 : decode cX4_delete 35 = .ok (.invokevirtual 76, 3) := by decide +kernel
theorem dX4_delete_38 : decode cX4_delete 38 = .ok (.aload_n 0, 1) := by decide +kernel
theorem dX4_delete_39 : decode cX4_delete 39 = .ok (.getfield 25, 3) := by decide +kernel
theorem dX4_delete_42 : decode cX4_delete 42 = .ok (.iload_n 1, 1) := by decide +kernel
theorem dX4_delete_43 : decode cX4_delete 43 = .ok (.invokevirtual 117, 3) := by decide +kernel
theorem dX4_delete_46 : decode cX4_delete 46 = .ok (.ireturn, 1) := by decide +kernel
set_option maxRecDepth 20000 in
theorem ggX4_setMark_X4_checkRange : GoodIn wsX4_setMark wsX4_checkRange := goodIn_ca (goodIn_r _ [5, 6, 7] (by decide +kernel) (by decide +kernel)) (goodIn_sub (fun _ h => List.mem_cons_of_mem _ (List.mem_append_right _ h)) (by decide +kernel))
set_option maxRecDepth 20000 in
theorem gX4_setMark_X4_checkRange : GoodIn wsX4_setMark (va_wsS RX4 120 yX4_checkRange wsX4_checkRange) := goodIn_app (goodIn_of _ (by decide +kernel)) ggX4_setMark_X4_checkRange
set_option maxRecDepth 20000 in
theorem ggX4_setMark_X4_settleRows : GoodIn wsX4_setMark wsX4_settleRows := goodIn_r _ [11, 12, 13, 14, 15, 4, 16, 17, 18, 19, 20, 21, 22, 23, 24, 25, 26, 27, 28, 29, 30, 31, 32, 33, 34, 35, 36, 37, 38, 39, 40, 41, 42, 43, 44, 45, 46, 47, 48, 49, 50, 51, 52, 53, 54, 55, 56, 57, 58, 59, 60, 61, 62, 63, 64, 65, 66, 67, 68, 69, 70, 71, 1, 72, 73, 74, 75, 76, 77, 78, 79, 80, 81, 82, 83, 84, 85, 86, 87, 88, 89, 94, 95, 96, 97, 98, 99, 100, 101, 102, 103, 104, 105, 106, 107, 108, 109, 110] (by decide +kernel) (by decide +kernel)
set_option maxRecDepth 20000 in
theorem gX4_setMark_X4_settleRows : GoodIn wsX4_setMark (wsV RX4 76 RX4 yX4_settleRows wsX4_settleRows) := goodIn_app (goodIn_of _ (by decide +kernel)) ggX4_setMark_X4_settleRows
set_option maxRecDepth 20000 in
theorem ggX4_setMark_X4_countLarge : GoodIn wsX4_setMark wsX4_countLarge := goodIn_r _ [93, 68, 69, 70, 4, 71, 45, 1, 72, 73, 74, 63, 75, 76, 61, 62, 64, 65, 66, 67, 94, 95, 96, 97, 98, 99, 100, 101, 110] (by decide +kernel) (by decide +kernel)
set_option maxRecDepth 20000 in
theorem gX4_setMark_X4_countLarge : GoodIn wsX4_setMark (wsV RX4 124 RX4 yX4_countLarge wsX4_countLarge) := goodIn_app (goodIn_of _ (by decide +kernel)) ggX4_setMark_X4_countLarge
theorem dX4_setMark_0 : decode cX4_setMark 0 = .ok (.iload_n 1, 1) := by decide +kernel
theorem dX4_setMark_1 : decode cX4_setMark 1 = .ok (.iconst 0, 1) := by decide +kernel
theorem dX4_setMark_2 : decode cX4_setMark 2 = .ok (.bipush 8, 2) := by decide +kernel
theorem dX4_setMark_4 : decode cX4_setMark 4 = .ok (.invokestatic 120, 3) := by decide +kernel
theorem dX4_setMark_7 : decode cX4_setMark 7 = .ok (.aload_n 0, 1) := by decide +kernel
theorem dX4_setMark_8 : decode cX4_setMark 8 = .ok (.iload_n 1, 1) := by decide +kernel
theorem dX4_setMark_9 : decode cX4_setMark 9 = .ok (.putfield 42, 3) := by decide +kernel
theorem dX4_setMark_12 : decode cX4_setMark 12 = .ok (.aload_n 0, 1) := by decide +kernel
theorem dX4_setMark_13 : decode cX4_setMark 13 = .ok (.invokevirtual 76, 3) := by decide +kernel
theorem dX4_setMark_16 : decode cX4_setMark 16 = .ok (.aload_n 0, 1) := by decide +kernel
theorem dX4_setMark_17 : decode cX4_setMark 17 = .ok (.invokevirtual 124, 3) := by decide +kernel
theorem dX4_setMark_20 : decode cX4_setMark 20 = .ok (.ireturn, 1) := by decide +kernel
set_option maxRecDepth 20000 in
theorem ggX4_setRoom_X4_checkRange : GoodIn wsX4_setRoom wsX4_checkRange := goodIn_ca (goodIn_r _ [5, 6, 7] (by decide +kernel) (by decide +kernel)) (goodIn_sub (fun _ h => List.mem_cons_of_mem _ (List.mem_append_right _ h)) (by decide +kernel))
set_option maxRecDepth 20000 in
theorem gX4_setRoom_X4_checkRange : GoodIn wsX4_setRoom (va_wsS RX4 120 yX4_checkRange wsX4_checkRange) := goodIn_app (goodIn_of _ (by decide +kernel)) ggX4_setRoom_X4_checkRange
set_option maxRecDepth 20000 in
theorem ggX4_setRoom_X4_settleRows : GoodIn wsX4_setRoom wsX4_settleRows := goodIn_r _ [11, 12, 13, 14, 15, 4, 16, 17, 1, 18, 19, 20, 21, 22, 23, 24, 25, 26, 27, 28, 29, 30, 31, 32, 33, 34, 35, 36, 37, 38, 39, 40, 41, 42, 43, 44, 45, 46, 47, 48, 49, 50, 51, 52, 53, 54, 55, 56, 57, 58, 59, 60, 61, 62, 63, 64, 65, 66, 67, 68, 69, 70, 71, 72, 73, 74, 75, 76, 77, 78, 79, 80, 81, 82, 83, 84, 85, 86, 87, 88, 89, 90, 91, 92, 93, 94, 95, 96, 97, 98, 99, 100, 101, 102, 103, 104, 105, 106] (by decide +kernel) (by decide +kernel)
set_option maxRecDepth 20000 in
theorem gX4_setRoom_X4_settleRows : GoodIn wsX4_setRoom (wsV RX4 76 RX4 yX4_settleRows wsX4_settleRows) := goodIn_app (goodIn_of _ (by decide +kernel)) ggX4_setRoom_X4_settleRows
theorem dX4_setRoom_0 : decode cX4_setRoom 0 = .ok (.iload_n 1, 1) := by decide +kernel
theorem dX4_setRoom_1 : decode cX4_setRoom 1 = .ok (.iconst 1, 1) := by decide +kernel
theorem dX4_setRoom_2 : decode cX4_setRoom 2 = .ok (.bipush 40, 2) := by decide +kernel
theorem dX4_setRoom_4 : decode cX4_setRoom 4 = .ok (.invokestatic 120, 3) := by decide +kernel
theorem dX4_setRoom_7 : decode cX4_setRoom 7 = .ok (.aload_n 0, 1) := by decide +kernel
theorem dX4_setRoom_8 : decode cX4_setRoom 8 = .ok (.getfield 46, 3) := by decide +kernel
theorem dX4_setRoom_11 : decode cX4_setRoom 11 = .ok (.istore_n 2, 1) := by decide +kernel
theorem dX4_setRoom_12 : decode cX4_setRoom 12 = .ok (.aload_n 0, 1) := by decide +kernel
theorem dX4_setRoom_13 : decode cX4_setRoom 13 = .ok (.iload_n 1, 1) := by decide +kernel
theorem dX4_setRoom_14 : decode cX4_setRoom 14 = .ok (.putfield 46, 3) := by decide +kernel
theorem dX4_setRoom_17 : decode cX4_setRoom 17 = .ok (.aload_n 0, 1) := by decide +kernel
theorem dX4_setRoom_18 : decode cX4_setRoom 18 = .ok (.invokevirtual 76, 3) := by decide +kernel
theorem dX4_setRoom_21 : decode cX4_setRoom 21 = .ok (.iload_n 2, 1) := by decide +kernel
theorem dX4_setRoom_22 : decode cX4_setRoom 22 = .ok (.ireturn, 1) := by decide +kernel
set_option maxRecDepth 20000 in
theorem ggX4_entries_X0_made : GoodIn wsX4_entries wsX0_made := goodIn_r _ [6, 7, 16, 17, 18, 19] (by decide +kernel) (by decide +kernel)
set_option maxRecDepth 20000 in
theorem gX4_entries_X0_made : GoodIn wsX4_entries (wsV RX4 88 RX0 yX0_made wsX0_made) := goodIn_app (goodIn_of _ (by decide +kernel)) ggX4_entries_X0_made
theorem dX4_entries_0 : decode cX4_entries 0 = .ok (.aload_n 0, 1) := by decide +kernel
theorem dX4_entries_1 : decode cX4_entries 1 = .ok (.getfield 25, 3) := by decide +kernel
theorem dX4_entries_4 : decode cX4_entries 4 = .ok (.invokevirtual 88, 3) := by decide +kernel
theorem dX4_entries_7 : decode cX4_entries 7 = .ok (.ireturn, 1) := by decide +kernel
set_option maxRecDepth 20000 in
theorem ggX4_authorOf_X4_checkEntry : GoodIn wsX4_authorOf wsX4_checkEntry := goodIn_ca (goodIn_r _ [6, 7, 8, 1, 9, 10, 11, 12, 13, 14, 21, 22, 23, 24, 25, 26, 27, 28, 29, 30, 31, 32] (by decide +kernel) (by decide +kernel)) (goodIn_sub (fun _ h => List.mem_cons_of_mem _ (List.mem_append_right _ h)) (by decide +kernel))
set_option maxRecDepth 20000 in
theorem gX4_authorOf_X4_checkEntry : GoodIn wsX4_authorOf (wsV RX4 95 RX4 yX4_checkEntry wsX4_checkEntry) := goodIn_app (goodIn_of _ (by decide +kernel)) ggX4_authorOf_X4_checkEntry
set_option maxRecDepth 20000 in
theorem ggX4_authorOf_X0_author : GoodIn wsX4_authorOf wsX0_author := goodIn_r _ [18, 19, 20, 10, 11, 12, 13, 14, 29, 30, 31, 32] (by decide +kernel) (by decide +kernel)
set_option maxRecDepth 20000 in
theorem gX4_authorOf_X0_author : GoodIn wsX4_authorOf (wsV RX4 107 RX0 yX0_author wsX0_author) := goodIn_app (goodIn_of _ (by decide +kernel)) ggX4_authorOf_X0_author
theorem dX4_authorOf_0 : decode cX4_authorOf 0 = .ok (.aload_n 0, 1) := by decide +kernel
theorem dX4_authorOf_1 : decode cX4_authorOf 1 = .ok (.iload_n 1, 1) := by decide +kernel
theorem dX4_authorOf_2 : decode cX4_authorOf 2 = .ok (.invokevirtual 95, 3) := by decide +kernel
theorem dX4_authorOf_5 : decode cX4_authorOf 5 = .ok (.aload_n 0, 1) := by decide +kernel
theorem dX4_authorOf_6 : decode cX4_authorOf 6 = .ok (.getfield 25, 3) := by decide +kernel
theorem dX4_authorOf_9 : decode cX4_authorOf 9 = .ok (.iload_n 1, 1) := by decide +kernel
theorem dX4_authorOf_10 : decode cX4_authorOf 10 = .ok (.invokevirtual 107, 3) := by decide +kernel
theorem dX4_authorOf_13 : decode cX4_authorOf 13 = .ok (.ireturn, 1) := by decide +kernel
set_option maxRecDepth 20000 in
theorem ggX4_originOf_X4_checkEntry : GoodIn wsX4_originOf wsX4_checkEntry := goodIn_ca (goodIn_r _ [6, 7, 8, 1, 9, 10, 11, 12, 13, 14, 21, 22, 23, 24, 25, 26, 27, 28, 29, 30, 31, 32] (by decide +kernel) (by decide +kernel)) (goodIn_sub (fun _ h => List.mem_cons_of_mem _ (List.mem_append_right _ h)) (by decide +kernel))
set_option maxRecDepth 20000 in
theorem gX4_originOf_X4_checkEntry : GoodIn wsX4_originOf (wsV RX4 95 RX4 yX4_checkEntry wsX4_checkEntry) := goodIn_app (goodIn_of _ (by decide +kernel)) ggX4_originOf_X4_checkEntry
set_option maxRecDepth 20000 in
theorem ggX4_originOf_X0_origin : GoodIn wsX4_originOf wsX0_origin := goodIn_r _ [18, 19, 20, 10, 11, 12, 13, 14, 29, 30, 31, 32] (by decide +kernel) (by decide +kernel)
set_option maxRecDepth 20000 in
theorem gX4_originOf_X0_origin : GoodIn wsX4_originOf (wsV RX4 98 RX0 yX0_origin wsX0_origin) := goodIn_app (goodIn_of _ (by decide +kernel)) ggX4_originOf_X0_origin
theorem dX4_originOf_0 : decode cX4_originOf 0 = .ok (.aload_n 0, 1) := by decide +kernel
theorem dX4_originOf_1 : decode cX4_originOf 1 = .ok (.iload_n 1, 1) := by decide +kernel
theorem dX4_originOf_2 : decode cX4_originOf 2 = .ok (.invokevirtual 95, 3) := by decide +kernel
theorem dX4_originOf_5 : decode cX4_originOf 5 = .ok (.aload_n 0, 1) := by decide +kernel
theorem dX4_originOf_6 : decode cX4_originOf 6 = .ok (.getfield 25, 3) := by decide +kernel
theorem dX4_originOf_9 : decode cX4_originOf 9 = .ok (.iload_n 1, 1) := by decide +kernel
theorem dX4_originOf_10 : decode cX4_originOf 10 = .ok (.invokevirtual 98, 3) := by decide +kernel
theorem dX4_originOf_13 : decode cX4_originOf 13 = .ok (.ireturn, 1) := by decide +kernel
set_option maxRecDepth 20000 in
theorem ggX4_follows_X4_checkPerson : GoodIn wsX4_follows wsX4_checkPerson := goodIn_ca (goodIn_r _ [5, 6, 7, 8, 9, 4, 10] (by decide +kernel) (by decide +kernel)) (goodIn_sub (fun _ h => List.mem_cons_of_mem _ (List.mem_append_right _ h)) (by decide +kernel))
set_option maxRecDepth 20000 in
theorem gX4_follows_X4_checkPerson : GoodIn wsX4_follows (va_wsS RX4 52 yX4_checkPerson wsX4_checkPerson) := goodIn_app (goodIn_of _ (by decide +kernel)) ggX4_follows_X4_checkPerson
set_option maxRecDepth 20000 in
theorem ggX4_follows_X1_has : GoodIn wsX4_follows wsX1_has := goodIn_r _ [15, 16, 9, 4, 10, 25] (by decide +kernel) (by decide +kernel)
set_option maxRecDepth 20000 in
theorem gX4_follows_X1_has : GoodIn wsX4_follows (wsV RX4 59 RX1 yX1_has wsX1_has) := goodIn_app (goodIn_of _ (by decide +kernel)) ggX4_follows_X1_has
theorem dX4_follows_0 : decode cX4_follows 0 = .ok (.iload_n 1, 1) := by decide +kernel
theorem dX4_follows_1 : decode cX4_follows 1 = .ok (.invokestatic 52, 3) := by decide +kernel
theorem dX4_follows_4 : decode cX4_follows 4 = .ok (.iload_n 2, 1) := by decide +kernel
theorem dX4_follows_5 : decode cX4_follows 5 = .ok (.invokestatic 52, 3) := by decide +kernel
theorem dX4_follows_8 : decode cX4_follows 8 = .ok (.aload_n 0, 1) := by decide +kernel
theorem dX4_follows_9 : decode cX4_follows 9 = .ok (.getfield 10, 3) := by decide +kernel
theorem dX4_follows_12 : decode cX4_follows 12 = .ok (.iload_n 1, 1) := by decide +kernel
theorem dX4_follows_13 : decode cX4_follows 13 = .ok (.iload_n 2, 1) := by decide +kernel
theorem dX4_follows_14 : decode cX4_follows 14 = .ok (.invokevirtual 59, 3) := by decide +kernel
theorem dX4_follows_17 : decode cX4_follows 17 = .ok (.ireturn, 1) := by decide +kernel
set_option maxRecDepth 20000 in
theorem ggX4_followers_X4_checkPerson : GoodIn wsX4_followers wsX4_checkPerson := goodIn_ca (goodIn_r _ [5, 6, 7, 8, 9, 4, 10] (by decide +kernel) (by decide +kernel)) (goodIn_sub (fun _ h => List.mem_cons_of_mem _ (List.mem_append_right _ h)) (by decide +kernel))
set_option maxRecDepth 20000 in
theorem gX4_followers_X4_checkPerson : GoodIn wsX4_followers (va_wsS RX4 52 yX4_checkPerson wsX4_checkPerson) := goodIn_app (goodIn_of _ (by decide +kernel)) ggX4_followers_X4_checkPerson
set_option maxRecDepth 20000 in
theorem ggX4_followers_X1_countTo : GoodIn wsX4_followers wsX1_countTo := goodIn_r _ [15, 16, 17, 18, 14, 19, 20, 9, 4, 10, 29] (by decide +kernel) (by decide +kernel)
set_option maxRecDepth 20000 in
theorem gX4_followers_X1_countTo : GoodIn wsX4_followers (wsV RX4 79 RX1 yX1_countTo wsX1_countTo) := goodIn_app (goodIn_of _ (by decide +kernel)) ggX4_followers_X1_countTo
theorem dX4_followers_0 : decode cX4_followers 0 = .ok (.iload_n 1, 1) := by decide +kernel
theorem dX4_followers_1 : decode cX4_followers 1 = .ok (.invokestatic 52, 3) := by decide +kernel
theorem dX4_followers_4 : decode cX4_followers 4 = .ok (.aload_n 0, 1) := by decide +kernel
theorem dX4_followers_5 : decode cX4_followers 5 = .ok (.getfield 10, 3) := by decide +kernel
theorem dX4_followers_8 : decode cX4_followers 8 = .ok (.iload_n 1, 1) := by decide +kernel
theorem dX4_followers_9 : decode cX4_followers 9 = .ok (.invokevirtual 79, 3) := by decide +kernel
theorem dX4_followers_12 : decode cX4_followers 12 = .ok (.ireturn, 1) := by decide +kernel
set_option maxRecDepth 20000 in
theorem ggX4_isLarge_X4_checkPerson : GoodIn wsX4_isLarge wsX4_checkPerson := goodIn_ca (goodIn_r _ [4, 5, 6, 7, 8, 3, 9] (by decide +kernel) (by decide +kernel)) (goodIn_sub (fun _ h => List.mem_cons_of_mem _ (List.mem_append_right _ h)) (by decide +kernel))
set_option maxRecDepth 20000 in
theorem gX4_isLarge_X4_checkPerson : GoodIn wsX4_isLarge (va_wsS RX4 52 yX4_checkPerson wsX4_checkPerson) := goodIn_app (goodIn_of _ (by decide +kernel)) ggX4_isLarge_X4_checkPerson
set_option maxRecDepth 20000 in
theorem ggX4_isLarge_X4_isOverMark : GoodIn wsX4_isLarge wsX4_isOverMark := goodIn_r _ [13, 14, 15, 16, 17, 18, 19, 20, 21, 22, 23, 24, 25, 8, 3, 9, 26, 27, 28, 29, 30, 31, 32, 33, 34] (by decide +kernel) (by decide +kernel)
set_option maxRecDepth 20000 in
theorem gX4_isLarge_X4_isOverMark : GoodIn wsX4_isLarge (wsV RX4 127 RX4 yX4_isOverMark wsX4_isOverMark) := goodIn_app (goodIn_of _ (by decide +kernel)) ggX4_isLarge_X4_isOverMark
theorem dX4_isLarge_0 : decode cX4_isLarge 0 = .ok (.iload_n 1, 1) := by decide +kernel
theorem dX4_isLarge_1 : decode cX4_isLarge 1 = .ok (.invokestatic 52, 3) := by decide +kernel
theorem dX4_isLarge_4 : decode cX4_isLarge 4 = .ok (.aload_n 0, 1) := by decide +kernel
theorem dX4_isLarge_5 : decode cX4_isLarge 5 = .ok (.iload_n 1, 1) := by decide +kernel
theorem dX4_isLarge_6 : decode cX4_isLarge 6 = .ok (.invokevirtual 127, 3) := by decide +kernel
theorem dX4_isLarge_9 : decode cX4_isLarge 9 = .ok (.ireturn, 1) := by decide +kernel
set_option maxRecDepth 20000 in
theorem ggX4_inRow_X4_rowOf : GoodIn wsX4_inRow wsX4_rowOf := goodIn_ca (goodIn_r _ [5, 6, 7, 8, 4, 9, 10, 11, 12, 13, 14, 21, 22, 23, 24, 25, 26, 27, 28] (by decide +kernel) (by decide +kernel)) (goodIn_sub (fun _ h => List.mem_cons_of_mem _ (List.mem_append_right _ h)) (by decide +kernel))
set_option maxRecDepth 20000 in
theorem gX4_inRow_X4_rowOf : GoodIn wsX4_inRow (wsV RX4 130 RX4 yX4_rowOf wsX4_rowOf) := goodIn_app (goodIn_of _ (by decide +kernel)) ggX4_inRow_X4_rowOf
set_option maxRecDepth 20000 in
theorem ggX4_inRow_X2_count : GoodIn wsX4_inRow wsX2_count := goodIn_r _ [19, 20, 29, 30, 31, 32] (by decide +kernel) (by decide +kernel)
set_option maxRecDepth 20000 in
theorem gX4_inRow_X2_count : GoodIn wsX4_inRow (wsV RX4 134 RX2 yX2_count wsX2_count) := goodIn_app (goodIn_of _ (by decide +kernel)) ggX4_inRow_X2_count
theorem dX4_inRow_0 : decode cX4_inRow 0 = .ok (.aload_n 0, 1) := by decide +kernel
theorem dX4_inRow_1 : decode cX4_inRow 1 = .ok (.iload_n 1, 1) := by decide +kernel
theorem dX4_inRow_2 : decode cX4_inRow 2 = .ok (.invokevirtual 130, 3) := by decide +kernel
theorem dX4_inRow_5 : decode cX4_inRow 5 = .ok (.invokevirtual 134, 3) := by decide +kernel
theorem dX4_inRow_8 : decode cX4_inRow 8 = .ok (.ireturn, 1) := by decide +kernel
set_option maxRecDepth 20000 in
theorem ggX4_rowAt_X4_rowOf : GoodIn wsX4_rowAt wsX4_rowOf := goodIn_ca (goodIn_r _ [7, 8, 9, 10, 6, 11, 1, 2, 12, 13, 14, 26, 27, 28, 29, 30, 31, 32, 33] (by decide +kernel) (by decide +kernel)) (goodIn_sub (fun _ h => List.mem_cons_of_mem _ (List.mem_append_right _ h)) (by decide +kernel))
set_option maxRecDepth 20000 in
theorem gX4_rowAt_X4_rowOf : GoodIn wsX4_rowAt (wsV RX4 130 RX4 yX4_rowOf wsX4_rowOf) := goodIn_app (goodIn_of _ (by decide +kernel)) ggX4_rowAt_X4_rowOf
set_option maxRecDepth 20000 in
theorem ggX4_rowAt_X2_count : GoodIn wsX4_rowAt wsX2_count := goodIn_r _ [19, 20, 34, 35, 36, 37] (by decide +kernel) (by decide +kernel)
set_option maxRecDepth 20000 in
theorem gX4_rowAt_X2_count : GoodIn wsX4_rowAt (wsV RX4 134 RX2 yX2_count wsX2_count) := goodIn_app (goodIn_of _ (by decide +kernel)) ggX4_rowAt_X2_count
set_option maxRecDepth 20000 in
theorem ggX4_rowAt_X2_fromNewest : GoodIn wsX4_rowAt wsX2_fromNewest := goodIn_r _ [24, 20, 25, 34, 35, 36, 37] (by decide +kernel) (by decide +kernel)
set_option maxRecDepth 20000 in
theorem gX4_rowAt_X2_fromNewest : GoodIn wsX4_rowAt (wsV RX4 142 RX2 yX2_fromNewest wsX2_fromNewest) := goodIn_app (goodIn_of _ (by decide +kernel)) ggX4_rowAt_X2_fromNewest
theorem dX4_rowAt_0 : decode cX4_rowAt 0 = .ok (.aload_n 0, 1) := by decide +kernel
theorem dX4_rowAt_1 : decode cX4_rowAt 1 = .ok (.iload_n 1, 1) := by decide +kernel
theorem dX4_rowAt_2 : decode cX4_rowAt 2 = .ok (.invokevirtual 130, 3) := by decide +kernel
theorem dX4_rowAt_5 : decode cX4_rowAt 5 = .ok (.astore_n 3, 1) := by decide +kernel
theorem dX4_rowAt_6 : decode cX4_rowAt 6 = .ok (.iload_n 2, 1) := by decide +kernel
theorem dX4_rowAt_7 : decode cX4_rowAt 7 = .ok (.ifCond .lt 11, 3) := by decide +kernel
theorem dX4_rowAt_10 : decode cX4_rowAt 10 = .ok (.iload_n 2, 1) := by decide +kernel
theorem dX4_rowAt_11 : decode cX4_rowAt 11 = .ok (.aload_n 3, 1) := by decide +kernel
theorem dX4_rowAt_12 : decode cX4_rowAt 12 = .ok (.invokevirtual 134, 3) := by decide +kernel
theorem dX4_rowAt_15 : decode cX4_rowAt 15 = .ok (.if_icmp .lt 13, 3) := by decide +kernel
theorem dX4_rowAt_18 : decode cX4_rowAt 18 = .ok (.new 137, 3) := by decide +kernel
theorem dX4_rowAt_21 : decode cX4_rowAt 21 = .ok (.dup, 1) := by decide +kernel
theorem dX4_rowAt_22 : decode cX4_rowAt 22 = .ok (.ldc 139, 2) := by decide +kernel
theorem dX4_rowAt_24 : decode cX4_rowAt 24 = .ok (.invokespecial 141, 3) := by decide +kernel
theorem dX4_rowAt_27 : decode cX4_rowAt 27 = .ok (.athrow, 1) := by decide +kernel
theorem dX4_rowAt_28 : decode cX4_rowAt 28 = .ok (.aload_n 3, 1) := by decide +kernel
theorem dX4_rowAt_29 : decode cX4_rowAt 29 = .ok (.aload_n 3, 1) := by decide +kernel
theorem dX4_rowAt_30 : decode cX4_rowAt 30 = .ok (.invokevirtual 134, 3) := by decide +kernel
theorem dX4_rowAt_33 : decode cX4_rowAt 33 = .ok (.iconst 1, 1) := by decide +kernel
theorem dX4_rowAt_34 : decode cX4_rowAt 34 = .ok (.isub, 1) := by decide +kernel
theorem dX4_rowAt_35 : decode cX4_rowAt 35 = .ok (.iload_n 2, 1) := by decide +kernel
theorem dX4_rowAt_36 : decode cX4_rowAt 36 = .ok (.isub, 1) := by decide +kernel
theorem dX4_rowAt_37 : decode cX4_rowAt 37 = .ok (.invokevirtual 142, 3) := by decide +kernel
theorem dX4_rowAt_40 : decode cX4_rowAt 40 = .ok (.ireturn, 1) := by decide +kernel
set_option maxRecDepth 20000 in
theorem ggX4_floorOf_X4_rowOf : GoodIn wsX4_floorOf wsX4_rowOf := goodIn_ca (goodIn_r _ [5, 6, 7, 8, 4, 9, 10, 11, 12, 13, 14, 21, 22, 23, 24, 25, 26, 27, 28] (by decide +kernel) (by decide +kernel)) (goodIn_sub (fun _ h => List.mem_cons_of_mem _ (List.mem_append_right _ h)) (by decide +kernel))
set_option maxRecDepth 20000 in
theorem gX4_floorOf_X4_rowOf : GoodIn wsX4_floorOf (wsV RX4 130 RX4 yX4_rowOf wsX4_rowOf) := goodIn_app (goodIn_of _ (by decide +kernel)) ggX4_floorOf_X4_rowOf
set_option maxRecDepth 20000 in
theorem ggX4_floorOf_X2_floor : GoodIn wsX4_floorOf wsX2_floor := goodIn_r _ [19, 20, 29, 30, 31, 32] (by decide +kernel) (by decide +kernel)
set_option maxRecDepth 20000 in
theorem gX4_floorOf_X2_floor : GoodIn wsX4_floorOf (wsV RX4 145 RX2 yX2_floor wsX2_floor) := goodIn_app (goodIn_of _ (by decide +kernel)) ggX4_floorOf_X2_floor
theorem dX4_floorOf_0 : decode cX4_floorOf 0 = .ok (.aload_n 0, 1) := by decide +kernel
theorem dX4_floorOf_1 : decode cX4_floorOf 1 = .ok (.iload_n 1, 1) := by decide +kernel
theorem dX4_floorOf_2 : decode cX4_floorOf 2 = .ok (.invokevirtual 130, 3) := by decide +kernel
theorem dX4_floorOf_5 : decode cX4_floorOf 5 = .ok (.invokevirtual 145, 3) := by decide +kernel
theorem dX4_floorOf_8 : decode cX4_floorOf 8 = .ok (.ireturn, 1) := by decide +kernel
set_option maxRecDepth 20000 in
theorem ggX4_shows_X4_rowOf : GoodIn wsX4_shows wsX4_rowOf := goodIn_ca (goodIn_r _ [6, 7, 8, 9, 5, 10, 11, 12, 13, 14, 15, 120, 121, 122, 123, 124, 125, 126, 127] (by decide +kernel) (by decide +kernel)) (goodIn_sub (fun _ h => List.mem_cons_of_mem _ (List.mem_append_right _ h)) (by decide +kernel))
set_option maxRecDepth 20000 in
theorem gX4_shows_X4_rowOf : GoodIn wsX4_shows (wsV RX4 130 RX4 yX4_rowOf wsX4_rowOf) := goodIn_app (goodIn_of _ (by decide +kernel)) ggX4_shows_X4_rowOf
set_option maxRecDepth 20000 in
theorem ggX4_shows_X4_checkEntry : GoodIn wsX4_shows wsX4_checkEntry := goodIn_ca (goodIn_r _ [19, 11, 12, 20, 21, 22, 23, 24, 25, 26, 120, 121, 122, 123, 124, 125, 126, 127, 128, 129, 130, 131] (by decide +kernel) (by decide +kernel)) (goodIn_sub (fun _ h => List.mem_cons_of_mem _ (List.mem_append_right _ h)) (by decide +kernel))
set_option maxRecDepth 20000 in
theorem gX4_shows_X4_checkEntry : GoodIn wsX4_shows (wsV RX4 95 RX4 yX4_checkEntry wsX4_checkEntry) := goodIn_app (goodIn_of _ (by decide +kernel)) ggX4_shows_X4_checkEntry
set_option maxRecDepth 20000 in
theorem ggX4_shows_X4_readTimeline : GoodIn wsX4_shows wsX4_readTimeline := goodIn_r _ [30, 1, 20, 31, 32, 33, 34, 35, 36, 37, 38, 39, 40, 24, 41, 26, 42, 43, 44, 45, 46, 47, 48, 49, 50, 51, 52, 53, 54, 55, 56, 57, 58, 59, 60, 61, 5, 62, 63, 64, 65, 66, 67, 68, 69, 22, 23, 25, 70, 71, 72, 73, 74, 75, 14, 15, 76, 77, 78, 79, 80, 81, 82, 83, 84, 85, 86, 87, 88, 89, 90, 91, 92, 93, 94, 95, 96, 97, 98, 99, 100, 101, 102, 103, 104, 105, 106, 107, 108, 109, 110, 120, 121, 122, 123, 124, 125, 126, 127, 132, 133, 134, 128, 129, 130, 131, 135, 136, 137, 138, 139] (by decide +kernel) (by decide +kernel)
set_option maxRecDepth 20000 in
theorem gX4_shows_X4_readTimeline : GoodIn wsX4_shows (wsV RX4 148 RX4 yX4_readTimeline wsX4_readTimeline) := goodIn_app (goodIn_of _ (by decide +kernel)) ggX4_shows_X4_readTimeline
set_option maxRecDepth 20000 in
theorem ggX4_shows_X3_placeBelow : GoodIn wsX4_shows wsX3_placeBelow := goodIn_r _ [114, 36, 115, 116, 117, 34, 118, 110, 132, 133, 134] (by decide +kernel) (by decide +kernel)
set_option maxRecDepth 20000 in
theorem gX4_shows_X3_placeBelow : GoodIn wsX4_shows (wsV RX4 152 RX3 yX3_placeBelow wsX3_placeBelow) := goodIn_app (goodIn_of _ (by decide +kernel)) ggX4_shows_X3_placeBelow
set_option maxRecDepth 20000 in
theorem ggX4_shows_X3_at : GoodIn wsX4_shows wsX3_at := goodIn_r _ [118, 36, 110, 132, 133, 134] (by decide +kernel) (by decide +kernel)
set_option maxRecDepth 20000 in
theorem gX4_shows_X3_at : GoodIn wsX4_shows (wsV RX4 155 RX3 yX3_at wsX3_at) := goodIn_app (goodIn_of _ (by decide +kernel)) ggX4_shows_X3_at
theorem dX4_shows_0 : decode cX4_shows 0 = .ok (.aload_n 0, 1) := by decide +kernel
theorem dX4_shows_1 : decode cX4_shows 1 = .ok (.iload_n 1, 1) := by decide +kernel
theorem dX4_shows_2 : decode cX4_shows 2 = .ok (.invokevirtual 130, 3) := by decide +kernel
theorem dX4_shows_5 : decode cX4_shows 5 = .ok (.astore_n 3, 1) := by decide +kernel
theorem dX4_shows_6 : decode cX4_shows 6 = .ok (.aload_n 0, 1) := by decide +kernel
theorem dX4_shows_7 : decode cX4_shows 7 = .ok (.iload_n 2, 1) := by decide +kernel
theorem dX4_shows_8 : decode cX4_shows 8 = .ok (.invokevirtual 95, 3) := by decide +kernel
theorem dX4_shows_11 : decode cX4_shows 11 = .ok (.aload_n 0, 1) := by decide +kernel
theorem dX4_shows_12 : decode cX4_shows 12 = .ok (.aload_n 3, 1) := by decide +kernel
theorem dX4_shows_13 : decode cX4_shows 13 = .ok (.invokevirtual 148, 3) := by decide +kernel
theorem dX4_shows_16 : decode cX4_shows 16 = .ok (.aload_n 0, 1) := by decide +kernel
theorem dX4_shows_17 : decode cX4_shows 17 = .ok (.getfield 38, 3) := by decide +kernel
theorem dX4_shows_20 : decode cX4_shows 20 = .ok (.aload_n 0, 1) := by decide +kernel
theorem dX4_shows_21 : decode cX4_shows 21 = .ok (.getfield 38, 3) := by decide +kernel
theorem dX4_shows_24 : decode cX4_shows 24 = .ok (.iload_n 2, 1) := by decide +kernel
theorem dX4_shows_25 : decode cX4_shows 25 = .ok (.iconst 1, 1) := by decide +kernel
theorem dX4_shows_26 : decode cX4_shows 26 = .ok (.iadd, 1) := by decide +kernel
theorem dX4_shows_27 : decode cX4_shows 27 = .ok (.invokevirtual 152, 3) := by decide +kernel
theorem dX4_shows_30 : decode cX4_shows 30 = .ok (.invokevirtual 155, 3) := by decide +kernel
theorem dX4_shows_33 : decode cX4_shows 33 = .ok (.iload_n 2, 1) := by decide +kernel
theorem dX4_shows_34 : decode cX4_shows 34 = .ok (.if_icmp .ne 7, 3) := by decide +kernel
theorem dX4_shows_37 : decode cX4_shows 37 = .ok (.iconst 1, 1) := by decide +kernel
theorem dX4_shows_38 : decode cX4_shows 38 = .ok (.goto 4, 3) := by decide +kernel
theorem dX4_shows_41 : decode cX4_shows 41 = .ok (.iconst 0, 1) := by decide +kernel
theorem dX4_shows_42 : decode cX4_shows 42 = .ok (.ireturn, 1) := by decide +kernel
set_option maxRecDepth 20000 in
theorem ggX4_next_X4_rowOf : GoodIn wsX4_next wsX4_rowOf := goodIn_ca (goodIn_r _ [6, 7, 8, 9, 5, 10, 11, 12, 13, 14, 15, 120, 121, 122, 123, 124, 125, 126, 127] (by decide +kernel) (by decide +kernel)) (goodIn_sub (fun _ h => List.mem_cons_of_mem _ (List.mem_append_left _ (List.mem_append_right _ h))) (by decide +kernel))
set_option maxRecDepth 20000 in
theorem gX4_next_X4_rowOf : GoodIn wsX4_next (wsV RX4 130 RX4 yX4_rowOf wsX4_rowOf) := goodIn_app (goodIn_of _ (by decide +kernel)) ggX4_next_X4_rowOf
set_option maxRecDepth 20000 in
theorem ggX4_next_X4_checkRange : GoodIn wsX4_next wsX4_checkRange := goodIn_ca (goodIn_r _ [18, 19, 20] (by decide +kernel) (by decide +kernel)) (goodIn_sub (fun _ h => List.mem_cons_of_mem _ (List.mem_append_right _ h)) (by decide +kernel))
set_option maxRecDepth 20000 in
theorem gX4_next_X4_checkRange : GoodIn wsX4_next (va_wsS RX4 120 yX4_checkRange wsX4_checkRange) := goodIn_app (goodIn_of _ (by decide +kernel)) ggX4_next_X4_checkRange
set_option maxRecDepth 20000 in
theorem ggX4_next_X4_readTimeline : GoodIn wsX4_next wsX4_readTimeline := goodIn_r _ [24, 1, 25, 26, 27, 28, 29, 30, 31, 32, 33, 34, 35, 36, 37, 38, 39, 40, 41, 42, 43, 44, 45, 46, 47, 48, 49, 50, 51, 52, 53, 54, 55, 56, 57, 58, 5, 59, 60, 61, 62, 63, 64, 65, 66, 67, 68, 69, 70, 71, 72, 73, 74, 75, 14, 15, 76, 77, 78, 79, 80, 81, 82, 83, 84, 85, 86, 87, 88, 89, 90, 91, 92, 93, 94, 95, 96, 97, 98, 99, 100, 101, 102, 103, 104, 105, 106, 107, 108, 109, 110, 120, 121, 122, 123, 124, 125, 126, 127, 128, 129, 130, 131, 132, 133, 134, 135, 136, 137, 138, 139] (by decide +kernel) (by decide +kernel)
set_option maxRecDepth 20000 in
theorem gX4_next_X4_readTimeline : GoodIn wsX4_next (wsV RX4 148 RX4 yX4_readTimeline wsX4_readTimeline) := goodIn_app (goodIn_of _ (by decide +kernel)) ggX4_next_X4_readTimeline
set_option maxRecDepth 20000 in
theorem ggX4_next_X3_placeBelow : GoodIn wsX4_next wsX3_placeBelow := goodIn_r _ [114, 31, 115, 116, 117, 29, 118, 110, 128, 129, 130] (by decide +kernel) (by decide +kernel)
set_option maxRecDepth 20000 in
theorem gX4_next_X3_placeBelow : GoodIn wsX4_next (wsV RX4 152 RX3 yX3_placeBelow wsX3_placeBelow) := goodIn_app (goodIn_of _ (by decide +kernel)) ggX4_next_X3_placeBelow
set_option maxRecDepth 20000 in
theorem ggX4_next_X3_at : GoodIn wsX4_next wsX3_at := goodIn_r _ [118, 31, 110, 128, 129, 130] (by decide +kernel) (by decide +kernel)
set_option maxRecDepth 20000 in
theorem gX4_next_X3_at : GoodIn wsX4_next (wsV RX4 155 RX3 yX3_at wsX3_at) := goodIn_app (goodIn_of _ (by decide +kernel)) ggX4_next_X3_at
theorem dX4_next_0 : decode cX4_next 0 = .ok (.aload_n 0, 1) := by decide +kernel
theorem dX4_next_1 : decode cX4_next 1 = .ok (.iload_n 1, 1) := by decide +kernel
theorem dX4_next_2 : decode cX4_next 2 = .ok (.invokevirtual 130, 3) := by decide +kernel
theorem dX4_next_5 : decode cX4_next 5 = .ok (.astore_n 3, 1) := by decide +kernel
theorem dX4_next_6 : decode cX4_next 6 = .ok (.iload_n 2, 1) := by decide +kernel
theorem dX4_next_7 : decode cX4_next 7 = .ok (.iconst 0, 1) := by decide +kernel
theorem dX4_next_8 : decode cX4_next 8 = .ok (.sipush 150, 3) := by decide +kernel
theorem dX4_next_11 : decode cX4_next 11 = .ok (.invokestatic 120, 3) := by decide +kernel
theorem dX4_next_14 : decode cX4_next 14 = .ok (.aload_n 0, 1) := by decide +kernel
theorem dX4_next_15 : decode cX4_next 15 = .ok (.aload_n 3, 1) := by decide +kernel
theorem dX4_next_16 : decode cX4_next 16 = .ok (.invokevirtual 148, 3) := by decide +kernel
theorem dX4_next_19 : decode cX4_next 19 = .ok (.aload_n 0, 1) := by decide +kernel
theorem dX4_next_20 : decode cX4_next 20 = .ok (.getfield 38, 3) := by decide +kernel
theorem dX4_next_23 : decode cX4_next 23 = .ok (.aload_n 0, 1) := by decide +kernel
theorem dX4_next_24 : decode cX4_next 24 = .ok (.getfield 38, 3) := by decide +kernel
theorem dX4_next_27 : decode cX4_next 27 = .ok (.iload_n 2, 1) := by decide +kernel
theorem dX4_next_28 : decode cX4_next 28 = .ok (.invokevirtual 152, 3) := by decide +kernel
theorem dX4_next_31 : decode cX4_next 31 = .ok (.invokevirtual 155, 3) := by decide +kernel
theorem dX4_next_34 : decode cX4_next 34 = .ok (.ireturn, 1) := by decide +kernel
set_option maxRecDepth 20000 in
theorem ggX4_pageEnd_X4_rowOf : GoodIn wsX4_pageEnd wsX4_rowOf := goodIn_ca (goodIn_r _ [10, 11, 12, 13, 9, 14, 15, 16, 17, 18, 19, 128, 129, 130, 131, 132, 133, 134, 135] (by decide +kernel) (by decide +kernel)) (goodIn_sub (fun _ h => List.mem_cons_of_mem _ (List.mem_append_left _ (List.mem_append_right _ h))) (by decide +kernel))
set_option maxRecDepth 20000 in
theorem gX4_pageEnd_X4_rowOf : GoodIn wsX4_pageEnd (wsV RX4 130 RX4 yX4_rowOf wsX4_rowOf) := goodIn_app (goodIn_of _ (by decide +kernel)) ggX4_pageEnd_X4_rowOf
set_option maxRecDepth 20000 in
theorem ggX4_pageEnd_X4_checkRange : GoodIn wsX4_pageEnd wsX4_checkRange := goodIn_ca (goodIn_r _ [22, 23, 24] (by decide +kernel) (by decide +kernel)) (goodIn_sub (fun _ h => List.mem_cons_of_mem _ (List.mem_append_right _ h)) (by decide +kernel))
set_option maxRecDepth 20000 in
theorem gX4_pageEnd_X4_checkRange : GoodIn wsX4_pageEnd (va_wsS RX4 120 yX4_checkRange wsX4_checkRange) := goodIn_app (goodIn_of _ (by decide +kernel)) ggX4_pageEnd_X4_checkRange
set_option maxRecDepth 20000 in
theorem ggX4_pageEnd_X4_readTimeline : GoodIn wsX4_pageEnd wsX4_readTimeline := goodIn_r _ [28, 1, 29, 30, 31, 32, 33, 34, 35, 36, 37, 38, 39, 40, 41, 42, 43, 44, 45, 46, 47, 48, 49, 50, 51, 52, 53, 54, 55, 56, 57, 58, 59, 60, 61, 62, 9, 63, 64, 65, 66, 67, 68, 69, 70, 71, 72, 73, 74, 75, 76, 77, 78, 79, 18, 19, 80, 81, 82, 83, 84, 85, 86, 87, 88, 89, 90, 91, 92, 93, 94, 95, 96, 97, 98, 99, 100, 101, 102, 103, 104, 105, 106, 107, 108, 109, 110, 111, 112, 113, 114, 128, 129, 130, 131, 132, 133, 134, 135, 136, 137, 138, 139, 140, 141, 142, 143, 144, 145, 146, 147] (by decide +kernel) (by decide +kernel)
set_option maxRecDepth 20000 in
theorem gX4_pageEnd_X4_readTimeline : GoodIn wsX4_pageEnd (wsV RX4 148 RX4 yX4_readTimeline wsX4_readTimeline) := goodIn_app (goodIn_of _ (by decide +kernel)) ggX4_pageEnd_X4_readTimeline
set_option maxRecDepth 20000 in
theorem ggX4_pageEnd_X3_placeBelow : GoodIn wsX4_pageEnd wsX3_placeBelow := goodIn_r _ [118, 35, 119, 120, 121, 33, 122, 114, 136, 137, 138] (by decide +kernel) (by decide +kernel)
set_option maxRecDepth 20000 in
theorem gX4_pageEnd_X3_placeBelow : GoodIn wsX4_pageEnd (wsV RX4 152 RX3 yX3_placeBelow wsX3_placeBelow) := goodIn_app (goodIn_of _ (by decide +kernel)) ggX4_pageEnd_X3_placeBelow
set_option maxRecDepth 20000 in
theorem ggX4_pageEnd_X3_count : GoodIn wsX4_pageEnd wsX3_count := goodIn_r _ [126, 35, 136, 137, 138] (by decide +kernel) (by decide +kernel)
set_option maxRecDepth 20000 in
theorem gX4_pageEnd_X3_count : GoodIn wsX4_pageEnd (wsV RX4 158 RX3 yX3_count wsX3_count) := goodIn_app (goodIn_of _ (by decide +kernel)) ggX4_pageEnd_X3_count
set_option maxRecDepth 20000 in
theorem ggX4_pageEnd_X3_at : GoodIn wsX4_pageEnd wsX3_at := goodIn_r _ [122, 35, 114, 136, 137, 138] (by decide +kernel) (by decide +kernel)
set_option maxRecDepth 20000 in
theorem gX4_pageEnd_X3_at : GoodIn wsX4_pageEnd (wsV RX4 155 RX3 yX3_at wsX3_at) := goodIn_app (goodIn_of _ (by decide +kernel)) ggX4_pageEnd_X3_at
theorem dX4_pageEnd_0 : decode cX4_pageEnd 0 = .ok (.aload_n 0, 1) := by decide +kernel
theorem dX4_pageEnd_1 : decode cX4_pageEnd 1 = .ok (.iload_n 1, 1) := by decide +kernel
theorem dX4_pageEnd_2 : decode cX4_pageEnd 2 = .ok (.invokevirtual 130, 3) := by decide +kernel
theorem dX4_pageEnd_5 : decode cX4_pageEnd 5 = .ok (.astore 4, 2) := by decide +kernel
theorem dX4_pageEnd_7 : decode cX4_pageEnd 7 = .ok (.iload_n 2, 1) := by decide +kernel
theorem dX4_pageEnd_8 : decode cX4_pageEnd 8 = .ok (.iconst 0, 1) := by decide +kernel
theorem dX4_pageEnd_9 : decode cX4_pageEnd 9 = .ok (.sipush 150, 3) := by decide +kernel
theorem dX4_pageEnd_12 : decode cX4_pageEnd 12 = .ok (.invokestatic 120, 3) := by decide +kernel
theorem dX4_pageEnd_15 : decode cX4_pageEnd 15 = .ok (.iload_n 3, 1) := by decide +kernel
theorem dX4_pageEnd_16 : decode cX4_pageEnd 16 = .ok (.iconst 1, 1) := by decide +kernel
theorem dX4_pageEnd_17 : decode cX4_pageEnd 17 = .ok (.bipush 20, 2) := by decide +kernel
theorem dX4_pageEnd_19 : decode cX4_pageEnd 19 = .ok (.invokestatic 120, 3) := by decide +kernel
theorem dX4_pageEnd_22 : decode cX4_pageEnd 22 = .ok (.aload_n 0, 1) := by decide +kernel
theorem dX4_pageEnd_23 : decode cX4_pageEnd 23 = .ok (.aload 4, 2) := by decide +kernel
theorem dX4_pageEnd_25 : decode cX4_pageEnd 25 = .ok (.invokevirtual 148, 3) := by decide +kernel
theorem dX4_pageEnd_28 : decode cX4_pageEnd 28 = .ok (.aload_n 0, 1) := by decide +kernel
theorem dX4_pageEnd_29 : decode cX4_pageEnd 29 = .ok (.getfield 38, 3) := by decide +kernel
theorem dX4_pageEnd_32 : decode cX4_pageEnd 32 = .ok (.iload_n 2, 1) := by decide +kernel
theorem dX4_pageEnd_33 : decode cX4_pageEnd 33 = .ok (.invokevirtual 152, 3) := by decide +kernel
theorem dX4_pageEnd_36 : decode cX4_pageEnd 36 = .ok (.istore 5, 2) := by decide +kernel
theorem dX4_pageEnd_38 : decode cX4_pageEnd 38 = .ok (.iload 5, 2) := by decide +kernel
theorem dX4_pageEnd_40 : decode cX4_pageEnd 40 = .ok (.aload_n 0, 1) := by decide +kernel
theorem dX4_pageEnd_41 : decode cX4_pageEnd 41 = .ok (.getfield 38, 3) := by decide +kernel
theorem dX4_pageEnd_44 : decode cX4_pageEnd 44 = .ok (.invokevirtual 158, 3) := by decide +kernel
theorem dX4_pageEnd_47 : decode cX4_pageEnd 47 = .ok (.if_icmp .lt 5, 3) := by decide +kernel
theorem dX4_pageEnd_50 : decode cX4_pageEnd 50 = .ok (.iconst (-1), 1) := by decide +kernel
theorem dX4_pageEnd_51 : decode cX4_pageEnd 51 = .ok (.ireturn, 1) := by decide +kernel
theorem dX4_pageEnd_52 : decode cX4_pageEnd 52 = .ok (.aload_n 0, 1) := by decide +kernel
theorem dX4_pageEnd_53 : decode cX4_pageEnd 53 = .ok (.getfield 38, 3) := by decide +kernel
theorem dX4_pageEnd_56 : decode cX4_pageEnd 56 = .ok (.iload 5, 2) := by decide +kernel
theorem dX4_pageEnd_58 : decode cX4_pageEnd 58 = .ok (.iload_n 3, 1) := by decide +kernel
theorem dX4_pageEnd_59 : decode cX4_pageEnd 59 = .ok (.iadd, 1) := by decide +kernel
theorem dX4_pageEnd_60 : decode cX4_pageEnd 60 = .ok (.aload_n 0, 1) := by decide +kernel
theorem dX4_pageEnd_61 : decode cX4_pageEnd 61 = .ok (.getfield 38, 3) := by decide +kernel
theorem dX4_pageEnd_64 : decode cX4_pageEnd 64 = .ok (.invokevirtual 158, 3) := by decide +kernel
theorem dX4_pageEnd_67 : decode cX4_pageEnd 67 = .ok (.invokestatic 159, 3) := by decide +kernel
theorem dX4_pageEnd_70 : decode cX4_pageEnd 70 = .ok (.iconst 1, 1) := by decide +kernel
theorem dX4_pageEnd_71 : decode cX4_pageEnd 71 = .ok (.isub, 1) := by decide +kernel
theorem dX4_pageEnd_72 : decode cX4_pageEnd 72 = .ok (.invokevirtual 155, 3) := by decide +kernel
theorem dX4_pageEnd_75 : decode cX4_pageEnd 75 = .ok (.ireturn, 1) := by decide +kernel
set_option maxRecDepth 20000 in
theorem ggX4_length_X4_rowOf : GoodIn wsX4_length wsX4_rowOf := goodIn_ca (goodIn_r _ [6, 7, 8, 9, 5, 10, 11, 12, 13, 14, 15, 110, 111, 112, 113, 114, 115, 116, 117] (by decide +kernel) (by decide +kernel)) (goodIn_sub (fun _ h => List.mem_cons_of_mem _ (List.mem_append_right _ h)) (by decide +kernel))
set_option maxRecDepth 20000 in
theorem gX4_length_X4_rowOf : GoodIn wsX4_length (wsV RX4 130 RX4 yX4_rowOf wsX4_rowOf) := goodIn_app (goodIn_of _ (by decide +kernel)) ggX4_length_X4_rowOf
set_option maxRecDepth 20000 in
theorem ggX4_length_X4_readTimeline : GoodIn wsX4_length wsX4_readTimeline := goodIn_r _ [19, 1, 20, 21, 22, 23, 24, 25, 26, 27, 28, 29, 30, 31, 32, 33, 34, 35, 36, 37, 38, 39, 40, 41, 42, 43, 44, 45, 46, 47, 48, 49, 50, 51, 52, 53, 5, 54, 55, 56, 57, 58, 59, 60, 61, 62, 63, 64, 65, 66, 67, 68, 69, 70, 14, 15, 71, 72, 73, 74, 75, 76, 77, 78, 79, 80, 81, 82, 83, 84, 85, 86, 87, 88, 89, 90, 91, 92, 93, 94, 95, 96, 97, 98, 99, 100, 101, 102, 103, 104, 105, 110, 111, 112, 113, 114, 115, 116, 117, 118, 119, 120, 121, 122, 123, 124, 125, 126, 127, 128, 129] (by decide +kernel) (by decide +kernel)
set_option maxRecDepth 20000 in
theorem gX4_length_X4_readTimeline : GoodIn wsX4_length (wsV RX4 148 RX4 yX4_readTimeline wsX4_readTimeline) := goodIn_app (goodIn_of _ (by decide +kernel)) ggX4_length_X4_readTimeline
set_option maxRecDepth 20000 in
theorem ggX4_length_X3_count : GoodIn wsX4_length wsX3_count := goodIn_r _ [109, 26, 118, 119, 120] (by decide +kernel) (by decide +kernel)
set_option maxRecDepth 20000 in
theorem gX4_length_X3_count : GoodIn wsX4_length (wsV RX4 158 RX3 yX3_count wsX3_count) := goodIn_app (goodIn_of _ (by decide +kernel)) ggX4_length_X3_count
theorem dX4_length_0 : decode cX4_length 0 = .ok (.aload_n 0, 1) := by decide +kernel
theorem dX4_length_1 : decode cX4_length 1 = .ok (.aload_n 0, 1) := by decide +kernel
theorem dX4_length_2 : decode cX4_length 2 = .ok (.iload_n 1, 1) := by decide +kernel
theorem dX4_length_3 : decode cX4_length 3 = .ok (.invokevirtual 130, 3) := by decide +kernel
theorem dX4_length_6 : decode cX4_length 6 = .ok (.invokevirtual 148, 3) := by decide +kernel
theorem dX4_length_9 : decode cX4_length 9 = .ok (.aload_n 0, 1) := by decide +kernel
theorem dX4_length_10 : decode cX4_length 10 = .ok (.getfield 38, 3) := by decide +kernel
theorem dX4_length_13 : decode cX4_length 13 = .ok (.invokevirtual 158, 3) := by decide +kernel
theorem dX4_length_16 : decode cX4_length 16 = .ok (.ireturn, 1) := by decide +kernel
set_option maxRecDepth 20000 in
theorem ggX4_lengthByMerging_X4_rowOf : GoodIn wsX4_lengthByMerging wsX4_rowOf := goodIn_ca (goodIn_r _ [6, 7, 8, 9, 5, 10, 11, 12, 13, 14, 15, 85, 86, 87, 88, 89, 90, 91, 92] (by decide +kernel) (by decide +kernel)) (goodIn_sub (fun _ h => List.mem_cons_of_mem _ (List.mem_append_right _ h)) (by decide +kernel))
set_option maxRecDepth 20000 in
theorem gX4_lengthByMerging_X4_rowOf : GoodIn wsX4_lengthByMerging (wsV RX4 130 RX4 yX4_rowOf wsX4_rowOf) := goodIn_app (goodIn_of _ (by decide +kernel)) ggX4_lengthByMerging_X4_rowOf
set_option maxRecDepth 20000 in
theorem ggX4_lengthByMerging_X2_floor : GoodIn wsX4_lengthByMerging wsX2_floor := goodIn_r _ [20, 21, 93, 94, 95, 96] (by decide +kernel) (by decide +kernel)
set_option maxRecDepth 20000 in
theorem gX4_lengthByMerging_X2_floor : GoodIn wsX4_lengthByMerging (wsV RX4 145 RX2 yX2_floor wsX2_floor) := goodIn_app (goodIn_of _ (by decide +kernel)) ggX4_lengthByMerging_X2_floor
set_option maxRecDepth 20000 in
theorem ggX4_lengthByMerging_X4_mergeTimeline : GoodIn wsX4_lengthByMerging wsX4_mergeTimeline := goodIn_r _ [25, 1, 26, 27, 28, 29, 30, 31, 32, 33, 34, 35, 36, 37, 38, 39, 40, 41, 42, 43, 44, 45, 46, 47, 48, 49, 50, 51, 52, 53, 54, 55, 14, 5, 15, 56, 57, 58, 59, 60, 61, 62, 63, 64, 65, 66, 67, 68, 69, 70, 71, 72, 73, 74, 75, 76, 77, 78, 79, 80, 85, 86, 87, 88, 89, 90, 91, 92, 97, 98, 99, 100, 101, 102, 103, 104] (by decide +kernel) (by decide +kernel)
set_option maxRecDepth 20000 in
theorem gX4_lengthByMerging_X4_mergeTimeline : GoodIn wsX4_lengthByMerging (wsV RX4 165 RX4 yX4_mergeTimeline wsX4_mergeTimeline) := goodIn_app (goodIn_of _ (by decide +kernel)) ggX4_lengthByMerging_X4_mergeTimeline
set_option maxRecDepth 20000 in
theorem ggX4_lengthByMerging_X3_count : GoodIn wsX4_lengthByMerging wsX3_count := goodIn_r _ [84, 33, 97, 98, 99] (by decide +kernel) (by decide +kernel)
set_option maxRecDepth 20000 in
theorem gX4_lengthByMerging_X3_count : GoodIn wsX4_lengthByMerging (wsV RX4 158 RX3 yX3_count wsX3_count) := goodIn_app (goodIn_of _ (by decide +kernel)) ggX4_lengthByMerging_X3_count
theorem dX4_lengthByMerging_0 : decode cX4_lengthByMerging 0 = .ok (.aload_n 0, 1) := by decide +kernel
theorem dX4_lengthByMerging_1 : decode cX4_lengthByMerging 1 = .ok (.iload_n 1, 1) := by decide +kernel
theorem dX4_lengthByMerging_2 : decode cX4_lengthByMerging 2 = .ok (.aload_n 0, 1) := by decide +kernel
theorem dX4_lengthByMerging_3 : decode cX4_lengthByMerging 3 = .ok (.iload_n 1, 1) := by decide +kernel
theorem dX4_lengthByMerging_4 : decode cX4_lengthByMerging 4 = .ok (.invokevirtual 130, 3) := by decide +kernel
theorem dX4_lengthByMerging_7 : decode cX4_lengthByMerging 7 = .ok (.invokevirtual 145, 3) := by decide +kernel
theorem dX4_lengthByMerging_10 : decode cX4_lengthByMerging 10 = .ok (.invokevirtual 165, 3) := by decide +kernel
theorem dX4_lengthByMerging_13 : decode cX4_lengthByMerging 13 = .ok (.aload_n 0, 1) := by decide +kernel
theorem dX4_lengthByMerging_14 : decode cX4_lengthByMerging 14 = .ok (.getfield 38, 3) := by decide +kernel
theorem dX4_lengthByMerging_17 : decode cX4_lengthByMerging 17 = .ok (.invokevirtual 158, 3) := by decide +kernel
theorem dX4_lengthByMerging_20 : decode cX4_lengthByMerging 20 = .ok (.ireturn, 1) := by decide +kernel
set_option maxRecDepth 20000 in
theorem ggX4_hasGap_X4_rowOf : GoodIn wsX4_hasGap wsX4_rowOf := goodIn_ca (goodIn_r _ [7, 8, 9, 10, 6, 11, 12, 13, 14, 15, 16, 45, 46, 47, 48, 49, 50, 51, 52] (by decide +kernel) (by decide +kernel)) (goodIn_sub (fun _ h => List.mem_cons_of_mem _ (List.mem_append_right _ h)) (by decide +kernel))
set_option maxRecDepth 20000 in
theorem gX4_hasGap_X4_rowOf : GoodIn wsX4_hasGap (wsV RX4 130 RX4 yX4_rowOf wsX4_rowOf) := goodIn_app (goodIn_of _ (by decide +kernel)) ggX4_hasGap_X4_rowOf
set_option maxRecDepth 20000 in
theorem ggX4_hasGap_X2_floor : GoodIn wsX4_hasGap wsX2_floor := goodIn_r _ [21, 22, 53, 54, 55, 56] (by decide +kernel) (by decide +kernel)
set_option maxRecDepth 20000 in
theorem gX4_hasGap_X2_floor : GoodIn wsX4_hasGap (wsV RX4 145 RX2 yX2_floor wsX2_floor) := goodIn_app (goodIn_of _ (by decide +kernel)) ggX4_hasGap_X2_floor
set_option maxRecDepth 20000 in
theorem ggX4_hasGap_X0_stands : GoodIn wsX4_hasGap wsX0_stands := goodIn_r _ [27, 28, 29, 30, 31, 26, 32, 33, 57, 58, 59, 60] (by decide +kernel) (by decide +kernel)
set_option maxRecDepth 20000 in
theorem gX4_hasGap_X0_stands : GoodIn wsX4_hasGap (wsV RX4 101 RX0 yX0_stands wsX0_stands) := goodIn_app (goodIn_of _ (by decide +kernel)) ggX4_hasGap_X0_stands
set_option maxRecDepth 20000 in
theorem ggX4_hasGap_X0_author : GoodIn wsX4_hasGap wsX0_author := goodIn_r _ [37, 38, 29, 30, 31, 26, 32, 33, 57, 58, 59, 60] (by decide +kernel) (by decide +kernel)
set_option maxRecDepth 20000 in
theorem gX4_hasGap_X0_author : GoodIn wsX4_hasGap (wsV RX4 107 RX0 yX0_author wsX0_author) := goodIn_app (goodIn_of _ (by decide +kernel)) ggX4_hasGap_X0_author
set_option maxRecDepth 20000 in
theorem ggX4_hasGap_X1_has : GoodIn wsX4_hasGap wsX1_has := goodIn_r _ [43, 44, 15, 6, 16, 61] (by decide +kernel) (by decide +kernel)
set_option maxRecDepth 20000 in
theorem gX4_hasGap_X1_has : GoodIn wsX4_hasGap (wsV RX4 59 RX1 yX1_has wsX1_has) := goodIn_app (goodIn_of _ (by decide +kernel)) ggX4_hasGap_X1_has
theorem dX4_hasGap_0 : decode cX4_hasGap 0 = .ok (.aload_n 0, 1) := by decide +kernel
theorem dX4_hasGap_1 : decode cX4_hasGap 1 = .ok (.iload_n 1, 1) := by decide +kernel
theorem dX4_hasGap_2 : decode cX4_hasGap 2 = .ok (.invokevirtual 130, 3) := by decide +kernel
theorem dX4_hasGap_5 : decode cX4_hasGap 5 = .ok (.invokevirtual 145, 3) := by decide +kernel
theorem dX4_hasGap_8 : decode cX4_hasGap 8 = .ok (.istore_n 2, 1) := by decide +kernel
theorem dX4_hasGap_9 : decode cX4_hasGap 9 = .ok (.iconst 0, 1) := by decide +kernel
theorem dX4_hasGap_10 : decode cX4_hasGap 10 = .ok (.istore_n 3, 1) := by decide +kernel
theorem dX4_hasGap_11 : decode cX4_hasGap 11 = .ok (.iload_n 3, 1) := by decide +kernel
theorem dX4_hasGap_12 : decode cX4_hasGap 12 = .ok (.iload_n 2, 1) := by decide +kernel
theorem dX4_hasGap_13 : decode cX4_hasGap 13 = .ok (.if_icmp .gt 41, 3) := by decide +kernel
theorem dX4_hasGap_16 : decode cX4_hasGap 16 = .ok (.aload_n 0, 1) := by decide +kernel
theorem dX4_hasGap_17 : decode cX4_hasGap 17 = .ok (.getfield 25, 3) := by decide +kernel
theorem dX4_hasGap_20 : decode cX4_hasGap 20 = .ok (.iload_n 3, 1) := by decide +kernel
theorem dX4_hasGap_21 : decode cX4_hasGap 21 = .ok (.invokevirtual 101, 3) := by decide +kernel
theorem dX4_hasGap_24 : decode cX4_hasGap 24 = .ok (.ifCond .eq 24, 3) := by decide +kernel
theorem dX4_hasGap_27 : decode cX4_hasGap 27 = .ok (.aload_n 0, 1) := by decide +kernel
theorem dX4_hasGap_28 : decode cX4_hasGap 28 = .ok (.getfield 10, 3) := by decide +kernel
theorem dX4_hasGap_31 : decode cX4_hasGap 31 = .ok (.iload_n 1, 1) := by decide +kernel
theorem dX4_hasGap_32 : decode cX4_hasGap 32 = .ok (.aload_n 0, 1) := by decide +kernel
theorem dX4_hasGap_33 : decode cX4_hasGap 33 = .ok (.getfield 25, 3) := by decide +kernel
theorem dX4_hasGap_36 : decode cX4_hasGap 36 = .ok (.iload_n 3, 1) := by decide +kernel
theorem dX4_hasGap_37 : decode cX4_hasGap 37 = .ok (.invokevirtual 107, 3) := by decide +kernel
theorem dX4_hasGap_40 : decode cX4_hasGap 40 = .ok (.invokevirtual 59, 3) := by decide +kernel
theorem dX4_hasGap_43 : decode cX4_hasGap 43 = .ok (.ifCond .eq 5, 3) := by decide +kernel
theorem dX4_hasGap_46 : decode cX4_hasGap 46 = .ok (.iconst 1, 1) := by decide +kernel
theorem dX4_hasGap_47 : decode cX4_hasGap 47 = .ok (.ireturn, 1) := by decide +kernel
theorem dX4_hasGap_48 : decode cX4_hasGap 48 = .ok (.iinc 3 1, 3) := by decide +kernel
theorem dX4_hasGap_51 : decode cX4_hasGap 51 = .ok (.goto (-40), 3) := by decide +kernel
theorem dX4_hasGap_54 : decode cX4_hasGap 54 = .ok (.iconst 0, 1) := by decide +kernel
theorem dX4_hasGap_55 : decode cX4_hasGap 55 = .ok (.ireturn, 1) := by decide +kernel
theorem dX4_isPerson_0 : decode cX4_isPerson 0 = .ok (.iload_n 0, 1) := by decide +kernel
theorem dX4_isPerson_1 : decode cX4_isPerson 1 = .ok (.ifCond .lt 13, 3) := by decide +kernel
theorem dX4_isPerson_4 : decode cX4_isPerson 4 = .ok (.iload_n 0, 1) := by decide +kernel
theorem dX4_isPerson_5 : decode cX4_isPerson 5 = .ok (.bipush 8, 2) := by decide +kernel
theorem dX4_isPerson_7 : decode cX4_isPerson 7 = .ok (.if_icmp .ge 7, 3) := by decide +kernel
theorem dX4_isPerson_10 : decode cX4_isPerson 10 = .ok (.iconst 1, 1) := by decide +kernel
theorem dX4_isPerson_11 : decode cX4_isPerson 11 = .ok (.goto 4, 3) := by decide +kernel
theorem dX4_isPerson_14 : decode cX4_isPerson 14 = .ok (.iconst 0, 1) := by decide +kernel
theorem dX4_isPerson_15 : decode cX4_isPerson 15 = .ok (.ireturn, 1) := by decide +kernel
set_option maxRecDepth 20000 in
theorem ggX4_checkPerson_X4_isPerson : GoodIn wsX4_checkPerson wsX4_isPerson := goodIn_r _ [6] (by decide +kernel) (by decide +kernel)
set_option maxRecDepth 20000 in
theorem gX4_checkPerson_X4_isPerson : GoodIn wsX4_checkPerson (va_wsS RX4 168 yX4_isPerson wsX4_isPerson) := goodIn_app (goodIn_of _ (by decide +kernel)) ggX4_checkPerson_X4_isPerson
theorem dX4_checkPerson_0 : decode cX4_checkPerson 0 = .ok (.iload_n 0, 1) := by decide +kernel
theorem dX4_checkPerson_1 : decode cX4_checkPerson 1 = .ok (.invokestatic 168, 3) := by decide +kernel
theorem dX4_checkPerson_4 : decode cX4_checkPerson 4 = .ok (.ifCond .ne 13, 3) := by decide +kernel
theorem dX4_checkPerson_7 : decode cX4_checkPerson 7 = .ok (.new 137, 3) := by decide +kernel
theorem dX4_checkPerson_10 : decode cX4_checkPerson 10 = .ok (.dup, 1) := by decide +kernel
theorem dX4_checkPerson_11 : decode cX4_checkPerson 11 = .ok (.ldc 171, 2) := by decide +kernel
theorem dX4_checkPerson_13 : decode cX4_checkPerson 13 = .ok (.invokespecial 141, 3) := by decide +kernel
theorem dX4_checkPerson_16 : decode cX4_checkPerson 16 = .ok (.athrow, 1) := by decide +kernel
theorem dX4_checkPerson_17 : decode cX4_checkPerson 17 = .ok (.return_, 1) := by decide +kernel
theorem dX4_checkDifferent_0 : decode cX4_checkDifferent 0 = .ok (.iload_n 0, 1) := by decide +kernel
theorem dX4_checkDifferent_1 : decode cX4_checkDifferent 1 = .ok (.iload_n 1, 1) := by decide +kernel
theorem dX4_checkDifferent_2 : decode cX4_checkDifferent 2 = .ok (.if_icmp .ne 13, 3) := by decide +kernel
theorem dX4_checkDifferent_5 : decode cX4_checkDifferent 5 = .ok (.new 173, 3) := by decide +kernel
theorem dX4_checkDifferent_8 : decode cX4_checkDifferent 8 = .ok (.dup, 1) := by decide +kernel
theorem dX4_checkDifferent_9 : decode cX4_checkDifferent 9 = .ok (.ldc 175, 2) := by decide +kernel
theorem dX4_checkDifferent_11 : decode cX4_checkDifferent 11 = .ok (.invokespecial 177, 3) := by decide +kernel
theorem dX4_checkDifferent_14 : decode cX4_checkDifferent 14 = .ok (.athrow, 1) := by decide +kernel
theorem dX4_checkDifferent_15 : decode cX4_checkDifferent 15 = .ok (.return_, 1) := by decide +kernel
theorem dX4_checkRange_0 : decode cX4_checkRange 0 = .ok (.iload_n 0, 1) := by decide +kernel
theorem dX4_checkRange_1 : decode cX4_checkRange 1 = .ok (.iload_n 1, 1) := by decide +kernel
theorem dX4_checkRange_2 : decode cX4_checkRange 2 = .ok (.if_icmp .lt 8, 3) := by decide +kernel
theorem dX4_checkRange_5 : decode cX4_checkRange 5 = .ok (.iload_n 0, 1) := by decide +kernel
theorem dX4_checkRange_6 : decode cX4_checkRange 6 = .ok (.iload_n 2, 1) := by decide +kernel
theorem dX4_checkRange_7 : decode cX4_checkRange 7 = .ok (.if_icmp .le 13, 3) := by decide +kernel
theorem dX4_checkRange_10 : decode cX4_checkRange 10 = .ok (.new 173, 3) := by decide +kernel
theorem dX4_checkRange_13 : decode cX4_checkRange 13 = .ok (.dup, 1) := by decide +kernel
theorem dX4_checkRange_14 : decode cX4_checkRange 14 = .ok (.ldc 178, 2) := by decide +kernel
theorem dX4_checkRange_16 : decode cX4_checkRange 16 = .ok (.invokespecial 177, 3) := by decide +kernel
theorem dX4_checkRange_19 : decode cX4_checkRange 19 = .ok (.athrow, 1) := by decide +kernel
theorem dX4_checkRange_20 : decode cX4_checkRange 20 = .ok (.return_, 1) := by decide +kernel
set_option maxRecDepth 20000 in
theorem ggX4_checkEntry_X0_has : GoodIn wsX4_checkEntry wsX0_has := goodIn_r _ [8, 9, 18, 19, 20, 21] (by decide +kernel) (by decide +kernel)
set_option maxRecDepth 20000 in
theorem gX4_checkEntry_X0_has : GoodIn wsX4_checkEntry (wsV RX4 180 RX0 yX0_has wsX0_has) := goodIn_app (goodIn_of _ (by decide +kernel)) ggX4_checkEntry_X0_has
theorem dX4_checkEntry_0 : decode cX4_checkEntry 0 = .ok (.aload_n 0, 1) := by decide +kernel
theorem dX4_checkEntry_1 : decode cX4_checkEntry 1 = .ok (.getfield 25, 3) := by decide +kernel
theorem dX4_checkEntry_4 : decode cX4_checkEntry 4 = .ok (.iload_n 1, 1) := by decide +kernel
theorem dX4_checkEntry_5 : decode cX4_checkEntry 5 = .ok (.invokevirtual 180, 3) := by decide +kernel
theorem dX4_checkEntry_8 : decode cX4_checkEntry 8 = .ok (.ifCond .ne 13, 3) := by decide +kernel
theorem dX4_checkEntry_11 : decode cX4_checkEntry 11 = .ok (.new 137, 3) := by decide +kernel
theorem dX4_checkEntry_14 : decode cX4_checkEntry 14 = .ok (.dup, 1) := by decide +kernel
theorem dX4_checkEntry_15 : decode cX4_checkEntry 15 = .ok (.ldc 182, 2) := by decide +kernel
theorem dX4_checkEntry_17 : decode cX4_checkEntry 17 = .ok (.invokespecial 141, 3) := by decide +kernel
theorem dX4_checkEntry_20 : decode cX4_checkEntry 20 = .ok (.athrow, 1) := by decide +kernel
theorem dX4_checkEntry_21 : decode cX4_checkEntry 21 = .ok (.return_, 1) := by decide +kernel
set_option maxRecDepth 20000 in
theorem ggX4_checkPlace_X0_made : GoodIn wsX4_checkPlace wsX0_made := goodIn_r _ [8, 9, 18, 19, 20, 21] (by decide +kernel) (by decide +kernel)
set_option maxRecDepth 20000 in
theorem gX4_checkPlace_X0_made : GoodIn wsX4_checkPlace (wsV RX4 88 RX0 yX0_made wsX0_made) := goodIn_app (goodIn_of _ (by decide +kernel)) ggX4_checkPlace_X0_made
theorem dX4_checkPlace_0 : decode cX4_checkPlace 0 = .ok (.aload_n 0, 1) := by decide +kernel
theorem dX4_checkPlace_1 : decode cX4_checkPlace 1 = .ok (.getfield 25, 3) := by decide +kernel
theorem dX4_checkPlace_4 : decode cX4_checkPlace 4 = .ok (.invokevirtual 88, 3) := by decide +kernel
theorem dX4_checkPlace_7 : decode cX4_checkPlace 7 = .ok (.sipush 150, 3) := by decide +kernel
theorem dX4_checkPlace_10 : decode cX4_checkPlace 10 = .ok (.if_icmp .lt 13, 3) := by decide +kernel
theorem dX4_checkPlace_13 : decode cX4_checkPlace 13 = .ok (.new 63, 3) := by decide +kernel
theorem dX4_checkPlace_16 : decode cX4_checkPlace 16 = .ok (.dup, 1) := by decide +kernel
theorem dX4_checkPlace_17 : decode cX4_checkPlace 17 = .ok (.ldc 184, 2) := by decide +kernel
theorem dX4_checkPlace_19 : decode cX4_checkPlace 19 = .ok (.invokespecial 67, 3) := by decide +kernel
theorem dX4_checkPlace_22 : decode cX4_checkPlace 22 = .ok (.athrow, 1) := by decide +kernel
theorem dX4_checkPlace_23 : decode cX4_checkPlace 23 = .ok (.return_, 1) := by decide +kernel
set_option maxRecDepth 20000 in
theorem ggX4_rowOf_X4_checkPerson : GoodIn wsX4_rowOf wsX4_checkPerson := goodIn_ca (goodIn_r _ [5, 6, 7, 8, 9, 4, 10] (by decide +kernel) (by decide +kernel)) (goodIn_sub (fun _ h => List.mem_cons_of_mem _ (List.mem_append_right _ h)) (by decide +kernel))
set_option maxRecDepth 20000 in
theorem gX4_rowOf_X4_checkPerson : GoodIn wsX4_rowOf (va_wsS RX4 52 yX4_checkPerson wsX4_checkPerson) := goodIn_app (goodIn_of _ (by decide +kernel)) ggX4_rowOf_X4_checkPerson
theorem dX4_rowOf_0 : decode cX4_rowOf 0 = .ok (.iload_n 1, 1) := by decide +kernel
theorem dX4_rowOf_1 : decode cX4_rowOf 1 = .ok (.invokestatic 52, 3) := by decide +kernel
theorem dX4_rowOf_4 : decode cX4_rowOf 4 = .ok (.aload_n 0, 1) := by decide +kernel
theorem dX4_rowOf_5 : decode cX4_rowOf 5 = .ok (.getfield 31, 3) := by decide +kernel
theorem dX4_rowOf_8 : decode cX4_rowOf 8 = .ok (.iload_n 1, 1) := by decide +kernel
theorem dX4_rowOf_9 : decode cX4_rowOf 9 = .ok (.aaload, 1) := by decide +kernel
theorem dX4_rowOf_10 : decode cX4_rowOf 10 = .ok (.areturn, 1) := by decide +kernel
set_option maxRecDepth 20000 in
theorem ggX4_isOverMark_X1_countTo : GoodIn wsX4_isOverMark wsX1_countTo := goodIn_r _ [7, 8, 9, 10, 6, 11, 12, 13, 14, 15, 24] (by decide +kernel) (by decide +kernel)
set_option maxRecDepth 20000 in
theorem gX4_isOverMark_X1_countTo : GoodIn wsX4_isOverMark (wsV RX4 79 RX1 yX1_countTo wsX1_countTo) := goodIn_app (goodIn_of _ (by decide +kernel)) ggX4_isOverMark_X1_countTo
theorem dX4_isOverMark_0 : decode cX4_isOverMark 0 = .ok (.aload_n 0, 1) := by decide +kernel
theorem dX4_isOverMark_1 : decode cX4_isOverMark 1 = .ok (.getfield 10, 3) := by decide +kernel
theorem dX4_isOverMark_4 : decode cX4_isOverMark 4 = .ok (.iload_n 1, 1) := by decide +kernel
theorem dX4_isOverMark_5 : decode cX4_isOverMark 5 = .ok (.invokevirtual 79, 3) := by decide +kernel
theorem dX4_isOverMark_8 : decode cX4_isOverMark 8 = .ok (.aload_n 0, 1) := by decide +kernel
theorem dX4_isOverMark_9 : decode cX4_isOverMark 9 = .ok (.getfield 42, 3) := by decide +kernel
theorem dX4_isOverMark_12 : decode cX4_isOverMark 12 = .ok (.if_icmp .le 7, 3) := by decide +kernel
theorem dX4_isOverMark_15 : decode cX4_isOverMark 15 = .ok (.iconst 1, 1) := by decide +kernel
theorem dX4_isOverMark_16 : decode cX4_isOverMark 16 = .ok (.goto 4, 3) := by decide +kernel
theorem dX4_isOverMark_19 : decode cX4_isOverMark 19 = .ok (.iconst 0, 1) := by decide +kernel
theorem dX4_isOverMark_20 : decode cX4_isOverMark 20 = .ok (.ireturn, 1) := by decide +kernel
set_option maxRecDepth 20000 in
theorem ggX4_countLarge_X4_isOverMark : GoodIn wsX4_countLarge wsX4_isOverMark := goodIn_r _ [5, 6, 7, 8, 9, 10, 11, 12, 13, 14, 15, 16, 17, 18, 4, 19, 20, 21, 22, 23, 24, 25, 26, 27, 28] (by decide +kernel) (by decide +kernel)
set_option maxRecDepth 20000 in
theorem gX4_countLarge_X4_isOverMark : GoodIn wsX4_countLarge (wsV RX4 127 RX4 yX4_isOverMark wsX4_isOverMark) := goodIn_app (goodIn_of _ (by decide +kernel)) ggX4_countLarge_X4_isOverMark
theorem dX4_countLarge_0 : decode cX4_countLarge 0 = .ok (.iconst 0, 1) := by decide +kernel
theorem dX4_countLarge_1 : decode cX4_countLarge 1 = .ok (.istore_n 1, 1) := by decide +kernel
theorem dX4_countLarge_2 : decode cX4_countLarge 2 = .ok (.iconst 0, 1) := by decide +kernel
theorem dX4_countLarge_3 : decode cX4_countLarge 3 = .ok (.istore_n 2, 1) := by decide +kernel
theorem dX4_countLarge_4 : decode cX4_countLarge 4 = .ok (.iload_n 2, 1) := by decide +kernel
theorem dX4_countLarge_5 : decode cX4_countLarge 5 = .ok (.bipush 8, 2) := by decide +kernel
theorem dX4_countLarge_7 : decode cX4_countLarge 7 = .ok (.if_icmp .ge 20, 3) := by decide +kernel
theorem dX4_countLarge_10 : decode cX4_countLarge 10 = .ok (.aload_n 0, 1) := by decide +kernel
theorem dX4_countLarge_11 : decode cX4_countLarge 11 = .ok (.iload_n 2, 1) := by decide +kernel
theorem dX4_countLarge_12 : decode cX4_countLarge 12 = .ok (.invokevirtual 127, 3) := by decide +kernel
theorem dX4_countLarge_15 : decode cX4_countLarge 15 = .ok (.ifCond .eq 6, 3) := by decide +kernel
theorem dX4_countLarge_18 : decode cX4_countLarge 18 = .ok (.iinc 1 1, 3) := by decide +kernel
theorem dX4_countLarge_21 : decode cX4_countLarge 21 = .ok (.iinc 2 1, 3) := by decide +kernel
theorem dX4_countLarge_24 : decode cX4_countLarge 24 = .ok (.goto (-20), 3) := by decide +kernel
theorem dX4_countLarge_27 : decode cX4_countLarge 27 = .ok (.iload_n 1, 1) := by decide +kernel
theorem dX4_countLarge_28 : decode cX4_countLarge 28 = .ok (.ireturn, 1) := by decide +kernel
set_option maxRecDepth 20000 in
theorem ggX4_settleRows_X4_settleRow : GoodIn wsX4_settleRows wsX4_settleRow := goodIn_r _ [6, 7, 8, 9, 10, 11, 12, 13, 14, 15, 16, 17, 18, 19, 20, 21, 22, 23, 24, 25, 26, 27, 28, 29, 30, 31, 32, 33, 5, 34, 35, 36, 37, 38, 39, 40, 41, 42, 43, 44, 45, 46, 47, 48, 49, 50, 51, 52, 53, 54, 55, 56, 57, 58, 59, 60, 61, 62, 63, 64, 65, 66, 67, 68, 69, 70, 71, 72, 73, 74, 75, 76, 77, 78, 79, 80, 81, 82, 83, 84, 85, 86, 87, 88, 89, 90, 91, 92, 93, 94, 95, 96, 97] (by decide +kernel) (by decide +kernel)
set_option maxRecDepth 20000 in
theorem gX4_settleRows_X4_settleRow : GoodIn wsX4_settleRows (wsV RX4 186 RX4 yX4_settleRow wsX4_settleRow) := goodIn_app (goodIn_of _ (by decide +kernel)) ggX4_settleRows_X4_settleRow
theorem dX4_settleRows_0 : decode cX4_settleRows 0 = .ok (.aload_n 0, 1) := by decide +kernel
theorem dX4_settleRows_1 : decode cX4_settleRows 1 = .ok (.getfield 31, 3) := by decide +kernel
theorem dX4_settleRows_4 : decode cX4_settleRows 4 = .ok (.astore_n 1, 1) := by decide +kernel
theorem dX4_settleRows_5 : decode cX4_settleRows 5 = .ok (.aload_n 1, 1) := by decide +kernel
theorem dX4_settleRows_6 : decode cX4_settleRows 6 = .ok (.arraylength, 1) := by decide +kernel
theorem dX4_settleRows_7 : decode cX4_settleRows 7 = .ok (.istore_n 2, 1) := by decide +kernel
theorem dX4_settleRows_8 : decode cX4_settleRows 8 = .ok (.iconst 0, 1) := by decide +kernel
theorem dX4_settleRows_9 : decode cX4_settleRows 9 = .ok (.istore_n 3, 1) := by decide +kernel
theorem dX4_settleRows_10 : decode cX4_settleRows 10 = .ok (.iload_n 3, 1) := by decide +kernel
theorem dX4_settleRows_11 : decode cX4_settleRows 11 = .ok (.iload_n 2, 1) := by decide +kernel
theorem dX4_settleRows_12 : decode cX4_settleRows 12 = .ok (.if_icmp .ge 20, 3) := by decide +kernel
theorem dX4_settleRows_15 : decode cX4_settleRows 15 = .ok (.aload_n 1, 1) := by decide +kernel
theorem dX4_settleRows_16 : decode cX4_settleRows 16 = .ok (.iload_n 3, 1) := by decide +kernel
theorem dX4_settleRows_17 : decode cX4_settleRows 17 = .ok (.aaload, 1) := by decide +kernel
theorem dX4_settleRows_18 : decode cX4_settleRows 18 = .ok (.astore 4, 2) := by decide +kernel
theorem dX4_settleRows_20 : decode cX4_settleRows 20 = .ok (.aload_n 0, 1) := by decide +kernel
theorem dX4_settleRows_21 : decode cX4_settleRows 21 = .ok (.aload 4, 2) := by decide +kernel
theorem dX4_settleRows_23 : decode cX4_settleRows 23 = .ok (.invokevirtual 186, 3) := by decide +kernel
theorem dX4_settleRows_26 : decode cX4_settleRows 26 = .ok (.iinc 3 1, 3) := by decide +kernel
theorem dX4_settleRows_29 : decode cX4_settleRows 29 = .ok (.goto (-19), 3) := by decide +kernel
theorem dX4_settleRows_32 : decode cX4_settleRows 32 = .ok (.return_, 1) := by decide +kernel
set_option maxRecDepth 20000 in
theorem ggX4_settleRow_X2_floor : GoodIn wsX4_settleRow wsX2_floor := goodIn_r _ [7, 8, 84, 85, 86, 87] (by decide +kernel) (by decide +kernel)
set_option maxRecDepth 20000 in
theorem gX4_settleRow_X2_floor : GoodIn wsX4_settleRow (wsV RX4 145 RX2 yX2_floor wsX2_floor) := goodIn_app (goodIn_of _ (by decide +kernel)) ggX4_settleRow_X2_floor
set_option maxRecDepth 20000 in
theorem ggX4_settleRow_X2_empty : GoodIn wsX4_settleRow wsX2_empty := goodIn_r _ [12, 13, 84, 85, 86, 87] (by decide +kernel) (by decide +kernel)
set_option maxRecDepth 20000 in
theorem gX4_settleRow_X2_empty : GoodIn wsX4_settleRow (wsV RX4 189 RX2 yX2_empty wsX2_empty) := goodIn_app (goodIn_of _ (by decide +kernel)) ggX4_settleRow_X2_empty
set_option maxRecDepth 20000 in
theorem ggX4_settleRow_X0_made : GoodIn wsX4_settleRow wsX0_made := goodIn_r _ [18, 19, 88, 89, 90, 91] (by decide +kernel) (by decide +kernel)
set_option maxRecDepth 20000 in
theorem gX4_settleRow_X0_made : GoodIn wsX4_settleRow (wsV RX4 88 RX0 yX0_made wsX0_made) := goodIn_app (goodIn_of _ (by decide +kernel)) ggX4_settleRow_X0_made
set_option maxRecDepth 20000 in
theorem ggX4_settleRow_X2_owner : GoodIn wsX4_settleRow wsX2_owner := goodIn_r _ [23, 24, 84, 85, 86, 87] (by decide +kernel) (by decide +kernel)
set_option maxRecDepth 20000 in
theorem gX4_settleRow_X2_owner : GoodIn wsX4_settleRow (wsV RX4 192 RX2 yX2_owner wsX2_owner) := goodIn_app (goodIn_of _ (by decide +kernel)) ggX4_settleRow_X2_owner
set_option maxRecDepth 20000 in
theorem ggX4_settleRow_X4_isForRow : GoodIn wsX4_settleRow wsX4_isForRow := goodIn_r _ [29, 1, 30, 31, 32, 33, 17, 34, 35, 36, 37, 38, 39, 19, 40, 41, 42, 43, 44, 45, 46, 47, 48, 49, 50, 51, 28, 52, 53, 54, 55, 56, 57, 58, 59, 60, 61, 62, 76, 77, 78, 79, 80, 81, 82, 83, 88, 89, 90, 91, 92] (by decide +kernel) (by decide +kernel)
set_option maxRecDepth 20000 in
theorem gX4_settleRow_X4_isForRow : GoodIn wsX4_settleRow (wsV RX4 195 RX4 yX4_isForRow wsX4_isForRow) := goodIn_app (goodIn_of _ (by decide +kernel)) ggX4_settleRow_X4_isForRow
set_option maxRecDepth 20000 in
theorem ggX4_settleRow_X2_count : GoodIn wsX4_settleRow wsX2_count := goodIn_r _ [66, 13, 84, 85, 86, 87] (by decide +kernel) (by decide +kernel)
set_option maxRecDepth 20000 in
theorem gX4_settleRow_X2_count : GoodIn wsX4_settleRow (wsV RX4 134 RX2 yX2_count wsX2_count) := goodIn_app (goodIn_of _ (by decide +kernel)) ggX4_settleRow_X2_count
set_option maxRecDepth 20000 in
theorem ggX4_settleRow_X2_raiseFloor : GoodIn wsX4_settleRow wsX2_raiseFloor := goodIn_r _ [70, 8, 84, 85, 86, 87] (by decide +kernel) (by decide +kernel)
set_option maxRecDepth 20000 in
theorem gX4_settleRow_X2_raiseFloor : GoodIn wsX4_settleRow (wsV RX4 198 RX2 yX2_raiseFloor wsX2_raiseFloor) := goodIn_app (goodIn_of _ (by decide +kernel)) ggX4_settleRow_X2_raiseFloor
set_option maxRecDepth 20000 in
theorem ggX4_settleRow_X2_addBelow : GoodIn wsX4_settleRow wsX2_addBelow := goodIn_r _ [74, 13, 75, 84, 85, 86, 87] (by decide +kernel) (by decide +kernel)
set_option maxRecDepth 20000 in
theorem gX4_settleRow_X2_addBelow : GoodIn wsX4_settleRow (wsV RX4 201 RX2 yX2_addBelow wsX2_addBelow) := goodIn_app (goodIn_of _ (by decide +kernel)) ggX4_settleRow_X2_addBelow
theorem dX4_settleRow_0 : decode cX4_settleRow 0 = .ok (.aload_n 1, 1) := by decide +kernel
theorem dX4_settleRow_1 : decode cX4_settleRow 1 = .ok (.invokevirtual 145, 3) := by decide +kernel
theorem dX4_settleRow_4 : decode cX4_settleRow 4 = .ok (.istore_n 2, 1) := by decide +kernel
theorem dX4_settleRow_5 : decode cX4_settleRow 5 = .ok (.aload_n 1, 1) := by decide +kernel
theorem dX4_settleRow_6 : decode cX4_settleRow 6 = .ok (.invokevirtual 189, 3) := by decide +kernel
theorem dX4_settleRow_9 : decode cX4_settleRow 9 = .ok (.aload_n 0, 1) := by decide +kernel
theorem dX4_settleRow_10 : decode cX4_settleRow 10 = .ok (.getfield 25, 3) := by decide +kernel
theorem dX4_settleRow_13 : decode cX4_settleRow 13 = .ok (.invokevirtual 88, 3) := by decide +kernel
theorem dX4_settleRow_16 : decode cX4_settleRow 16 = .ok (.iconst 1, 1) := by decide +kernel
theorem dX4_settleRow_17 : decode cX4_settleRow 17 = .ok (.isub, 1) := by decide +kernel
theorem dX4_settleRow_18 : decode cX4_settleRow 18 = .ok (.istore_n 3, 1) := by decide +kernel
theorem dX4_settleRow_19 : decode cX4_settleRow 19 = .ok (.iload_n 3, 1) := by decide +kernel
theorem dX4_settleRow_20 : decode cX4_settleRow 20 = .ok (.iload_n 2, 1) := by decide +kernel
theorem dX4_settleRow_21 : decode cX4_settleRow 21 = .ok (.if_icmp .le 43, 3) := by decide +kernel
theorem dX4_settleRow_24 : decode cX4_settleRow 24 = .ok (.aload_n 0, 1) := by decide +kernel
theorem dX4_settleRow_25 : decode cX4_settleRow 25 = .ok (.aload_n 1, 1) := by decide +kernel
theorem dX4_settleRow_26 : decode cX4_settleRow 26 = .ok (.invokevirtual 192, 3) := by decide +kernel
theorem dX4_settleRow_29 : decode cX4_settleRow 29 = .ok (.iload_n 3, 1) := by decide +kernel
theorem dX4_settleRow_30 : decode cX4_settleRow 30 = .ok (.invokevirtual 195, 3) := by decide +kernel
theorem dX4_settleRow_33 : decode cX4_settleRow 33 = .ok (.ifCond .eq 25, 3) := by decide +kernel
theorem dX4_settleRow_36 : decode cX4_settleRow 36 = .ok (.aload_n 1, 1) := by decide +kernel
theorem dX4_settleRow_37 : decode cX4_settleRow 37 = .ok (.invokevirtual 134, 3) := by decide +kernel
theorem dX4_settleRow_40 : decode cX4_settleRow 40 = .ok (.aload_n 0, 1) := by decide +kernel
theorem dX4_settleRow_41 : decode cX4_settleRow 41 = .ok (.getfield 46, 3) := by decide +kernel
theorem dX4_settleRow_44 : decode cX4_settleRow 44 = .ok (.if_icmp .lt 9, 3) := by decide +kernel
theorem dX4_settleRow_47 : decode cX4_settleRow 47 = .ok (.aload_n 1, 1) := by decide +kernel
theorem dX4_settleRow_48 : decode cX4_settleRow 48 = .ok (.iload_n 3, 1) := by decide +kernel
theorem dX4_settleRow_49 : decode cX4_settleRow 49 = .ok (.invokevirtual 198, 3) := by decide +kernel
theorem dX4_settleRow_52 : decode cX4_settleRow 52 = .ok (.return_, 1) := by decide +kernel
theorem dX4_settleRow_53 : decode cX4_settleRow 53 = .ok (.aload_n 1, 1) := by decide +kernel
theorem dX4_settleRow_54 : decode cX4_settleRow 54 = .ok (.iload_n 3, 1) := by decide +kernel
theorem dX4_settleRow_55 : decode cX4_settleRow 55 = .ok (.invokevirtual 201, 3) := by decide +kernel
theorem dX4_settleRow_58 : decode cX4_settleRow 58 = .ok (.iinc 3 (-1), 3) := by decide +kernel
theorem dX4_settleRow_61 : decode cX4_settleRow 61 = .ok (.goto (-42), 3) := by decide +kernel
theorem dX4_settleRow_64 : decode cX4_settleRow 64 = .ok (.return_, 1) := by decide +kernel
set_option maxRecDepth 20000 in
theorem ggX4_isForRow_X0_author : GoodIn wsX4_isForRow wsX0_author := goodIn_r _ [7, 8, 9, 10, 11, 6, 12, 13, 46, 47, 48, 49] (by decide +kernel) (by decide +kernel)
set_option maxRecDepth 20000 in
theorem gX4_isForRow_X0_author : GoodIn wsX4_isForRow (wsV RX4 107 RX0 yX0_author wsX0_author) := goodIn_app (goodIn_of _ (by decide +kernel)) ggX4_isForRow_X0_author
set_option maxRecDepth 20000 in
theorem ggX4_isForRow_X0_stands : GoodIn wsX4_isForRow wsX0_stands := goodIn_r _ [17, 18, 9, 10, 11, 6, 12, 13, 46, 47, 48, 49] (by decide +kernel) (by decide +kernel)
set_option maxRecDepth 20000 in
theorem gX4_isForRow_X0_stands : GoodIn wsX4_isForRow (wsV RX4 101 RX0 yX0_stands wsX0_stands) := goodIn_app (goodIn_of _ (by decide +kernel)) ggX4_isForRow_X0_stands
set_option maxRecDepth 20000 in
theorem ggX4_isForRow_X1_has : GoodIn wsX4_isForRow wsX1_has := goodIn_r _ [23, 24, 25, 26, 27, 50] (by decide +kernel) (by decide +kernel)
set_option maxRecDepth 20000 in
theorem gX4_isForRow_X1_has : GoodIn wsX4_isForRow (wsV RX4 59 RX1 yX1_has wsX1_has) := goodIn_app (goodIn_of _ (by decide +kernel)) ggX4_isForRow_X1_has
set_option maxRecDepth 20000 in
theorem ggX4_isForRow_X4_isOverMark : GoodIn wsX4_isForRow wsX4_isOverMark := goodIn_r _ [31, 2, 32, 33, 34, 35, 22, 36, 37, 20, 21, 23, 24, 25, 26, 27, 38, 39, 40, 41, 42, 43, 44, 45, 50] (by decide +kernel) (by decide +kernel)
set_option maxRecDepth 20000 in
theorem gX4_isForRow_X4_isOverMark : GoodIn wsX4_isForRow (wsV RX4 127 RX4 yX4_isOverMark wsX4_isOverMark) := goodIn_app (goodIn_of _ (by decide +kernel)) ggX4_isForRow_X4_isOverMark
theorem dX4_isForRow_0 : decode cX4_isForRow 0 = .ok (.aload_n 0, 1) := by decide +kernel
theorem dX4_isForRow_1 : decode cX4_isForRow 1 = .ok (.getfield 25, 3) := by decide +kernel
theorem dX4_isForRow_4 : decode cX4_isForRow 4 = .ok (.iload_n 2, 1) := by decide +kernel
theorem dX4_isForRow_5 : decode cX4_isForRow 5 = .ok (.invokevirtual 107, 3) := by decide +kernel
theorem dX4_isForRow_8 : decode cX4_isForRow 8 = .ok (.istore_n 3, 1) := by decide +kernel
theorem dX4_isForRow_9 : decode cX4_isForRow 9 = .ok (.aload_n 0, 1) := by decide +kernel
theorem dX4_isForRow_10 : decode cX4_isForRow 10 = .ok (.getfield 25, 3) := by decide +kernel
theorem dX4_isForRow_13 : decode cX4_isForRow 13 = .ok (.iload_n 2, 1) := by decide +kernel
theorem dX4_isForRow_14 : decode cX4_isForRow 14 = .ok (.invokevirtual 101, 3) := by decide +kernel
theorem dX4_isForRow_17 : decode cX4_isForRow 17 = .ok (.ifCond .eq 27, 3) := by decide +kernel
theorem dX4_isForRow_20 : decode cX4_isForRow 20 = .ok (.aload_n 0, 1) := by decide +kernel
theorem dX4_isForRow_21 : decode cX4_isForRow 21 = .ok (.getfield 10, 3) := by decide +kernel
theorem dX4_isForRow_24 : decode cX4_isForRow 24 = .ok (.iload_n 1, 1) := by decide +kernel
theorem dX4_isForRow_25 : decode cX4_isForRow 25 = .ok (.iload_n 3, 1) := by decide +kernel
theorem dX4_isForRow_26 : decode cX4_isForRow 26 = .ok (.invokevirtual 59, 3) := by decide +kernel
theorem dX4_isForRow_29 : decode cX4_isForRow 29 = .ok (.ifCond .eq 15, 3) := by decide +kernel
theorem dX4_isForRow_32 : decode cX4_isForRow 32 = .ok (.aload_n 0, 1) := by decide +kernel
theorem dX4_isForRow_33 : decode cX4_isForRow 33 = .ok (.iload_n 3, 1) := by decide +kernel
theorem dX4_isForRow_34 : decode cX4_isForRow 34 = .ok (.invokevirtual 127, 3) := by decide +kernel
theorem dX4_isForRow_37 : decode cX4_isForRow 37 = .ok (.ifCond .ne 7, 3) := by decide +kernel
theorem dX4_isForRow_40 : decode cX4_isForRow 40 = .ok (.iconst 1, 1) := by decide +kernel
theorem dX4_isForRow_41 : decode cX4_isForRow 41 = .ok (.goto 4, 3) := by decide +kernel
theorem dX4_isForRow_44 : decode cX4_isForRow 44 = .ok (.iconst 0, 1) := by decide +kernel
theorem dX4_isForRow_45 : decode cX4_isForRow 45 = .ok (.ireturn, 1) := by decide +kernel
set_option maxRecDepth 20000 in
theorem ggX4_readTimeline_X3_empty : GoodIn wsX4_readTimeline wsX3_empty := goodIn_r _ [7, 8, 9, 99, 100, 101] (by decide +kernel) (by decide +kernel)
set_option maxRecDepth 20000 in
theorem gX4_readTimeline_X3_empty : GoodIn wsX4_readTimeline (wsV RX4 204 RX3 yX3_empty wsX3_empty) := goodIn_app (goodIn_of _ (by decide +kernel)) ggX4_readTimeline_X3_empty
set_option maxRecDepth 20000 in
theorem ggX4_readTimeline_X0_made : GoodIn wsX4_readTimeline wsX0_made := goodIn_r _ [14, 15, 102, 103, 104, 105] (by decide +kernel) (by decide +kernel)
set_option maxRecDepth 20000 in
theorem gX4_readTimeline_X0_made : GoodIn wsX4_readTimeline (wsV RX4 88 RX0 yX0_made wsX0_made) := goodIn_app (goodIn_of _ (by decide +kernel)) ggX4_readTimeline_X0_made
set_option maxRecDepth 20000 in
theorem ggX4_readTimeline_X2_floor : GoodIn wsX4_readTimeline wsX2_floor := goodIn_r _ [20, 21, 106, 107, 108, 109] (by decide +kernel) (by decide +kernel)
set_option maxRecDepth 20000 in
theorem gX4_readTimeline_X2_floor : GoodIn wsX4_readTimeline (wsV RX4 145 RX2 yX2_floor wsX2_floor) := goodIn_app (goodIn_of _ (by decide +kernel)) ggX4_readTimeline_X2_floor
set_option maxRecDepth 20000 in
theorem ggX4_readTimeline_X2_fromNewest : GoodIn wsX4_readTimeline wsX2_fromNewest := goodIn_r _ [25, 26, 27, 106, 107, 108, 109] (by decide +kernel) (by decide +kernel)
set_option maxRecDepth 20000 in
theorem gX4_readTimeline_X2_fromNewest : GoodIn wsX4_readTimeline (wsV RX4 142 RX2 yX2_fromNewest wsX2_fromNewest) := goodIn_app (goodIn_of _ (by decide +kernel)) ggX4_readTimeline_X2_fromNewest
set_option maxRecDepth 20000 in
theorem ggX4_readTimeline_X2_owner : GoodIn wsX4_readTimeline wsX2_owner := goodIn_r _ [31, 32, 106, 107, 108, 109] (by decide +kernel) (by decide +kernel)
set_option maxRecDepth 20000 in
theorem gX4_readTimeline_X2_owner : GoodIn wsX4_readTimeline (wsV RX4 192 RX2 yX2_owner wsX2_owner) := goodIn_app (goodIn_of _ (by decide +kernel)) ggX4_readTimeline_X2_owner
set_option maxRecDepth 20000 in
theorem ggX4_readTimeline_X4_isFetched : GoodIn wsX4_readTimeline wsX4_isFetched := goodIn_r _ [37, 2, 38, 39, 40, 41, 13, 42, 43, 44, 45, 46, 47, 15, 48, 49, 50, 51, 52, 53, 54, 36, 55, 56, 57, 58, 59, 60, 61, 62, 63, 64, 65, 91, 92, 93, 94, 95, 96, 97, 98, 102, 103, 104, 105, 110] (by decide +kernel) (by decide +kernel)
set_option maxRecDepth 20000 in
theorem gX4_readTimeline_X4_isFetched : GoodIn wsX4_readTimeline (wsV RX4 205 RX4 yX4_isFetched wsX4_isFetched) := goodIn_app (goodIn_of _ (by decide +kernel)) ggX4_readTimeline_X4_isFetched
set_option maxRecDepth 20000 in
theorem ggX4_readTimeline_X4_offer : GoodIn wsX4_readTimeline wsX4_offer := goodIn_r _ [69, 1, 2, 70, 71, 72, 36, 73, 74, 75, 76, 77, 78, 13, 79, 80, 44, 45, 46, 47, 15, 81, 82, 83, 84, 85, 39, 40, 41, 42, 43, 48, 49, 50, 51, 52, 53, 54, 55, 86, 87, 88, 6, 89, 8, 9, 90, 91, 92, 93, 94, 95, 96, 97, 98, 102, 103, 104, 105, 110, 99, 100, 101] (by decide +kernel) (by decide +kernel)
set_option maxRecDepth 20000 in
theorem gX4_readTimeline_X4_offer : GoodIn wsX4_readTimeline (wsV RX4 208 RX4 yX4_offer wsX4_offer) := goodIn_app (goodIn_of _ (by decide +kernel)) ggX4_readTimeline_X4_offer
theorem dX4_readTimeline_0 : decode cX4_readTimeline 0 = .ok (.aload_n 0, 1) := by decide +kernel
theorem dX4_readTimeline_1 : decode cX4_readTimeline 1 = .ok (.getfield 38, 3) := by decide +kernel
theorem dX4_readTimeline_4 : decode cX4_readTimeline 4 = .ok (.invokevirtual 204, 3) := by decide +kernel
theorem dX4_readTimeline_7 : decode cX4_readTimeline 7 = .ok (.iconst 0, 1) := by decide +kernel
theorem dX4_readTimeline_8 : decode cX4_readTimeline 8 = .ok (.istore_n 2, 1) := by decide +kernel
theorem dX4_readTimeline_9 : decode cX4_readTimeline 9 = .ok (.aload_n 0, 1) := by decide +kernel
theorem dX4_readTimeline_10 : decode cX4_readTimeline 10 = .ok (.getfield 25, 3) := by decide +kernel
theorem dX4_readTimeline_13 : decode cX4_readTimeline 13 = .ok (.invokevirtual 88, 3) := by decide +kernel
theorem dX4_readTimeline_16 : decode cX4_readTimeline 16 = .ok (.iconst 1, 1) := by decide +kernel
theorem dX4_readTimeline_17 : decode cX4_readTimeline 17 = .ok (.isub, 1) := by decide +kernel
theorem dX4_readTimeline_18 : decode cX4_readTimeline 18 = .ok (.istore_n 3, 1) := by decide +kernel
theorem dX4_readTimeline_19 : decode cX4_readTimeline 19 = .ok (.iload_n 3, 1) := by decide +kernel
theorem dX4_readTimeline_20 : decode cX4_readTimeline 20 = .ok (.aload_n 1, 1) := by decide +kernel
theorem dX4_readTimeline_21 : decode cX4_readTimeline 21 = .ok (.invokevirtual 145, 3) := by decide +kernel
theorem dX4_readTimeline_24 : decode cX4_readTimeline 24 = .ok (.if_icmp .le 59, 3) := by decide +kernel
theorem dX4_readTimeline_27 : decode cX4_readTimeline 27 = .ok (.aload_n 1, 1) := by decide +kernel
theorem dX4_readTimeline_28 : decode cX4_readTimeline 28 = .ok (.iload_n 2, 1) := by decide +kernel
theorem dX4_readTimeline_29 : decode cX4_readTimeline 29 = .ok (.invokevirtual 142, 3) := by decide +kernel
theorem dX4_readTimeline_32 : decode cX4_readTimeline 32 = .ok (.iload_n 3, 1) := by decide +kernel
theorem dX4_readTimeline_33 : decode cX4_readTimeline 33 = .ok (.if_icmp .ne 7, 3) := by decide +kernel
theorem dX4_readTimeline_36 : decode cX4_readTimeline 36 = .ok (.iconst 1, 1) := by decide +kernel
theorem dX4_readTimeline_37 : decode cX4_readTimeline 37 = .ok (.goto 4, 3) := by decide +kernel
theorem dX4_readTimeline_40 : decode cX4_readTimeline 40 = .ok (.iconst 0, 1) := by decide +kernel
theorem dX4_readTimeline_41 : decode cX4_readTimeline 41 = .ok (.istore 4, 2) := by decide +kernel
theorem dX4_readTimeline_43 : decode cX4_readTimeline 43 = .ok (.iload 4, 2) := by decide +kernel
theorem dX4_readTimeline_45 : decode cX4_readTimeline 45 = .ok (.ifCond .eq 6, 3) := by decide +kernel
theorem dX4_readTimeline_48 : decode cX4_readTimeline 48 = .ok (.iinc 2 1, 3) := by decide +kernel
theorem dX4_readTimeline_51 : decode cX4_readTimeline 51 = .ok (.iload 4, 2) := by decide +kernel
theorem dX4_readTimeline_53 : decode cX4_readTimeline 53 = .ok (.ifCond .ne 15, 3) := by decide +kernel
theorem dX4_readTimeline_56 : decode cX4_readTimeline 56 = .ok (.aload_n 0, 1) := by decide +kernel
theorem dX4_readTimeline_57 : decode cX4_readTimeline 57 = .ok (.aload_n 1, 1) := by decide +kernel
theorem dX4_readTimeline_58 : decode cX4_readTimeline 58 = .ok (.invokevirtual 192, 3) := by decide +kernel
theorem dX4_readTimeline_61 : decode cX4_readTimeline 61 = .ok (.iload_n 3, 1) := by decide +kernel
theorem dX4_readTimeline_62 : decode cX4_readTimeline 62 = .ok (.invokevirtual 205, 3) := by decide +kernel
theorem dX4_readTimeline_65 : decode cX4_readTimeline 65 = .ok (.ifCond .eq 12, 3) := by decide +kernel
theorem dX4_readTimeline_68 : decode cX4_readTimeline 68 = .ok (.aload_n 0, 1) := by decide +kernel
theorem dX4_readTimeline_69 : decode cX4_readTimeline 69 = .ok (.aload_n 1, 1) := by decide +kernel
theorem dX4_readTimeline_70 : decode cX4_readTimeline 70 = .ok (.invokevirtual 192, 3) := by decide +kernel
theorem dX4_readTimeline_73 : decode cX4_readTimeline 73 = .ok (.iload_n 3, 1) := by decide +kernel
theorem dX4_readTimeline_74 : decode cX4_readTimeline 74 = .ok (.invokevirtual 208, 3) := by decide +kernel
theorem dX4_readTimeline_77 : decode cX4_readTimeline 77 = .ok (.iinc 3 (-1), 3) := by decide +kernel
theorem dX4_readTimeline_80 : decode cX4_readTimeline 80 = .ok (.goto (-61), 3) := by decide +kernel
theorem dX4_readTimeline_83 : decode cX4_readTimeline 83 = .ok (.return_, 1) := by decide +kernel
set_option maxRecDepth 20000 in
theorem ggX4_mergeTimeline_X3_empty : GoodIn wsX4_mergeTimeline wsX3_empty := goodIn_r _ [8, 9, 10, 68, 69, 70] (by decide +kernel) (by decide +kernel)
set_option maxRecDepth 20000 in
theorem gX4_mergeTimeline_X3_empty : GoodIn wsX4_mergeTimeline (wsV RX4 204 RX3 yX3_empty wsX3_empty) := goodIn_app (goodIn_of _ (by decide +kernel)) ggX4_mergeTimeline_X3_empty
set_option maxRecDepth 20000 in
theorem ggX4_mergeTimeline_X0_made : GoodIn wsX4_mergeTimeline wsX0_made := goodIn_r _ [15, 16, 71, 72, 73, 74] (by decide +kernel) (by decide +kernel)
set_option maxRecDepth 20000 in
theorem gX4_mergeTimeline_X0_made : GoodIn wsX4_mergeTimeline (wsV RX4 88 RX0 yX0_made wsX0_made) := goodIn_app (goodIn_of _ (by decide +kernel)) ggX4_mergeTimeline_X0_made
set_option maxRecDepth 20000 in
theorem ggX4_mergeTimeline_X0_author : GoodIn wsX4_mergeTimeline wsX0_author := goodIn_r _ [20, 21, 22, 23, 24, 14, 25, 16, 71, 72, 73, 74] (by decide +kernel) (by decide +kernel)
set_option maxRecDepth 20000 in
theorem gX4_mergeTimeline_X0_author : GoodIn wsX4_mergeTimeline (wsV RX4 107 RX0 yX0_author wsX0_author) := goodIn_app (goodIn_of _ (by decide +kernel)) ggX4_mergeTimeline_X0_author
set_option maxRecDepth 20000 in
theorem ggX4_mergeTimeline_X1_has : GoodIn wsX4_mergeTimeline wsX1_has := goodIn_r _ [30, 31, 32, 33, 34, 75] (by decide +kernel) (by decide +kernel)
set_option maxRecDepth 20000 in
theorem gX4_mergeTimeline_X1_has : GoodIn wsX4_mergeTimeline (wsV RX4 59 RX1 yX1_has wsX1_has) := goodIn_app (goodIn_of _ (by decide +kernel)) ggX4_mergeTimeline_X1_has
set_option maxRecDepth 20000 in
theorem ggX4_mergeTimeline_X4_offer : GoodIn wsX4_mergeTimeline wsX4_offer := goodIn_r _ [38, 1, 2, 39, 40, 41, 33, 42, 43, 44, 45, 46, 47, 14, 48, 49, 22, 23, 24, 25, 16, 50, 51, 52, 53, 54, 17, 18, 19, 20, 21, 26, 27, 28, 29, 30, 31, 32, 34, 55, 56, 57, 7, 58, 9, 10, 59, 60, 61, 62, 63, 64, 65, 66, 67, 71, 72, 73, 74, 75, 68, 69, 70] (by decide +kernel) (by decide +kernel)
set_option maxRecDepth 20000 in
theorem gX4_mergeTimeline_X4_offer : GoodIn wsX4_mergeTimeline (wsV RX4 208 RX4 yX4_offer wsX4_offer) := goodIn_app (goodIn_of _ (by decide +kernel)) ggX4_mergeTimeline_X4_offer
theorem dX4_mergeTimeline_0 : decode cX4_mergeTimeline 0 = .ok (.aload_n 0, 1) := by decide +kernel
theorem dX4_mergeTimeline_1 : decode cX4_mergeTimeline 1 = .ok (.getfield 38, 3) := by decide +kernel
theorem dX4_mergeTimeline_4 : decode cX4_mergeTimeline 4 = .ok (.invokevirtual 204, 3) := by decide +kernel
theorem dX4_mergeTimeline_7 : decode cX4_mergeTimeline 7 = .ok (.aload_n 0, 1) := by decide +kernel
theorem dX4_mergeTimeline_8 : decode cX4_mergeTimeline 8 = .ok (.getfield 25, 3) := by decide +kernel
theorem dX4_mergeTimeline_11 : decode cX4_mergeTimeline 11 = .ok (.invokevirtual 88, 3) := by decide +kernel
theorem dX4_mergeTimeline_14 : decode cX4_mergeTimeline 14 = .ok (.iconst 1, 1) := by decide +kernel
theorem dX4_mergeTimeline_15 : decode cX4_mergeTimeline 15 = .ok (.isub, 1) := by decide +kernel
theorem dX4_mergeTimeline_16 : decode cX4_mergeTimeline 16 = .ok (.istore_n 3, 1) := by decide +kernel
theorem dX4_mergeTimeline_17 : decode cX4_mergeTimeline 17 = .ok (.iload_n 3, 1) := by decide +kernel
theorem dX4_mergeTimeline_18 : decode cX4_mergeTimeline 18 = .ok (.iload_n 2, 1) := by decide +kernel
theorem dX4_mergeTimeline_19 : decode cX4_mergeTimeline 19 = .ok (.if_icmp .le 34, 3) := by decide +kernel
theorem dX4_mergeTimeline_22 : decode cX4_mergeTimeline 22 = .ok (.aload_n 0, 1) := by decide +kernel
theorem dX4_mergeTimeline_23 : decode cX4_mergeTimeline 23 = .ok (.getfield 10, 3) := by decide +kernel
theorem dX4_mergeTimeline_26 : decode cX4_mergeTimeline 26 = .ok (.iload_n 1, 1) := by decide +kernel
theorem dX4_mergeTimeline_27 : decode cX4_mergeTimeline 27 = .ok (.aload_n 0, 1) := by decide +kernel
theorem dX4_mergeTimeline_28 : decode cX4_mergeTimeline 28 = .ok (.getfield 25, 3) := by decide +kernel
theorem dX4_mergeTimeline_31 : decode cX4_mergeTimeline 31 = .ok (.iload_n 3, 1) := by decide +kernel
theorem dX4_mergeTimeline_32 : decode cX4_mergeTimeline 32 = .ok (.invokevirtual 107, 3) := by decide +kernel
theorem dX4_mergeTimeline_35 : decode cX4_mergeTimeline 35 = .ok (.invokevirtual 59, 3) := by decide +kernel
theorem dX4_mergeTimeline_38 : decode cX4_mergeTimeline 38 = .ok (.ifCond .eq 9, 3) := by decide +kernel
theorem dX4_mergeTimeline_41 : decode cX4_mergeTimeline 41 = .ok (.aload_n 0, 1) := by decide +kernel
theorem dX4_mergeTimeline_42 : decode cX4_mergeTimeline 42 = .ok (.iload_n 1, 1) := by decide +kernel
theorem dX4_mergeTimeline_43 : decode cX4_mergeTimeline 43 = .ok (.iload_n 3, 1) := by decide +kernel
theorem dX4_mergeTimeline_44 : decode cX4_mergeTimeline 44 = .ok (.invokevirtual 208, 3) := by decide +kernel
theorem dX4_mergeTimeline_47 : decode cX4_mergeTimeline 47 = .ok (.iinc 3 (-1), 3) := by decide +kernel
theorem dX4_mergeTimeline_50 : decode cX4_mergeTimeline 50 = .ok (.goto (-33), 3) := by decide +kernel
theorem dX4_mergeTimeline_53 : decode cX4_mergeTimeline 53 = .ok (.return_, 1) := by decide +kernel
set_option maxRecDepth 20000 in
theorem ggX4_isFetched_X0_author : GoodIn wsX4_isFetched wsX0_author := goodIn_r _ [7, 8, 9, 10, 11, 6, 12, 13, 41, 42, 43, 44] (by decide +kernel) (by decide +kernel)
set_option maxRecDepth 20000 in
theorem gX4_isFetched_X0_author : GoodIn wsX4_isFetched (wsV RX4 107 RX0 yX0_author wsX0_author) := goodIn_app (goodIn_of _ (by decide +kernel)) ggX4_isFetched_X0_author
set_option maxRecDepth 20000 in
theorem ggX4_isFetched_X1_has : GoodIn wsX4_isFetched wsX1_has := goodIn_r _ [18, 19, 20, 21, 22, 45] (by decide +kernel) (by decide +kernel)
set_option maxRecDepth 20000 in
theorem gX4_isFetched_X1_has : GoodIn wsX4_isFetched (wsV RX4 59 RX1 yX1_has wsX1_has) := goodIn_app (goodIn_of _ (by decide +kernel)) ggX4_isFetched_X1_has
set_option maxRecDepth 20000 in
theorem ggX4_isFetched_X4_isOverMark : GoodIn wsX4_isFetched wsX4_isOverMark := goodIn_r _ [26, 2, 27, 28, 29, 30, 17, 31, 32, 15, 16, 18, 19, 20, 21, 22, 33, 34, 35, 36, 37, 38, 39, 40, 45] (by decide +kernel) (by decide +kernel)
set_option maxRecDepth 20000 in
theorem gX4_isFetched_X4_isOverMark : GoodIn wsX4_isFetched (wsV RX4 127 RX4 yX4_isOverMark wsX4_isOverMark) := goodIn_app (goodIn_of _ (by decide +kernel)) ggX4_isFetched_X4_isOverMark
theorem dX4_isFetched_0 : decode cX4_isFetched 0 = .ok (.aload_n 0, 1) := by decide +kernel
theorem dX4_isFetched_1 : decode cX4_isFetched 1 = .ok (.getfield 25, 3) := by decide +kernel
theorem dX4_isFetched_4 : decode cX4_isFetched 4 = .ok (.iload_n 2, 1) := by decide +kernel
theorem dX4_isFetched_5 : decode cX4_isFetched 5 = .ok (.invokevirtual 107, 3) := by decide +kernel
theorem dX4_isFetched_8 : decode cX4_isFetched 8 = .ok (.istore_n 3, 1) := by decide +kernel
theorem dX4_isFetched_9 : decode cX4_isFetched 9 = .ok (.aload_n 0, 1) := by decide +kernel
theorem dX4_isFetched_10 : decode cX4_isFetched 10 = .ok (.getfield 10, 3) := by decide +kernel
theorem dX4_isFetched_13 : decode cX4_isFetched 13 = .ok (.iload_n 1, 1) := by decide +kernel
theorem dX4_isFetched_14 : decode cX4_isFetched 14 = .ok (.iload_n 3, 1) := by decide +kernel
theorem dX4_isFetched_15 : decode cX4_isFetched 15 = .ok (.invokevirtual 59, 3) := by decide +kernel
theorem dX4_isFetched_18 : decode cX4_isFetched 18 = .ok (.ifCond .eq 15, 3) := by decide +kernel
theorem dX4_isFetched_21 : decode cX4_isFetched 21 = .ok (.aload_n 0, 1) := by decide +kernel
theorem dX4_isFetched_22 : decode cX4_isFetched 22 = .ok (.iload_n 3, 1) := by decide +kernel
theorem dX4_isFetched_23 : decode cX4_isFetched 23 = .ok (.invokevirtual 127, 3) := by decide +kernel
theorem dX4_isFetched_26 : decode cX4_isFetched 26 = .ok (.ifCond .eq 7, 3) := by decide +kernel
theorem dX4_isFetched_29 : decode cX4_isFetched 29 = .ok (.iconst 1, 1) := by decide +kernel
theorem dX4_isFetched_30 : decode cX4_isFetched 30 = .ok (.goto 4, 3) := by decide +kernel
theorem dX4_isFetched_33 : decode cX4_isFetched 33 = .ok (.iconst 0, 1) := by decide +kernel
theorem dX4_isFetched_34 : decode cX4_isFetched 34 = .ok (.ireturn, 1) := by decide +kernel
set_option maxRecDepth 20000 in
theorem ggX4_offer_X4_isHidden : GoodIn wsX4_offer wsX4_isHidden := goodIn_r _ [7, 2, 8, 9, 10, 11, 12, 13, 14, 15, 16, 17, 18, 19, 20, 21, 22, 23, 24, 25, 26, 27, 28, 29, 30, 31, 32, 33, 34, 35, 36, 37, 6, 38, 47, 48, 49, 50, 51, 52, 53, 54, 55, 56, 57, 58, 59] (by decide +kernel) (by decide +kernel)
set_option maxRecDepth 20000 in
theorem gX4_offer_X4_isHidden : GoodIn wsX4_offer (wsV RX4 211 RX4 yX4_isHidden wsX4_isHidden) := goodIn_app (goodIn_of _ (by decide +kernel)) ggX4_offer_X4_isHidden
set_option maxRecDepth 20000 in
theorem ggX4_offer_X0_origin : GoodIn wsX4_offer wsX0_origin := goodIn_r _ [14, 15, 16, 17, 18, 13, 19, 20, 55, 56, 57, 58] (by decide +kernel) (by decide +kernel)
set_option maxRecDepth 20000 in
theorem gX4_offer_X0_origin : GoodIn wsX4_offer (wsV RX4 98 RX0 yX0_origin wsX0_origin) := goodIn_app (goodIn_of _ (by decide +kernel)) ggX4_offer_X0_origin
set_option maxRecDepth 20000 in
theorem ggX4_offer_X3_addBelow : GoodIn wsX4_offer wsX3_addBelow := goodIn_r _ [43, 44, 45, 46, 60, 61, 62] (by decide +kernel) (by decide +kernel)
set_option maxRecDepth 20000 in
theorem gX4_offer_X3_addBelow : GoodIn wsX4_offer (wsV RX4 214 RX3 yX3_addBelow wsX3_addBelow) := goodIn_app (goodIn_of _ (by decide +kernel)) ggX4_offer_X3_addBelow
theorem dX4_offer_0 : decode cX4_offer 0 = .ok (.aload_n 0, 1) := by decide +kernel
theorem dX4_offer_1 : decode cX4_offer 1 = .ok (.iload_n 1, 1) := by decide +kernel
theorem dX4_offer_2 : decode cX4_offer 2 = .ok (.iload_n 2, 1) := by decide +kernel
theorem dX4_offer_3 : decode cX4_offer 3 = .ok (.invokevirtual 211, 3) := by decide +kernel
theorem dX4_offer_6 : decode cX4_offer 6 = .ok (.ifCond .ne 19, 3) := by decide +kernel
theorem dX4_offer_9 : decode cX4_offer 9 = .ok (.aload_n 0, 1) := by decide +kernel
theorem dX4_offer_10 : decode cX4_offer 10 = .ok (.getfield 38, 3) := by decide +kernel
theorem dX4_offer_13 : decode cX4_offer 13 = .ok (.iload_n 2, 1) := by decide +kernel
theorem dX4_offer_14 : decode cX4_offer 14 = .ok (.aload_n 0, 1) := by decide +kernel
theorem dX4_offer_15 : decode cX4_offer 15 = .ok (.getfield 25, 3) := by decide +kernel
theorem dX4_offer_18 : decode cX4_offer 18 = .ok (.iload_n 2, 1) := by decide +kernel
theorem dX4_offer_19 : decode cX4_offer 19 = .ok (.invokevirtual 98, 3) := by decide +kernel
theorem dX4_offer_22 : decode cX4_offer 22 = .ok (.invokevirtual 214, 3) := by decide +kernel
theorem dX4_offer_25 : decode cX4_offer 25 = .ok (.return_, 1) := by decide +kernel
set_option maxRecDepth 20000 in
theorem ggX4_isHidden_X0_origin : GoodIn wsX4_isHidden wsX0_origin := goodIn_r _ [8, 9, 10, 11, 12, 7, 13, 14, 42, 43, 44, 45] (by decide +kernel) (by decide +kernel)
set_option maxRecDepth 20000 in
theorem gX4_isHidden_X0_origin : GoodIn wsX4_isHidden (wsV RX4 98 RX0 yX0_origin wsX0_origin) := goodIn_app (goodIn_of _ (by decide +kernel)) ggX4_isHidden_X0_origin
set_option maxRecDepth 20000 in
theorem ggX4_isHidden_X0_stands : GoodIn wsX4_isHidden wsX0_stands := goodIn_r _ [18, 19, 10, 11, 12, 7, 13, 14, 42, 43, 44, 45] (by decide +kernel) (by decide +kernel)
set_option maxRecDepth 20000 in
theorem gX4_isHidden_X0_stands : GoodIn wsX4_isHidden (wsV RX4 101 RX0 yX0_stands wsX0_stands) := goodIn_app (goodIn_of _ (by decide +kernel)) ggX4_isHidden_X0_stands
set_option maxRecDepth 20000 in
theorem ggX4_isHidden_X0_author : GoodIn wsX4_isHidden wsX0_author := goodIn_r _ [23, 24, 10, 11, 12, 7, 13, 14, 42, 43, 44, 45] (by decide +kernel) (by decide +kernel)
set_option maxRecDepth 20000 in
theorem gX4_isHidden_X0_author : GoodIn wsX4_isHidden (wsV RX4 107 RX0 yX0_author wsX0_author) := goodIn_app (goodIn_of _ (by decide +kernel)) ggX4_isHidden_X0_author
set_option maxRecDepth 20000 in
theorem ggX4_isHidden_X1_has : GoodIn wsX4_isHidden wsX1_has := goodIn_r _ [29, 30, 31, 32, 33, 46] (by decide +kernel) (by decide +kernel)
set_option maxRecDepth 20000 in
theorem gX4_isHidden_X1_has : GoodIn wsX4_isHidden (wsV RX4 59 RX1 yX1_has wsX1_has) := goodIn_app (goodIn_of _ (by decide +kernel)) ggX4_isHidden_X1_has
theorem dX4_isHidden_0 : decode cX4_isHidden 0 = .ok (.aload_n 0, 1) := by decide +kernel
theorem dX4_isHidden_1 : decode cX4_isHidden 1 = .ok (.getfield 25, 3) := by decide +kernel
theorem dX4_isHidden_4 : decode cX4_isHidden 4 = .ok (.iload_n 2, 1) := by decide +kernel
theorem dX4_isHidden_5 : decode cX4_isHidden 5 = .ok (.invokevirtual 98, 3) := by decide +kernel
theorem dX4_isHidden_8 : decode cX4_isHidden 8 = .ok (.istore_n 3, 1) := by decide +kernel
theorem dX4_isHidden_9 : decode cX4_isHidden 9 = .ok (.aload_n 0, 1) := by decide +kernel
theorem dX4_isHidden_10 : decode cX4_isHidden 10 = .ok (.getfield 25, 3) := by decide +kernel
theorem dX4_isHidden_13 : decode cX4_isHidden 13 = .ok (.iload_n 2, 1) := by decide +kernel
theorem dX4_isHidden_14 : decode cX4_isHidden 14 = .ok (.invokevirtual 101, 3) := by decide +kernel
theorem dX4_isHidden_17 : decode cX4_isHidden 17 = .ok (.ifCond .eq 14, 3) := by decide +kernel
theorem dX4_isHidden_20 : decode cX4_isHidden 20 = .ok (.aload_n 0, 1) := by decide +kernel
theorem dX4_isHidden_21 : decode cX4_isHidden 21 = .ok (.getfield 25, 3) := by decide +kernel
theorem dX4_isHidden_24 : decode cX4_isHidden 24 = .ok (.iload_n 3, 1) := by decide +kernel
theorem dX4_isHidden_25 : decode cX4_isHidden 25 = .ok (.invokevirtual 101, 3) := by decide +kernel
theorem dX4_isHidden_28 : decode cX4_isHidden 28 = .ok (.ifCond .ne 5, 3) := by decide +kernel
theorem dX4_isHidden_31 : decode cX4_isHidden 31 = .ok (.iconst 1, 1) := by decide +kernel
theorem dX4_isHidden_32 : decode cX4_isHidden 32 = .ok (.ireturn, 1) := by decide +kernel
theorem dX4_isHidden_33 : decode cX4_isHidden 33 = .ok (.aload_n 0, 1) := by decide +kernel
theorem dX4_isHidden_34 : decode cX4_isHidden 34 = .ok (.getfield 25, 3) := by decide +kernel
theorem dX4_isHidden_37 : decode cX4_isHidden 37 = .ok (.iload_n 3, 1) := by decide +kernel
theorem dX4_isHidden_38 : decode cX4_isHidden 38 = .ok (.invokevirtual 107, 3) := by decide +kernel
theorem dX4_isHidden_41 : decode cX4_isHidden 41 = .ok (.istore 4, 2) := by decide +kernel
theorem dX4_isHidden_43 : decode cX4_isHidden 43 = .ok (.aload_n 0, 1) := by decide +kernel
theorem dX4_isHidden_44 : decode cX4_isHidden 44 = .ok (.getfield 16, 3) := by decide +kernel
theorem dX4_isHidden_47 : decode cX4_isHidden 47 = .ok (.iload_n 1, 1) := by decide +kernel
theorem dX4_isHidden_48 : decode cX4_isHidden 48 = .ok (.aload_n 0, 1) := by decide +kernel
theorem dX4_isHidden_49 : decode cX4_isHidden 49 = .ok (.getfield 25, 3) := by decide +kernel
theorem dX4_isHidden_52 : decode cX4_isHidden 52 = .ok (.iload_n 2, 1) := by decide +kernel
theorem dX4_isHidden_53 : decode cX4_isHidden 53 = .ok (.invokevirtual 107, 3) := by decide +kernel
theorem dX4_isHidden_56 : decode cX4_isHidden 56 = .ok (.invokevirtual 59, 3) := by decide +kernel
theorem dX4_isHidden_59 : decode cX4_isHidden 59 = .ok (.ifCond .ne 29, 3) := by decide +kernel
theorem dX4_isHidden_62 : decode cX4_isHidden 62 = .ok (.aload_n 0, 1) := by decide +kernel
theorem dX4_isHidden_63 : decode cX4_isHidden 63 = .ok (.getfield 16, 3) := by decide +kernel
theorem dX4_isHidden_66 : decode cX4_isHidden 66 = .ok (.iload_n 1, 1) := by decide +kernel
theorem dX4_isHidden_67 : decode cX4_isHidden 67 = .ok (.iload 4, 2) := by decide +kernel
theorem dX4_isHidden_69 : decode cX4_isHidden 69 = .ok (.invokevirtual 59, 3) := by decide +kernel
theorem dX4_isHidden_72 : decode cX4_isHidden 72 = .ok (.ifCond .ne 16, 3) := by decide +kernel
theorem dX4_isHidden_75 : decode cX4_isHidden 75 = .ok (.aload_n 0, 1) := by decide +kernel
theorem dX4_isHidden_76 : decode cX4_isHidden 76 = .ok (.getfield 19, 3) := by decide +kernel
theorem dX4_isHidden_79 : decode cX4_isHidden 79 = .ok (.iload 4, 2) := by decide +kernel
theorem dX4_isHidden_81 : decode cX4_isHidden 81 = .ok (.iload_n 1, 1) := by decide +kernel
theorem dX4_isHidden_82 : decode cX4_isHidden 82 = .ok (.invokevirtual 59, 3) := by decide +kernel
theorem dX4_isHidden_85 : decode cX4_isHidden 85 = .ok (.ifCond .eq 7, 3) := by decide +kernel
theorem dX4_isHidden_88 : decode cX4_isHidden 88 = .ok (.iconst 1, 1) := by decide +kernel
theorem dX4_isHidden_89 : decode cX4_isHidden 89 = .ok (.goto 4, 3) := by decide +kernel
theorem dX4_isHidden_92 : decode cX4_isHidden 92 = .ok (.iconst 0, 1) := by decide +kernel
theorem dX4_isHidden_93 : decode cX4_isHidden 93 = .ok (.ireturn, 1) := by decide +kernel
end
section
theorem dX5_init_0 : decode cX5_init 0 = .ok (.aload_n 0, 1) := by decide +kernel
theorem dX5_init_1 : decode cX5_init 1 = .ok (.invokespecial 1, 3) := by decide +kernel
theorem dX5_init_4 : decode cX5_init 4 = .ok (.aload_n 0, 1) := by decide +kernel
theorem dX5_init_5 : decode cX5_init 5 = .ok (.bipush 64, 2) := by decide +kernel
theorem dX5_init_7 : decode cX5_init 7 = .ok (.newarray .boolean, 2) := by decide +kernel
theorem dX5_init_9 : decode cX5_init 9 = .ok (.putfield 7, 3) := by decide +kernel
theorem dX5_init_12 : decode cX5_init 12 = .ok (.aload_n 0, 1) := by decide +kernel
theorem dX5_init_13 : decode cX5_init 13 = .ok (.bipush 64, 2) := by decide +kernel
theorem dX5_init_15 : decode cX5_init 15 = .ok (.newarray .boolean, 2) := by decide +kernel
theorem dX5_init_17 : decode cX5_init 17 = .ok (.putfield 13, 3) := by decide +kernel
theorem dX5_init_20 : decode cX5_init 20 = .ok (.aload_n 0, 1) := by decide +kernel
theorem dX5_init_21 : decode cX5_init 21 = .ok (.bipush 64, 2) := by decide +kernel
theorem dX5_init_23 : decode cX5_init 23 = .ok (.newarray .boolean, 2) := by decide +kernel
theorem dX5_init_25 : decode cX5_init 25 = .ok (.putfield 16, 3) := by decide +kernel
theorem dX5_init_28 : decode cX5_init 28 = .ok (.aload_n 0, 1) := by decide +kernel
theorem dX5_init_29 : decode cX5_init 29 = .ok (.sipush 150, 3) := by decide +kernel
theorem dX5_init_32 : decode cX5_init 32 = .ok (.newarray .int, 2) := by decide +kernel
theorem dX5_init_34 : decode cX5_init 34 = .ok (.putfield 19, 3) := by decide +kernel
theorem dX5_init_37 : decode cX5_init 37 = .ok (.aload_n 0, 1) := by decide +kernel
theorem dX5_init_38 : decode cX5_init 38 = .ok (.sipush 150, 3) := by decide +kernel
theorem dX5_init_41 : decode cX5_init 41 = .ok (.newarray .int, 2) := by decide +kernel
theorem dX5_init_43 : decode cX5_init 43 = .ok (.putfield 23, 3) := by decide +kernel
theorem dX5_init_46 : decode cX5_init 46 = .ok (.aload_n 0, 1) := by decide +kernel
theorem dX5_init_47 : decode cX5_init 47 = .ok (.sipush 150, 3) := by decide +kernel
theorem dX5_init_50 : decode cX5_init 50 = .ok (.newarray .boolean, 2) := by decide +kernel
theorem dX5_init_52 : decode cX5_init 52 = .ok (.putfield 26, 3) := by decide +kernel
theorem dX5_init_55 : decode cX5_init 55 = .ok (.aload_n 0, 1) := by decide +kernel
theorem dX5_init_56 : decode cX5_init 56 = .ok (.iconst 3, 1) := by decide +kernel
theorem dX5_init_57 : decode cX5_init 57 = .ok (.putfield 29, 3) := by decide +kernel
theorem dX5_init_60 : decode cX5_init 60 = .ok (.aload_n 0, 1) := by decide +kernel
theorem dX5_init_61 : decode cX5_init 61 = .ok (.bipush 10, 2) := by decide +kernel
theorem dX5_init_63 : decode cX5_init 63 = .ok (.putfield 33, 3) := by decide +kernel
theorem dX5_init_66 : decode cX5_init 66 = .ok (.aload_n 0, 1) := by decide +kernel
theorem dX5_init_67 : decode cX5_init 67 = .ok (.bipush 8, 2) := by decide +kernel
theorem dX5_init_69 : decode cX5_init 69 = .ok (.newarray .int, 2) := by decide +kernel
theorem dX5_init_71 : decode cX5_init 71 = .ok (.putfield 36, 3) := by decide +kernel
theorem dX5_init_74 : decode cX5_init 74 = .ok (.iconst 0, 1) := by decide +kernel
theorem dX5_init_75 : decode cX5_init 75 = .ok (.istore_n 1, 1) := by decide +kernel
theorem dX5_init_76 : decode cX5_init 76 = .ok (.iload_n 1, 1) := by decide +kernel
theorem dX5_init_77 : decode cX5_init 77 = .ok (.bipush 8, 2) := by decide +kernel
theorem dX5_init_79 : decode cX5_init 79 = .ok (.if_icmp .ge 16, 3) := by decide +kernel
theorem dX5_init_82 : decode cX5_init 82 = .ok (.aload_n 0, 1) := by decide +kernel
theorem dX5_init_83 : decode cX5_init 83 = .ok (.getfield 36, 3) := by decide +kernel
theorem dX5_init_86 : decode cX5_init 86 = .ok (.iload_n 1, 1) := by decide +kernel
theorem dX5_init_87 : decode cX5_init 87 = .ok (.iconst (-1), 1) := by decide +kernel
theorem dX5_init_88 : decode cX5_init 88 = .ok (.iastore, 1) := by decide +kernel
theorem dX5_init_89 : decode cX5_init 89 = .ok (.iinc 1 1, 3) := by decide +kernel
theorem dX5_init_92 : decode cX5_init 92 = .ok (.goto (-16), 3) := by decide +kernel
theorem dX5_init_95 : decode cX5_init 95 = .ok (.return_, 1) := by decide +kernel
theorem dX5_thrown_0 : decode cX5_thrown 0 = .ok (.aload_n 0, 1) := by decide +kernel
theorem dX5_thrown_1 : decode cX5_thrown 1 = .ok (.getfield 39, 3) := by decide +kernel
theorem dX5_thrown_4 : decode cX5_thrown 4 = .ok (.ireturn, 1) := by decide +kernel
theorem dX5_in_0 : decode cX5_in 0 = .ok (.iload_n 0, 1) := by decide +kernel
theorem dX5_in_1 : decode cX5_in 1 = .ok (.iload_n 1, 1) := by decide +kernel
theorem dX5_in_2 : decode cX5_in 2 = .ok (.if_icmp .lt 12, 3) := by decide +kernel
theorem dX5_in_5 : decode cX5_in 5 = .ok (.iload_n 0, 1) := by decide +kernel
theorem dX5_in_6 : decode cX5_in 6 = .ok (.iload_n 2, 1) := by decide +kernel
theorem dX5_in_7 : decode cX5_in 7 = .ok (.if_icmp .gt 7, 3) := by decide +kernel
theorem dX5_in_10 : decode cX5_in 10 = .ok (.iconst 1, 1) := by decide +kernel
theorem dX5_in_11 : decode cX5_in 11 = .ok (.goto 4, 3) := by decide +kernel
theorem dX5_in_14 : decode cX5_in 14 = .ok (.iconst 0, 1) := by decide +kernel
theorem dX5_in_15 : decode cX5_in 15 = .ok (.ireturn, 1) := by decide +kernel
theorem dX5_isFine_0 : decode cX5_isFine 0 = .ok (.aload_n 0, 1) := by decide +kernel
theorem dX5_isFine_1 : decode cX5_isFine 1 = .ok (.iload_n 1, 1) := by decide +kernel
theorem dX5_isFine_2 : decode cX5_isFine 2 = .ok (.putfield 39, 3) := by decide +kernel
theorem dX5_isFine_5 : decode cX5_isFine 5 = .ok (.iload_n 1, 1) := by decide +kernel
theorem dX5_isFine_6 : decode cX5_isFine 6 = .ok (.ifCond .ne 7, 3) := by decide +kernel
theorem dX5_isFine_9 : decode cX5_isFine 9 = .ok (.iconst 1, 1) := by decide +kernel
theorem dX5_isFine_10 : decode cX5_isFine 10 = .ok (.goto 4, 3) := by decide +kernel
theorem dX5_isFine_13 : decode cX5_isFine 13 = .ok (.iconst 0, 1) := by decide +kernel
theorem dX5_isFine_14 : decode cX5_isFine 14 = .ok (.ireturn, 1) := by decide +kernel
set_option maxRecDepth 20000 in
theorem ggX5_isOne_X5_in : GoodIn wsX5_isOne wsX5_in := goodIn_r _ [4] (by decide +kernel) (by decide +kernel)
set_option maxRecDepth 20000 in
theorem gX5_isOne_X5_in : GoodIn wsX5_isOne (va_wsS RX5 42 yX5_in wsX5_in) := goodIn_app (goodIn_of _ (by decide +kernel)) ggX5_isOne_X5_in
theorem dX5_isOne_0 : decode cX5_isOne 0 = .ok (.iload_n 0, 1) := by decide +kernel
theorem dX5_isOne_1 : decode cX5_isOne 1 = .ok (.iconst 0, 1) := by decide +kernel
theorem dX5_isOne_2 : decode cX5_isOne 2 = .ok (.bipush 7, 2) := by decide +kernel
theorem dX5_isOne_4 : decode cX5_isOne 4 = .ok (.invokestatic 42, 3) := by decide +kernel
theorem dX5_isOne_7 : decode cX5_isOne 7 = .ok (.ireturn, 1) := by decide +kernel
set_option maxRecDepth 20000 in
theorem ggX5_isEntry_X5_in : GoodIn wsX5_isEntry wsX5_in := goodIn_r _ [5] (by decide +kernel) (by decide +kernel)
set_option maxRecDepth 20000 in
theorem gX5_isEntry_X5_in : GoodIn wsX5_isEntry (va_wsS RX5 42 yX5_in wsX5_in) := goodIn_app (goodIn_of _ (by decide +kernel)) ggX5_isEntry_X5_in
theorem dX5_isEntry_0 : decode cX5_isEntry 0 = .ok (.iload_n 1, 1) := by decide +kernel
theorem dX5_isEntry_1 : decode cX5_isEntry 1 = .ok (.iconst 0, 1) := by decide +kernel
theorem dX5_isEntry_2 : decode cX5_isEntry 2 = .ok (.aload_n 0, 1) := by decide +kernel
theorem dX5_isEntry_3 : decode cX5_isEntry 3 = .ok (.getfield 46, 3) := by decide +kernel
theorem dX5_isEntry_6 : decode cX5_isEntry 6 = .ok (.iconst 1, 1) := by decide +kernel
theorem dX5_isEntry_7 : decode cX5_isEntry 7 = .ok (.isub, 1) := by decide +kernel
theorem dX5_isEntry_8 : decode cX5_isEntry 8 = .ok (.invokestatic 42, 3) := by decide +kernel
theorem dX5_isEntry_11 : decode cX5_isEntry 11 = .ok (.ireturn, 1) := by decide +kernel
theorem dX5_followersOf_0 : decode cX5_followersOf 0 = .ok (.iconst 0, 1) := by decide +kernel
theorem dX5_followersOf_1 : decode cX5_followersOf 1 = .ok (.istore_n 2, 1) := by decide +kernel
theorem dX5_followersOf_2 : decode cX5_followersOf 2 = .ok (.iconst 0, 1) := by decide +kernel
theorem dX5_followersOf_3 : decode cX5_followersOf 3 = .ok (.istore_n 3, 1) := by decide +kernel
theorem dX5_followersOf_4 : decode cX5_followersOf 4 = .ok (.iload_n 3, 1) := by decide +kernel
theorem dX5_followersOf_5 : decode cX5_followersOf 5 = .ok (.bipush 8, 2) := by decide +kernel
theorem dX5_followersOf_7 : decode cX5_followersOf 7 = .ok (.if_icmp .ge 31, 3) := by decide +kernel
theorem dX5_followersOf_10 : decode cX5_followersOf 10 = .ok (.iload_n 2, 1) := by decide +kernel
theorem dX5_followersOf_11 : decode cX5_followersOf 11 = .ok (.aload_n 0, 1) := by decide +kernel
theorem dX5_followersOf_12 : decode cX5_followersOf 12 = .ok (.getfield 7, 3) := by decide +kernel
theorem dX5_followersOf_15 : decode cX5_followersOf 15 = .ok (.bipush 8, 2) := by decide +kernel
theorem dX5_followersOf_17 : decode cX5_followersOf 17 = .ok (.iload_n 3, 1) := by decide +kernel
theorem dX5_followersOf_18 : decode cX5_followersOf 18 = .ok (.imul, 1) := by decide +kernel
theorem dX5_followersOf_19 : decode cX5_followersOf 19 = .ok (.iload_n 1, 1) := by decide +kernel
theorem dX5_followersOf_20 : decode cX5_followersOf 20 = .ok (.iadd, 1) := by decide +kernel
theorem dX5_followersOf_21 : decode cX5_followersOf 21 = .ok (.baload, 1) := by decide +kernel
theorem dX5_followersOf_22 : decode cX5_followersOf 22 = .ok (.ifCond .eq 7, 3) := by decide +kernel
theorem dX5_followersOf_25 : decode cX5_followersOf 25 = .ok (.iconst 1, 1) := by decide +kernel
theorem dX5_followersOf_26 : decode cX5_followersOf 26 = .ok (.goto 4, 3) := by decide +kernel
theorem dX5_followersOf_29 : decode cX5_followersOf 29 = .ok (.iconst 0, 1) := by decide +kernel
theorem dX5_followersOf_30 : decode cX5_followersOf 30 = .ok (.iadd, 1) := by decide +kernel
theorem dX5_followersOf_31 : decode cX5_followersOf 31 = .ok (.istore_n 2, 1) := by decide +kernel
theorem dX5_followersOf_32 : decode cX5_followersOf 32 = .ok (.iinc 3 1, 3) := by decide +kernel
theorem dX5_followersOf_35 : decode cX5_followersOf 35 = .ok (.goto (-31), 3) := by decide +kernel
theorem dX5_followersOf_38 : decode cX5_followersOf 38 = .ok (.iload_n 2, 1) := by decide +kernel
theorem dX5_followersOf_39 : decode cX5_followersOf 39 = .ok (.ireturn, 1) := by decide +kernel
set_option maxRecDepth 20000 in
theorem ggX5_large_X5_followersOf : GoodIn wsX5_large wsX5_followersOf := goodIn_r _ [6, 7, 8, 9, 10, 11, 12, 13, 14, 15, 16, 17, 18] (by decide +kernel) (by decide +kernel)
set_option maxRecDepth 20000 in
theorem gX5_large_X5_followersOf : GoodIn wsX5_large (wsV RX5 49 RX5 yX5_followersOf wsX5_followersOf) := goodIn_app (goodIn_of _ (by decide +kernel)) ggX5_large_X5_followersOf
theorem dX5_large_0 : decode cX5_large 0 = .ok (.aload_n 0, 1) := by decide +kernel
theorem dX5_large_1 : decode cX5_large 1 = .ok (.iload_n 1, 1) := by decide +kernel
theorem dX5_large_2 : decode cX5_large 2 = .ok (.invokevirtual 49, 3) := by decide +kernel
theorem dX5_large_5 : decode cX5_large 5 = .ok (.aload_n 0, 1) := by decide +kernel
theorem dX5_large_6 : decode cX5_large 6 = .ok (.getfield 29, 3) := by decide +kernel
theorem dX5_large_9 : decode cX5_large 9 = .ok (.if_icmp .le 7, 3) := by decide +kernel
theorem dX5_large_12 : decode cX5_large 12 = .ok (.iconst 1, 1) := by decide +kernel
theorem dX5_large_13 : decode cX5_large 13 = .ok (.goto 4, 3) := by decide +kernel
theorem dX5_large_16 : decode cX5_large 16 = .ok (.iconst 0, 1) := by decide +kernel
theorem dX5_large_17 : decode cX5_large 17 = .ok (.ireturn, 1) := by decide +kernel
set_option maxRecDepth 20000 in
theorem ggX5_isInRow_X5_large : GoodIn wsX5_isInRow wsX5_large := goodIn_r _ [9, 10, 11, 12, 13, 8, 14, 3, 15, 16, 17, 18, 19, 20, 21, 22, 23, 24, 25] (by decide +kernel) (by decide +kernel)
set_option maxRecDepth 20000 in
theorem gX5_isInRow_X5_large : GoodIn wsX5_isInRow (wsV RX5 53 RX5 yX5_large wsX5_large) := goodIn_app (goodIn_of _ (by decide +kernel)) ggX5_isInRow_X5_large
theorem dX5_isInRow_0 : decode cX5_isInRow 0 = .ok (.iload_n 2, 1) := by decide +kernel
theorem dX5_isInRow_1 : decode cX5_isInRow 1 = .ok (.aload_n 0, 1) := by decide +kernel
theorem dX5_isInRow_2 : decode cX5_isInRow 2 = .ok (.getfield 36, 3) := by decide +kernel
theorem dX5_isInRow_5 : decode cX5_isInRow 5 = .ok (.iload_n 1, 1) := by decide +kernel
theorem dX5_isInRow_6 : decode cX5_isInRow 6 = .ok (.iaload, 1) := by decide +kernel
theorem dX5_isInRow_7 : decode cX5_isInRow 7 = .ok (.if_icmp .le 48, 3) := by decide +kernel
theorem dX5_isInRow_10 : decode cX5_isInRow 10 = .ok (.aload_n 0, 1) := by decide +kernel
theorem dX5_isInRow_11 : decode cX5_isInRow 11 = .ok (.getfield 26, 3) := by decide +kernel
theorem dX5_isInRow_14 : decode cX5_isInRow 14 = .ok (.iload_n 2, 1) := by decide +kernel
theorem dX5_isInRow_15 : decode cX5_isInRow 15 = .ok (.baload, 1) := by decide +kernel
theorem dX5_isInRow_16 : decode cX5_isInRow 16 = .ok (.ifCond .ne 39, 3) := by decide +kernel
theorem dX5_isInRow_19 : decode cX5_isInRow 19 = .ok (.aload_n 0, 1) := by decide +kernel
theorem dX5_isInRow_20 : decode cX5_isInRow 20 = .ok (.getfield 7, 3) := by decide +kernel
theorem dX5_isInRow_23 : decode cX5_isInRow 23 = .ok (.bipush 8, 2) := by decide +kernel
theorem dX5_isInRow_25 : decode cX5_isInRow 25 = .ok (.iload_n 1, 1) := by decide +kernel
theorem dX5_isInRow_26 : decode cX5_isInRow 26 = .ok (.imul, 1) := by decide +kernel
theorem dX5_isInRow_27 : decode cX5_isInRow 27 = .ok (.aload_n 0, 1) := by decide +kernel
theorem dX5_isInRow_28 : decode cX5_isInRow 28 = .ok (.getfield 19, 3) := by decide +kernel
theorem dX5_isInRow_31 : decode cX5_isInRow 31 = .ok (.iload_n 2, 1) := by decide +kernel
theorem dX5_isInRow_32 : decode cX5_isInRow 32 = .ok (.iaload, 1) := by decide +kernel
theorem dX5_isInRow_33 : decode cX5_isInRow 33 = .ok (.iadd, 1) := by decide +kernel
theorem dX5_isInRow_34 : decode cX5_isInRow 34 = .ok (.baload, 1) := by decide +kernel
theorem dX5_isInRow_35 : decode cX5_isInRow 35 = .ok (.ifCond .eq 20, 3) := by decide +kernel
theorem dX5_isInRow_38 : decode cX5_isInRow 38 = .ok (.aload_n 0, 1) := by decide +kernel
theorem dX5_isInRow_39 : decode cX5_isInRow 39 = .ok (.aload_n 0, 1) := by decide +kernel
theorem dX5_isInRow_40 : decode cX5_isInRow 40 = .ok (.getfield 19, 3) := by decide +kernel
theorem dX5_isInRow_43 : decode cX5_isInRow 43 = .ok (.iload_n 2, 1) := by decide +kernel
theorem dX5_isInRow_44 : decode cX5_isInRow 44 = .ok (.iaload, 1) := by decide +kernel
theorem dX5_isInRow_45 : decode cX5_isInRow 45 = .ok (.invokevirtual 53, 3) := by decide +kernel
theorem dX5_isInRow_48 : decode cX5_isInRow 48 = .ok (.ifCond .ne 7, 3) := by decide +kernel
theorem dX5_isInRow_51 : decode cX5_isInRow 51 = .ok (.iconst 1, 1) := by decide +kernel
theorem dX5_isInRow_52 : decode cX5_isInRow 52 = .ok (.goto 4, 3) := by decide +kernel
theorem dX5_isInRow_55 : decode cX5_isInRow 55 = .ok (.iconst 0, 1) := by decide +kernel
theorem dX5_isInRow_56 : decode cX5_isInRow 56 = .ok (.ireturn, 1) := by decide +kernel
set_option maxRecDepth 20000 in
theorem ggX5_rowLength_X5_isInRow : GoodIn wsX5_rowLength wsX5_isInRow := goodIn_r _ [6, 7, 8, 9, 10, 11, 12, 13, 5, 14, 15, 16, 17, 18, 19, 20, 21, 22, 23, 24, 25, 26, 27, 28, 29, 30] (by decide +kernel) (by decide +kernel)
set_option maxRecDepth 20000 in
theorem gX5_rowLength_X5_isInRow : GoodIn wsX5_rowLength (wsV RX5 57 RX5 yX5_isInRow wsX5_isInRow) := goodIn_app (goodIn_of _ (by decide +kernel)) ggX5_rowLength_X5_isInRow
theorem dX5_rowLength_0 : decode cX5_rowLength 0 = .ok (.iconst 0, 1) := by decide +kernel
theorem dX5_rowLength_1 : decode cX5_rowLength 1 = .ok (.istore_n 2, 1) := by decide +kernel
theorem dX5_rowLength_2 : decode cX5_rowLength 2 = .ok (.iconst 0, 1) := by decide +kernel
theorem dX5_rowLength_3 : decode cX5_rowLength 3 = .ok (.istore_n 3, 1) := by decide +kernel
theorem dX5_rowLength_4 : decode cX5_rowLength 4 = .ok (.iload_n 3, 1) := by decide +kernel
theorem dX5_rowLength_5 : decode cX5_rowLength 5 = .ok (.aload_n 0, 1) := by decide +kernel
theorem dX5_rowLength_6 : decode cX5_rowLength 6 = .ok (.getfield 46, 3) := by decide +kernel
theorem dX5_rowLength_9 : decode cX5_rowLength 9 = .ok (.if_icmp .ge 26, 3) := by decide +kernel
theorem dX5_rowLength_12 : decode cX5_rowLength 12 = .ok (.iload_n 2, 1) := by decide +kernel
theorem dX5_rowLength_13 : decode cX5_rowLength 13 = .ok (.aload_n 0, 1) := by decide +kernel
theorem dX5_rowLength_14 : decode cX5_rowLength 14 = .ok (.iload_n 1, 1) := by decide +kernel
theorem dX5_rowLength_15 : decode cX5_rowLength 15 = .ok (.iload_n 3, 1) := by decide +kernel
theorem dX5_rowLength_16 : decode cX5_rowLength 16 = .ok (.invokevirtual 57, 3) := by decide +kernel
theorem dX5_rowLength_19 : decode cX5_rowLength 19 = .ok (.ifCond .eq 7, 3) := by decide +kernel
theorem dX5_rowLength_22 : decode cX5_rowLength 22 = .ok (.iconst 1, 1) := by decide +kernel
theorem dX5_rowLength_23 : decode cX5_rowLength 23 = .ok (.goto 4, 3) := by decide +kernel
theorem dX5_rowLength_26 : decode cX5_rowLength 26 = .ok (.iconst 0, 1) := by decide +kernel
theorem dX5_rowLength_27 : decode cX5_rowLength 27 = .ok (.iadd, 1) := by decide +kernel
theorem dX5_rowLength_28 : decode cX5_rowLength 28 = .ok (.istore_n 2, 1) := by decide +kernel
theorem dX5_rowLength_29 : decode cX5_rowLength 29 = .ok (.iinc 3 1, 3) := by decide +kernel
theorem dX5_rowLength_32 : decode cX5_rowLength 32 = .ok (.goto (-28), 3) := by decide +kernel
theorem dX5_rowLength_35 : decode cX5_rowLength 35 = .ok (.iload_n 2, 1) := by decide +kernel
theorem dX5_rowLength_36 : decode cX5_rowLength 36 = .ok (.ireturn, 1) := by decide +kernel
set_option maxRecDepth 20000 in
theorem ggX5_cuts_X5_rowLength : GoodIn wsX5_cuts wsX5_rowLength := goodIn_r _ [8, 2, 9, 10, 11, 7, 12, 3, 13, 14, 15, 16, 17, 18, 19, 20, 21, 22, 23, 24, 25, 26, 27, 28, 29, 30, 31, 32, 33, 34, 35] (by decide +kernel) (by decide +kernel)
set_option maxRecDepth 20000 in
theorem gX5_cuts_X5_rowLength : GoodIn wsX5_cuts (wsV RX5 61 RX5 yX5_rowLength wsX5_rowLength) := goodIn_app (goodIn_of _ (by decide +kernel)) ggX5_cuts_X5_rowLength
set_option maxRecDepth 20000 in
theorem ggX5_cuts_X5_isInRow : GoodIn wsX5_cuts wsX5_isInRow := goodIn_r _ [12, 3, 13, 14, 15, 16, 17, 18, 7, 19, 20, 21, 22, 23, 24, 25, 26, 27, 28, 29, 30, 31, 32, 33, 34, 35] (by decide +kernel) (by decide +kernel)
set_option maxRecDepth 20000 in
theorem gX5_cuts_X5_isInRow : GoodIn wsX5_cuts (wsV RX5 57 RX5 yX5_isInRow wsX5_isInRow) := goodIn_app (goodIn_of _ (by decide +kernel)) ggX5_cuts_X5_isInRow
theorem dX5_cuts_0 : decode cX5_cuts 0 = .ok (.iconst 0, 1) := by decide +kernel
theorem dX5_cuts_1 : decode cX5_cuts 1 = .ok (.istore_n 1, 1) := by decide +kernel
theorem dX5_cuts_2 : decode cX5_cuts 2 = .ok (.iload_n 1, 1) := by decide +kernel
theorem dX5_cuts_3 : decode cX5_cuts 3 = .ok (.bipush 8, 2) := by decide +kernel
theorem dX5_cuts_5 : decode cX5_cuts 5 = .ok (.if_icmp .ge 59, 3) := by decide +kernel
theorem dX5_cuts_8 : decode cX5_cuts 8 = .ok (.aload_n 0, 1) := by decide +kernel
theorem dX5_cuts_9 : decode cX5_cuts 9 = .ok (.iload_n 1, 1) := by decide +kernel
theorem dX5_cuts_10 : decode cX5_cuts 10 = .ok (.invokevirtual 61, 3) := by decide +kernel
theorem dX5_cuts_13 : decode cX5_cuts 13 = .ok (.aload_n 0, 1) := by decide +kernel
theorem dX5_cuts_14 : decode cX5_cuts 14 = .ok (.getfield 33, 3) := by decide +kernel
theorem dX5_cuts_17 : decode cX5_cuts 17 = .ok (.isub, 1) := by decide +kernel
theorem dX5_cuts_18 : decode cX5_cuts 18 = .ok (.istore_n 2, 1) := by decide +kernel
theorem dX5_cuts_19 : decode cX5_cuts 19 = .ok (.iconst 0, 1) := by decide +kernel
theorem dX5_cuts_20 : decode cX5_cuts 20 = .ok (.istore_n 3, 1) := by decide +kernel
theorem dX5_cuts_21 : decode cX5_cuts 21 = .ok (.iload_n 3, 1) := by decide +kernel
theorem dX5_cuts_22 : decode cX5_cuts 22 = .ok (.aload_n 0, 1) := by decide +kernel
theorem dX5_cuts_23 : decode cX5_cuts 23 = .ok (.getfield 46, 3) := by decide +kernel
theorem dX5_cuts_26 : decode cX5_cuts 26 = .ok (.if_icmp .ge 32, 3) := by decide +kernel
theorem dX5_cuts_29 : decode cX5_cuts 29 = .ok (.iload_n 2, 1) := by decide +kernel
theorem dX5_cuts_30 : decode cX5_cuts 30 = .ok (.ifCond .le 28, 3) := by decide +kernel
theorem dX5_cuts_33 : decode cX5_cuts 33 = .ok (.aload_n 0, 1) := by decide +kernel
theorem dX5_cuts_34 : decode cX5_cuts 34 = .ok (.iload_n 1, 1) := by decide +kernel
theorem dX5_cuts_35 : decode cX5_cuts 35 = .ok (.iload_n 3, 1) := by decide +kernel
theorem dX5_cuts_36 : decode cX5_cuts 36 = .ok (.invokevirtual 57, 3) := by decide +kernel
theorem dX5_cuts_39 : decode cX5_cuts 39 = .ok (.ifCond .eq 13, 3) := by decide +kernel
theorem dX5_cuts_42 : decode cX5_cuts 42 = .ok (.aload_n 0, 1) := by decide +kernel
theorem dX5_cuts_43 : decode cX5_cuts 43 = .ok (.getfield 36, 3) := by decide +kernel
theorem dX5_cuts_46 : decode cX5_cuts 46 = .ok (.iload_n 1, 1) := by decide +kernel
theorem dX5_cuts_47 : decode cX5_cuts 47 = .ok (.iload_n 3, 1) := by decide +kernel
theorem dX5_cuts_48 : decode cX5_cuts 48 = .ok (.iastore, 1) := by decide +kernel
theorem dX5_cuts_49 : decode cX5_cuts 49 = .ok (.iinc 2 (-1), 3) := by decide +kernel
theorem dX5_cuts_52 : decode cX5_cuts 52 = .ok (.iinc 3 1, 3) := by decide +kernel
theorem dX5_cuts_55 : decode cX5_cuts 55 = .ok (.goto (-34), 3) := by decide +kernel
theorem dX5_cuts_58 : decode cX5_cuts 58 = .ok (.iinc 1 1, 3) := by decide +kernel
theorem dX5_cuts_61 : decode cX5_cuts 61 = .ok (.goto (-59), 3) := by decide +kernel
theorem dX5_cuts_64 : decode cX5_cuts 64 = .ok (.return_, 1) := by decide +kernel
set_option maxRecDepth 20000 in
theorem ggX5_follow_X5_isOne : GoodIn wsX5_follow wsX5_isOne := goodIn_r _ [6, 7, 8, 5, 9] (by decide +kernel) (by decide +kernel)
set_option maxRecDepth 20000 in
theorem gX5_follow_X5_isOne : GoodIn wsX5_follow (va_wsS RX5 64 yX5_isOne wsX5_isOne) := goodIn_app (goodIn_of _ (by decide +kernel)) ggX5_follow_X5_isOne
set_option maxRecDepth 20000 in
theorem ggX5_follow_X5_isFine : GoodIn wsX5_follow wsX5_isFine := goodIn_r _ [13, 14, 41, 42, 43, 44, 45, 46, 47, 48, 49, 50, 51] (by decide +kernel) (by decide +kernel)
set_option maxRecDepth 20000 in
theorem gX5_follow_X5_isFine : GoodIn wsX5_follow (wsV RX5 67 RX5 yX5_isFine wsX5_isFine) := goodIn_app (goodIn_of _ (by decide +kernel)) ggX5_follow_X5_isFine
set_option maxRecDepth 20000 in
theorem ggX5_follow_X5_cuts : GoodIn wsX5_follow wsX5_cuts := goodIn_r _ [18, 19, 20, 21, 22, 23, 24, 5, 25, 26, 27, 28, 29, 30, 1, 31, 32, 33, 34, 35, 36, 37, 38, 39, 40, 41, 42, 43, 44, 45, 46, 47, 48, 49, 50, 51] (by decide +kernel) (by decide +kernel)
set_option maxRecDepth 20000 in
theorem gX5_follow_X5_cuts : GoodIn wsX5_follow (wsV RX5 70 RX5 yX5_cuts wsX5_cuts) := goodIn_app (goodIn_of _ (by decide +kernel)) ggX5_follow_X5_cuts
set_option maxRecDepth 20000 in
theorem ggX5_follow_X5_followersOf : GoodIn wsX5_follow wsX5_followersOf := goodIn_r _ [40, 1, 41, 42, 43, 44, 45, 46, 47, 48, 49, 50, 51] (by decide +kernel) (by decide +kernel)
set_option maxRecDepth 20000 in
theorem gX5_follow_X5_followersOf : GoodIn wsX5_follow (wsV RX5 49 RX5 yX5_followersOf wsX5_followersOf) := goodIn_app (goodIn_of _ (by decide +kernel)) ggX5_follow_X5_followersOf
theorem dX5_follow_0 : decode cX5_follow 0 = .ok (.iload_n 1, 1) := by decide +kernel
theorem dX5_follow_1 : decode cX5_follow 1 = .ok (.invokestatic 64, 3) := by decide +kernel
theorem dX5_follow_4 : decode cX5_follow 4 = .ok (.ifCond .eq 10, 3) := by decide +kernel
theorem dX5_follow_7 : decode cX5_follow 7 = .ok (.iload_n 2, 1) := by decide +kernel
theorem dX5_follow_8 : decode cX5_follow 8 = .ok (.invokestatic 64, 3) := by decide +kernel
theorem dX5_follow_11 : decode cX5_follow 11 = .ok (.ifCond .ne 7, 3) := by decide +kernel
theorem dX5_follow_14 : decode cX5_follow 14 = .ok (.iconst 1, 1) := by decide +kernel
theorem dX5_follow_15 : decode cX5_follow 15 = .ok (.goto 13, 3) := by decide +kernel
theorem dX5_follow_18 : decode cX5_follow 18 = .ok (.iload_n 1, 1) := by decide +kernel
theorem dX5_follow_19 : decode cX5_follow 19 = .ok (.iload_n 2, 1) := by decide +kernel
theorem dX5_follow_20 : decode cX5_follow 20 = .ok (.if_icmp .ne 7, 3) := by decide +kernel
theorem dX5_follow_23 : decode cX5_follow 23 = .ok (.iconst 2, 1) := by decide +kernel
theorem dX5_follow_24 : decode cX5_follow 24 = .ok (.goto 4, 3) := by decide +kernel
theorem dX5_follow_27 : decode cX5_follow 27 = .ok (.iconst 0, 1) := by decide +kernel
theorem dX5_follow_28 : decode cX5_follow 28 = .ok (.istore_n 3, 1) := by decide +kernel
theorem dX5_follow_29 : decode cX5_follow 29 = .ok (.iload_n 3, 1) := by decide +kernel
theorem dX5_follow_30 : decode cX5_follow 30 = .ok (.ifCond .ne 47, 3) := by decide +kernel
theorem dX5_follow_33 : decode cX5_follow 33 = .ok (.aload_n 0, 1) := by decide +kernel
theorem dX5_follow_34 : decode cX5_follow 34 = .ok (.getfield 7, 3) := by decide +kernel
theorem dX5_follow_37 : decode cX5_follow 37 = .ok (.bipush 8, 2) := by decide +kernel
theorem dX5_follow_39 : decode cX5_follow 39 = .ok (.iload_n 1, 1) := by decide +kernel
theorem dX5_follow_40 : decode cX5_follow 40 = .ok (.imul, 1) := by decide +kernel
theorem dX5_follow_41 : decode cX5_follow 41 = .ok (.iload_n 2, 1) := by decide +kernel
theorem dX5_follow_42 : decode cX5_follow 42 = .ok (.iadd, 1) := by decide +kernel
theorem dX5_follow_43 : decode cX5_follow 43 = .ok (.baload, 1) := by decide +kernel
theorem dX5_follow_44 : decode cX5_follow 44 = .ok (.ifCond .ne 31, 3) := by decide +kernel
theorem dX5_follow_47 : decode cX5_follow 47 = .ok (.aload_n 0, 1) := by decide +kernel
theorem dX5_follow_48 : decode cX5_follow 48 = .ok (.getfield 16, 3) := by decide +kernel
theorem dX5_follow_51 : decode cX5_follow 51 = .ok (.bipush 8, 2) := by decide +kernel
theorem dX5_follow_53 : decode cX5_follow 53 = .ok (.iload_n 1, 1) := by decide +kernel
theorem dX5_follow_54 : decode cX5_follow 54 = .ok (.imul, 1) := by decide +kernel
theorem dX5_follow_55 : decode cX5_follow 55 = .ok (.iload_n 2, 1) := by decide +kernel
theorem dX5_follow_56 : decode cX5_follow 56 = .ok (.iadd, 1) := by decide +kernel
theorem dX5_follow_57 : decode cX5_follow 57 = .ok (.baload, 1) := by decide +kernel
theorem dX5_follow_58 : decode cX5_follow 58 = .ok (.ifCond .ne 17, 3) := by decide +kernel
theorem dX5_follow_61 : decode cX5_follow 61 = .ok (.aload_n 0, 1) := by decide +kernel
theorem dX5_follow_62 : decode cX5_follow 62 = .ok (.getfield 16, 3) := by decide +kernel
theorem dX5_follow_65 : decode cX5_follow 65 = .ok (.bipush 8, 2) := by decide +kernel
theorem dX5_follow_67 : decode cX5_follow 67 = .ok (.iload_n 2, 1) := by decide +kernel
theorem dX5_follow_68 : decode cX5_follow 68 = .ok (.imul, 1) := by decide +kernel
theorem dX5_follow_69 : decode cX5_follow 69 = .ok (.iload_n 1, 1) := by decide +kernel
theorem dX5_follow_70 : decode cX5_follow 70 = .ok (.iadd, 1) := by decide +kernel
theorem dX5_follow_71 : decode cX5_follow 71 = .ok (.baload, 1) := by decide +kernel
theorem dX5_follow_72 : decode cX5_follow 72 = .ok (.ifCond .eq 5, 3) := by decide +kernel
theorem dX5_follow_75 : decode cX5_follow 75 = .ok (.iconst 3, 1) := by decide +kernel
theorem dX5_follow_76 : decode cX5_follow 76 = .ok (.istore_n 3, 1) := by decide +kernel
theorem dX5_follow_77 : decode cX5_follow 77 = .ok (.aload_n 0, 1) := by decide +kernel
theorem dX5_follow_78 : decode cX5_follow 78 = .ok (.iload_n 3, 1) := by decide +kernel
theorem dX5_follow_79 : decode cX5_follow 79 = .ok (.invokevirtual 67, 3) := by decide +kernel
theorem dX5_follow_82 : decode cX5_follow 82 = .ok (.ifCond .ne 5, 3) := by decide +kernel
theorem dX5_follow_85 : decode cX5_follow 85 = .ok (.iconst 0, 1) := by decide +kernel
theorem dX5_follow_86 : decode cX5_follow 86 = .ok (.ireturn, 1) := by decide +kernel
theorem dX5_follow_87 : decode cX5_follow 87 = .ok (.aload_n 0, 1) := by decide +kernel
theorem dX5_follow_88 : decode cX5_follow 88 = .ok (.getfield 7, 3) := by decide +kernel
theorem dX5_follow_91 : decode cX5_follow 91 = .ok (.bipush 8, 2) := by decide +kernel
theorem dX5_follow_93 : decode cX5_follow 93 = .ok (.iload_n 1, 1) := by decide +kernel
theorem dX5_follow_94 : decode cX5_follow 94 = .ok (.imul, 1) := by decide +kernel
theorem dX5_follow_95 : decode cX5_follow 95 = .ok (.iload_n 2, 1) := by decide +kernel
theorem dX5_follow_96 : decode cX5_follow 96 = .ok (.iadd, 1) := by decide +kernel
theorem dX5_follow_97 : decode cX5_follow 97 = .ok (.iconst 1, 1) := by decide +kernel
theorem dX5_follow_98 : decode cX5_follow 98 = .ok (.bastore, 1) := by decide +kernel
theorem dX5_follow_99 : decode cX5_follow 99 = .ok (.aload_n 0, 1) := by decide +kernel
theorem dX5_follow_100 : decode cX5_follow 100 = .ok (.invokevirtual 70, 3) := by decide +kernel
theorem dX5_follow_103 : decode cX5_follow 103 = .ok (.aload_n 0, 1) := by decide +kernel
theorem dX5_follow_104 : decode cX5_follow 104 = .ok (.iload_n 2, 1) := by decide +kernel
theorem dX5_follow_105 : decode cX5_follow 105 = .ok (.invokevirtual 49, 3) := by decide +kernel
theorem dX5_follow_108 : decode cX5_follow 108 = .ok (.ireturn, 1) := by decide +kernel
set_option maxRecDepth 20000 in
theorem ggX5_unfollow_X5_isOne : GoodIn wsX5_unfollow wsX5_isOne := goodIn_r _ [5, 6, 7, 4, 8] (by decide +kernel) (by decide +kernel)
set_option maxRecDepth 20000 in
theorem gX5_unfollow_X5_isOne : GoodIn wsX5_unfollow (va_wsS RX5 64 yX5_isOne wsX5_isOne) := goodIn_app (goodIn_of _ (by decide +kernel)) ggX5_unfollow_X5_isOne
set_option maxRecDepth 20000 in
theorem ggX5_unfollow_X5_isFine : GoodIn wsX5_unfollow wsX5_isFine := goodIn_r _ [12, 13, 40, 41, 42, 43, 44, 45, 46, 47, 48, 49, 50] (by decide +kernel) (by decide +kernel)
set_option maxRecDepth 20000 in
theorem gX5_unfollow_X5_isFine : GoodIn wsX5_unfollow (wsV RX5 67 RX5 yX5_isFine wsX5_isFine) := goodIn_app (goodIn_of _ (by decide +kernel)) ggX5_unfollow_X5_isFine
set_option maxRecDepth 20000 in
theorem ggX5_unfollow_X5_cuts : GoodIn wsX5_unfollow wsX5_cuts := goodIn_r _ [17, 18, 19, 20, 21, 22, 23, 4, 24, 25, 26, 27, 28, 29, 1, 30, 31, 32, 33, 34, 35, 36, 37, 38, 39, 40, 41, 42, 43, 44, 45, 46, 47, 48, 49, 50] (by decide +kernel) (by decide +kernel)
set_option maxRecDepth 20000 in
theorem gX5_unfollow_X5_cuts : GoodIn wsX5_unfollow (wsV RX5 70 RX5 yX5_cuts wsX5_cuts) := goodIn_app (goodIn_of _ (by decide +kernel)) ggX5_unfollow_X5_cuts
set_option maxRecDepth 20000 in
theorem ggX5_unfollow_X5_followersOf : GoodIn wsX5_unfollow wsX5_followersOf := goodIn_r _ [39, 1, 40, 41, 42, 43, 44, 45, 46, 47, 48, 49, 50] (by decide +kernel) (by decide +kernel)
set_option maxRecDepth 20000 in
theorem gX5_unfollow_X5_followersOf : GoodIn wsX5_unfollow (wsV RX5 49 RX5 yX5_followersOf wsX5_followersOf) := goodIn_app (goodIn_of _ (by decide +kernel)) ggX5_unfollow_X5_followersOf
theorem dX5_unfollow_0 : decode cX5_unfollow 0 = .ok (.iload_n 1, 1) := by decide +kernel
theorem dX5_unfollow_1 : decode cX5_unfollow 1 = .ok (.invokestatic 64, 3) := by decide +kernel
theorem dX5_unfollow_4 : decode cX5_unfollow 4 = .ok (.ifCond .eq 10, 3) := by decide +kernel
theorem dX5_unfollow_7 : decode cX5_unfollow 7 = .ok (.iload_n 2, 1) := by decide +kernel
theorem dX5_unfollow_8 : decode cX5_unfollow 8 = .ok (.invokestatic 64, 3) := by decide +kernel
theorem dX5_unfollow_11 : decode cX5_unfollow 11 = .ok (.ifCond .ne 7, 3) := by decide +kernel
theorem dX5_unfollow_14 : decode cX5_unfollow 14 = .ok (.iconst 1, 1) := by decide +kernel
theorem dX5_unfollow_15 : decode cX5_unfollow 15 = .ok (.goto 22, 3) := by decide +kernel
theorem dX5_unfollow_18 : decode cX5_unfollow 18 = .ok (.aload_n 0, 1) := by decide +kernel
theorem dX5_unfollow_19 : decode cX5_unfollow 19 = .ok (.getfield 7, 3) := by decide +kernel
theorem dX5_unfollow_22 : decode cX5_unfollow 22 = .ok (.bipush 8, 2) := by decide +kernel
theorem dX5_unfollow_24 : decode cX5_unfollow 24 = .ok (.iload_n 1, 1) := by decide +kernel
theorem dX5_unfollow_25 : decode cX5_unfollow 25 = .ok (.imul, 1) := by decide +kernel
theorem dX5_unfollow_26 : decode cX5_unfollow 26 = .ok (.iload_n 2, 1) := by decide +kernel
theorem dX5_unfollow_27 : decode cX5_unfollow 27 = .ok (.iadd, 1) := by decide +kernel
theorem dX5_unfollow_28 : decode cX5_unfollow 28 = .ok (.baload, 1) := by decide +kernel
theorem dX5_unfollow_29 : decode cX5_unfollow 29 = .ok (.ifCond .ne 7, 3) := by decide +kernel
theorem dX5_unfollow_32 : decode cX5_unfollow 32 = .ok (.iconst 2, 1) := by decide +kernel
theorem dX5_unfollow_33 : decode cX5_unfollow 33 = .ok (.goto 4, 3) := by decide +kernel
theorem dX5_unfollow_36 : decode cX5_unfollow 36 = .ok (.iconst 0, 1) := by decide +kernel
theorem dX5_unfollow_37 : decode cX5_unfollow 37 = .ok (.istore_n 3, 1) := by decide +kernel
theorem dX5_unfollow_38 : decode cX5_unfollow 38 = .ok (.aload_n 0, 1) := by decide +kernel
theorem dX5_unfollow_39 : decode cX5_unfollow 39 = .ok (.iload_n 3, 1) := by decide +kernel
theorem dX5_unfollow_40 : decode cX5_unfollow 40 = .ok (.invokevirtual 67, 3) := by decide +kernel
theorem dX5_unfollow_43 : decode cX5_unfollow 43 = .ok (.ifCond .ne 5, 3) := by decide +kernel
theorem dX5_unfollow_46 : decode cX5_unfollow 46 = .ok (.iconst 0, 1) := by decide +kernel
theorem dX5_unfollow_47 : decode cX5_unfollow 47 = .ok (.ireturn, 1) := by decide +kernel
theorem dX5_unfollow_48 : decode cX5_unfollow 48 = .ok (.aload_n 0, 1) := by decide +kernel
theorem dX5_unfollow_49 : decode cX5_unfollow 49 = .ok (.getfield 7, 3) := by decide +kernel
theorem dX5_unfollow_52 : decode cX5_unfollow 52 = .ok (.bipush 8, 2) := by decide +kernel
theorem dX5_unfollow_54 : decode cX5_unfollow 54 = .ok (.iload_n 1, 1) := by decide +kernel
theorem dX5_unfollow_55 : decode cX5_unfollow 55 = .ok (.imul, 1) := by decide +kernel
theorem dX5_unfollow_56 : decode cX5_unfollow 56 = .ok (.iload_n 2, 1) := by decide +kernel
theorem dX5_unfollow_57 : decode cX5_unfollow 57 = .ok (.iadd, 1) := by decide +kernel
theorem dX5_unfollow_58 : decode cX5_unfollow 58 = .ok (.iconst 0, 1) := by decide +kernel
theorem dX5_unfollow_59 : decode cX5_unfollow 59 = .ok (.bastore, 1) := by decide +kernel
theorem dX5_unfollow_60 : decode cX5_unfollow 60 = .ok (.aload_n 0, 1) := by decide +kernel
theorem dX5_unfollow_61 : decode cX5_unfollow 61 = .ok (.invokevirtual 70, 3) := by decide +kernel
theorem dX5_unfollow_64 : decode cX5_unfollow 64 = .ok (.aload_n 0, 1) := by decide +kernel
theorem dX5_unfollow_65 : decode cX5_unfollow 65 = .ok (.iload_n 2, 1) := by decide +kernel
theorem dX5_unfollow_66 : decode cX5_unfollow 66 = .ok (.invokevirtual 49, 3) := by decide +kernel
theorem dX5_unfollow_69 : decode cX5_unfollow 69 = .ok (.ireturn, 1) := by decide +kernel
set_option maxRecDepth 20000 in
theorem ggX5_mute_X5_isOne : GoodIn wsX5_mute wsX5_isOne := goodIn_r _ [5, 6, 7, 4, 8] (by decide +kernel) (by decide +kernel)
set_option maxRecDepth 20000 in
theorem gX5_mute_X5_isOne : GoodIn wsX5_mute (va_wsS RX5 64 yX5_isOne wsX5_isOne) := goodIn_app (goodIn_of _ (by decide +kernel)) ggX5_mute_X5_isOne
set_option maxRecDepth 20000 in
theorem ggX5_mute_X5_isFine : GoodIn wsX5_mute wsX5_isFine := goodIn_r _ [12, 13, 14, 15, 16, 17, 18, 19, 20, 21, 22, 23, 24] (by decide +kernel) (by decide +kernel)
set_option maxRecDepth 20000 in
theorem gX5_mute_X5_isFine : GoodIn wsX5_mute (wsV RX5 67 RX5 yX5_isFine wsX5_isFine) := goodIn_app (goodIn_of _ (by decide +kernel)) ggX5_mute_X5_isFine
theorem dX5_mute_0 : decode cX5_mute 0 = .ok (.aload_n 0, 1) := by decide +kernel
theorem dX5_mute_1 : decode cX5_mute 1 = .ok (.iload_n 1, 1) := by decide +kernel
theorem dX5_mute_2 : decode cX5_mute 2 = .ok (.invokestatic 64, 3) := by decide +kernel
theorem dX5_mute_5 : decode cX5_mute 5 = .ok (.ifCond .eq 10, 3) := by decide +kernel
theorem dX5_mute_8 : decode cX5_mute 8 = .ok (.iload_n 2, 1) := by decide +kernel
theorem dX5_mute_9 : decode cX5_mute 9 = .ok (.invokestatic 64, 3) := by decide +kernel
theorem dX5_mute_12 : decode cX5_mute 12 = .ok (.ifCond .ne 7, 3) := by decide +kernel
theorem dX5_mute_15 : decode cX5_mute 15 = .ok (.iconst 1, 1) := by decide +kernel
theorem dX5_mute_16 : decode cX5_mute 16 = .ok (.goto 13, 3) := by decide +kernel
theorem dX5_mute_19 : decode cX5_mute 19 = .ok (.iload_n 1, 1) := by decide +kernel
theorem dX5_mute_20 : decode cX5_mute 20 = .ok (.iload_n 2, 1) := by decide +kernel
theorem dX5_mute_21 : decode cX5_mute 21 = .ok (.if_icmp .ne 7, 3) := by decide +kernel
theorem dX5_mute_24 : decode cX5_mute 24 = .ok (.iconst 2, 1) := by decide +kernel
theorem dX5_mute_25 : decode cX5_mute 25 = .ok (.goto 4, 3) := by decide +kernel
theorem dX5_mute_28 : decode cX5_mute 28 = .ok (.iconst 0, 1) := by decide +kernel
theorem dX5_mute_29 : decode cX5_mute 29 = .ok (.invokevirtual 67, 3) := by decide +kernel
theorem dX5_mute_32 : decode cX5_mute 32 = .ok (.ifCond .ne 5, 3) := by decide +kernel
theorem dX5_mute_35 : decode cX5_mute 35 = .ok (.iconst 0, 1) := by decide +kernel
theorem dX5_mute_36 : decode cX5_mute 36 = .ok (.ireturn, 1) := by decide +kernel
theorem dX5_mute_37 : decode cX5_mute 37 = .ok (.aload_n 0, 1) := by decide +kernel
theorem dX5_mute_38 : decode cX5_mute 38 = .ok (.getfield 13, 3) := by decide +kernel
theorem dX5_mute_41 : decode cX5_mute 41 = .ok (.bipush 8, 2) := by decide +kernel
theorem dX5_mute_43 : decode cX5_mute 43 = .ok (.iload_n 1, 1) := by decide +kernel
theorem dX5_mute_44 : decode cX5_mute 44 = .ok (.imul, 1) := by decide +kernel
theorem dX5_mute_45 : decode cX5_mute 45 = .ok (.iload_n 2, 1) := by decide +kernel
theorem dX5_mute_46 : decode cX5_mute 46 = .ok (.iadd, 1) := by decide +kernel
theorem dX5_mute_47 : decode cX5_mute 47 = .ok (.baload, 1) := by decide +kernel
theorem dX5_mute_48 : decode cX5_mute 48 = .ok (.istore 4, 2) := by decide +kernel
theorem dX5_mute_50 : decode cX5_mute 50 = .ok (.aload_n 0, 1) := by decide +kernel
theorem dX5_mute_51 : decode cX5_mute 51 = .ok (.getfield 13, 3) := by decide +kernel
theorem dX5_mute_54 : decode cX5_mute 54 = .ok (.bipush 8, 2) := by decide +kernel
theorem dX5_mute_56 : decode cX5_mute 56 = .ok (.iload_n 1, 1) := by decide +kernel
theorem dX5_mute_57 : decode cX5_mute 57 = .ok (.imul, 1) := by decide +kernel
theorem dX5_mute_58 : decode cX5_mute 58 = .ok (.iload_n 2, 1) := by decide +kernel
theorem dX5_mute_59 : decode cX5_mute 59 = .ok (.iadd, 1) := by decide +kernel
theorem dX5_mute_60 : decode cX5_mute 60 = .ok (.iload_n 3, 1) := by decide +kernel
theorem dX5_mute_61 : decode cX5_mute 61 = .ok (.bastore, 1) := by decide +kernel
theorem dX5_mute_62 : decode cX5_mute 62 = .ok (.iload 4, 2) := by decide +kernel
theorem dX5_mute_64 : decode cX5_mute 64 = .ok (.ireturn, 1) := by decide +kernel
set_option maxRecDepth 20000 in
theorem ggX5_block_X5_isOne : GoodIn wsX5_block wsX5_isOne := goodIn_r _ [6, 7, 8, 5, 9] (by decide +kernel) (by decide +kernel)
set_option maxRecDepth 20000 in
theorem gX5_block_X5_isOne : GoodIn wsX5_block (va_wsS RX5 64 yX5_isOne wsX5_isOne) := goodIn_app (goodIn_of _ (by decide +kernel)) ggX5_block_X5_isOne
set_option maxRecDepth 20000 in
theorem ggX5_block_X5_isFine : GoodIn wsX5_block wsX5_isFine := goodIn_r _ [13, 14, 41, 42, 43, 44, 45, 46, 47, 48, 49, 50, 51] (by decide +kernel) (by decide +kernel)
set_option maxRecDepth 20000 in
theorem gX5_block_X5_isFine : GoodIn wsX5_block (wsV RX5 67 RX5 yX5_isFine wsX5_isFine) := goodIn_app (goodIn_of _ (by decide +kernel)) ggX5_block_X5_isFine
set_option maxRecDepth 20000 in
theorem ggX5_block_X5_cuts : GoodIn wsX5_block wsX5_cuts := goodIn_r _ [18, 19, 20, 21, 22, 23, 24, 5, 25, 26, 27, 28, 29, 30, 2, 31, 32, 33, 34, 35, 36, 37, 38, 39, 40, 41, 42, 43, 44, 45, 46, 47, 48, 49, 50, 51] (by decide +kernel) (by decide +kernel)
set_option maxRecDepth 20000 in
theorem gX5_block_X5_cuts : GoodIn wsX5_block (wsV RX5 70 RX5 yX5_cuts wsX5_cuts) := goodIn_app (goodIn_of _ (by decide +kernel)) ggX5_block_X5_cuts
theorem dX5_block_0 : decode cX5_block 0 = .ok (.aload_n 0, 1) := by decide +kernel
theorem dX5_block_1 : decode cX5_block 1 = .ok (.iload_n 2, 1) := by decide +kernel
theorem dX5_block_2 : decode cX5_block 2 = .ok (.invokestatic 64, 3) := by decide +kernel
theorem dX5_block_5 : decode cX5_block 5 = .ok (.ifCond .eq 10, 3) := by decide +kernel
theorem dX5_block_8 : decode cX5_block 8 = .ok (.iload_n 1, 1) := by decide +kernel
theorem dX5_block_9 : decode cX5_block 9 = .ok (.invokestatic 64, 3) := by decide +kernel
theorem dX5_block_12 : decode cX5_block 12 = .ok (.ifCond .ne 7, 3) := by decide +kernel
theorem dX5_block_15 : decode cX5_block 15 = .ok (.iconst 1, 1) := by decide +kernel
theorem dX5_block_16 : decode cX5_block 16 = .ok (.goto 13, 3) := by decide +kernel
theorem dX5_block_19 : decode cX5_block 19 = .ok (.iload_n 2, 1) := by decide +kernel
theorem dX5_block_20 : decode cX5_block 20 = .ok (.iload_n 1, 1) := by decide +kernel
theorem dX5_block_21 : decode cX5_block 21 = .ok (.if_icmp .ne 7, 3) := by decide +kernel
theorem dX5_block_24 : decode cX5_block 24 = .ok (.iconst 2, 1) := by decide +kernel
theorem dX5_block_25 : decode cX5_block 25 = .ok (.goto 4, 3) := by decide +kernel
theorem dX5_block_28 : decode cX5_block 28 = .ok (.iconst 0, 1) := by decide +kernel
theorem dX5_block_29 : decode cX5_block 29 = .ok (.invokevirtual 67, 3) := by decide +kernel
theorem dX5_block_32 : decode cX5_block 32 = .ok (.ifCond .ne 5, 3) := by decide +kernel
theorem dX5_block_35 : decode cX5_block 35 = .ok (.iconst 0, 1) := by decide +kernel
theorem dX5_block_36 : decode cX5_block 36 = .ok (.ireturn, 1) := by decide +kernel
theorem dX5_block_37 : decode cX5_block 37 = .ok (.aload_n 0, 1) := by decide +kernel
theorem dX5_block_38 : decode cX5_block 38 = .ok (.getfield 16, 3) := by decide +kernel
theorem dX5_block_41 : decode cX5_block 41 = .ok (.bipush 8, 2) := by decide +kernel
theorem dX5_block_43 : decode cX5_block 43 = .ok (.iload_n 1, 1) := by decide +kernel
theorem dX5_block_44 : decode cX5_block 44 = .ok (.imul, 1) := by decide +kernel
theorem dX5_block_45 : decode cX5_block 45 = .ok (.iload_n 2, 1) := by decide +kernel
theorem dX5_block_46 : decode cX5_block 46 = .ok (.iadd, 1) := by decide +kernel
theorem dX5_block_47 : decode cX5_block 47 = .ok (.baload, 1) := by decide +kernel
theorem dX5_block_48 : decode cX5_block 48 = .ok (.istore 4, 2) := by decide +kernel
theorem dX5_block_50 : decode cX5_block 50 = .ok (.aload_n 0, 1) := by decide +kernel
theorem dX5_block_51 : decode cX5_block 51 = .ok (.getfield 16, 3) := by decide +kernel
theorem dX5_block_54 : decode cX5_block 54 = .ok (.bipush 8, 2) := by decide +kernel
theorem dX5_block_56 : decode cX5_block 56 = .ok (.iload_n 1, 1) := by decide +kernel
theorem dX5_block_57 : decode cX5_block 57 = .ok (.imul, 1) := by decide +kernel
theorem dX5_block_58 : decode cX5_block 58 = .ok (.iload_n 2, 1) := by decide +kernel
theorem dX5_block_59 : decode cX5_block 59 = .ok (.iadd, 1) := by decide +kernel
theorem dX5_block_60 : decode cX5_block 60 = .ok (.iload_n 3, 1) := by decide +kernel
theorem dX5_block_61 : decode cX5_block 61 = .ok (.bastore, 1) := by decide +kernel
theorem dX5_block_62 : decode cX5_block 62 = .ok (.iload_n 3, 1) := by decide +kernel
theorem dX5_block_63 : decode cX5_block 63 = .ok (.ifCond .eq 27, 3) := by decide +kernel
theorem dX5_block_66 : decode cX5_block 66 = .ok (.aload_n 0, 1) := by decide +kernel
theorem dX5_block_67 : decode cX5_block 67 = .ok (.getfield 7, 3) := by decide +kernel
theorem dX5_block_70 : decode cX5_block 70 = .ok (.bipush 8, 2) := by decide +kernel
theorem dX5_block_72 : decode cX5_block 72 = .ok (.iload_n 1, 1) := by decide +kernel
theorem dX5_block_73 : decode cX5_block 73 = .ok (.imul, 1) := by decide +kernel
theorem dX5_block_74 : decode cX5_block 74 = .ok (.iload_n 2, 1) := by decide +kernel
theorem dX5_block_75 : decode cX5_block 75 = .ok (.iadd, 1) := by decide +kernel
theorem dX5_block_76 : decode cX5_block 76 = .ok (.iconst 0, 1) := by decide +kernel
theorem dX5_block_77 : decode cX5_block 77 = .ok (.bastore, 1) := by decide +kernel
theorem dX5_block_78 : decode cX5_block 78 = .ok (.aload_n 0, 1) := by decide +kernel
theorem dX5_block_79 : decode cX5_block 79 = .ok (.getfield 7, 3) := by decide +kernel
theorem dX5_block_82 : decode cX5_block 82 = .ok (.bipush 8, 2) := by decide +kernel
theorem dX5_block_84 : decode cX5_block 84 = .ok (.iload_n 2, 1) := by decide +kernel
theorem dX5_block_85 : decode cX5_block 85 = .ok (.imul, 1) := by decide +kernel
theorem dX5_block_86 : decode cX5_block 86 = .ok (.iload_n 1, 1) := by decide +kernel
theorem dX5_block_87 : decode cX5_block 87 = .ok (.iadd, 1) := by decide +kernel
theorem dX5_block_88 : decode cX5_block 88 = .ok (.iconst 0, 1) := by decide +kernel
theorem dX5_block_89 : decode cX5_block 89 = .ok (.bastore, 1) := by decide +kernel
theorem dX5_block_90 : decode cX5_block 90 = .ok (.aload_n 0, 1) := by decide +kernel
theorem dX5_block_91 : decode cX5_block 91 = .ok (.invokevirtual 70, 3) := by decide +kernel
theorem dX5_block_94 : decode cX5_block 94 = .ok (.iload 4, 2) := by decide +kernel
theorem dX5_block_96 : decode cX5_block 96 = .ok (.ireturn, 1) := by decide +kernel
set_option maxRecDepth 20000 in
theorem ggX5_makes_X5_cuts : GoodIn wsX5_makes wsX5_cuts := goodIn_r _ [8, 9, 2, 10, 11, 12, 13, 7, 14, 15, 16, 17, 18, 19, 20, 1, 21, 22, 23, 24, 25, 26, 27, 28, 29, 30, 31, 32, 33, 34, 35, 36, 37, 38, 39, 40] (by decide +kernel) (by decide +kernel)
set_option maxRecDepth 20000 in
theorem gX5_makes_X5_cuts : GoodIn wsX5_makes (wsV RX5 70 RX5 yX5_cuts wsX5_cuts) := goodIn_app (goodIn_of _ (by decide +kernel)) ggX5_makes_X5_cuts
theorem dX5_makes_0 : decode cX5_makes 0 = .ok (.aload_n 0, 1) := by decide +kernel
theorem dX5_makes_1 : decode cX5_makes 1 = .ok (.getfield 19, 3) := by decide +kernel
theorem dX5_makes_4 : decode cX5_makes 4 = .ok (.aload_n 0, 1) := by decide +kernel
theorem dX5_makes_5 : decode cX5_makes 5 = .ok (.getfield 46, 3) := by decide +kernel
theorem dX5_makes_8 : decode cX5_makes 8 = .ok (.iload_n 1, 1) := by decide +kernel
theorem dX5_makes_9 : decode cX5_makes 9 = .ok (.iastore, 1) := by decide +kernel
theorem dX5_makes_10 : decode cX5_makes 10 = .ok (.aload_n 0, 1) := by decide +kernel
theorem dX5_makes_11 : decode cX5_makes 11 = .ok (.getfield 23, 3) := by decide +kernel
theorem dX5_makes_14 : decode cX5_makes 14 = .ok (.aload_n 0, 1) := by decide +kernel
theorem dX5_makes_15 : decode cX5_makes 15 = .ok (.getfield 46, 3) := by decide +kernel
theorem dX5_makes_18 : decode cX5_makes 18 = .ok (.iload_n 2, 1) := by decide +kernel
theorem dX5_makes_19 : decode cX5_makes 19 = .ok (.iastore, 1) := by decide +kernel
theorem dX5_makes_20 : decode cX5_makes 20 = .ok (.aload_n 0, 1) := by decide +kernel
theorem dX5_makes_21 : decode cX5_makes 21 = .ok (.dup, 1) := by decide +kernel
theorem dX5_makes_22 : decode cX5_makes 22 = .ok (.getfield 46, 3) := by decide +kernel
theorem dX5_makes_25 : decode cX5_makes 25 = .ok (.iconst 1, 1) := by decide +kernel
theorem dX5_makes_26 : decode cX5_makes 26 = .ok (.iadd, 1) := by decide +kernel
theorem dX5_makes_27 : decode cX5_makes 27 = .ok (.putfield 46, 3) := by decide +kernel
theorem dX5_makes_30 : decode cX5_makes 30 = .ok (.aload_n 0, 1) := by decide +kernel
theorem dX5_makes_31 : decode cX5_makes 31 = .ok (.invokevirtual 70, 3) := by decide +kernel
theorem dX5_makes_34 : decode cX5_makes 34 = .ok (.aload_n 0, 1) := by decide +kernel
theorem dX5_makes_35 : decode cX5_makes 35 = .ok (.getfield 46, 3) := by decide +kernel
theorem dX5_makes_38 : decode cX5_makes 38 = .ok (.iconst 1, 1) := by decide +kernel
theorem dX5_makes_39 : decode cX5_makes 39 = .ok (.isub, 1) := by decide +kernel
theorem dX5_makes_40 : decode cX5_makes 40 = .ok (.ireturn, 1) := by decide +kernel
set_option maxRecDepth 20000 in
theorem ggX5_post_X5_isOne : GoodIn wsX5_post wsX5_isOne := goodIn_r _ [5, 6, 7, 4, 8] (by decide +kernel) (by decide +kernel)
set_option maxRecDepth 20000 in
theorem gX5_post_X5_isOne : GoodIn wsX5_post (va_wsS RX5 64 yX5_isOne wsX5_isOne) := goodIn_app (goodIn_of _ (by decide +kernel)) ggX5_post_X5_isOne
set_option maxRecDepth 20000 in
theorem ggX5_post_X5_isFine : GoodIn wsX5_post wsX5_isFine := goodIn_r _ [12, 13, 45, 46, 47, 48, 49, 50, 51, 52, 53, 54, 55] (by decide +kernel) (by decide +kernel)
set_option maxRecDepth 20000 in
theorem gX5_post_X5_isFine : GoodIn wsX5_post (wsV RX5 67 RX5 yX5_isFine wsX5_isFine) := goodIn_app (goodIn_of _ (by decide +kernel)) ggX5_post_X5_isFine
set_option maxRecDepth 20000 in
theorem ggX5_post_X5_makes : GoodIn wsX5_post wsX5_makes := goodIn_r _ [17, 18, 1, 19, 20, 21, 22, 4, 23, 24, 25, 26, 27, 28, 29, 30, 31, 32, 33, 34, 35, 36, 37, 38, 39, 40, 41, 42, 43, 44, 45, 46, 47, 48, 49, 50, 51, 52, 53, 54, 55] (by decide +kernel) (by decide +kernel)
set_option maxRecDepth 20000 in
theorem gX5_post_X5_makes : GoodIn wsX5_post (wsV RX5 73 RX5 yX5_makes wsX5_makes) := goodIn_app (goodIn_of _ (by decide +kernel)) ggX5_post_X5_makes
theorem dX5_post_0 : decode cX5_post 0 = .ok (.aload_n 0, 1) := by decide +kernel
theorem dX5_post_1 : decode cX5_post 1 = .ok (.iload_n 1, 1) := by decide +kernel
theorem dX5_post_2 : decode cX5_post 2 = .ok (.invokestatic 64, 3) := by decide +kernel
theorem dX5_post_5 : decode cX5_post 5 = .ok (.ifCond .ne 7, 3) := by decide +kernel
theorem dX5_post_8 : decode cX5_post 8 = .ok (.iconst 1, 1) := by decide +kernel
theorem dX5_post_9 : decode cX5_post 9 = .ok (.goto 18, 3) := by decide +kernel
theorem dX5_post_12 : decode cX5_post 12 = .ok (.aload_n 0, 1) := by decide +kernel
theorem dX5_post_13 : decode cX5_post 13 = .ok (.getfield 46, 3) := by decide +kernel
theorem dX5_post_16 : decode cX5_post 16 = .ok (.sipush 150, 3) := by decide +kernel
theorem dX5_post_19 : decode cX5_post 19 = .ok (.if_icmp .ne 7, 3) := by decide +kernel
theorem dX5_post_22 : decode cX5_post 22 = .ok (.iconst 2, 1) := by decide +kernel
theorem dX5_post_23 : decode cX5_post 23 = .ok (.goto 4, 3) := by decide +kernel
theorem dX5_post_26 : decode cX5_post 26 = .ok (.iconst 0, 1) := by decide +kernel
theorem dX5_post_27 : decode cX5_post 27 = .ok (.invokevirtual 67, 3) := by decide +kernel
theorem dX5_post_30 : decode cX5_post 30 = .ok (.ifCond .ne 5, 3) := by decide +kernel
theorem dX5_post_33 : decode cX5_post 33 = .ok (.iconst 0, 1) := by decide +kernel
theorem dX5_post_34 : decode cX5_post 34 = .ok (.ireturn, 1) := by decide +kernel
theorem dX5_post_35 : decode cX5_post 35 = .ok (.aload_n 0, 1) := by decide +kernel
theorem dX5_post_36 : decode cX5_post 36 = .ok (.iload_n 1, 1) := by decide +kernel
theorem dX5_post_37 : decode cX5_post 37 = .ok (.aload_n 0, 1) := by decide +kernel
theorem dX5_post_38 : decode cX5_post 38 = .ok (.getfield 46, 3) := by decide +kernel
theorem dX5_post_41 : decode cX5_post 41 = .ok (.invokevirtual 73, 3) := by decide +kernel
theorem dX5_post_44 : decode cX5_post 44 = .ok (.ireturn, 1) := by decide +kernel
set_option maxRecDepth 20000 in
theorem ggX5_repost_X5_isOne : GoodIn wsX5_repost wsX5_isOne := goodIn_r _ [9, 10, 11, 8, 12] (by decide +kernel) (by decide +kernel)
set_option maxRecDepth 20000 in
theorem gX5_repost_X5_isOne : GoodIn wsX5_repost (va_wsS RX5 64 yX5_isOne wsX5_isOne) := goodIn_app (goodIn_of _ (by decide +kernel)) ggX5_repost_X5_isOne
set_option maxRecDepth 20000 in
theorem ggX5_repost_X5_isEntry : GoodIn wsX5_repost wsX5_isEntry := goodIn_r _ [16, 1, 10, 11, 8, 12, 50, 51, 52, 53, 54, 55, 56, 57, 58, 59, 60] (by decide +kernel) (by decide +kernel)
set_option maxRecDepth 20000 in
theorem gX5_repost_X5_isEntry : GoodIn wsX5_repost (wsV RX5 77 RX5 yX5_isEntry wsX5_isEntry) := goodIn_app (goodIn_of _ (by decide +kernel)) ggX5_repost_X5_isEntry
set_option maxRecDepth 20000 in
theorem ggX5_repost_X5_isFine : GoodIn wsX5_repost wsX5_isFine := goodIn_r _ [20, 21, 50, 51, 52, 53, 54, 55, 56, 57, 58, 59, 60] (by decide +kernel) (by decide +kernel)
set_option maxRecDepth 20000 in
theorem gX5_repost_X5_isFine : GoodIn wsX5_repost (wsV RX5 67 RX5 yX5_isFine wsX5_isFine) := goodIn_app (goodIn_of _ (by decide +kernel)) ggX5_repost_X5_isFine
set_option maxRecDepth 20000 in
theorem ggX5_repost_X5_makes : GoodIn wsX5_repost wsX5_makes := goodIn_r _ [25, 5, 1, 3, 26, 27, 28, 8, 29, 30, 31, 32, 33, 34, 35, 36, 37, 38, 39, 2, 40, 41, 42, 43, 44, 45, 46, 47, 48, 49, 50, 51, 52, 53, 54, 55, 56, 57, 58, 59, 60] (by decide +kernel) (by decide +kernel)
set_option maxRecDepth 20000 in
theorem gX5_repost_X5_makes : GoodIn wsX5_repost (wsV RX5 73 RX5 yX5_makes wsX5_makes) := goodIn_app (goodIn_of _ (by decide +kernel)) ggX5_repost_X5_makes
theorem dX5_repost_0 : decode cX5_repost 0 = .ok (.iload_n 1, 1) := by decide +kernel
theorem dX5_repost_1 : decode cX5_repost 1 = .ok (.invokestatic 64, 3) := by decide +kernel
theorem dX5_repost_4 : decode cX5_repost 4 = .ok (.ifCond .eq 11, 3) := by decide +kernel
theorem dX5_repost_7 : decode cX5_repost 7 = .ok (.aload_n 0, 1) := by decide +kernel
theorem dX5_repost_8 : decode cX5_repost 8 = .ok (.iload_n 2, 1) := by decide +kernel
theorem dX5_repost_9 : decode cX5_repost 9 = .ok (.invokevirtual 77, 3) := by decide +kernel
theorem dX5_repost_12 : decode cX5_repost 12 = .ok (.ifCond .ne 7, 3) := by decide +kernel
theorem dX5_repost_15 : decode cX5_repost 15 = .ok (.iconst 1, 1) := by decide +kernel
theorem dX5_repost_16 : decode cX5_repost 16 = .ok (.goto 41, 3) := by decide +kernel
theorem dX5_repost_19 : decode cX5_repost 19 = .ok (.aload_n 0, 1) := by decide +kernel
theorem dX5_repost_20 : decode cX5_repost 20 = .ok (.getfield 46, 3) := by decide +kernel
theorem dX5_repost_23 : decode cX5_repost 23 = .ok (.sipush 150, 3) := by decide +kernel
theorem dX5_repost_26 : decode cX5_repost 26 = .ok (.if_icmp .eq 26, 3) := by decide +kernel
theorem dX5_repost_29 : decode cX5_repost 29 = .ok (.aload_n 0, 1) := by decide +kernel
theorem dX5_repost_30 : decode cX5_repost 30 = .ok (.getfield 26, 3) := by decide +kernel
theorem dX5_repost_33 : decode cX5_repost 33 = .ok (.iload_n 2, 1) := by decide +kernel
theorem dX5_repost_34 : decode cX5_repost 34 = .ok (.baload, 1) := by decide +kernel
theorem dX5_repost_35 : decode cX5_repost 35 = .ok (.ifCond .ne 17, 3) := by decide +kernel
theorem dX5_repost_38 : decode cX5_repost 38 = .ok (.aload_n 0, 1) := by decide +kernel
theorem dX5_repost_39 : decode cX5_repost 39 = .ok (.getfield 26, 3) := by decide +kernel
theorem dX5_repost_42 : decode cX5_repost 42 = .ok (.aload_n 0, 1) := by decide +kernel
theorem dX5_repost_43 : decode cX5_repost 43 = .ok (.getfield 23, 3) := by decide +kernel
theorem dX5_repost_46 : decode cX5_repost 46 = .ok (.iload_n 2, 1) := by decide +kernel
theorem dX5_repost_47 : decode cX5_repost 47 = .ok (.iaload, 1) := by decide +kernel
theorem dX5_repost_48 : decode cX5_repost 48 = .ok (.baload, 1) := by decide +kernel
theorem dX5_repost_49 : decode cX5_repost 49 = .ok (.ifCond .eq 7, 3) := by decide +kernel
theorem dX5_repost_52 : decode cX5_repost 52 = .ok (.iconst 2, 1) := by decide +kernel
theorem dX5_repost_53 : decode cX5_repost 53 = .ok (.goto 4, 3) := by decide +kernel
theorem dX5_repost_56 : decode cX5_repost 56 = .ok (.iconst 0, 1) := by decide +kernel
theorem dX5_repost_57 : decode cX5_repost 57 = .ok (.istore_n 3, 1) := by decide +kernel
theorem dX5_repost_58 : decode cX5_repost 58 = .ok (.iload_n 3, 1) := by decide +kernel
theorem dX5_repost_59 : decode cX5_repost 59 = .ok (.ifCond .ne 29, 3) := by decide +kernel
theorem dX5_repost_62 : decode cX5_repost 62 = .ok (.aload_n 0, 1) := by decide +kernel
theorem dX5_repost_63 : decode cX5_repost 63 = .ok (.getfield 16, 3) := by decide +kernel
theorem dX5_repost_66 : decode cX5_repost 66 = .ok (.bipush 8, 2) := by decide +kernel
theorem dX5_repost_68 : decode cX5_repost 68 = .ok (.aload_n 0, 1) := by decide +kernel
theorem dX5_repost_69 : decode cX5_repost 69 = .ok (.getfield 19, 3) := by decide +kernel
theorem dX5_repost_72 : decode cX5_repost 72 = .ok (.aload_n 0, 1) := by decide +kernel
theorem dX5_repost_73 : decode cX5_repost 73 = .ok (.getfield 23, 3) := by decide +kernel
theorem dX5_repost_76 : decode cX5_repost 76 = .ok (.iload_n 2, 1) := by decide +kernel
theorem dX5_repost_77 : decode cX5_repost 77 = .ok (.iaload, 1) := by decide +kernel
theorem dX5_repost_78 : decode cX5_repost 78 = .ok (.iaload, 1) := by decide +kernel
theorem dX5_repost_79 : decode cX5_repost 79 = .ok (.imul, 1) := by decide +kernel
theorem dX5_repost_80 : decode cX5_repost 80 = .ok (.iload_n 1, 1) := by decide +kernel
theorem dX5_repost_81 : decode cX5_repost 81 = .ok (.iadd, 1) := by decide +kernel
theorem dX5_repost_82 : decode cX5_repost 82 = .ok (.baload, 1) := by decide +kernel
theorem dX5_repost_83 : decode cX5_repost 83 = .ok (.ifCond .eq 5, 3) := by decide +kernel
theorem dX5_repost_86 : decode cX5_repost 86 = .ok (.iconst 2, 1) := by decide +kernel
theorem dX5_repost_87 : decode cX5_repost 87 = .ok (.istore_n 3, 1) := by decide +kernel
theorem dX5_repost_88 : decode cX5_repost 88 = .ok (.aload_n 0, 1) := by decide +kernel
theorem dX5_repost_89 : decode cX5_repost 89 = .ok (.iload_n 3, 1) := by decide +kernel
theorem dX5_repost_90 : decode cX5_repost 90 = .ok (.invokevirtual 67, 3) := by decide +kernel
theorem dX5_repost_93 : decode cX5_repost 93 = .ok (.ifCond .eq 17, 3) := by decide +kernel
theorem dX5_repost_96 : decode cX5_repost 96 = .ok (.aload_n 0, 1) := by decide +kernel
theorem dX5_repost_97 : decode cX5_repost 97 = .ok (.iload_n 1, 1) := by decide +kernel
theorem dX5_repost_98 : decode cX5_repost 98 = .ok (.aload_n 0, 1) := by decide +kernel
theorem dX5_repost_99 : decode cX5_repost 99 = .ok (.getfield 23, 3) := by decide +kernel
theorem dX5_repost_102 : decode cX5_repost 102 = .ok (.iload_n 2, 1) := by decide +kernel
theorem dX5_repost_103 : decode cX5_repost 103 = .ok (.iaload, 1) := by decide +kernel
theorem dX5_repost_104 : decode cX5_repost 104 = .ok (.invokevirtual 73, 3) := by decide +kernel
theorem dX5_repost_107 : decode cX5_repost 107 = .ok (.goto 4, 3) := by decide +kernel
theorem dX5_repost_110 : decode cX5_repost 110 = .ok (.iconst 0, 1) := by decide +kernel
theorem dX5_repost_111 : decode cX5_repost 111 = .ok (.ireturn, 1) := by decide +kernel
set_option maxRecDepth 20000 in
theorem ggX5_delete_X5_isEntry : GoodIn wsX5_delete wsX5_isEntry := goodIn_r _ [8, 2, 9, 10, 7, 11, 42, 43, 44, 45, 46, 47, 48, 49, 50, 51, 52] (by decide +kernel) (by decide +kernel)
set_option maxRecDepth 20000 in
theorem gX5_delete_X5_isEntry : GoodIn wsX5_delete (wsV RX5 77 RX5 yX5_isEntry wsX5_isEntry) := goodIn_app (goodIn_of _ (by decide +kernel)) ggX5_delete_X5_isEntry
set_option maxRecDepth 20000 in
theorem ggX5_delete_X5_isFine : GoodIn wsX5_delete wsX5_isFine := goodIn_r _ [15, 16, 42, 43, 44, 45, 46, 47, 48, 49, 50, 51, 52] (by decide +kernel) (by decide +kernel)
set_option maxRecDepth 20000 in
theorem gX5_delete_X5_isFine : GoodIn wsX5_delete (wsV RX5 67 RX5 yX5_isFine wsX5_isFine) := goodIn_app (goodIn_of _ (by decide +kernel)) ggX5_delete_X5_isFine
set_option maxRecDepth 20000 in
theorem ggX5_delete_X5_cuts : GoodIn wsX5_delete wsX5_cuts := goodIn_r _ [20, 21, 2, 22, 23, 24, 25, 7, 26, 27, 28, 29, 30, 1, 31, 32, 33, 34, 35, 36, 37, 38, 39, 40, 41, 42, 43, 44, 45, 46, 47, 48, 49, 50, 51, 52] (by decide +kernel) (by decide +kernel)
set_option maxRecDepth 20000 in
theorem gX5_delete_X5_cuts : GoodIn wsX5_delete (wsV RX5 70 RX5 yX5_cuts wsX5_cuts) := goodIn_app (goodIn_of _ (by decide +kernel)) ggX5_delete_X5_cuts
theorem dX5_delete_0 : decode cX5_delete 0 = .ok (.aload_n 0, 1) := by decide +kernel
theorem dX5_delete_1 : decode cX5_delete 1 = .ok (.aload_n 0, 1) := by decide +kernel
theorem dX5_delete_2 : decode cX5_delete 2 = .ok (.iload_n 1, 1) := by decide +kernel
theorem dX5_delete_3 : decode cX5_delete 3 = .ok (.invokevirtual 77, 3) := by decide +kernel
theorem dX5_delete_6 : decode cX5_delete 6 = .ok (.ifCond .ne 7, 3) := by decide +kernel
theorem dX5_delete_9 : decode cX5_delete 9 = .ok (.iconst 1, 1) := by decide +kernel
theorem dX5_delete_10 : decode cX5_delete 10 = .ok (.goto 17, 3) := by decide +kernel
theorem dX5_delete_13 : decode cX5_delete 13 = .ok (.aload_n 0, 1) := by decide +kernel
theorem dX5_delete_14 : decode cX5_delete 14 = .ok (.getfield 26, 3) := by decide +kernel
theorem dX5_delete_17 : decode cX5_delete 17 = .ok (.iload_n 1, 1) := by decide +kernel
theorem dX5_delete_18 : decode cX5_delete 18 = .ok (.baload, 1) := by decide +kernel
theorem dX5_delete_19 : decode cX5_delete 19 = .ok (.ifCond .eq 7, 3) := by decide +kernel
theorem dX5_delete_22 : decode cX5_delete 22 = .ok (.iconst 2, 1) := by decide +kernel
theorem dX5_delete_23 : decode cX5_delete 23 = .ok (.goto 4, 3) := by decide +kernel
theorem dX5_delete_26 : decode cX5_delete 26 = .ok (.iconst 0, 1) := by decide +kernel
theorem dX5_delete_27 : decode cX5_delete 27 = .ok (.invokevirtual 67, 3) := by decide +kernel
theorem dX5_delete_30 : decode cX5_delete 30 = .ok (.ifCond .ne 5, 3) := by decide +kernel
theorem dX5_delete_33 : decode cX5_delete 33 = .ok (.iconst 0, 1) := by decide +kernel
theorem dX5_delete_34 : decode cX5_delete 34 = .ok (.ireturn, 1) := by decide +kernel
theorem dX5_delete_35 : decode cX5_delete 35 = .ok (.aload_n 0, 1) := by decide +kernel
theorem dX5_delete_36 : decode cX5_delete 36 = .ok (.getfield 26, 3) := by decide +kernel
theorem dX5_delete_39 : decode cX5_delete 39 = .ok (.iload_n 1, 1) := by decide +kernel
theorem dX5_delete_40 : decode cX5_delete 40 = .ok (.iconst 1, 1) := by decide +kernel
theorem dX5_delete_41 : decode cX5_delete 41 = .ok (.bastore, 1) := by decide +kernel
theorem dX5_delete_42 : decode cX5_delete 42 = .ok (.iconst 0, 1) := by decide +kernel
theorem dX5_delete_43 : decode cX5_delete 43 = .ok (.istore_n 2, 1) := by decide +kernel
theorem dX5_delete_44 : decode cX5_delete 44 = .ok (.iconst 0, 1) := by decide +kernel
theorem dX5_delete_45 : decode cX5_delete 45 = .ok (.istore_n 3, 1) := by decide +kernel
theorem dX5_delete_46 : decode cX5_delete 46 = .ok (.iload_n 3, 1) := by decide +kernel
theorem dX5_delete_47 : decode cX5_delete 47 = .ok (.aload_n 0, 1) := by decide +kernel
theorem dX5_delete_48 : decode cX5_delete 48 = .ok (.getfield 46, 3) := by decide +kernel
theorem dX5_delete_51 : decode cX5_delete 51 = .ok (.if_icmp .ge 36, 3) := by decide +kernel
theorem dX5_delete_54 : decode cX5_delete 54 = .ok (.iload_n 2, 1) := by decide +kernel
theorem dX5_delete_55 : decode cX5_delete 55 = .ok (.aload_n 0, 1) := by decide +kernel
theorem dX5_delete_56 : decode cX5_delete 56 = .ok (.getfield 23, 3) := by decide +kernel
theorem dX5_delete_59 : decode cX5_delete 59 = .ok (.iload_n 3, 1) := by decide +kernel
theorem dX5_delete_60 : decode cX5_delete 60 = .ok (.iaload, 1) := by decide +kernel
theorem dX5_delete_61 : decode cX5_delete 61 = .ok (.iload_n 1, 1) := by decide +kernel
theorem dX5_delete_62 : decode cX5_delete 62 = .ok (.if_icmp .ne 16, 3) := by decide +kernel
theorem dX5_delete_65 : decode cX5_delete 65 = .ok (.aload_n 0, 1) := by decide +kernel
theorem dX5_delete_66 : decode cX5_delete 66 = .ok (.getfield 26, 3) := by decide +kernel
theorem dX5_delete_69 : decode cX5_delete 69 = .ok (.iload_n 3, 1) := by decide +kernel
theorem dX5_delete_70 : decode cX5_delete 70 = .ok (.baload, 1) := by decide +kernel
theorem dX5_delete_71 : decode cX5_delete 71 = .ok (.ifCond .ne 7, 3) := by decide +kernel
theorem dX5_delete_74 : decode cX5_delete 74 = .ok (.iconst 1, 1) := by decide +kernel
theorem dX5_delete_75 : decode cX5_delete 75 = .ok (.goto 4, 3) := by decide +kernel
theorem dX5_delete_78 : decode cX5_delete 78 = .ok (.iconst 0, 1) := by decide +kernel
theorem dX5_delete_79 : decode cX5_delete 79 = .ok (.iadd, 1) := by decide +kernel
theorem dX5_delete_80 : decode cX5_delete 80 = .ok (.istore_n 2, 1) := by decide +kernel
theorem dX5_delete_81 : decode cX5_delete 81 = .ok (.iinc 3 1, 3) := by decide +kernel
theorem dX5_delete_84 : decode cX5_delete 84 = .ok (.goto (-38), 3) := by decide +kernel
theorem dX5_delete_87 : decode cX5_delete 87 = .ok (.aload_n 0, 1) := by decide +kernel
theorem dX5_delete_88 : decode cX5_delete 88 = .ok (.invokevirtual 70, 3) := by decide +kernel
theorem dX5_delete_91 : decode cX5_delete 91 = .ok (.iload_n 2, 1) := by decide +kernel
theorem dX5_delete_92 : decode cX5_delete 92 = .ok (.ireturn, 1) := by decide +kernel
set_option maxRecDepth 20000 in
theorem ggX5_setMark_X5_in : GoodIn wsX5_setMark wsX5_in := goodIn_r _ [5] (by decide +kernel) (by decide +kernel)
set_option maxRecDepth 20000 in
theorem gX5_setMark_X5_in : GoodIn wsX5_setMark (va_wsS RX5 42 yX5_in wsX5_in) := goodIn_app (goodIn_of _ (by decide +kernel)) ggX5_setMark_X5_in
set_option maxRecDepth 20000 in
theorem ggX5_setMark_X5_isFine : GoodIn wsX5_setMark wsX5_isFine := goodIn_r _ [9, 10, 37, 38, 39, 40, 41, 42, 43, 44, 45, 46, 47] (by decide +kernel) (by decide +kernel)
set_option maxRecDepth 20000 in
theorem gX5_setMark_X5_isFine : GoodIn wsX5_setMark (wsV RX5 67 RX5 yX5_isFine wsX5_isFine) := goodIn_app (goodIn_of _ (by decide +kernel)) ggX5_setMark_X5_isFine
set_option maxRecDepth 20000 in
theorem ggX5_setMark_X5_cuts : GoodIn wsX5_setMark wsX5_cuts := goodIn_r _ [14, 15, 16, 17, 18, 19, 20, 4, 21, 22, 23, 24, 25, 26, 27, 28, 29, 30, 31, 32, 1, 33, 34, 35, 36, 37, 38, 39, 40, 41, 42, 43, 44, 45, 46, 47] (by decide +kernel) (by decide +kernel)
set_option maxRecDepth 20000 in
theorem gX5_setMark_X5_cuts : GoodIn wsX5_setMark (wsV RX5 70 RX5 yX5_cuts wsX5_cuts) := goodIn_app (goodIn_of _ (by decide +kernel)) ggX5_setMark_X5_cuts
set_option maxRecDepth 20000 in
theorem ggX5_setMark_X5_large : GoodIn wsX5_setMark wsX5_large := goodIn_r _ [32, 1, 33, 34, 35, 4, 36, 27, 37, 38, 39, 40, 41, 42, 43, 44, 45, 46, 47] (by decide +kernel) (by decide +kernel)
set_option maxRecDepth 20000 in
theorem gX5_setMark_X5_large : GoodIn wsX5_setMark (wsV RX5 53 RX5 yX5_large wsX5_large) := goodIn_app (goodIn_of _ (by decide +kernel)) ggX5_setMark_X5_large
theorem dX5_setMark_0 : decode cX5_setMark 0 = .ok (.aload_n 0, 1) := by decide +kernel
theorem dX5_setMark_1 : decode cX5_setMark 1 = .ok (.iload_n 1, 1) := by decide +kernel
theorem dX5_setMark_2 : decode cX5_setMark 2 = .ok (.iconst 0, 1) := by decide +kernel
theorem dX5_setMark_3 : decode cX5_setMark 3 = .ok (.bipush 8, 2) := by decide +kernel
theorem dX5_setMark_5 : decode cX5_setMark 5 = .ok (.invokestatic 42, 3) := by decide +kernel
theorem dX5_setMark_8 : decode cX5_setMark 8 = .ok (.ifCond .eq 7, 3) := by decide +kernel
theorem dX5_setMark_11 : decode cX5_setMark 11 = .ok (.iconst 0, 1) := by decide +kernel
theorem dX5_setMark_12 : decode cX5_setMark 12 = .ok (.goto 4, 3) := by decide +kernel
theorem dX5_setMark_15 : decode cX5_setMark 15 = .ok (.iconst 1, 1) := by decide +kernel
theorem dX5_setMark_16 : decode cX5_setMark 16 = .ok (.invokevirtual 67, 3) := by decide +kernel
theorem dX5_setMark_19 : decode cX5_setMark 19 = .ok (.ifCond .ne 5, 3) := by decide +kernel
theorem dX5_setMark_22 : decode cX5_setMark 22 = .ok (.iconst 0, 1) := by decide +kernel
theorem dX5_setMark_23 : decode cX5_setMark 23 = .ok (.ireturn, 1) := by decide +kernel
theorem dX5_setMark_24 : decode cX5_setMark 24 = .ok (.aload_n 0, 1) := by decide +kernel
theorem dX5_setMark_25 : decode cX5_setMark 25 = .ok (.iload_n 1, 1) := by decide +kernel
theorem dX5_setMark_26 : decode cX5_setMark 26 = .ok (.putfield 29, 3) := by decide +kernel
theorem dX5_setMark_29 : decode cX5_setMark 29 = .ok (.aload_n 0, 1) := by decide +kernel
theorem dX5_setMark_30 : decode cX5_setMark 30 = .ok (.invokevirtual 70, 3) := by decide +kernel
theorem dX5_setMark_33 : decode cX5_setMark 33 = .ok (.iconst 0, 1) := by decide +kernel
theorem dX5_setMark_34 : decode cX5_setMark 34 = .ok (.istore_n 2, 1) := by decide +kernel
theorem dX5_setMark_35 : decode cX5_setMark 35 = .ok (.iconst 0, 1) := by decide +kernel
theorem dX5_setMark_36 : decode cX5_setMark 36 = .ok (.istore_n 3, 1) := by decide +kernel
theorem dX5_setMark_37 : decode cX5_setMark 37 = .ok (.iload_n 3, 1) := by decide +kernel
theorem dX5_setMark_38 : decode cX5_setMark 38 = .ok (.bipush 8, 2) := by decide +kernel
theorem dX5_setMark_40 : decode cX5_setMark 40 = .ok (.if_icmp .ge 25, 3) := by decide +kernel
theorem dX5_setMark_43 : decode cX5_setMark 43 = .ok (.iload_n 2, 1) := by decide +kernel
theorem dX5_setMark_44 : decode cX5_setMark 44 = .ok (.aload_n 0, 1) := by decide +kernel
theorem dX5_setMark_45 : decode cX5_setMark 45 = .ok (.iload_n 3, 1) := by decide +kernel
theorem dX5_setMark_46 : decode cX5_setMark 46 = .ok (.invokevirtual 53, 3) := by decide +kernel
theorem dX5_setMark_49 : decode cX5_setMark 49 = .ok (.ifCond .eq 7, 3) := by decide +kernel
theorem dX5_setMark_52 : decode cX5_setMark 52 = .ok (.iconst 1, 1) := by decide +kernel
theorem dX5_setMark_53 : decode cX5_setMark 53 = .ok (.goto 4, 3) := by decide +kernel
theorem dX5_setMark_56 : decode cX5_setMark 56 = .ok (.iconst 0, 1) := by decide +kernel
theorem dX5_setMark_57 : decode cX5_setMark 57 = .ok (.iadd, 1) := by decide +kernel
theorem dX5_setMark_58 : decode cX5_setMark 58 = .ok (.istore_n 2, 1) := by decide +kernel
theorem dX5_setMark_59 : decode cX5_setMark 59 = .ok (.iinc 3 1, 3) := by decide +kernel
theorem dX5_setMark_62 : decode cX5_setMark 62 = .ok (.goto (-25), 3) := by decide +kernel
theorem dX5_setMark_65 : decode cX5_setMark 65 = .ok (.iload_n 2, 1) := by decide +kernel
theorem dX5_setMark_66 : decode cX5_setMark 66 = .ok (.ireturn, 1) := by decide +kernel
set_option maxRecDepth 20000 in
theorem ggX5_setRoom_X5_in : GoodIn wsX5_setRoom wsX5_in := goodIn_r _ [5] (by decide +kernel) (by decide +kernel)
set_option maxRecDepth 20000 in
theorem gX5_setRoom_X5_in : GoodIn wsX5_setRoom (va_wsS RX5 42 yX5_in wsX5_in) := goodIn_app (goodIn_of _ (by decide +kernel)) ggX5_setRoom_X5_in
set_option maxRecDepth 20000 in
theorem ggX5_setRoom_X5_isFine : GoodIn wsX5_setRoom wsX5_isFine := goodIn_r _ [9, 10, 37, 38, 39, 40, 41, 42, 43, 44, 45, 46, 47] (by decide +kernel) (by decide +kernel)
set_option maxRecDepth 20000 in
theorem gX5_setRoom_X5_isFine : GoodIn wsX5_setRoom (wsV RX5 67 RX5 yX5_isFine wsX5_isFine) := goodIn_app (goodIn_of _ (by decide +kernel)) ggX5_setRoom_X5_isFine
set_option maxRecDepth 20000 in
theorem ggX5_setRoom_X5_cuts : GoodIn wsX5_setRoom wsX5_cuts := goodIn_r _ [14, 1, 15, 16, 17, 18, 19, 4, 20, 21, 22, 23, 24, 25, 26, 27, 28, 29, 30, 31, 32, 33, 34, 35, 36, 37, 38, 39, 40, 41, 42, 43, 44, 45, 46, 47] (by decide +kernel) (by decide +kernel)
set_option maxRecDepth 20000 in
theorem gX5_setRoom_X5_cuts : GoodIn wsX5_setRoom (wsV RX5 70 RX5 yX5_cuts wsX5_cuts) := goodIn_app (goodIn_of _ (by decide +kernel)) ggX5_setRoom_X5_cuts
theorem dX5_setRoom_0 : decode cX5_setRoom 0 = .ok (.aload_n 0, 1) := by decide +kernel
theorem dX5_setRoom_1 : decode cX5_setRoom 1 = .ok (.iload_n 1, 1) := by decide +kernel
theorem dX5_setRoom_2 : decode cX5_setRoom 2 = .ok (.iconst 1, 1) := by decide +kernel
theorem dX5_setRoom_3 : decode cX5_setRoom 3 = .ok (.bipush 40, 2) := by decide +kernel
theorem dX5_setRoom_5 : decode cX5_setRoom 5 = .ok (.invokestatic 42, 3) := by decide +kernel
theorem dX5_setRoom_8 : decode cX5_setRoom 8 = .ok (.ifCond .eq 7, 3) := by decide +kernel
theorem dX5_setRoom_11 : decode cX5_setRoom 11 = .ok (.iconst 0, 1) := by decide +kernel
theorem dX5_setRoom_12 : decode cX5_setRoom 12 = .ok (.goto 4, 3) := by decide +kernel
theorem dX5_setRoom_15 : decode cX5_setRoom 15 = .ok (.iconst 1, 1) := by decide +kernel
theorem dX5_setRoom_16 : decode cX5_setRoom 16 = .ok (.invokevirtual 67, 3) := by decide +kernel
theorem dX5_setRoom_19 : decode cX5_setRoom 19 = .ok (.ifCond .ne 5, 3) := by decide +kernel
theorem dX5_setRoom_22 : decode cX5_setRoom 22 = .ok (.iconst 0, 1) := by decide +kernel
theorem dX5_setRoom_23 : decode cX5_setRoom 23 = .ok (.ireturn, 1) := by decide +kernel
theorem dX5_setRoom_24 : decode cX5_setRoom 24 = .ok (.aload_n 0, 1) := by decide +kernel
theorem dX5_setRoom_25 : decode cX5_setRoom 25 = .ok (.getfield 33, 3) := by decide +kernel
theorem dX5_setRoom_28 : decode cX5_setRoom 28 = .ok (.istore_n 2, 1) := by decide +kernel
theorem dX5_setRoom_29 : decode cX5_setRoom 29 = .ok (.aload_n 0, 1) := by decide +kernel
theorem dX5_setRoom_30 : decode cX5_setRoom 30 = .ok (.iload_n 1, 1) := by decide +kernel
theorem dX5_setRoom_31 : decode cX5_setRoom 31 = .ok (.putfield 33, 3) := by decide +kernel
theorem dX5_setRoom_34 : decode cX5_setRoom 34 = .ok (.aload_n 0, 1) := by decide +kernel
theorem dX5_setRoom_35 : decode cX5_setRoom 35 = .ok (.invokevirtual 70, 3) := by decide +kernel
theorem dX5_setRoom_38 : decode cX5_setRoom 38 = .ok (.iload_n 2, 1) := by decide +kernel
theorem dX5_setRoom_39 : decode cX5_setRoom 39 = .ok (.ireturn, 1) := by decide +kernel
theorem dX5_entries_0 : decode cX5_entries 0 = .ok (.aload_n 0, 1) := by decide +kernel
theorem dX5_entries_1 : decode cX5_entries 1 = .ok (.iconst 0, 1) := by decide +kernel
theorem dX5_entries_2 : decode cX5_entries 2 = .ok (.putfield 39, 3) := by decide +kernel
theorem dX5_entries_5 : decode cX5_entries 5 = .ok (.aload_n 0, 1) := by decide +kernel
theorem dX5_entries_6 : decode cX5_entries 6 = .ok (.getfield 46, 3) := by decide +kernel
theorem dX5_entries_9 : decode cX5_entries 9 = .ok (.ireturn, 1) := by decide +kernel
set_option maxRecDepth 20000 in
theorem ggX5_authorOf_X5_isEntry : GoodIn wsX5_authorOf wsX5_isEntry := goodIn_r _ [6, 7, 8, 9, 5, 10, 16, 17, 18, 19, 20, 21, 22, 23, 24, 25, 26] (by decide +kernel) (by decide +kernel)
set_option maxRecDepth 20000 in
theorem gX5_authorOf_X5_isEntry : GoodIn wsX5_authorOf (wsV RX5 77 RX5 yX5_isEntry wsX5_isEntry) := goodIn_app (goodIn_of _ (by decide +kernel)) ggX5_authorOf_X5_isEntry
set_option maxRecDepth 20000 in
theorem ggX5_authorOf_X5_isFine : GoodIn wsX5_authorOf wsX5_isFine := goodIn_r _ [14, 15, 16, 17, 18, 19, 20, 21, 22, 23, 24, 25, 26] (by decide +kernel) (by decide +kernel)
set_option maxRecDepth 20000 in
theorem gX5_authorOf_X5_isFine : GoodIn wsX5_authorOf (wsV RX5 67 RX5 yX5_isFine wsX5_isFine) := goodIn_app (goodIn_of _ (by decide +kernel)) ggX5_authorOf_X5_isFine
theorem dX5_authorOf_0 : decode cX5_authorOf 0 = .ok (.aload_n 0, 1) := by decide +kernel
theorem dX5_authorOf_1 : decode cX5_authorOf 1 = .ok (.aload_n 0, 1) := by decide +kernel
theorem dX5_authorOf_2 : decode cX5_authorOf 2 = .ok (.iload_n 1, 1) := by decide +kernel
theorem dX5_authorOf_3 : decode cX5_authorOf 3 = .ok (.invokevirtual 77, 3) := by decide +kernel
theorem dX5_authorOf_6 : decode cX5_authorOf 6 = .ok (.ifCond .eq 7, 3) := by decide +kernel
theorem dX5_authorOf_9 : decode cX5_authorOf 9 = .ok (.iconst 0, 1) := by decide +kernel
theorem dX5_authorOf_10 : decode cX5_authorOf 10 = .ok (.goto 4, 3) := by decide +kernel
theorem dX5_authorOf_13 : decode cX5_authorOf 13 = .ok (.iconst 1, 1) := by decide +kernel
theorem dX5_authorOf_14 : decode cX5_authorOf 14 = .ok (.invokevirtual 67, 3) := by decide +kernel
theorem dX5_authorOf_17 : decode cX5_authorOf 17 = .ok (.ifCond .eq 12, 3) := by decide +kernel
theorem dX5_authorOf_20 : decode cX5_authorOf 20 = .ok (.aload_n 0, 1) := by decide +kernel
theorem dX5_authorOf_21 : decode cX5_authorOf 21 = .ok (.getfield 19, 3) := by decide +kernel
theorem dX5_authorOf_24 : decode cX5_authorOf 24 = .ok (.iload_n 1, 1) := by decide +kernel
theorem dX5_authorOf_25 : decode cX5_authorOf 25 = .ok (.iaload, 1) := by decide +kernel
theorem dX5_authorOf_26 : decode cX5_authorOf 26 = .ok (.goto 4, 3) := by decide +kernel
theorem dX5_authorOf_29 : decode cX5_authorOf 29 = .ok (.iconst 0, 1) := by decide +kernel
theorem dX5_authorOf_30 : decode cX5_authorOf 30 = .ok (.ireturn, 1) := by decide +kernel
set_option maxRecDepth 20000 in
theorem ggX5_originOf_X5_isEntry : GoodIn wsX5_originOf wsX5_isEntry := goodIn_r _ [6, 7, 8, 9, 5, 10, 16, 17, 18, 19, 20, 21, 22, 23, 24, 25, 26] (by decide +kernel) (by decide +kernel)
set_option maxRecDepth 20000 in
theorem gX5_originOf_X5_isEntry : GoodIn wsX5_originOf (wsV RX5 77 RX5 yX5_isEntry wsX5_isEntry) := goodIn_app (goodIn_of _ (by decide +kernel)) ggX5_originOf_X5_isEntry
set_option maxRecDepth 20000 in
theorem ggX5_originOf_X5_isFine : GoodIn wsX5_originOf wsX5_isFine := goodIn_r _ [14, 15, 16, 17, 18, 19, 20, 21, 22, 23, 24, 25, 26] (by decide +kernel) (by decide +kernel)
set_option maxRecDepth 20000 in
theorem gX5_originOf_X5_isFine : GoodIn wsX5_originOf (wsV RX5 67 RX5 yX5_isFine wsX5_isFine) := goodIn_app (goodIn_of _ (by decide +kernel)) ggX5_originOf_X5_isFine
theorem dX5_originOf_0 : decode cX5_originOf 0 = .ok (.aload_n 0, 1) := by decide +kernel
theorem dX5_originOf_1 : decode cX5_originOf 1 = .ok (.aload_n 0, 1) := by decide +kernel
theorem dX5_originOf_2 : decode cX5_originOf 2 = .ok (.iload_n 1, 1) := by decide +kernel
theorem dX5_originOf_3 : decode cX5_originOf 3 = .ok (.invokevirtual 77, 3) := by decide +kernel
theorem dX5_originOf_6 : decode cX5_originOf 6 = .ok (.ifCond .eq 7, 3) := by decide +kernel
theorem dX5_originOf_9 : decode cX5_originOf 9 = .ok (.iconst 0, 1) := by decide +kernel
theorem dX5_originOf_10 : decode cX5_originOf 10 = .ok (.goto 4, 3) := by decide +kernel
theorem dX5_originOf_13 : decode cX5_originOf 13 = .ok (.iconst 1, 1) := by decide +kernel
theorem dX5_originOf_14 : decode cX5_originOf 14 = .ok (.invokevirtual 67, 3) := by decide +kernel
theorem dX5_originOf_17 : decode cX5_originOf 17 = .ok (.ifCond .eq 12, 3) := by decide +kernel
theorem dX5_originOf_20 : decode cX5_originOf 20 = .ok (.aload_n 0, 1) := by decide +kernel
theorem dX5_originOf_21 : decode cX5_originOf 21 = .ok (.getfield 23, 3) := by decide +kernel
theorem dX5_originOf_24 : decode cX5_originOf 24 = .ok (.iload_n 1, 1) := by decide +kernel
theorem dX5_originOf_25 : decode cX5_originOf 25 = .ok (.iaload, 1) := by decide +kernel
theorem dX5_originOf_26 : decode cX5_originOf 26 = .ok (.goto 4, 3) := by decide +kernel
theorem dX5_originOf_29 : decode cX5_originOf 29 = .ok (.iconst 0, 1) := by decide +kernel
theorem dX5_originOf_30 : decode cX5_originOf 30 = .ok (.ireturn, 1) := by decide +kernel
set_option maxRecDepth 20000 in
theorem ggX5_follows_X5_isOne : GoodIn wsX5_follows wsX5_isOne := goodIn_r _ [5, 6, 7, 4, 8] (by decide +kernel) (by decide +kernel)
set_option maxRecDepth 20000 in
theorem gX5_follows_X5_isOne : GoodIn wsX5_follows (va_wsS RX5 64 yX5_isOne wsX5_isOne) := goodIn_app (goodIn_of _ (by decide +kernel)) ggX5_follows_X5_isOne
set_option maxRecDepth 20000 in
theorem ggX5_follows_X5_isFine : GoodIn wsX5_follows wsX5_isFine := goodIn_r _ [12, 13, 14, 15, 16, 17, 18, 19, 20, 21, 22, 23, 24] (by decide +kernel) (by decide +kernel)
set_option maxRecDepth 20000 in
theorem gX5_follows_X5_isFine : GoodIn wsX5_follows (wsV RX5 67 RX5 yX5_isFine wsX5_isFine) := goodIn_app (goodIn_of _ (by decide +kernel)) ggX5_follows_X5_isFine
theorem dX5_follows_0 : decode cX5_follows 0 = .ok (.aload_n 0, 1) := by decide +kernel
theorem dX5_follows_1 : decode cX5_follows 1 = .ok (.iload_n 1, 1) := by decide +kernel
theorem dX5_follows_2 : decode cX5_follows 2 = .ok (.invokestatic 64, 3) := by decide +kernel
theorem dX5_follows_5 : decode cX5_follows 5 = .ok (.ifCond .eq 14, 3) := by decide +kernel
theorem dX5_follows_8 : decode cX5_follows 8 = .ok (.iload_n 2, 1) := by decide +kernel
theorem dX5_follows_9 : decode cX5_follows 9 = .ok (.invokestatic 64, 3) := by decide +kernel
theorem dX5_follows_12 : decode cX5_follows 12 = .ok (.ifCond .eq 7, 3) := by decide +kernel
theorem dX5_follows_15 : decode cX5_follows 15 = .ok (.iconst 0, 1) := by decide +kernel
theorem dX5_follows_16 : decode cX5_follows 16 = .ok (.goto 4, 3) := by decide +kernel
theorem dX5_follows_19 : decode cX5_follows 19 = .ok (.iconst 1, 1) := by decide +kernel
theorem dX5_follows_20 : decode cX5_follows 20 = .ok (.invokevirtual 67, 3) := by decide +kernel
theorem dX5_follows_23 : decode cX5_follows 23 = .ok (.ifCond .eq 21, 3) := by decide +kernel
theorem dX5_follows_26 : decode cX5_follows 26 = .ok (.aload_n 0, 1) := by decide +kernel
theorem dX5_follows_27 : decode cX5_follows 27 = .ok (.getfield 7, 3) := by decide +kernel
theorem dX5_follows_30 : decode cX5_follows 30 = .ok (.bipush 8, 2) := by decide +kernel
theorem dX5_follows_32 : decode cX5_follows 32 = .ok (.iload_n 1, 1) := by decide +kernel
theorem dX5_follows_33 : decode cX5_follows 33 = .ok (.imul, 1) := by decide +kernel
theorem dX5_follows_34 : decode cX5_follows 34 = .ok (.iload_n 2, 1) := by decide +kernel
theorem dX5_follows_35 : decode cX5_follows 35 = .ok (.iadd, 1) := by decide +kernel
theorem dX5_follows_36 : decode cX5_follows 36 = .ok (.baload, 1) := by decide +kernel
theorem dX5_follows_37 : decode cX5_follows 37 = .ok (.ifCond .eq 7, 3) := by decide +kernel
theorem dX5_follows_40 : decode cX5_follows 40 = .ok (.iconst 1, 1) := by decide +kernel
theorem dX5_follows_41 : decode cX5_follows 41 = .ok (.goto 4, 3) := by decide +kernel
theorem dX5_follows_44 : decode cX5_follows 44 = .ok (.iconst 0, 1) := by decide +kernel
theorem dX5_follows_45 : decode cX5_follows 45 = .ok (.ireturn, 1) := by decide +kernel
set_option maxRecDepth 20000 in
theorem ggX5_followers_X5_isOne : GoodIn wsX5_followers wsX5_isOne := goodIn_r _ [4, 5, 6, 3, 7] (by decide +kernel) (by decide +kernel)
set_option maxRecDepth 20000 in
theorem gX5_followers_X5_isOne : GoodIn wsX5_followers (va_wsS RX5 64 yX5_isOne wsX5_isOne) := goodIn_app (goodIn_of _ (by decide +kernel)) ggX5_followers_X5_isOne
set_option maxRecDepth 20000 in
theorem ggX5_followers_X5_isFine : GoodIn wsX5_followers wsX5_isFine := goodIn_r _ [11, 12, 18, 19, 20, 21, 22, 23, 24, 25, 26, 27, 28] (by decide +kernel) (by decide +kernel)
set_option maxRecDepth 20000 in
theorem gX5_followers_X5_isFine : GoodIn wsX5_followers (wsV RX5 67 RX5 yX5_isFine wsX5_isFine) := goodIn_app (goodIn_of _ (by decide +kernel)) ggX5_followers_X5_isFine
set_option maxRecDepth 20000 in
theorem ggX5_followers_X5_followersOf : GoodIn wsX5_followers wsX5_followersOf := goodIn_r _ [16, 17, 18, 19, 20, 21, 22, 23, 24, 25, 26, 27, 28] (by decide +kernel) (by decide +kernel)
set_option maxRecDepth 20000 in
theorem gX5_followers_X5_followersOf : GoodIn wsX5_followers (wsV RX5 49 RX5 yX5_followersOf wsX5_followersOf) := goodIn_app (goodIn_of _ (by decide +kernel)) ggX5_followers_X5_followersOf
theorem dX5_followers_0 : decode cX5_followers 0 = .ok (.aload_n 0, 1) := by decide +kernel
theorem dX5_followers_1 : decode cX5_followers 1 = .ok (.iload_n 1, 1) := by decide +kernel
theorem dX5_followers_2 : decode cX5_followers 2 = .ok (.invokestatic 64, 3) := by decide +kernel
theorem dX5_followers_5 : decode cX5_followers 5 = .ok (.ifCond .eq 7, 3) := by decide +kernel
theorem dX5_followers_8 : decode cX5_followers 8 = .ok (.iconst 0, 1) := by decide +kernel
theorem dX5_followers_9 : decode cX5_followers 9 = .ok (.goto 4, 3) := by decide +kernel
theorem dX5_followers_12 : decode cX5_followers 12 = .ok (.iconst 1, 1) := by decide +kernel
theorem dX5_followers_13 : decode cX5_followers 13 = .ok (.invokevirtual 67, 3) := by decide +kernel
theorem dX5_followers_16 : decode cX5_followers 16 = .ok (.ifCond .eq 11, 3) := by decide +kernel
theorem dX5_followers_19 : decode cX5_followers 19 = .ok (.aload_n 0, 1) := by decide +kernel
theorem dX5_followers_20 : decode cX5_followers 20 = .ok (.iload_n 1, 1) := by decide +kernel
theorem dX5_followers_21 : decode cX5_followers 21 = .ok (.invokevirtual 49, 3) := by decide +kernel
theorem dX5_followers_24 : decode cX5_followers 24 = .ok (.goto 4, 3) := by decide +kernel
theorem dX5_followers_27 : decode cX5_followers 27 = .ok (.iconst 0, 1) := by decide +kernel
theorem dX5_followers_28 : decode cX5_followers 28 = .ok (.ireturn, 1) := by decide +kernel
set_option maxRecDepth 20000 in
theorem ggX5_isLarge_X5_isOne : GoodIn wsX5_isLarge wsX5_isOne := goodIn_r _ [4, 5, 6, 3, 7] (by decide +kernel) (by decide +kernel)
set_option maxRecDepth 20000 in
theorem gX5_isLarge_X5_isOne : GoodIn wsX5_isLarge (va_wsS RX5 64 yX5_isOne wsX5_isOne) := goodIn_app (goodIn_of _ (by decide +kernel)) ggX5_isLarge_X5_isOne
set_option maxRecDepth 20000 in
theorem ggX5_isLarge_X5_isFine : GoodIn wsX5_isLarge wsX5_isFine := goodIn_r _ [11, 12, 23, 24, 25, 26, 27, 28, 29, 30, 31, 32, 33] (by decide +kernel) (by decide +kernel)
set_option maxRecDepth 20000 in
theorem gX5_isLarge_X5_isFine : GoodIn wsX5_isLarge (wsV RX5 67 RX5 yX5_isFine wsX5_isFine) := goodIn_app (goodIn_of _ (by decide +kernel)) ggX5_isLarge_X5_isFine
set_option maxRecDepth 20000 in
theorem ggX5_isLarge_X5_large : GoodIn wsX5_isLarge wsX5_large := goodIn_r _ [16, 17, 18, 19, 20, 3, 21, 22, 23, 24, 25, 26, 27, 28, 29, 30, 31, 32, 33] (by decide +kernel) (by decide +kernel)
set_option maxRecDepth 20000 in
theorem gX5_isLarge_X5_large : GoodIn wsX5_isLarge (wsV RX5 53 RX5 yX5_large wsX5_large) := goodIn_app (goodIn_of _ (by decide +kernel)) ggX5_isLarge_X5_large
theorem dX5_isLarge_0 : decode cX5_isLarge 0 = .ok (.aload_n 0, 1) := by decide +kernel
theorem dX5_isLarge_1 : decode cX5_isLarge 1 = .ok (.iload_n 1, 1) := by decide +kernel
theorem dX5_isLarge_2 : decode cX5_isLarge 2 = .ok (.invokestatic 64, 3) := by decide +kernel
theorem dX5_isLarge_5 : decode cX5_isLarge 5 = .ok (.ifCond .eq 7, 3) := by decide +kernel
theorem dX5_isLarge_8 : decode cX5_isLarge 8 = .ok (.iconst 0, 1) := by decide +kernel
theorem dX5_isLarge_9 : decode cX5_isLarge 9 = .ok (.goto 4, 3) := by decide +kernel
theorem dX5_isLarge_12 : decode cX5_isLarge 12 = .ok (.iconst 1, 1) := by decide +kernel
theorem dX5_isLarge_13 : decode cX5_isLarge 13 = .ok (.invokevirtual 67, 3) := by decide +kernel
theorem dX5_isLarge_16 : decode cX5_isLarge 16 = .ok (.ifCond .eq 15, 3) := by decide +kernel
theorem dX5_isLarge_19 : decode cX5_isLarge 19 = .ok (.aload_n 0, 1) := by decide +kernel
theorem dX5_isLarge_20 : decode cX5_isLarge 20 = .ok (.iload_n 1, 1) := by decide +kernel
theorem dX5_isLarge_21 : decode cX5_isLarge 21 = .ok (.invokevirtual 53, 3) := by decide +kernel
theorem dX5_isLarge_24 : decode cX5_isLarge 24 = .ok (.ifCond .eq 7, 3) := by decide +kernel
theorem dX5_isLarge_27 : decode cX5_isLarge 27 = .ok (.iconst 1, 1) := by decide +kernel
theorem dX5_isLarge_28 : decode cX5_isLarge 28 = .ok (.goto 4, 3) := by decide +kernel
theorem dX5_isLarge_31 : decode cX5_isLarge 31 = .ok (.iconst 0, 1) := by decide +kernel
theorem dX5_isLarge_32 : decode cX5_isLarge 32 = .ok (.ireturn, 1) := by decide +kernel
set_option maxRecDepth 20000 in
theorem ggX5_inRow_X5_isOne : GoodIn wsX5_inRow wsX5_isOne := goodIn_r _ [4, 5, 6, 3, 7] (by decide +kernel) (by decide +kernel)
set_option maxRecDepth 20000 in
theorem gX5_inRow_X5_isOne : GoodIn wsX5_inRow (va_wsS RX5 64 yX5_isOne wsX5_isOne) := goodIn_app (goodIn_of _ (by decide +kernel)) ggX5_inRow_X5_isOne
set_option maxRecDepth 20000 in
theorem ggX5_inRow_X5_isFine : GoodIn wsX5_inRow wsX5_isFine := goodIn_r _ [11, 12, 35, 36, 37, 38, 39, 40, 41, 42, 43, 44, 45] (by decide +kernel) (by decide +kernel)
set_option maxRecDepth 20000 in
theorem gX5_inRow_X5_isFine : GoodIn wsX5_inRow (wsV RX5 67 RX5 yX5_isFine wsX5_isFine) := goodIn_app (goodIn_of _ (by decide +kernel)) ggX5_inRow_X5_isFine
set_option maxRecDepth 20000 in
theorem ggX5_inRow_X5_rowLength : GoodIn wsX5_inRow wsX5_rowLength := goodIn_r _ [16, 17, 18, 19, 20, 3, 21, 22, 23, 24, 25, 26, 27, 28, 29, 30, 31, 32, 33, 34, 35, 36, 37, 38, 39, 40, 41, 42, 43, 44, 45] (by decide +kernel) (by decide +kernel)
set_option maxRecDepth 20000 in
theorem gX5_inRow_X5_rowLength : GoodIn wsX5_inRow (wsV RX5 61 RX5 yX5_rowLength wsX5_rowLength) := goodIn_app (goodIn_of _ (by decide +kernel)) ggX5_inRow_X5_rowLength
theorem dX5_inRow_0 : decode cX5_inRow 0 = .ok (.aload_n 0, 1) := by decide +kernel
theorem dX5_inRow_1 : decode cX5_inRow 1 = .ok (.iload_n 1, 1) := by decide +kernel
theorem dX5_inRow_2 : decode cX5_inRow 2 = .ok (.invokestatic 64, 3) := by decide +kernel
theorem dX5_inRow_5 : decode cX5_inRow 5 = .ok (.ifCond .eq 7, 3) := by decide +kernel
theorem dX5_inRow_8 : decode cX5_inRow 8 = .ok (.iconst 0, 1) := by decide +kernel
theorem dX5_inRow_9 : decode cX5_inRow 9 = .ok (.goto 4, 3) := by decide +kernel
theorem dX5_inRow_12 : decode cX5_inRow 12 = .ok (.iconst 1, 1) := by decide +kernel
theorem dX5_inRow_13 : decode cX5_inRow 13 = .ok (.invokevirtual 67, 3) := by decide +kernel
theorem dX5_inRow_16 : decode cX5_inRow 16 = .ok (.ifCond .eq 11, 3) := by decide +kernel
theorem dX5_inRow_19 : decode cX5_inRow 19 = .ok (.aload_n 0, 1) := by decide +kernel
theorem dX5_inRow_20 : decode cX5_inRow 20 = .ok (.iload_n 1, 1) := by decide +kernel
theorem dX5_inRow_21 : decode cX5_inRow 21 = .ok (.invokevirtual 61, 3) := by decide +kernel
theorem dX5_inRow_24 : decode cX5_inRow 24 = .ok (.goto 4, 3) := by decide +kernel
theorem dX5_inRow_27 : decode cX5_inRow 27 = .ok (.iconst 0, 1) := by decide +kernel
theorem dX5_inRow_28 : decode cX5_inRow 28 = .ok (.ireturn, 1) := by decide +kernel
set_option maxRecDepth 20000 in
theorem ggX5_rowAt_X5_isOne : GoodIn wsX5_rowAt wsX5_isOne := goodIn_r _ [4, 5, 6, 3, 7] (by decide +kernel) (by decide +kernel)
set_option maxRecDepth 20000 in
theorem gX5_rowAt_X5_isOne : GoodIn wsX5_rowAt (va_wsS RX5 64 yX5_isOne wsX5_isOne) := goodIn_app (goodIn_of _ (by decide +kernel)) ggX5_rowAt_X5_isOne
set_option maxRecDepth 20000 in
theorem ggX5_rowAt_X5_rowLength : GoodIn wsX5_rowAt wsX5_rowLength := goodIn_r _ [11, 12, 13, 14, 15, 3, 16, 17, 18, 19, 20, 21, 22, 23, 24, 25, 26, 27, 28, 29, 35, 36, 37, 38, 39, 40, 41, 42, 43, 44, 45] (by decide +kernel) (by decide +kernel)
set_option maxRecDepth 20000 in
theorem gX5_rowAt_X5_rowLength : GoodIn wsX5_rowAt (wsV RX5 61 RX5 yX5_rowLength wsX5_rowLength) := goodIn_app (goodIn_of _ (by decide +kernel)) ggX5_rowAt_X5_rowLength
set_option maxRecDepth 20000 in
theorem ggX5_rowAt_X5_in : GoodIn wsX5_rowAt wsX5_in := goodIn_r _ [7] (by decide +kernel) (by decide +kernel)
set_option maxRecDepth 20000 in
theorem gX5_rowAt_X5_in : GoodIn wsX5_rowAt (va_wsS RX5 42 yX5_in wsX5_in) := goodIn_app (goodIn_of _ (by decide +kernel)) ggX5_rowAt_X5_in
set_option maxRecDepth 20000 in
theorem ggX5_rowAt_X5_isFine : GoodIn wsX5_rowAt wsX5_isFine := goodIn_r _ [33, 34, 35, 36, 37, 38, 39, 40, 41, 42, 43, 44, 45] (by decide +kernel) (by decide +kernel)
set_option maxRecDepth 20000 in
theorem gX5_rowAt_X5_isFine : GoodIn wsX5_rowAt (wsV RX5 67 RX5 yX5_isFine wsX5_isFine) := goodIn_app (goodIn_of _ (by decide +kernel)) ggX5_rowAt_X5_isFine
set_option maxRecDepth 20000 in
theorem ggX5_rowAt_X5_isInRow : GoodIn wsX5_rowAt wsX5_isInRow := goodIn_r _ [16, 17, 18, 19, 20, 21, 22, 23, 3, 24, 25, 26, 27, 28, 29, 35, 36, 37, 38, 39, 40, 41, 42, 43, 44, 45] (by decide +kernel) (by decide +kernel)
set_option maxRecDepth 20000 in
theorem gX5_rowAt_X5_isInRow : GoodIn wsX5_rowAt (wsV RX5 57 RX5 yX5_isInRow wsX5_isInRow) := goodIn_app (goodIn_of _ (by decide +kernel)) ggX5_rowAt_X5_isInRow
theorem dX5_rowAt_0 : decode cX5_rowAt 0 = .ok (.aload_n 0, 1) := by decide +kernel
theorem dX5_rowAt_1 : decode cX5_rowAt 1 = .ok (.iload_n 1, 1) := by decide +kernel
theorem dX5_rowAt_2 : decode cX5_rowAt 2 = .ok (.invokestatic 64, 3) := by decide +kernel
theorem dX5_rowAt_5 : decode cX5_rowAt 5 = .ok (.ifCond .eq 22, 3) := by decide +kernel
theorem dX5_rowAt_8 : decode cX5_rowAt 8 = .ok (.iload_n 2, 1) := by decide +kernel
theorem dX5_rowAt_9 : decode cX5_rowAt 9 = .ok (.iconst 0, 1) := by decide +kernel
theorem dX5_rowAt_10 : decode cX5_rowAt 10 = .ok (.aload_n 0, 1) := by decide +kernel
theorem dX5_rowAt_11 : decode cX5_rowAt 11 = .ok (.iload_n 1, 1) := by decide +kernel
theorem dX5_rowAt_12 : decode cX5_rowAt 12 = .ok (.invokevirtual 61, 3) := by decide +kernel
theorem dX5_rowAt_15 : decode cX5_rowAt 15 = .ok (.iconst 1, 1) := by decide +kernel
theorem dX5_rowAt_16 : decode cX5_rowAt 16 = .ok (.isub, 1) := by decide +kernel
theorem dX5_rowAt_17 : decode cX5_rowAt 17 = .ok (.invokestatic 42, 3) := by decide +kernel
theorem dX5_rowAt_20 : decode cX5_rowAt 20 = .ok (.ifCond .eq 7, 3) := by decide +kernel
theorem dX5_rowAt_23 : decode cX5_rowAt 23 = .ok (.iconst 0, 1) := by decide +kernel
theorem dX5_rowAt_24 : decode cX5_rowAt 24 = .ok (.goto 4, 3) := by decide +kernel
theorem dX5_rowAt_27 : decode cX5_rowAt 27 = .ok (.iconst 1, 1) := by decide +kernel
theorem dX5_rowAt_28 : decode cX5_rowAt 28 = .ok (.invokevirtual 67, 3) := by decide +kernel
theorem dX5_rowAt_31 : decode cX5_rowAt 31 = .ok (.ifCond .ne 5, 3) := by decide +kernel
theorem dX5_rowAt_34 : decode cX5_rowAt 34 = .ok (.iconst 0, 1) := by decide +kernel
theorem dX5_rowAt_35 : decode cX5_rowAt 35 = .ok (.ireturn, 1) := by decide +kernel
theorem dX5_rowAt_36 : decode cX5_rowAt 36 = .ok (.iload_n 2, 1) := by decide +kernel
theorem dX5_rowAt_37 : decode cX5_rowAt 37 = .ok (.istore_n 3, 1) := by decide +kernel
theorem dX5_rowAt_38 : decode cX5_rowAt 38 = .ok (.iconst 0, 1) := by decide +kernel
theorem dX5_rowAt_39 : decode cX5_rowAt 39 = .ok (.istore 4, 2) := by decide +kernel
theorem dX5_rowAt_41 : decode cX5_rowAt 41 = .ok (.iload_n 3, 1) := by decide +kernel
theorem dX5_rowAt_42 : decode cX5_rowAt 42 = .ok (.ifCond .gt 13, 3) := by decide +kernel
theorem dX5_rowAt_45 : decode cX5_rowAt 45 = .ok (.aload_n 0, 1) := by decide +kernel
theorem dX5_rowAt_46 : decode cX5_rowAt 46 = .ok (.iload_n 1, 1) := by decide +kernel
theorem dX5_rowAt_47 : decode cX5_rowAt 47 = .ok (.iload 4, 2) := by decide +kernel
theorem dX5_rowAt_49 : decode cX5_rowAt 49 = .ok (.invokevirtual 57, 3) := by decide +kernel
theorem dX5_rowAt_52 : decode cX5_rowAt 52 = .ok (.ifCond .ne 27, 3) := by decide +kernel
theorem dX5_rowAt_55 : decode cX5_rowAt 55 = .ok (.iload_n 3, 1) := by decide +kernel
theorem dX5_rowAt_56 : decode cX5_rowAt 56 = .ok (.aload_n 0, 1) := by decide +kernel
theorem dX5_rowAt_57 : decode cX5_rowAt 57 = .ok (.iload_n 1, 1) := by decide +kernel
theorem dX5_rowAt_58 : decode cX5_rowAt 58 = .ok (.iload 4, 2) := by decide +kernel
theorem dX5_rowAt_60 : decode cX5_rowAt 60 = .ok (.invokevirtual 57, 3) := by decide +kernel
theorem dX5_rowAt_63 : decode cX5_rowAt 63 = .ok (.ifCond .eq 7, 3) := by decide +kernel
theorem dX5_rowAt_66 : decode cX5_rowAt 66 = .ok (.iconst 1, 1) := by decide +kernel
theorem dX5_rowAt_67 : decode cX5_rowAt 67 = .ok (.goto 4, 3) := by decide +kernel
theorem dX5_rowAt_70 : decode cX5_rowAt 70 = .ok (.iconst 0, 1) := by decide +kernel
theorem dX5_rowAt_71 : decode cX5_rowAt 71 = .ok (.isub, 1) := by decide +kernel
theorem dX5_rowAt_72 : decode cX5_rowAt 72 = .ok (.istore_n 3, 1) := by decide +kernel
theorem dX5_rowAt_73 : decode cX5_rowAt 73 = .ok (.iinc 4 1, 3) := by decide +kernel
theorem dX5_rowAt_76 : decode cX5_rowAt 76 = .ok (.goto (-35), 3) := by decide +kernel
theorem dX5_rowAt_79 : decode cX5_rowAt 79 = .ok (.iload 4, 2) := by decide +kernel
theorem dX5_rowAt_81 : decode cX5_rowAt 81 = .ok (.ireturn, 1) := by decide +kernel
set_option maxRecDepth 20000 in
theorem ggX5_floorOf_X5_isOne : GoodIn wsX5_floorOf wsX5_isOne := goodIn_r _ [5, 6, 7, 4, 8] (by decide +kernel) (by decide +kernel)
set_option maxRecDepth 20000 in
theorem gX5_floorOf_X5_isOne : GoodIn wsX5_floorOf (va_wsS RX5 64 yX5_isOne wsX5_isOne) := goodIn_app (goodIn_of _ (by decide +kernel)) ggX5_floorOf_X5_isOne
set_option maxRecDepth 20000 in
theorem ggX5_floorOf_X5_isFine : GoodIn wsX5_floorOf wsX5_isFine := goodIn_r _ [12, 13, 14, 15, 16, 17, 18, 19, 20, 21, 22, 23, 24] (by decide +kernel) (by decide +kernel)
set_option maxRecDepth 20000 in
theorem gX5_floorOf_X5_isFine : GoodIn wsX5_floorOf (wsV RX5 67 RX5 yX5_isFine wsX5_isFine) := goodIn_app (goodIn_of _ (by decide +kernel)) ggX5_floorOf_X5_isFine
theorem dX5_floorOf_0 : decode cX5_floorOf 0 = .ok (.aload_n 0, 1) := by decide +kernel
theorem dX5_floorOf_1 : decode cX5_floorOf 1 = .ok (.iload_n 1, 1) := by decide +kernel
theorem dX5_floorOf_2 : decode cX5_floorOf 2 = .ok (.invokestatic 64, 3) := by decide +kernel
theorem dX5_floorOf_5 : decode cX5_floorOf 5 = .ok (.ifCond .eq 7, 3) := by decide +kernel
theorem dX5_floorOf_8 : decode cX5_floorOf 8 = .ok (.iconst 0, 1) := by decide +kernel
theorem dX5_floorOf_9 : decode cX5_floorOf 9 = .ok (.goto 4, 3) := by decide +kernel
theorem dX5_floorOf_12 : decode cX5_floorOf 12 = .ok (.iconst 1, 1) := by decide +kernel
theorem dX5_floorOf_13 : decode cX5_floorOf 13 = .ok (.invokevirtual 67, 3) := by decide +kernel
theorem dX5_floorOf_16 : decode cX5_floorOf 16 = .ok (.ifCond .eq 12, 3) := by decide +kernel
theorem dX5_floorOf_19 : decode cX5_floorOf 19 = .ok (.aload_n 0, 1) := by decide +kernel
theorem dX5_floorOf_20 : decode cX5_floorOf 20 = .ok (.getfield 36, 3) := by decide +kernel
theorem dX5_floorOf_23 : decode cX5_floorOf 23 = .ok (.iload_n 1, 1) := by decide +kernel
theorem dX5_floorOf_24 : decode cX5_floorOf 24 = .ok (.iaload, 1) := by decide +kernel
theorem dX5_floorOf_25 : decode cX5_floorOf 25 = .ok (.goto 4, 3) := by decide +kernel
theorem dX5_floorOf_28 : decode cX5_floorOf 28 = .ok (.iconst 0, 1) := by decide +kernel
theorem dX5_floorOf_29 : decode cX5_floorOf 29 = .ok (.ireturn, 1) := by decide +kernel
theorem dX5_isDue_0 : decode cX5_isDue 0 = .ok (.aload_n 0, 1) := by decide +kernel
theorem dX5_isDue_1 : decode cX5_isDue 1 = .ok (.getfield 19, 3) := by decide +kernel
theorem dX5_isDue_4 : decode cX5_isDue 4 = .ok (.iload_n 2, 1) := by decide +kernel
theorem dX5_isDue_5 : decode cX5_isDue 5 = .ok (.iaload, 1) := by decide +kernel
theorem dX5_isDue_6 : decode cX5_isDue 6 = .ok (.istore_n 3, 1) := by decide +kernel
theorem dX5_isDue_7 : decode cX5_isDue 7 = .ok (.aload_n 0, 1) := by decide +kernel
theorem dX5_isDue_8 : decode cX5_isDue 8 = .ok (.getfield 19, 3) := by decide +kernel
theorem dX5_isDue_11 : decode cX5_isDue 11 = .ok (.aload_n 0, 1) := by decide +kernel
theorem dX5_isDue_12 : decode cX5_isDue 12 = .ok (.getfield 23, 3) := by decide +kernel
theorem dX5_isDue_15 : decode cX5_isDue 15 = .ok (.iload_n 2, 1) := by decide +kernel
theorem dX5_isDue_16 : decode cX5_isDue 16 = .ok (.iaload, 1) := by decide +kernel
theorem dX5_isDue_17 : decode cX5_isDue 17 = .ok (.iaload, 1) := by decide +kernel
theorem dX5_isDue_18 : decode cX5_isDue 18 = .ok (.istore 4, 2) := by decide +kernel
theorem dX5_isDue_20 : decode cX5_isDue 20 = .ok (.aload_n 0, 1) := by decide +kernel
theorem dX5_isDue_21 : decode cX5_isDue 21 = .ok (.getfield 7, 3) := by decide +kernel
theorem dX5_isDue_24 : decode cX5_isDue 24 = .ok (.bipush 8, 2) := by decide +kernel
theorem dX5_isDue_26 : decode cX5_isDue 26 = .ok (.iload_n 1, 1) := by decide +kernel
theorem dX5_isDue_27 : decode cX5_isDue 27 = .ok (.imul, 1) := by decide +kernel
theorem dX5_isDue_28 : decode cX5_isDue 28 = .ok (.iload_n 3, 1) := by decide +kernel
theorem dX5_isDue_29 : decode cX5_isDue 29 = .ok (.iadd, 1) := by decide +kernel
theorem dX5_isDue_30 : decode cX5_isDue 30 = .ok (.baload, 1) := by decide +kernel
theorem dX5_isDue_31 : decode cX5_isDue 31 = .ok (.ifCond .eq 31, 3) := by decide +kernel
theorem dX5_isDue_34 : decode cX5_isDue 34 = .ok (.aload_n 0, 1) := by decide +kernel
theorem dX5_isDue_35 : decode cX5_isDue 35 = .ok (.getfield 13, 3) := by decide +kernel
theorem dX5_isDue_38 : decode cX5_isDue 38 = .ok (.bipush 8, 2) := by decide +kernel
theorem dX5_isDue_40 : decode cX5_isDue 40 = .ok (.iload_n 1, 1) := by decide +kernel
theorem dX5_isDue_41 : decode cX5_isDue 41 = .ok (.imul, 1) := by decide +kernel
theorem dX5_isDue_42 : decode cX5_isDue 42 = .ok (.iload_n 3, 1) := by decide +kernel
theorem dX5_isDue_43 : decode cX5_isDue 43 = .ok (.iadd, 1) := by decide +kernel
theorem dX5_isDue_44 : decode cX5_isDue 44 = .ok (.baload, 1) := by decide +kernel
theorem dX5_isDue_45 : decode cX5_isDue 45 = .ok (.ifCond .ne 17, 3) := by decide +kernel
theorem dX5_isDue_48 : decode cX5_isDue 48 = .ok (.iload_n 2, 1) := by decide +kernel
theorem dX5_isDue_49 : decode cX5_isDue 49 = .ok (.aload_n 0, 1) := by decide +kernel
theorem dX5_isDue_50 : decode cX5_isDue 50 = .ok (.getfield 36, 3) := by decide +kernel
theorem dX5_isDue_53 : decode cX5_isDue 53 = .ok (.iload_n 1, 1) := by decide +kernel
theorem dX5_isDue_54 : decode cX5_isDue 54 = .ok (.iaload, 1) := by decide +kernel
theorem dX5_isDue_55 : decode cX5_isDue 55 = .ok (.if_icmp .le 7, 3) := by decide +kernel
theorem dX5_isDue_58 : decode cX5_isDue 58 = .ok (.iconst 1, 1) := by decide +kernel
theorem dX5_isDue_59 : decode cX5_isDue 59 = .ok (.goto 4, 3) := by decide +kernel
theorem dX5_isDue_62 : decode cX5_isDue 62 = .ok (.iconst 0, 1) := by decide +kernel
theorem dX5_isDue_63 : decode cX5_isDue 63 = .ok (.istore 5, 2) := by decide +kernel
theorem dX5_isDue_65 : decode cX5_isDue 65 = .ok (.iload 5, 2) := by decide +kernel
theorem dX5_isDue_67 : decode cX5_isDue 67 = .ok (.ifCond .eq 30, 3) := by decide +kernel
theorem dX5_isDue_70 : decode cX5_isDue 70 = .ok (.aload_n 0, 1) := by decide +kernel
theorem dX5_isDue_71 : decode cX5_isDue 71 = .ok (.getfield 26, 3) := by decide +kernel
theorem dX5_isDue_74 : decode cX5_isDue 74 = .ok (.iload_n 2, 1) := by decide +kernel
theorem dX5_isDue_75 : decode cX5_isDue 75 = .ok (.baload, 1) := by decide +kernel
theorem dX5_isDue_76 : decode cX5_isDue 76 = .ok (.ifCond .ne 21, 3) := by decide +kernel
theorem dX5_isDue_79 : decode cX5_isDue 79 = .ok (.aload_n 0, 1) := by decide +kernel
theorem dX5_isDue_80 : decode cX5_isDue 80 = .ok (.getfield 26, 3) := by decide +kernel
theorem dX5_isDue_83 : decode cX5_isDue 83 = .ok (.aload_n 0, 1) := by decide +kernel
theorem dX5_isDue_84 : decode cX5_isDue 84 = .ok (.getfield 23, 3) := by decide +kernel
theorem dX5_isDue_87 : decode cX5_isDue 87 = .ok (.iload_n 2, 1) := by decide +kernel
theorem dX5_isDue_88 : decode cX5_isDue 88 = .ok (.iaload, 1) := by decide +kernel
theorem dX5_isDue_89 : decode cX5_isDue 89 = .ok (.baload, 1) := by decide +kernel
theorem dX5_isDue_90 : decode cX5_isDue 90 = .ok (.ifCond .ne 7, 3) := by decide +kernel
theorem dX5_isDue_93 : decode cX5_isDue 93 = .ok (.iconst 1, 1) := by decide +kernel
theorem dX5_isDue_94 : decode cX5_isDue 94 = .ok (.goto 4, 3) := by decide +kernel
theorem dX5_isDue_97 : decode cX5_isDue 97 = .ok (.iconst 0, 1) := by decide +kernel
theorem dX5_isDue_98 : decode cX5_isDue 98 = .ok (.istore 5, 2) := by decide +kernel
theorem dX5_isDue_100 : decode cX5_isDue 100 = .ok (.iload 5, 2) := by decide +kernel
theorem dX5_isDue_102 : decode cX5_isDue 102 = .ok (.ifCond .eq 37, 3) := by decide +kernel
theorem dX5_isDue_105 : decode cX5_isDue 105 = .ok (.aload_n 0, 1) := by decide +kernel
theorem dX5_isDue_106 : decode cX5_isDue 106 = .ok (.getfield 13, 3) := by decide +kernel
theorem dX5_isDue_109 : decode cX5_isDue 109 = .ok (.bipush 8, 2) := by decide +kernel
theorem dX5_isDue_111 : decode cX5_isDue 111 = .ok (.iload_n 1, 1) := by decide +kernel
theorem dX5_isDue_112 : decode cX5_isDue 112 = .ok (.imul, 1) := by decide +kernel
theorem dX5_isDue_113 : decode cX5_isDue 113 = .ok (.iload 4, 2) := by decide +kernel
theorem dX5_isDue_115 : decode cX5_isDue 115 = .ok (.iadd, 1) := by decide +kernel
theorem dX5_isDue_116 : decode cX5_isDue 116 = .ok (.baload, 1) := by decide +kernel
theorem dX5_isDue_117 : decode cX5_isDue 117 = .ok (.ifCond .ne 22, 3) := by decide +kernel
theorem dX5_isDue_120 : decode cX5_isDue 120 = .ok (.aload_n 0, 1) := by decide +kernel
theorem dX5_isDue_121 : decode cX5_isDue 121 = .ok (.getfield 16, 3) := by decide +kernel
theorem dX5_isDue_124 : decode cX5_isDue 124 = .ok (.bipush 8, 2) := by decide +kernel
theorem dX5_isDue_126 : decode cX5_isDue 126 = .ok (.iload 4, 2) := by decide +kernel
theorem dX5_isDue_128 : decode cX5_isDue 128 = .ok (.imul, 1) := by decide +kernel
theorem dX5_isDue_129 : decode cX5_isDue 129 = .ok (.iload_n 1, 1) := by decide +kernel
theorem dX5_isDue_130 : decode cX5_isDue 130 = .ok (.iadd, 1) := by decide +kernel
theorem dX5_isDue_131 : decode cX5_isDue 131 = .ok (.baload, 1) := by decide +kernel
theorem dX5_isDue_132 : decode cX5_isDue 132 = .ok (.ifCond .ne 7, 3) := by decide +kernel
theorem dX5_isDue_135 : decode cX5_isDue 135 = .ok (.iconst 1, 1) := by decide +kernel
theorem dX5_isDue_136 : decode cX5_isDue 136 = .ok (.goto 4, 3) := by decide +kernel
theorem dX5_isDue_139 : decode cX5_isDue 139 = .ok (.iconst 0, 1) := by decide +kernel
theorem dX5_isDue_140 : decode cX5_isDue 140 = .ok (.ireturn, 1) := by decide +kernel
set_option maxRecDepth 20000 in
theorem ggX5_isShown_X5_isDue : GoodIn wsX5_isShown wsX5_isDue := goodIn_r _ [7, 8, 2, 9, 10, 11, 12, 13, 14, 15, 16, 17, 18, 19, 20, 21, 22, 23, 24] (by decide +kernel) (by decide +kernel)
set_option maxRecDepth 20000 in
theorem gX5_isShown_X5_isDue : GoodIn wsX5_isShown (wsV RX5 80 RX5 yX5_isDue wsX5_isDue) := goodIn_app (goodIn_of _ (by decide +kernel)) ggX5_isShown_X5_isDue
theorem dX5_isShown_0 : decode cX5_isShown 0 = .ok (.aload_n 0, 1) := by decide +kernel
theorem dX5_isShown_1 : decode cX5_isShown 1 = .ok (.iload_n 1, 1) := by decide +kernel
theorem dX5_isShown_2 : decode cX5_isShown 2 = .ok (.iload_n 2, 1) := by decide +kernel
theorem dX5_isShown_3 : decode cX5_isShown 3 = .ok (.invokevirtual 80, 3) := by decide +kernel
theorem dX5_isShown_6 : decode cX5_isShown 6 = .ok (.istore_n 3, 1) := by decide +kernel
theorem dX5_isShown_7 : decode cX5_isShown 7 = .ok (.iload_n 2, 1) := by decide +kernel
theorem dX5_isShown_8 : decode cX5_isShown 8 = .ok (.iconst 1, 1) := by decide +kernel
theorem dX5_isShown_9 : decode cX5_isShown 9 = .ok (.iadd, 1) := by decide +kernel
theorem dX5_isShown_10 : decode cX5_isShown 10 = .ok (.istore 4, 2) := by decide +kernel
theorem dX5_isShown_12 : decode cX5_isShown 12 = .ok (.iload 4, 2) := by decide +kernel
theorem dX5_isShown_14 : decode cX5_isShown 14 = .ok (.aload_n 0, 1) := by decide +kernel
theorem dX5_isShown_15 : decode cX5_isShown 15 = .ok (.getfield 46, 3) := by decide +kernel
theorem dX5_isShown_18 : decode cX5_isShown 18 = .ok (.if_icmp .ge 45, 3) := by decide +kernel
theorem dX5_isShown_21 : decode cX5_isShown 21 = .ok (.iload_n 3, 1) := by decide +kernel
theorem dX5_isShown_22 : decode cX5_isShown 22 = .ok (.ifCond .eq 41, 3) := by decide +kernel
theorem dX5_isShown_25 : decode cX5_isShown 25 = .ok (.aload_n 0, 1) := by decide +kernel
theorem dX5_isShown_26 : decode cX5_isShown 26 = .ok (.getfield 23, 3) := by decide +kernel
theorem dX5_isShown_29 : decode cX5_isShown 29 = .ok (.iload 4, 2) := by decide +kernel
theorem dX5_isShown_31 : decode cX5_isShown 31 = .ok (.iaload, 1) := by decide +kernel
theorem dX5_isShown_32 : decode cX5_isShown 32 = .ok (.aload_n 0, 1) := by decide +kernel
theorem dX5_isShown_33 : decode cX5_isShown 33 = .ok (.getfield 23, 3) := by decide +kernel
theorem dX5_isShown_36 : decode cX5_isShown 36 = .ok (.iload_n 2, 1) := by decide +kernel
theorem dX5_isShown_37 : decode cX5_isShown 37 = .ok (.iaload, 1) := by decide +kernel
theorem dX5_isShown_38 : decode cX5_isShown 38 = .ok (.if_icmp .ne 13, 3) := by decide +kernel
theorem dX5_isShown_41 : decode cX5_isShown 41 = .ok (.aload_n 0, 1) := by decide +kernel
theorem dX5_isShown_42 : decode cX5_isShown 42 = .ok (.iload_n 1, 1) := by decide +kernel
theorem dX5_isShown_43 : decode cX5_isShown 43 = .ok (.iload 4, 2) := by decide +kernel
theorem dX5_isShown_45 : decode cX5_isShown 45 = .ok (.invokevirtual 80, 3) := by decide +kernel
theorem dX5_isShown_48 : decode cX5_isShown 48 = .ok (.ifCond .ne 7, 3) := by decide +kernel
theorem dX5_isShown_51 : decode cX5_isShown 51 = .ok (.iconst 1, 1) := by decide +kernel
theorem dX5_isShown_52 : decode cX5_isShown 52 = .ok (.goto 4, 3) := by decide +kernel
theorem dX5_isShown_55 : decode cX5_isShown 55 = .ok (.iconst 0, 1) := by decide +kernel
theorem dX5_isShown_56 : decode cX5_isShown 56 = .ok (.istore_n 3, 1) := by decide +kernel
theorem dX5_isShown_57 : decode cX5_isShown 57 = .ok (.iinc 4 1, 3) := by decide +kernel
theorem dX5_isShown_60 : decode cX5_isShown 60 = .ok (.goto (-48), 3) := by decide +kernel
theorem dX5_isShown_63 : decode cX5_isShown 63 = .ok (.iload_n 3, 1) := by decide +kernel
theorem dX5_isShown_64 : decode cX5_isShown 64 = .ok (.ireturn, 1) := by decide +kernel
set_option maxRecDepth 20000 in
theorem ggX5_shows_X5_isOne : GoodIn wsX5_shows wsX5_isOne := goodIn_r _ [4, 5, 6, 3, 7] (by decide +kernel) (by decide +kernel)
set_option maxRecDepth 20000 in
theorem gX5_shows_X5_isOne : GoodIn wsX5_shows (va_wsS RX5 64 yX5_isOne wsX5_isOne) := goodIn_app (goodIn_of _ (by decide +kernel)) ggX5_shows_X5_isOne
set_option maxRecDepth 20000 in
theorem ggX5_shows_X5_isEntry : GoodIn wsX5_shows wsX5_isEntry := goodIn_r _ [11, 12, 5, 6, 3, 7, 33, 34, 35, 36, 37, 38, 39, 40, 41, 42, 43] (by decide +kernel) (by decide +kernel)
set_option maxRecDepth 20000 in
theorem gX5_shows_X5_isEntry : GoodIn wsX5_shows (wsV RX5 77 RX5 yX5_isEntry wsX5_isEntry) := goodIn_app (goodIn_of _ (by decide +kernel)) ggX5_shows_X5_isEntry
set_option maxRecDepth 20000 in
theorem ggX5_shows_X5_isFine : GoodIn wsX5_shows wsX5_isFine := goodIn_r _ [16, 17, 33, 34, 35, 36, 37, 38, 39, 40, 41, 42, 43] (by decide +kernel) (by decide +kernel)
set_option maxRecDepth 20000 in
theorem gX5_shows_X5_isFine : GoodIn wsX5_shows (wsV RX5 67 RX5 yX5_isFine wsX5_isFine) := goodIn_app (goodIn_of _ (by decide +kernel)) ggX5_shows_X5_isFine
set_option maxRecDepth 20000 in
theorem ggX5_shows_X5_isShown : GoodIn wsX5_shows wsX5_isShown := goodIn_r _ [21, 12, 22, 23, 24, 25, 3, 26, 27, 28, 29, 30, 31, 32, 33, 34, 35, 36, 37, 38, 39, 40, 41, 42, 43] (by decide +kernel) (by decide +kernel)
set_option maxRecDepth 20000 in
theorem gX5_shows_X5_isShown : GoodIn wsX5_shows (wsV RX5 83 RX5 yX5_isShown wsX5_isShown) := goodIn_app (goodIn_of _ (by decide +kernel)) ggX5_shows_X5_isShown
theorem dX5_shows_0 : decode cX5_shows 0 = .ok (.aload_n 0, 1) := by decide +kernel
theorem dX5_shows_1 : decode cX5_shows 1 = .ok (.iload_n 1, 1) := by decide +kernel
theorem dX5_shows_2 : decode cX5_shows 2 = .ok (.invokestatic 64, 3) := by decide +kernel
theorem dX5_shows_5 : decode cX5_shows 5 = .ok (.ifCond .eq 15, 3) := by decide +kernel
theorem dX5_shows_8 : decode cX5_shows 8 = .ok (.aload_n 0, 1) := by decide +kernel
theorem dX5_shows_9 : decode cX5_shows 9 = .ok (.iload_n 2, 1) := by decide +kernel
theorem dX5_shows_10 : decode cX5_shows 10 = .ok (.invokevirtual 77, 3) := by decide +kernel
theorem dX5_shows_13 : decode cX5_shows 13 = .ok (.ifCond .eq 7, 3) := by decide +kernel
theorem dX5_shows_16 : decode cX5_shows 16 = .ok (.iconst 0, 1) := by decide +kernel
theorem dX5_shows_17 : decode cX5_shows 17 = .ok (.goto 4, 3) := by decide +kernel
theorem dX5_shows_20 : decode cX5_shows 20 = .ok (.iconst 1, 1) := by decide +kernel
theorem dX5_shows_21 : decode cX5_shows 21 = .ok (.invokevirtual 67, 3) := by decide +kernel
theorem dX5_shows_24 : decode cX5_shows 24 = .ok (.ifCond .eq 16, 3) := by decide +kernel
theorem dX5_shows_27 : decode cX5_shows 27 = .ok (.aload_n 0, 1) := by decide +kernel
theorem dX5_shows_28 : decode cX5_shows 28 = .ok (.iload_n 1, 1) := by decide +kernel
theorem dX5_shows_29 : decode cX5_shows 29 = .ok (.iload_n 2, 1) := by decide +kernel
theorem dX5_shows_30 : decode cX5_shows 30 = .ok (.invokevirtual 83, 3) := by decide +kernel
theorem dX5_shows_33 : decode cX5_shows 33 = .ok (.ifCond .eq 7, 3) := by decide +kernel
theorem dX5_shows_36 : decode cX5_shows 36 = .ok (.iconst 1, 1) := by decide +kernel
theorem dX5_shows_37 : decode cX5_shows 37 = .ok (.goto 4, 3) := by decide +kernel
theorem dX5_shows_40 : decode cX5_shows 40 = .ok (.iconst 0, 1) := by decide +kernel
theorem dX5_shows_41 : decode cX5_shows 41 = .ok (.ireturn, 1) := by decide +kernel
set_option maxRecDepth 20000 in
theorem ggX5_nextBelow_X5_isShown : GoodIn wsX5_nextBelow wsX5_isShown := goodIn_r _ [6, 1, 7, 8, 9, 10, 5, 11, 12, 13, 14, 15, 16, 17, 18, 19, 20, 21, 22, 23, 24, 25, 26, 27, 28] (by decide +kernel) (by decide +kernel)
set_option maxRecDepth 20000 in
theorem gX5_nextBelow_X5_isShown : GoodIn wsX5_nextBelow (wsV RX5 83 RX5 yX5_isShown wsX5_isShown) := goodIn_app (goodIn_of _ (by decide +kernel)) ggX5_nextBelow_X5_isShown
theorem dX5_nextBelow_0 : decode cX5_nextBelow 0 = .ok (.iload_n 2, 1) := by decide +kernel
theorem dX5_nextBelow_1 : decode cX5_nextBelow 1 = .ok (.aload_n 0, 1) := by decide +kernel
theorem dX5_nextBelow_2 : decode cX5_nextBelow 2 = .ok (.getfield 46, 3) := by decide +kernel
theorem dX5_nextBelow_5 : decode cX5_nextBelow 5 = .ok (.if_icmp .ge 7, 3) := by decide +kernel
theorem dX5_nextBelow_8 : decode cX5_nextBelow 8 = .ok (.iload_n 2, 1) := by decide +kernel
theorem dX5_nextBelow_9 : decode cX5_nextBelow 9 = .ok (.goto 7, 3) := by decide +kernel
theorem dX5_nextBelow_12 : decode cX5_nextBelow 12 = .ok (.aload_n 0, 1) := by decide +kernel
theorem dX5_nextBelow_13 : decode cX5_nextBelow 13 = .ok (.getfield 46, 3) := by decide +kernel
theorem dX5_nextBelow_16 : decode cX5_nextBelow 16 = .ok (.iconst 1, 1) := by decide +kernel
theorem dX5_nextBelow_17 : decode cX5_nextBelow 17 = .ok (.isub, 1) := by decide +kernel
theorem dX5_nextBelow_18 : decode cX5_nextBelow 18 = .ok (.istore_n 3, 1) := by decide +kernel
theorem dX5_nextBelow_19 : decode cX5_nextBelow 19 = .ok (.iload_n 3, 1) := by decide +kernel
theorem dX5_nextBelow_20 : decode cX5_nextBelow 20 = .ok (.ifCond .lt 18, 3) := by decide +kernel
theorem dX5_nextBelow_23 : decode cX5_nextBelow 23 = .ok (.aload_n 0, 1) := by decide +kernel
theorem dX5_nextBelow_24 : decode cX5_nextBelow 24 = .ok (.iload_n 1, 1) := by decide +kernel
theorem dX5_nextBelow_25 : decode cX5_nextBelow 25 = .ok (.iload_n 3, 1) := by decide +kernel
theorem dX5_nextBelow_26 : decode cX5_nextBelow 26 = .ok (.invokevirtual 83, 3) := by decide +kernel
theorem dX5_nextBelow_29 : decode cX5_nextBelow 29 = .ok (.ifCond .ne 9, 3) := by decide +kernel
theorem dX5_nextBelow_32 : decode cX5_nextBelow 32 = .ok (.iinc 3 (-1), 3) := by decide +kernel
theorem dX5_nextBelow_35 : decode cX5_nextBelow 35 = .ok (.goto (-16), 3) := by decide +kernel
theorem dX5_nextBelow_38 : decode cX5_nextBelow 38 = .ok (.iload_n 3, 1) := by decide +kernel
theorem dX5_nextBelow_39 : decode cX5_nextBelow 39 = .ok (.ireturn, 1) := by decide +kernel
set_option maxRecDepth 20000 in
theorem ggX5_next_X5_isOne : GoodIn wsX5_next wsX5_isOne := goodIn_r _ [4, 5, 6, 3, 7] (by decide +kernel) (by decide +kernel)
set_option maxRecDepth 20000 in
theorem gX5_next_X5_isOne : GoodIn wsX5_next (va_wsS RX5 64 yX5_isOne wsX5_isOne) := goodIn_app (goodIn_of _ (by decide +kernel)) ggX5_next_X5_isOne
set_option maxRecDepth 20000 in
theorem ggX5_next_X5_in : GoodIn wsX5_next wsX5_in := goodIn_r _ [7] (by decide +kernel) (by decide +kernel)
set_option maxRecDepth 20000 in
theorem gX5_next_X5_in : GoodIn wsX5_next (va_wsS RX5 42 yX5_in wsX5_in) := goodIn_app (goodIn_of _ (by decide +kernel)) ggX5_next_X5_in
set_option maxRecDepth 20000 in
theorem ggX5_next_X5_isFine : GoodIn wsX5_next wsX5_isFine := goodIn_r _ [11, 12, 33, 34, 35, 36, 37, 38, 39, 40, 41, 42, 43] (by decide +kernel) (by decide +kernel)
set_option maxRecDepth 20000 in
theorem gX5_next_X5_isFine : GoodIn wsX5_next (wsV RX5 67 RX5 yX5_isFine wsX5_isFine) := goodIn_app (goodIn_of _ (by decide +kernel)) ggX5_next_X5_isFine
set_option maxRecDepth 20000 in
theorem ggX5_next_X5_nextBelow : GoodIn wsX5_next wsX5_nextBelow := goodIn_r _ [16, 17, 18, 19, 20, 3, 21, 22, 23, 24, 25, 26, 27, 28, 29, 30, 31, 32, 33, 34, 35, 36, 37, 38, 39, 40, 41, 42, 43] (by decide +kernel) (by decide +kernel)
set_option maxRecDepth 20000 in
theorem gX5_next_X5_nextBelow : GoodIn wsX5_next (wsV RX5 86 RX5 yX5_nextBelow wsX5_nextBelow) := goodIn_app (goodIn_of _ (by decide +kernel)) ggX5_next_X5_nextBelow
theorem dX5_next_0 : decode cX5_next 0 = .ok (.aload_n 0, 1) := by decide +kernel
theorem dX5_next_1 : decode cX5_next 1 = .ok (.iload_n 1, 1) := by decide +kernel
theorem dX5_next_2 : decode cX5_next 2 = .ok (.invokestatic 64, 3) := by decide +kernel
theorem dX5_next_5 : decode cX5_next 5 = .ok (.ifCond .ne 7, 3) := by decide +kernel
theorem dX5_next_8 : decode cX5_next 8 = .ok (.iconst 1, 1) := by decide +kernel
theorem dX5_next_9 : decode cX5_next 9 = .ok (.goto 19, 3) := by decide +kernel
theorem dX5_next_12 : decode cX5_next 12 = .ok (.iload_n 2, 1) := by decide +kernel
theorem dX5_next_13 : decode cX5_next 13 = .ok (.iconst 0, 1) := by decide +kernel
theorem dX5_next_14 : decode cX5_next 14 = .ok (.sipush 150, 3) := by decide +kernel
theorem dX5_next_17 : decode cX5_next 17 = .ok (.invokestatic 42, 3) := by decide +kernel
theorem dX5_next_20 : decode cX5_next 20 = .ok (.ifCond .ne 7, 3) := by decide +kernel
theorem dX5_next_23 : decode cX5_next 23 = .ok (.iconst 2, 1) := by decide +kernel
theorem dX5_next_24 : decode cX5_next 24 = .ok (.goto 4, 3) := by decide +kernel
theorem dX5_next_27 : decode cX5_next 27 = .ok (.iconst 0, 1) := by decide +kernel
theorem dX5_next_28 : decode cX5_next 28 = .ok (.invokevirtual 67, 3) := by decide +kernel
theorem dX5_next_31 : decode cX5_next 31 = .ok (.ifCond .eq 12, 3) := by decide +kernel
theorem dX5_next_34 : decode cX5_next 34 = .ok (.aload_n 0, 1) := by decide +kernel
theorem dX5_next_35 : decode cX5_next 35 = .ok (.iload_n 1, 1) := by decide +kernel
theorem dX5_next_36 : decode cX5_next 36 = .ok (.iload_n 2, 1) := by decide +kernel
theorem dX5_next_37 : decode cX5_next 37 = .ok (.invokevirtual 86, 3) := by decide +kernel
theorem dX5_next_40 : decode cX5_next 40 = .ok (.goto 4, 3) := by decide +kernel
theorem dX5_next_43 : decode cX5_next 43 = .ok (.iconst 0, 1) := by decide +kernel
theorem dX5_next_44 : decode cX5_next 44 = .ok (.ireturn, 1) := by decide +kernel
set_option maxRecDepth 20000 in
theorem ggX5_pageEnd_X5_isOne : GoodIn wsX5_pageEnd wsX5_isOne := goodIn_r _ [4, 5, 6, 3, 7] (by decide +kernel) (by decide +kernel)
set_option maxRecDepth 20000 in
theorem gX5_pageEnd_X5_isOne : GoodIn wsX5_pageEnd (va_wsS RX5 64 yX5_isOne wsX5_isOne) := goodIn_app (goodIn_of _ (by decide +kernel)) ggX5_pageEnd_X5_isOne
set_option maxRecDepth 20000 in
theorem ggX5_pageEnd_X5_in : GoodIn wsX5_pageEnd wsX5_in := goodIn_r _ [7] (by decide +kernel) (by decide +kernel)
set_option maxRecDepth 20000 in
theorem gX5_pageEnd_X5_in : GoodIn wsX5_pageEnd (va_wsS RX5 42 yX5_in wsX5_in) := goodIn_app (goodIn_of _ (by decide +kernel)) ggX5_pageEnd_X5_in
set_option maxRecDepth 20000 in
theorem ggX5_pageEnd_X5_isFine : GoodIn wsX5_pageEnd wsX5_isFine := goodIn_r _ [11, 12, 33, 34, 35, 36, 37, 38, 39, 40, 41, 42, 43] (by decide +kernel) (by decide +kernel)
set_option maxRecDepth 20000 in
theorem gX5_pageEnd_X5_isFine : GoodIn wsX5_pageEnd (wsV RX5 67 RX5 yX5_isFine wsX5_isFine) := goodIn_app (goodIn_of _ (by decide +kernel)) ggX5_pageEnd_X5_isFine
set_option maxRecDepth 20000 in
theorem ggX5_pageEnd_X5_nextBelow : GoodIn wsX5_pageEnd wsX5_nextBelow := goodIn_r _ [16, 17, 18, 19, 20, 3, 21, 22, 23, 24, 25, 26, 27, 28, 29, 30, 31, 32, 33, 34, 35, 36, 37, 38, 39, 40, 41, 42, 43] (by decide +kernel) (by decide +kernel)
set_option maxRecDepth 20000 in
theorem gX5_pageEnd_X5_nextBelow : GoodIn wsX5_pageEnd (wsV RX5 86 RX5 yX5_nextBelow wsX5_nextBelow) := goodIn_app (goodIn_of _ (by decide +kernel)) ggX5_pageEnd_X5_nextBelow
theorem dX5_pageEnd_0 : decode cX5_pageEnd 0 = .ok (.aload_n 0, 1) := by decide +kernel
theorem dX5_pageEnd_1 : decode cX5_pageEnd 1 = .ok (.iload_n 1, 1) := by decide +kernel
theorem dX5_pageEnd_2 : decode cX5_pageEnd 2 = .ok (.invokestatic 64, 3) := by decide +kernel
theorem dX5_pageEnd_5 : decode cX5_pageEnd 5 = .ok (.ifCond .ne 7, 3) := by decide +kernel
theorem dX5_pageEnd_8 : decode cX5_pageEnd 8 = .ok (.iconst 1, 1) := by decide +kernel
theorem dX5_pageEnd_9 : decode cX5_pageEnd 9 = .ok (.goto 29, 3) := by decide +kernel
theorem dX5_pageEnd_12 : decode cX5_pageEnd 12 = .ok (.iload_n 2, 1) := by decide +kernel
theorem dX5_pageEnd_13 : decode cX5_pageEnd 13 = .ok (.iconst 0, 1) := by decide +kernel
theorem dX5_pageEnd_14 : decode cX5_pageEnd 14 = .ok (.sipush 150, 3) := by decide +kernel
theorem dX5_pageEnd_17 : decode cX5_pageEnd 17 = .ok (.invokestatic 42, 3) := by decide +kernel
theorem dX5_pageEnd_20 : decode cX5_pageEnd 20 = .ok (.ifCond .eq 13, 3) := by decide +kernel
theorem dX5_pageEnd_23 : decode cX5_pageEnd 23 = .ok (.iload_n 3, 1) := by decide +kernel
theorem dX5_pageEnd_24 : decode cX5_pageEnd 24 = .ok (.iconst 1, 1) := by decide +kernel
theorem dX5_pageEnd_25 : decode cX5_pageEnd 25 = .ok (.bipush 20, 2) := by decide +kernel
theorem dX5_pageEnd_27 : decode cX5_pageEnd 27 = .ok (.invokestatic 42, 3) := by decide +kernel
theorem dX5_pageEnd_30 : decode cX5_pageEnd 30 = .ok (.ifCond .ne 7, 3) := by decide +kernel
theorem dX5_pageEnd_33 : decode cX5_pageEnd 33 = .ok (.iconst 2, 1) := by decide +kernel
theorem dX5_pageEnd_34 : decode cX5_pageEnd 34 = .ok (.goto 4, 3) := by decide +kernel
theorem dX5_pageEnd_37 : decode cX5_pageEnd 37 = .ok (.iconst 0, 1) := by decide +kernel
theorem dX5_pageEnd_38 : decode cX5_pageEnd 38 = .ok (.invokevirtual 67, 3) := by decide +kernel
theorem dX5_pageEnd_41 : decode cX5_pageEnd 41 = .ok (.ifCond .ne 5, 3) := by decide +kernel
theorem dX5_pageEnd_44 : decode cX5_pageEnd 44 = .ok (.iconst 0, 1) := by decide +kernel
theorem dX5_pageEnd_45 : decode cX5_pageEnd 45 = .ok (.ireturn, 1) := by decide +kernel
theorem dX5_pageEnd_46 : decode cX5_pageEnd 46 = .ok (.iconst (-1), 1) := by decide +kernel
theorem dX5_pageEnd_47 : decode cX5_pageEnd 47 = .ok (.istore 4, 2) := by decide +kernel
theorem dX5_pageEnd_49 : decode cX5_pageEnd 49 = .ok (.aload_n 0, 1) := by decide +kernel
theorem dX5_pageEnd_50 : decode cX5_pageEnd 50 = .ok (.iload_n 1, 1) := by decide +kernel
theorem dX5_pageEnd_51 : decode cX5_pageEnd 51 = .ok (.iload_n 2, 1) := by decide +kernel
theorem dX5_pageEnd_52 : decode cX5_pageEnd 52 = .ok (.invokevirtual 86, 3) := by decide +kernel
theorem dX5_pageEnd_55 : decode cX5_pageEnd 55 = .ok (.istore 5, 2) := by decide +kernel
theorem dX5_pageEnd_57 : decode cX5_pageEnd 57 = .ok (.iconst 0, 1) := by decide +kernel
theorem dX5_pageEnd_58 : decode cX5_pageEnd 58 = .ok (.istore 6, 2) := by decide +kernel
theorem dX5_pageEnd_60 : decode cX5_pageEnd 60 = .ok (.iload 6, 2) := by decide +kernel
theorem dX5_pageEnd_62 : decode cX5_pageEnd 62 = .ok (.iload_n 3, 1) := by decide +kernel
theorem dX5_pageEnd_63 : decode cX5_pageEnd 63 = .ok (.if_icmp .ge 28, 3) := by decide +kernel
theorem dX5_pageEnd_66 : decode cX5_pageEnd 66 = .ok (.iload 5, 2) := by decide +kernel
theorem dX5_pageEnd_68 : decode cX5_pageEnd 68 = .ok (.iconst (-1), 1) := by decide +kernel
theorem dX5_pageEnd_69 : decode cX5_pageEnd 69 = .ok (.if_icmp .eq 22, 3) := by decide +kernel
theorem dX5_pageEnd_72 : decode cX5_pageEnd 72 = .ok (.iload 5, 2) := by decide +kernel
theorem dX5_pageEnd_74 : decode cX5_pageEnd 74 = .ok (.istore 4, 2) := by decide +kernel
theorem dX5_pageEnd_76 : decode cX5_pageEnd 76 = .ok (.aload_n 0, 1) := by decide +kernel
theorem dX5_pageEnd_77 : decode cX5_pageEnd 77 = .ok (.iload_n 1, 1) := by decide +kernel
theorem dX5_pageEnd_78 : decode cX5_pageEnd 78 = .ok (.iload 4, 2) := by decide +kernel
theorem dX5_pageEnd_80 : decode cX5_pageEnd 80 = .ok (.invokevirtual 86, 3) := by decide +kernel
theorem dX5_pageEnd_83 : decode cX5_pageEnd 83 = .ok (.istore 5, 2) := by decide +kernel
theorem dX5_pageEnd_85 : decode cX5_pageEnd 85 = .ok (.iinc 6 1, 3) := by decide +kernel
theorem dX5_pageEnd_88 : decode cX5_pageEnd 88 = .ok (.goto (-28), 3) := by decide +kernel
theorem dX5_pageEnd_91 : decode cX5_pageEnd 91 = .ok (.iload 4, 2) := by decide +kernel
theorem dX5_pageEnd_93 : decode cX5_pageEnd 93 = .ok (.ireturn, 1) := by decide +kernel
set_option maxRecDepth 20000 in
theorem ggX5_length_X5_isOne : GoodIn wsX5_length wsX5_isOne := goodIn_r _ [5, 6, 7, 4, 8] (by decide +kernel) (by decide +kernel)
set_option maxRecDepth 20000 in
theorem gX5_length_X5_isOne : GoodIn wsX5_length (va_wsS RX5 64 yX5_isOne wsX5_isOne) := goodIn_app (goodIn_of _ (by decide +kernel)) ggX5_length_X5_isOne
set_option maxRecDepth 20000 in
theorem ggX5_length_X5_isFine : GoodIn wsX5_length wsX5_isFine := goodIn_r _ [12, 13, 29, 30, 31, 32, 33, 34, 35, 36, 37, 38, 39] (by decide +kernel) (by decide +kernel)
set_option maxRecDepth 20000 in
theorem gX5_length_X5_isFine : GoodIn wsX5_length (wsV RX5 67 RX5 yX5_isFine wsX5_isFine) := goodIn_app (goodIn_of _ (by decide +kernel)) ggX5_length_X5_isFine
set_option maxRecDepth 20000 in
theorem ggX5_length_X5_isShown : GoodIn wsX5_length wsX5_isShown := goodIn_r _ [17, 1, 18, 19, 20, 21, 4, 22, 23, 24, 25, 26, 27, 28, 29, 30, 31, 32, 33, 34, 35, 36, 37, 38, 39] (by decide +kernel) (by decide +kernel)
set_option maxRecDepth 20000 in
theorem gX5_length_X5_isShown : GoodIn wsX5_length (wsV RX5 83 RX5 yX5_isShown wsX5_isShown) := goodIn_app (goodIn_of _ (by decide +kernel)) ggX5_length_X5_isShown
theorem dX5_length_0 : decode cX5_length 0 = .ok (.iconst 0, 1) := by decide +kernel
theorem dX5_length_1 : decode cX5_length 1 = .ok (.istore_n 2, 1) := by decide +kernel
theorem dX5_length_2 : decode cX5_length 2 = .ok (.aload_n 0, 1) := by decide +kernel
theorem dX5_length_3 : decode cX5_length 3 = .ok (.iload_n 1, 1) := by decide +kernel
theorem dX5_length_4 : decode cX5_length 4 = .ok (.invokestatic 64, 3) := by decide +kernel
theorem dX5_length_7 : decode cX5_length 7 = .ok (.ifCond .eq 7, 3) := by decide +kernel
theorem dX5_length_10 : decode cX5_length 10 = .ok (.iconst 0, 1) := by decide +kernel
theorem dX5_length_11 : decode cX5_length 11 = .ok (.goto 4, 3) := by decide +kernel
theorem dX5_length_14 : decode cX5_length 14 = .ok (.iconst 1, 1) := by decide +kernel
theorem dX5_length_15 : decode cX5_length 15 = .ok (.invokevirtual 67, 3) := by decide +kernel
theorem dX5_length_18 : decode cX5_length 18 = .ok (.ifCond .eq 36, 3) := by decide +kernel
theorem dX5_length_21 : decode cX5_length 21 = .ok (.iconst 0, 1) := by decide +kernel
theorem dX5_length_22 : decode cX5_length 22 = .ok (.istore_n 3, 1) := by decide +kernel
theorem dX5_length_23 : decode cX5_length 23 = .ok (.iload_n 3, 1) := by decide +kernel
theorem dX5_length_24 : decode cX5_length 24 = .ok (.aload_n 0, 1) := by decide +kernel
theorem dX5_length_25 : decode cX5_length 25 = .ok (.getfield 46, 3) := by decide +kernel
theorem dX5_length_28 : decode cX5_length 28 = .ok (.if_icmp .ge 26, 3) := by decide +kernel
theorem dX5_length_31 : decode cX5_length 31 = .ok (.iload_n 2, 1) := by decide +kernel
theorem dX5_length_32 : decode cX5_length 32 = .ok (.aload_n 0, 1) := by decide +kernel
theorem dX5_length_33 : decode cX5_length 33 = .ok (.iload_n 1, 1) := by decide +kernel
theorem dX5_length_34 : decode cX5_length 34 = .ok (.iload_n 3, 1) := by decide +kernel
theorem dX5_length_35 : decode cX5_length 35 = .ok (.invokevirtual 83, 3) := by decide +kernel
theorem dX5_length_38 : decode cX5_length 38 = .ok (.ifCond .eq 7, 3) := by decide +kernel
theorem dX5_length_41 : decode cX5_length 41 = .ok (.iconst 1, 1) := by decide +kernel
theorem dX5_length_42 : decode cX5_length 42 = .ok (.goto 4, 3) := by decide +kernel
theorem dX5_length_45 : decode cX5_length 45 = .ok (.iconst 0, 1) := by decide +kernel
theorem dX5_length_46 : decode cX5_length 46 = .ok (.iadd, 1) := by decide +kernel
theorem dX5_length_47 : decode cX5_length 47 = .ok (.istore_n 2, 1) := by decide +kernel
theorem dX5_length_48 : decode cX5_length 48 = .ok (.iinc 3 1, 3) := by decide +kernel
theorem dX5_length_51 : decode cX5_length 51 = .ok (.goto (-28), 3) := by decide +kernel
theorem dX5_length_54 : decode cX5_length 54 = .ok (.iload_n 2, 1) := by decide +kernel
theorem dX5_length_55 : decode cX5_length 55 = .ok (.ireturn, 1) := by decide +kernel
set_option maxRecDepth 20000 in
theorem ggX5_lengthByMerging_X5_length : GoodIn wsX5_lengthByMerging wsX5_length := goodIn_r _ [5, 6, 7, 8, 4, 9, 10, 11, 12, 13, 14, 15, 16, 17, 18, 19, 20, 21, 22, 23, 24, 25, 26, 27, 28, 29, 30, 31, 32, 33, 34, 35, 36, 37, 38, 39, 40, 41, 42, 43] (by decide +kernel) (by decide +kernel)
set_option maxRecDepth 20000 in
theorem gX5_lengthByMerging_X5_length : GoodIn wsX5_lengthByMerging (wsV RX5 89 RX5 yX5_length wsX5_length) := goodIn_app (goodIn_of _ (by decide +kernel)) ggX5_lengthByMerging_X5_length
theorem dX5_lengthByMerging_0 : decode cX5_lengthByMerging 0 = .ok (.aload_n 0, 1) := by decide +kernel
theorem dX5_lengthByMerging_1 : decode cX5_lengthByMerging 1 = .ok (.iload_n 1, 1) := by decide +kernel
theorem dX5_lengthByMerging_2 : decode cX5_lengthByMerging 2 = .ok (.invokevirtual 89, 3) := by decide +kernel
theorem dX5_lengthByMerging_5 : decode cX5_lengthByMerging 5 = .ok (.ireturn, 1) := by decide +kernel
set_option maxRecDepth 20000 in
theorem ggX5_hasGap_X5_isOne : GoodIn wsX5_hasGap wsX5_isOne := goodIn_r _ [9, 10, 11, 8, 12] (by decide +kernel) (by decide +kernel)
set_option maxRecDepth 20000 in
theorem gX5_hasGap_X5_isOne : GoodIn wsX5_hasGap (va_wsS RX5 64 yX5_isOne wsX5_isOne) := goodIn_app (goodIn_of _ (by decide +kernel)) ggX5_hasGap_X5_isOne
set_option maxRecDepth 20000 in
theorem ggX5_hasGap_X5_isFine : GoodIn wsX5_hasGap wsX5_isFine := goodIn_r _ [16, 17, 18, 19, 20, 21, 22, 23, 24, 25, 26, 27, 28] (by decide +kernel) (by decide +kernel)
set_option maxRecDepth 20000 in
theorem gX5_hasGap_X5_isFine : GoodIn wsX5_hasGap (wsV RX5 67 RX5 yX5_isFine wsX5_isFine) := goodIn_app (goodIn_of _ (by decide +kernel)) ggX5_hasGap_X5_isFine
theorem dX5_hasGap_0 : decode cX5_hasGap 0 = .ok (.iconst 0, 1) := by decide +kernel
theorem dX5_hasGap_1 : decode cX5_hasGap 1 = .ok (.istore_n 2, 1) := by decide +kernel
theorem dX5_hasGap_2 : decode cX5_hasGap 2 = .ok (.aload_n 0, 1) := by decide +kernel
theorem dX5_hasGap_3 : decode cX5_hasGap 3 = .ok (.iload_n 1, 1) := by decide +kernel
theorem dX5_hasGap_4 : decode cX5_hasGap 4 = .ok (.invokestatic 64, 3) := by decide +kernel
theorem dX5_hasGap_7 : decode cX5_hasGap 7 = .ok (.ifCond .eq 7, 3) := by decide +kernel
theorem dX5_hasGap_10 : decode cX5_hasGap 10 = .ok (.iconst 0, 1) := by decide +kernel
theorem dX5_hasGap_11 : decode cX5_hasGap 11 = .ok (.goto 4, 3) := by decide +kernel
theorem dX5_hasGap_14 : decode cX5_hasGap 14 = .ok (.iconst 1, 1) := by decide +kernel
theorem dX5_hasGap_15 : decode cX5_hasGap 15 = .ok (.invokevirtual 67, 3) := by decide +kernel
theorem dX5_hasGap_18 : decode cX5_hasGap 18 = .ok (.ifCond .eq 67, 3) := by decide +kernel
theorem dX5_hasGap_21 : decode cX5_hasGap 21 = .ok (.iconst 0, 1) := by decide +kernel
theorem dX5_hasGap_22 : decode cX5_hasGap 22 = .ok (.istore_n 3, 1) := by decide +kernel
theorem dX5_hasGap_23 : decode cX5_hasGap 23 = .ok (.iload_n 3, 1) := by decide +kernel
theorem dX5_hasGap_24 : decode cX5_hasGap 24 = .ok (.aload_n 0, 1) := by decide +kernel
theorem dX5_hasGap_25 : decode cX5_hasGap 25 = .ok (.getfield 46, 3) := by decide +kernel
theorem dX5_hasGap_28 : decode cX5_hasGap 28 = .ok (.if_icmp .ge 57, 3) := by decide +kernel
theorem dX5_hasGap_31 : decode cX5_hasGap 31 = .ok (.iload_n 3, 1) := by decide +kernel
theorem dX5_hasGap_32 : decode cX5_hasGap 32 = .ok (.aload_n 0, 1) := by decide +kernel
theorem dX5_hasGap_33 : decode cX5_hasGap 33 = .ok (.getfield 36, 3) := by decide +kernel
theorem dX5_hasGap_36 : decode cX5_hasGap 36 = .ok (.iload_n 1, 1) := by decide +kernel
theorem dX5_hasGap_37 : decode cX5_hasGap 37 = .ok (.iaload, 1) := by decide +kernel
theorem dX5_hasGap_38 : decode cX5_hasGap 38 = .ok (.if_icmp .gt 47, 3) := by decide +kernel
theorem dX5_hasGap_41 : decode cX5_hasGap 41 = .ok (.iload_n 2, 1) := by decide +kernel
theorem dX5_hasGap_42 : decode cX5_hasGap 42 = .ok (.ifCond .ne 31, 3) := by decide +kernel
theorem dX5_hasGap_45 : decode cX5_hasGap 45 = .ok (.aload_n 0, 1) := by decide +kernel
theorem dX5_hasGap_46 : decode cX5_hasGap 46 = .ok (.getfield 26, 3) := by decide +kernel
theorem dX5_hasGap_49 : decode cX5_hasGap 49 = .ok (.iload_n 3, 1) := by decide +kernel
theorem dX5_hasGap_50 : decode cX5_hasGap 50 = .ok (.baload, 1) := by decide +kernel
theorem dX5_hasGap_51 : decode cX5_hasGap 51 = .ok (.ifCond .ne 26, 3) := by decide +kernel
theorem dX5_hasGap_54 : decode cX5_hasGap 54 = .ok (.aload_n 0, 1) := by decide +kernel
theorem dX5_hasGap_55 : decode cX5_hasGap 55 = .ok (.getfield 7, 3) := by decide +kernel
theorem dX5_hasGap_58 : decode cX5_hasGap 58 = .ok (.bipush 8, 2) := by decide +kernel
theorem dX5_hasGap_60 : decode cX5_hasGap 60 = .ok (.iload_n 1, 1) := by decide +kernel
theorem dX5_hasGap_61 : decode cX5_hasGap 61 = .ok (.imul, 1) := by decide +kernel
theorem dX5_hasGap_62 : decode cX5_hasGap 62 = .ok (.aload_n 0, 1) := by decide +kernel
theorem dX5_hasGap_63 : decode cX5_hasGap 63 = .ok (.getfield 19, 3) := by decide +kernel
theorem dX5_hasGap_66 : decode cX5_hasGap 66 = .ok (.iload_n 3, 1) := by decide +kernel
theorem dX5_hasGap_67 : decode cX5_hasGap 67 = .ok (.iaload, 1) := by decide +kernel
theorem dX5_hasGap_68 : decode cX5_hasGap 68 = .ok (.iadd, 1) := by decide +kernel
theorem dX5_hasGap_69 : decode cX5_hasGap 69 = .ok (.baload, 1) := by decide +kernel
theorem dX5_hasGap_70 : decode cX5_hasGap 70 = .ok (.ifCond .eq 7, 3) := by decide +kernel
theorem dX5_hasGap_73 : decode cX5_hasGap 73 = .ok (.iconst 1, 1) := by decide +kernel
theorem dX5_hasGap_74 : decode cX5_hasGap 74 = .ok (.goto 4, 3) := by decide +kernel
theorem dX5_hasGap_77 : decode cX5_hasGap 77 = .ok (.iconst 0, 1) := by decide +kernel
theorem dX5_hasGap_78 : decode cX5_hasGap 78 = .ok (.istore_n 2, 1) := by decide +kernel
theorem dX5_hasGap_79 : decode cX5_hasGap 79 = .ok (.iinc 3 1, 3) := by decide +kernel
theorem dX5_hasGap_82 : decode cX5_hasGap 82 = .ok (.goto (-59), 3) := by decide +kernel
theorem dX5_hasGap_85 : decode cX5_hasGap 85 = .ok (.iload_n 2, 1) := by decide +kernel
theorem dX5_hasGap_86 : decode cX5_hasGap 86 = .ok (.ireturn, 1) := by decide +kernel
theorem dJ9_min_7cf53_0 : decode cJ9_min_7cf53 0 = .ok (.iload_n 0, 1) := by decide +kernel
theorem dJ9_min_7cf53_1 : decode cJ9_min_7cf53 1 = .ok (.iload_n 1, 1) := by decide +kernel
theorem dJ9_min_7cf53_2 : decode cJ9_min_7cf53 2 = .ok (.if_icmp .gt 7, 3) := by decide +kernel
theorem dJ9_min_7cf53_5 : decode cJ9_min_7cf53 5 = .ok (.iload_n 0, 1) := by decide +kernel
theorem dJ9_min_7cf53_6 : decode cJ9_min_7cf53 6 = .ok (.goto 4, 3) := by decide +kernel
theorem dJ9_min_7cf53_9 : decode cJ9_min_7cf53 9 = .ok (.iload_n 1, 1) := by decide +kernel
theorem dJ9_min_7cf53_10 : decode cJ9_min_7cf53 10 = .ok (.ireturn, 1) := by decide +kernel
end
section
/-! What a state of the system is: the numbers (St), the worlds of the class's parts (wRel, wLed, wRow, wTim, wF) and of the reference (wM). -/
def cN (P : Nat → Bool) : Nat → Nat
  | 0 => 0
  | k + 1 => cN P k + (if P k then 1 else 0)
def exB (P : Nat → Bool) : Nat → Bool
  | 0 => false
  | k + 1 => exB P k || P k
def laB (P : Nat → Bool) : Nat → Nat
  | 0 => 0
  | k + 1 => if P k then k + 1 else laB P k
/-- who follows, mutes, blocks; authors, origins, deleted; entries, mark, room; the floors (as the number behind) -/
abbrev St : Type := (Nat → Bool) × (Nat → Bool) × (Nat → Bool) × (Nat → Nat) × (Nat → Nat) × (Nat → Bool) × Nat × Nat × Nat × (Nat → Nat)
def sF (σ : St) : Nat → Bool := σ.1
def sM (σ : St) : Nat → Bool := σ.2.1
def sB (σ : St) : Nat → Bool := σ.2.2.1
def sa (σ : St) : Nat → Nat := σ.2.2.2.1
def so (σ : St) : Nat → Nat := σ.2.2.2.2.1
def sd (σ : St) : Nat → Bool := σ.2.2.2.2.2.1
def sn (σ : St) : Nat := σ.2.2.2.2.2.2.1
def sk (σ : St) : Nat := σ.2.2.2.2.2.2.2.1
def sr (σ : St) : Nat := σ.2.2.2.2.2.2.2.2.1
def sf (σ : St) : Nat → Nat := σ.2.2.2.2.2.2.2.2.2
def uF (σ : St) (x : Nat → Bool) : St := (x, sM σ, sB σ, sa σ, so σ, sd σ, sn σ, sk σ, sr σ, sf σ)
def uM (σ : St) (x : Nat → Bool) : St := (sF σ, x, sB σ, sa σ, so σ, sd σ, sn σ, sk σ, sr σ, sf σ)
def uB (σ : St) (x : Nat → Bool) : St := (sF σ, sM σ, x, sa σ, so σ, sd σ, sn σ, sk σ, sr σ, sf σ)
def uE (σ : St) (x y : Nat → Nat) (n : Nat) : St := (sF σ, sM σ, sB σ, x, y, sd σ, n, sk σ, sr σ, sf σ)
def uD (σ : St) (x : Nat → Bool) : St := (sF σ, sM σ, sB σ, sa σ, so σ, x, sn σ, sk σ, sr σ, sf σ)
def uK (σ : St) (x : Nat) : St := (sF σ, sM σ, sB σ, sa σ, so σ, sd σ, sn σ, x, sr σ, sf σ)
def uR (σ : St) (x : Nat) : St := (sF σ, sM σ, sB σ, sa σ, so σ, sd σ, sn σ, sk σ, x, sf σ)
def uS (σ : St) (x : Nat → Nat) : St := (sF σ, sM σ, sB σ, sa σ, so σ, sd σ, sn σ, sk σ, sr σ, x)
/-- what holds of every state that comes up -/
def Inv (σ : St) : Prop := sn σ ≤ 150 ∧ sk σ ≤ 8 ∧ 1 ≤ sr σ ∧ sr σ ≤ 40 ∧ (∀ e, sa σ e < 8) ∧ (∀ e, so σ e < 150) ∧ (∀ e, e < sn σ → so σ e ≤ e) ∧ ∀ q, q < 8 → sf σ q ≤ sn σ
def fcnt (F : Nat → Bool) (a : Nat) : Nat := cN (fun k => F (8 * k + a)) 8
def lg (σ : St) (a : Nat) : Bool := decide (sk σ < fcnt (sF σ) a)
/-- an entry that a row takes, the floor aside -/
def el (σ : St) (q e : Nat) : Bool := !sd σ e && (sF σ (8 * q + sa σ e) && !lg σ (sa σ e))
def hid (σ : St) (q e : Nat) : Bool := sd σ e || (sd σ (so σ e) || (sM σ (8 * q + sa σ e) || (sM σ (8 * q + sa σ (so σ e)) || sB σ (8 * sa σ (so σ e) + q))))
def due (σ : St) (q e : Nat) : Bool := decide (sf σ q ≤ e) && (sF σ (8 * q + sa σ e) && !hid σ q e)
def shw (σ : St) (q e : Nat) : Bool := due σ q e && !exB (fun k => decide (e < k) && (decide (so σ k = so σ e) && due σ q k)) (sn σ)
-- the class's scratch: how many each row has, and which; the timeline's numbers, what is taken, how many
abbrev Sc : Type := (Nat → Nat) × (Nat → Nat → Int32) × (Nat → Int32) × (Nat → Bool) × Nat
def rc (τ : Sc) : Nat → Nat := τ.1
def rn (τ : Sc) : Nat → Nat → Int32 := τ.2.1
def tn (τ : Sc) : Nat → Int32 := τ.2.2.1
def tt (τ : Sc) : Nat → Bool := τ.2.2.2.1
def tc (τ : Sc) : Nat := τ.2.2.2.2
def uRow (τ : Sc) (q c : Nat) (f : Nat → Int32) : Sc := (va_up (rc τ) q c, va_up (rn τ) q f, tn τ, tt τ, tc τ)
def uTim (τ : Sc) (f : Nat → Int32) (k : Nat → Bool) (c : Nat) : Sc := (rc τ, rn τ, f, k, c)
-- the worlds
def wRel (g : GT) (r q : Nat) (F : Nat → Bool) : va_W := [(r, .inr (1, [.ref q])), (q, .inl (g.2 1, 64, .inl (zc F)))]
def wLed (g : GT) (a0 a1 a2 a3 : Nat) (au og : Nat → Nat) (dl : Nat → Bool) (n : Nat) : va_W := [(a0, .inr (0, [.ref a1, .ref a2, .ref a3, .int (nI n)])), (a1, .inl (g.2 0, 150, .inl (nc au))), (a2, .inl (g.2 0, 150, .inl (nc og))), (a3, .inl (g.2 1, 150, .inl (zc dl)))]
def wRow (g : GT) (b0 b1 q : Nat) (fn : Nat → Int32) (cnt fl : Nat) : va_W := [(b0, .inr (2, [.int (nI q), .ref b1, .int (nI cnt), .int (fI fl)])), (b1, .inl (g.2 0, 40, .inl fn))]
def wTim (g : GT) (t0 t1 t2 : Nat) (fn : Nat → Int32) (tk : Nat → Bool) (cnt : Nat) : va_W := [(t0, .inr (3, [.ref t1, .ref t2, .int (nI cnt)])), (t1, .inl (g.2 0, 150, .inl fn)), (t2, .inl (g.2 1, 150, .inl (zc tk)))]
def wTop (g : GT) (ad : Nat → Nat) (σ : St) : va_W := [(ad 0, .inr (4, [.ref (ad 1), .ref (ad 3), .ref (ad 5), .ref (ad 7), .ref (ad 11), .ref (ad 12), .int (nI (sk σ)), .int (nI (sr σ))]))]
def wArr (g : GT) (ad : Nat → Nat) : va_W := [(ad 11, .inl (g.2 2, 8, .inr (.inr (.inr (.inr (fun i => some (ad (15 + 2 * i))))))))]
def wR (g : GT) (ad : Nat → Nat) (σ : St) (τ : Sc) (q : Nat) : va_W := wRow g (ad (15 + 2 * q)) (ad (16 + 2 * q)) q (rn τ q) (rc τ q) (sf σ q)
def wF (g : GT) (ad : Nat → Nat) (σ : St) (τ : Sc) : va_W := wTop g ad σ ++ (wRel g (ad 1) (ad 2) (sF σ) ++ (wRel g (ad 3) (ad 4) (sM σ) ++ (wRel g (ad 5) (ad 6) (sB σ) ++ (wLed g (ad 7) (ad 8) (ad 9) (ad 10) (sa σ) (so σ) (sd σ) (sn σ) ++ (wArr g ad ++ (wTim g (ad 12) (ad 13) (ad 14) (tn τ) (tt τ) (tc τ) ++ (wR g ad σ τ 0 ++ (wR g ad σ τ 1 ++ (wR g ad σ τ 2 ++ (wR g ad σ τ 3 ++ (wR g ad σ τ 4 ++ (wR g ad σ τ 5 ++ (wR g ad σ τ 6 ++ wR g ad σ τ 7)))))))))))))
def wM (g : GT) (am : Nat → Nat) (σ : St) (th : Nat) : va_W := [(am 0, .inr (5, [.ref (am 1), .ref (am 2), .ref (am 3), .ref (am 4), .ref (am 5), .ref (am 6), .int (nI (sn σ)), .int (nI (sk σ)), .int (nI (sr σ)), .ref (am 7), .int (nI th)])), (am 1, .inl (g.2 1, 64, .inl (zc (sF σ)))), (am 2, .inl (g.2 1, 64, .inl (zc (sM σ)))), (am 3, .inl (g.2 1, 64, .inl (zc (sB σ)))), (am 4, .inl (g.2 0, 150, .inl (nc (sa σ)))), (am 5, .inl (g.2 0, 150, .inl (nc (so σ)))), (am 6, .inl (g.2 1, 150, .inl (zc (sd σ)))), (am 7, .inl (g.2 0, 8, .inl (fc (sf σ))))]
def fA (ad : Nat → Nat) : List Nat := (List.range 31).map ad
def mA (am : Nat → Nat) : List Nat := (List.range 8).map am
theorem wF_adr {g : GT} {ad : Nat → Nat} {σ : St} {τ : Sc} : adr (wF g ad σ τ) = fA ad := rfl
theorem wM_adr {g : GT} {am : Nat → Nat} {σ : St} {th : Nat} : adr (wM g am σ th) = mA am := rfl
theorem fA_mem {ad : Nat → Nat} {i : Nat} (h : i < 31) : ad i ∈ fA ad := List.mem_map.mpr ⟨i, List.mem_range.mpr h, rfl⟩
theorem mA_mem {am : Nat → Nat} {i : Nat} (h : i < 8) : am i ∈ mA am := List.mem_map.mpr ⟨i, List.mem_range.mpr h, rfl⟩
theorem nd_range {ad : Nat → Nat} {n : Nat} (hN : FN ad n) : Nd ((List.range n).map ad) := by
  intro i j a hi hj
  rw [List.getElem?_map] at hi hj
  obtain ⟨x, hx, hxa⟩ := Option.map_eq_some_iff.mp hi
  obtain ⟨y, hy, hya⟩ := Option.map_eq_some_iff.mp hj
  obtain ⟨h1, h2⟩ := List.getElem?_eq_some_iff.mp hx
  obtain ⟨h3, h4⟩ := List.getElem?_eq_some_iff.mp hy
  rw [List.length_range] at h1 h3
  rw [List.getElem_range] at h2 h4
  subst h2; subst h4
  exact hN i j h1 h3 (hxa.trans hya.symm)
theorem wF_nd {g : GT} {ad : Nat → Nat} {σ : St} {τ : Sc} (hN : FN ad 31) : Nd (adr (wF g ad σ τ)) := nd_range hN
theorem wM_nd {g : GT} {am : Nat → Nat} {σ : St} {th : Nat} (hN : FN am 8) : Nd (adr (wM g am σ th)) := nd_range hN
theorem wF_D {g : GT} {ad : Nat → Nat} {σ : St} {τ : Sc} (hN : FN ad 31) : va_D (fun q => q ∈ fA ad) (wF g ad σ τ) := D_of (wF_nd hN) (fun x h => h)
theorem wM_D {g : GT} {am : Nat → Nat} {σ : St} {th : Nat} (hN : FN am 8) : va_D (fun q => q ∈ mA am) (wM g am σ th) := D_of (wM_nd hN) (fun x h => h)
/-- row q of the world, cut out -/
theorem wF_row {g : GT} {ad : Nat → Nat} {σ : St} {τ : Sc} {H : Heap} {q : Nat} (hq : q < 8) (h : gP g (wF g ad σ τ) H) : gP g (wR g ad σ τ q) H := by
  match q, hq with
  | 0, _ => exact h.sub (ws' := wR g ad σ τ 0) [15, 16] rfl
  | 1, _ => exact h.sub (ws' := wR g ad σ τ 1) [17, 18] rfl
  | 2, _ => exact h.sub (ws' := wR g ad σ τ 2) [19, 20] rfl
  | 3, _ => exact h.sub (ws' := wR g ad σ τ 3) [21, 22] rfl
  | 4, _ => exact h.sub (ws' := wR g ad σ τ 4) [23, 24] rfl
  | 5, _ => exact h.sub (ws' := wR g ad σ τ 5) [25, 26] rfl
  | 6, _ => exact h.sub (ws' := wR g ad σ τ 6) [27, 28] rfl
  | 7, _ => exact h.sub (ws' := wR g ad σ τ 7) [29, 30] rfl
/-- row q of the world, put back -/
theorem wF_rowU {g : GT} {ad : Nat → Nat} {σ : St} {τ : Sc} {H H1 : Heap} {q c f : Nat} {fn : Nat → Int32} (hN : FN ad 31) (hq : q < 8) (h : gP g (wF g ad σ τ) H) (hk : ∀ x : Nat, x < H.size → ¬ x ∈ [ad (15 + 2 * q), ad (16 + 2 * q)] → H1[x]? = H[x]?) (h1 : gP g (wRow g (ad (15 + 2 * q)) (ad (16 + 2 * q)) q fn c f) H1) :
    gP g (wF g ad (uS σ (va_up (sf σ) q f)) (uRow τ q c fn)) H1 := by
  match q, hq with
  | 0, _ => exact P_upd (wc := wR g ad σ τ 0) 15 17 h (wF_nd hN) rfl rfl hk h1
  | 1, _ => exact P_upd (wc := wR g ad σ τ 1) 17 19 h (wF_nd hN) rfl rfl hk h1
  | 2, _ => exact P_upd (wc := wR g ad σ τ 2) 19 21 h (wF_nd hN) rfl rfl hk h1
  | 3, _ => exact P_upd (wc := wR g ad σ τ 3) 21 23 h (wF_nd hN) rfl rfl hk h1
  | 4, _ => exact P_upd (wc := wR g ad σ τ 4) 23 25 h (wF_nd hN) rfl rfl hk h1
  | 5, _ => exact P_upd (wc := wR g ad σ τ 5) 25 27 h (wF_nd hN) rfl rfl hk h1
  | 6, _ => exact P_upd (wc := wR g ad σ τ 6) 27 29 h (wF_nd hN) rfl rfl hk h1
  | 7, _ => exact P_upd (wc := wR g ad σ τ 7) 29 31 h (wF_nd hN) rfl rfl hk h1
theorem wF_FU {g : GT} {ad : Nat → Nat} {σ : St} {τ : Sc} {H H1 : Heap} {x : Nat → Bool} (hN : FN ad 31) (h : gP g (wF g ad σ τ) H) (hk : ∀ z : Nat, z < H.size → ¬ z ∈ [ad 1, ad 2] → H1[z]? = H[z]?) (h1 : gP g (wRel g (ad 1) (ad 2) x) H1) : gP g (wF g ad (uF σ x) τ) H1 := P_upd (wc := wRel g (ad 1) (ad 2) (sF σ)) 1 3 h (wF_nd hN) rfl rfl hk h1
theorem wF_MU {g : GT} {ad : Nat → Nat} {σ : St} {τ : Sc} {H H1 : Heap} {x : Nat → Bool} (hN : FN ad 31) (h : gP g (wF g ad σ τ) H) (hk : ∀ z : Nat, z < H.size → ¬ z ∈ [ad 3, ad 4] → H1[z]? = H[z]?) (h1 : gP g (wRel g (ad 3) (ad 4) x) H1) : gP g (wF g ad (uM σ x) τ) H1 := P_upd (wc := wRel g (ad 3) (ad 4) (sM σ)) 3 5 h (wF_nd hN) rfl rfl hk h1
theorem wF_BU {g : GT} {ad : Nat → Nat} {σ : St} {τ : Sc} {H H1 : Heap} {x : Nat → Bool} (hN : FN ad 31) (h : gP g (wF g ad σ τ) H) (hk : ∀ z : Nat, z < H.size → ¬ z ∈ [ad 5, ad 6] → H1[z]? = H[z]?) (h1 : gP g (wRel g (ad 5) (ad 6) x) H1) : gP g (wF g ad (uB σ x) τ) H1 := P_upd (wc := wRel g (ad 5) (ad 6) (sB σ)) 5 7 h (wF_nd hN) rfl rfl hk h1
theorem wF_EU {g : GT} {ad : Nat → Nat} {σ : St} {τ : Sc} {H H1 : Heap} {x y : Nat → Nat} {z : Nat → Bool} {n : Nat} (hN : FN ad 31) (h : gP g (wF g ad σ τ) H) (hk : ∀ z : Nat, z < H.size → ¬ z ∈ [ad 7, ad 8, ad 9, ad 10] → H1[z]? = H[z]?) (h1 : gP g (wLed g (ad 7) (ad 8) (ad 9) (ad 10) x y z n) H1) : gP g (wF g ad (uE (uD σ z) x y n) τ) H1 := P_upd (wc := wLed g (ad 7) (ad 8) (ad 9) (ad 10) (sa σ) (so σ) (sd σ) (sn σ)) 7 11 h (wF_nd hN) rfl rfl hk h1
theorem wF_TU {g : GT} {ad : Nat → Nat} {σ : St} {τ : Sc} {H H1 : Heap} {x : Nat → Int32} {y : Nat → Bool} {n : Nat} (hN : FN ad 31) (h : gP g (wF g ad σ τ) H) (hk : ∀ z : Nat, z < H.size → ¬ z ∈ [ad 12, ad 13, ad 14] → H1[z]? = H[z]?) (h1 : gP g (wTim g (ad 12) (ad 13) (ad 14) x y n) H1) : gP g (wF g ad σ (uTim τ x y n)) H1 := P_upd (wc := wTim g (ad 12) (ad 13) (ad 14) (tn τ) (tt τ) (tc τ)) 12 15 h (wF_nd hN) rfl rfl hk h1
section STEPS
variable {p : Program} {l : Launch} {e : Env} {R : Room} {s : State} {m : MethodId} {args : Array Value} {below : List Frame} {meth : Method} {c : Code} {H : Heap} {locs : List Loc} {cells slots : Nat} {Q : State → Prop}
variable {g : GT} {Ts : List Cond} {pc a index : Nat} {rest : List Value} {ls : Array Slot} {cc : ByteArray} {own : String}
theorem gf {C : String} {T : u_T} {N q0 ci k : Nat} {ws : va_W} {fs : List Value} {v : Value} (hx : p.tables.exec = Jvm.exec) (hb : c.code = cc) (hts : ∀ w ∈ Ts, w.before args s = true) (hin : ∀ w ∈ u_ws C T N, w ∈ Ts) (hown : s.vm.findClass own = some m.cls) (hE : gE g s) (hP : gP g ws H) (he : ws[q0]? = some (a, .inr (ci, fs))) (hc : vwCl[ci]? = some (C, T, N)) (hk : k < N)
    (hlk : Cond.fieldLink own index (T k).1 (T k).2.1 (T k).2.2.1 ∈ Ts) (hv : fs[k]? = some v) (hdg : decode cc pc = .ok (.getfield index, 3)) (kk : W p l e R s m args below meth c H locs cells slots Q (F0 m (pc + 3) ls (v :: rest))) : W p l e R s m args below meth c H locs cells slots Q (F0 m pc ls (.ref a :: rest)) :=
  va_get hx hb hts hin hown hE.1 hP q0 he hc k hk (hts _ hlk) (fun _ h9 => h9) hv hdg kk
theorem pf {C : String} {T : u_T} {N q0 ci k : Nat} {ws ws' : va_W} {fs : List Value} {x : Int32} {A : Nat → Prop} {H0 : Heap} {ty0 : Nat → FieldType} (hx : p.tables.exec = Jvm.exec) (hb : c.code = cc) (hts : ∀ w ∈ Ts, w.before args s = true) (hin : ∀ w ∈ u_ws C T N, w ∈ Ts) (hown : s.vm.findClass own = some m.cls) (hE : gE g s) (hP : gP g ws H) (hD : va_D A ws) (hS : va_S A H0 H locs) (he : ws[q0]? = some (a, .inr (ci, fs))) (hc : vwCl[ci]? = some (C, T, N)) (hk : k < N)
    (hty : ∀ k, k < N → parseFieldDescriptor (T k).2.2.1 = some (ty0 k)) (hnm : ∀ a, a < N → ∀ b, b < N → a ≠ b → (T a).2.1 ≠ (T b).2.1) (hlk : Cond.fieldLink own index (T k).1 (T k).2.1 (T k).2.2.1 ∈ Ts) (hfin : (T k).2.2.2 = false) (hd : parseFieldDescriptor (T k).2.2.1 = some .int) (hlen : k < fs.length) (hw : ws.set q0 (a, .inr (ci, fs.set k (.int x))) = ws') (hdg : decode cc pc = .ok (.putfield index, 3))
    (kk : ∀ (H1 : Heap) (locs1 : List Loc), gP g ws' H1 → va_D A ws' → va_S A H0 H1 locs1 → W p l e R s m args below meth c H1 locs1 cells slots Q (F0 m (pc + 3) ls rest)) : W p l e R s m args below meth c H locs cells slots Q (F0 m pc ls (.int x :: .ref a :: rest)) := by
  refine va_put hx hb hts hin ty0 hty hnm hown hE.1 hP hD hS q0 he hc k hk (hts _ hlk) (fun _ h9 => h9) hfin hd rfl rfl hlen hdg (fun H1 locs1 hP1 hD1 hS1 => ?_)
  rw [hw] at hP1 hD1
  exact kk H1 locs1 hP1 hD1 hS1
theorem rd_goS {v : Value} {st0 : List Value} {a : Array Value} (hr : CallRun p l e R s m args below meth c H locs cells slots 0 0 (F0 m pc ls st0) rest (rdQ (some v) a) (fun _ => False)) (kk : W p l e R s m args below meth c H locs cells slots Q (F0 m (pc + 3) ls (v :: rest))) : W p l e R s m args below meth c H locs cells slots Q (F0 m pc ls st0) := rd_go hr kk
theorem wr_goS {v : Value} {st0 : List Value} {a : Array Value} {B : Heap → Prop} {as : List Nat} {A0 : Nat → Prop} {H0 : Heap} (hr : CallRun p l e R s m args below meth c H locs cells slots 0 0 (F0 m pc ls st0) rest (wrQ (some v) B as a) (fun q => q ∈ as)) (hS : va_S A0 H0 H locs) (has : ∀ x ∈ as, A0 x)
    (kk : ∀ (H1 : Heap) (locs1 : List Loc), B H1 → H.size ≤ H1.size → (∀ q : Nat, q < H.size → ¬ q ∈ as → H1[q]? = H[q]?) → va_S A0 H0 H1 locs1 → W p l e R s m args below meth c H1 locs1 cells slots Q (F0 m (pc + 3) ls (v :: rest))) : W p l e R s m args below meth c H locs cells slots Q (F0 m pc ls st0) := wr_go hr hS has kk
theorem wr_goN {st0 : List Value} {a : Array Value} {B : Heap → Prop} {as : List Nat} {A0 : Nat → Prop} {H0 : Heap} (hr : CallRun p l e R s m args below meth c H locs cells slots 0 0 (F0 m pc ls st0) rest (wrQ none B as a) (fun q => q ∈ as)) (hS : va_S A0 H0 H locs) (has : ∀ x ∈ as, A0 x)
    (kk : ∀ (H1 : Heap) (locs1 : List Loc), B H1 → H.size ≤ H1.size → (∀ q : Nat, q < H.size → ¬ q ∈ as → H1[q]? = H[q]?) → va_S A0 H0 H1 locs1 → W p l e R s m args below meth c H1 locs1 cells slots Q (F0 m (pc + 3) ls rest)) : W p l e R s m args below meth c H locs cells slots Q (F0 m pc ls st0) := wr_go hr hS has kk
theorem xr_goS {er erO MC MS mc ms : Nat} {v : Value} {st0 : List Value} {a : Array Value} {Qc : Array Value → State → Outcome → State → Prop} {free : Addr → Prop} (hr : vx_Run p l e R s m args below meth c s.heap [] cells slots mc ms (F0 m pc ls st0) rest (xrQ er (some v) a) (xX er) (fun _ => False)) (hout : ∀ x ∈ c.exceptionTable.toList, False) (hlocks : meth.locks = false) (herr : er ≠ 0 → erO = er) (hc : cells + mc ≤ MC) (hs : slots + ms ≤ MS)
    (kk : er = 0 → W p l e R s m args below meth c s.heap [] (cells + mc) (slots + ms) (vx_MQ below Qc (xX erO) args s MC MS free) (F0 m (pc + 3) ls (v :: rest))) : W p l e R s m args below meth c s.heap [] cells slots (vx_MQ below Qc (xX erO) args s MC MS free) (F0 m pc ls st0) := xr_go hr hout hlocks herr hc hs kk
theorem xr_goN {er erO MC MS mc ms : Nat} {st0 : List Value} {a : Array Value} {Qc : Array Value → State → Outcome → State → Prop} {free : Addr → Prop} (hr : vx_Run p l e R s m args below meth c s.heap [] cells slots mc ms (F0 m pc ls st0) rest (xrQ er none a) (xX er) (fun _ => False)) (hout : ∀ x ∈ c.exceptionTable.toList, False) (hlocks : meth.locks = false) (herr : er ≠ 0 → erO = er) (hc : cells + mc ≤ MC) (hs : slots + ms ≤ MS)
    (kk : er = 0 → W p l e R s m args below meth c s.heap [] (cells + mc) (slots + ms) (vx_MQ below Qc (xX erO) args s MC MS free) (F0 m (pc + 3) ls rest)) : W p l e R s m args below meth c s.heap [] cells slots (vx_MQ below Qc (xX erO) args s MC MS free) (F0 m pc ls st0) := xr_go hr hout hlocks herr hc hs kk
end STEPS
theorem inc1 (i : Nat) : nI i + Int32.ofInt 1 = nI (i + 1) := nI_1 i
theorem dec1F (k : Nat) : fI (k + 1) + Int32.ofInt (-1) = fI k := by
  rw [fI_succ]
  show nI k + (-1) = nI k - 1
  rw [Int32.sub_eq_add_neg]
theorem sub1 (n : Nat) : nI n - nI 1 = fI n := rfl
theorem mulN (a b : Nat) : nI a * nI b = nI (b * a) := by rw [pk_mul, Nat.mul_comm]
theorem dec1N (k : Nat) : nI (k + 1) + Int32.ofInt (-1) = nI k := by
  show nI (k + 1) + (-1) = nI k
  exact pk_m1 k
theorem inc4 (i : Nat) : nI i + Int32.ofInt 4 = nI (i + 4) := nI_add i 4
theorem cN_le (P : Nat → Bool) : ∀ n, cN P n ≤ n := by
  intro n
  induction n with
  | zero => exact Nat.le_refl _
  | succ k ih => simp only [cN]; split <;> omega
section BR0
variable {p : Program} {l : Launch} {e : Env} {R : Room} {s : State} {m : MethodId} {args : Array Value} {below : List Frame} {meth : Method} {c : Code} {H : Heap} {locs : List Loc} {cells slots : Nat} {Q : State → Prop}
variable {pc a tgt : Nat} {rest : List Value} {ls : Array Slot} {cc : ByteArray} {off : Int}
theorem tp_i2 {x z y : Int32} (h : x = z) (k : W p l e R s m args below meth c H locs cells slots Q (F0 m pc ls (.int y :: .int z :: rest))) : W p l e R s m args below meth c H locs cells slots Q (F0 m pc ls (.int y :: .int x :: rest)) := by
  rw [h]; exact k
theorem br_eq0 (hx : p.tables.exec = Jvm.exec) (hb : c.code = cc) (ha : a < 2 ^ 31) (hdg : decode cc pc = .ok (.ifCond .eq off, 3)) (ht : (pc : Int) + off = (tgt : Int)) (kt : a = 0 → W p l e R s m args below meth c H locs cells slots Q (F0 m tgt ls rest)) (kf : 0 < a → W p l e R s m args below meth c H locs cells slots Q (F0 m (pc + 3) ls rest)) : W p l e R s m args below meth c H locs cells slots Q (F0 m pc ls (.int (nI a) :: rest)) :=
  lv_if_eq hx hb hdg ht (fun h => kt ((nI_eq ha (by decide)).mp h)) (fun h => kf (Nat.pos_of_ne_zero (fun z => h ((nI_eq ha (by decide)).mpr z))))
theorem br_ne0 (hx : p.tables.exec = Jvm.exec) (hb : c.code = cc) (ha : a < 2 ^ 31) (hdg : decode cc pc = .ok (.ifCond .ne off, 3)) (ht : (pc : Int) + off = (tgt : Int)) (kt : 0 < a → W p l e R s m args below meth c H locs cells slots Q (F0 m tgt ls rest)) (kf : a = 0 → W p l e R s m args below meth c H locs cells slots Q (F0 m (pc + 3) ls rest)) : W p l e R s m args below meth c H locs cells slots Q (F0 m pc ls (.int (nI a) :: rest)) :=
  lv_if_ne hx hb hdg ht (fun h => kt (Nat.pos_of_ne_zero (fun z => h ((nI_eq ha (by decide)).mpr z)))) (fun h => kf ((nI_eq ha (by decide)).mp h))
theorem br_le0 (hx : p.tables.exec = Jvm.exec) (hb : c.code = cc) (ha : a < 2 ^ 31) (hdg : decode cc pc = .ok (.ifCond .le off, 3)) (ht : (pc : Int) + off = (tgt : Int)) (kt : a = 0 → W p l e R s m args below meth c H locs cells slots Q (F0 m tgt ls rest)) (kf : 0 < a → W p l e R s m args below meth c H locs cells slots Q (F0 m (pc + 3) ls rest)) : W p l e R s m args below meth c H locs cells slots Q (F0 m pc ls (.int (nI a) :: rest)) :=
  lv_if_le hx hb hdg ht (fun h => kt (Nat.le_zero.mp ((nI_leI ha (by decide)).mp h))) (fun h => kf (Nat.not_le.mp (fun z => h ((nI_leI ha (by decide)).mpr z))))
theorem br_gt0 (hx : p.tables.exec = Jvm.exec) (hb : c.code = cc) (ha : a < 2 ^ 31) (hdg : decode cc pc = .ok (.ifCond .gt off, 3)) (ht : (pc : Int) + off = (tgt : Int)) (kt : 0 < a → W p l e R s m args below meth c H locs cells slots Q (F0 m tgt ls rest)) (kf : a = 0 → W p l e R s m args below meth c H locs cells slots Q (F0 m (pc + 3) ls rest)) : W p l e R s m args below meth c H locs cells slots Q (F0 m pc ls (.int (nI a) :: rest)) :=
  lv_if_gt hx hb hdg ht (fun h => kt ((nI_ltI (by decide) ha).mp h)) (fun h => kf (Nat.eq_zero_of_not_pos (fun z => h ((nI_ltI (by decide) ha).mpr z))))
theorem br_lt0 (hx : p.tables.exec = Jvm.exec) (hb : c.code = cc) (ha : a < 2 ^ 31) (hdg : decode cc pc = .ok (.ifCond .lt off, 3)) (ht : (pc : Int) + off = (tgt : Int)) (kt : False → W p l e R s m args below meth c H locs cells slots Q (F0 m tgt ls rest)) (kf : True → W p l e R s m args below meth c H locs cells slots Q (F0 m (pc + 3) ls rest)) : W p l e R s m args below meth c H locs cells slots Q (F0 m pc ls (.int (nI a) :: rest)) :=
  lv_if_lt hx hb hdg ht (fun h => kt (nI_pos ha h)) (fun _ => kf trivial)
theorem br_ge0 (hx : p.tables.exec = Jvm.exec) (hb : c.code = cc) (ha : a < 2 ^ 31) (hdg : decode cc pc = .ok (.ifCond .ge off, 3)) (ht : (pc : Int) + off = (tgt : Int)) (kt : True → W p l e R s m args below meth c H locs cells slots Q (F0 m tgt ls rest)) (kf : False → W p l e R s m args below meth c H locs cells slots Q (F0 m (pc + 3) ls rest)) : W p l e R s m args below meth c H locs cells slots Q (F0 m pc ls (.int (nI a) :: rest)) :=
  lv_if_ge hx hb hdg ht (fun _ => kt trivial) (fun h => kf (h (nI_pos' ha)))
theorem fI_nneg {k : Nat} (h : k < 2 ^ 31) : 0 ≤ fI k ↔ 0 < k := by
  rw [Int32.le_iff_toInt_le, fI_toInt h]
  show (0 : Int) ≤ _ ↔ _
  omega
theorem br_lt0F (hx : p.tables.exec = Jvm.exec) (hb : c.code = cc) (ha : a < 2 ^ 31) (hdg : decode cc pc = .ok (.ifCond .lt off, 3)) (ht : (pc : Int) + off = (tgt : Int)) (kt : a = 0 → W p l e R s m args below meth c H locs cells slots Q (F0 m tgt ls rest)) (kf : 0 < a → W p l e R s m args below meth c H locs cells slots Q (F0 m (pc + 3) ls rest)) : W p l e R s m args below meth c H locs cells slots Q (F0 m pc ls (.int (fI a) :: rest)) :=
  lv_if_lt hx hb hdg ht (fun h => kt (Nat.eq_zero_of_not_pos (fun z => Int32.not_le.mpr h ((fI_nneg ha).mpr z)))) (fun h => kf ((fI_nneg ha).mp (Int32.not_lt.mp h)))
end BR0
end
section
/-! what a call asks of a name -/
theorem qX0_init : pM yX0_init 0 := by decide +kernel
theorem pX0_init : yX0_init.cls = RX0 ∧ pM yX0_init 0 := ⟨rfl, qX0_init⟩
theorem qX0_made : pM yX0_made 0 := by decide +kernel
theorem pX0_made : yX0_made.cls = RX0 ∧ pM yX0_made 0 := ⟨rfl, qX0_made⟩
theorem qX0_has : pM yX0_has 1 := by decide +kernel
theorem pX0_has : yX0_has.cls = RX0 ∧ pM yX0_has 1 := ⟨rfl, qX0_has⟩
theorem qX0_stands : pM yX0_stands 1 := by decide +kernel
theorem pX0_stands : yX0_stands.cls = RX0 ∧ pM yX0_stands 1 := ⟨rfl, qX0_stands⟩
theorem qX0_author : pM yX0_author 1 := by decide +kernel
theorem pX0_author : yX0_author.cls = RX0 ∧ pM yX0_author 1 := ⟨rfl, qX0_author⟩
theorem qX0_origin : pM yX0_origin 1 := by decide +kernel
theorem pX0_origin : yX0_origin.cls = RX0 ∧ pM yX0_origin 1 := ⟨rfl, qX0_origin⟩
theorem qX0_add : pM yX0_add 2 := by decide +kernel
theorem pX0_add : yX0_add.cls = RX0 ∧ pM yX0_add 2 := ⟨rfl, qX0_add⟩
theorem qX0_remove : pM yX0_remove 1 := by decide +kernel
theorem pX0_remove : yX0_remove.cls = RX0 ∧ pM yX0_remove 1 := ⟨rfl, qX0_remove⟩
theorem qX0_countStandingOf : pM yX0_countStandingOf 1 := by decide +kernel
theorem pX0_countStandingOf : yX0_countStandingOf.cls = RX0 ∧ pM yX0_countStandingOf 1 := ⟨rfl, qX0_countStandingOf⟩
theorem qX1_init : pM yX1_init 0 := by decide +kernel
theorem pX1_init : yX1_init.cls = RX1 ∧ pM yX1_init 0 := ⟨rfl, qX1_init⟩
theorem qX1_has : pM yX1_has 2 := by decide +kernel
theorem pX1_has : yX1_has.cls = RX1 ∧ pM yX1_has 2 := ⟨rfl, qX1_has⟩
theorem qX1_put : pM yX1_put 3 := by decide +kernel
theorem pX1_put : yX1_put.cls = RX1 ∧ pM yX1_put 3 := ⟨rfl, qX1_put⟩
theorem qX1_countTo : pM yX1_countTo 1 := by decide +kernel
theorem pX1_countTo : yX1_countTo.cls = RX1 ∧ pM yX1_countTo 1 := ⟨rfl, qX1_countTo⟩
theorem qX2_init : pM yX2_init 1 := by decide +kernel
theorem pX2_init : yX2_init.cls = RX2 ∧ pM yX2_init 1 := ⟨rfl, qX2_init⟩
theorem qX2_owner : pM yX2_owner 0 := by decide +kernel
theorem pX2_owner : yX2_owner.cls = RX2 ∧ pM yX2_owner 0 := ⟨rfl, qX2_owner⟩
theorem qX2_floor : pM yX2_floor 0 := by decide +kernel
theorem pX2_floor : yX2_floor.cls = RX2 ∧ pM yX2_floor 0 := ⟨rfl, qX2_floor⟩
theorem qX2_raiseFloor : pM yX2_raiseFloor 1 := by decide +kernel
theorem pX2_raiseFloor : yX2_raiseFloor.cls = RX2 ∧ pM yX2_raiseFloor 1 := ⟨rfl, qX2_raiseFloor⟩
theorem qX2_count : pM yX2_count 0 := by decide +kernel
theorem pX2_count : yX2_count.cls = RX2 ∧ pM yX2_count 0 := ⟨rfl, qX2_count⟩
theorem qX2_fromNewest : pM yX2_fromNewest 1 := by decide +kernel
theorem pX2_fromNewest : yX2_fromNewest.cls = RX2 ∧ pM yX2_fromNewest 1 := ⟨rfl, qX2_fromNewest⟩
theorem qX2_empty : pM yX2_empty 0 := by decide +kernel
theorem pX2_empty : yX2_empty.cls = RX2 ∧ pM yX2_empty 0 := ⟨rfl, qX2_empty⟩
theorem qX2_addBelow : pM yX2_addBelow 1 := by decide +kernel
theorem pX2_addBelow : yX2_addBelow.cls = RX2 ∧ pM yX2_addBelow 1 := ⟨rfl, qX2_addBelow⟩
theorem qX3_init : pM yX3_init 0 := by decide +kernel
theorem pX3_init : yX3_init.cls = RX3 ∧ pM yX3_init 0 := ⟨rfl, qX3_init⟩
theorem qX3_count : pM yX3_count 0 := by decide +kernel
theorem pX3_count : yX3_count.cls = RX3 ∧ pM yX3_count 0 := ⟨rfl, qX3_count⟩
theorem qX3_at : pM yX3_at 1 := by decide +kernel
theorem pX3_at : yX3_at.cls = RX3 ∧ pM yX3_at 1 := ⟨rfl, qX3_at⟩
theorem qX3_placeBelow : pM yX3_placeBelow 1 := by decide +kernel
theorem pX3_placeBelow : yX3_placeBelow.cls = RX3 ∧ pM yX3_placeBelow 1 := ⟨rfl, qX3_placeBelow⟩
theorem qX3_empty : pM yX3_empty 0 := by decide +kernel
theorem pX3_empty : yX3_empty.cls = RX3 ∧ pM yX3_empty 0 := ⟨rfl, qX3_empty⟩
theorem qX3_addBelow : pM yX3_addBelow 2 := by decide +kernel
theorem pX3_addBelow : yX3_addBelow.cls = RX3 ∧ pM yX3_addBelow 2 := ⟨rfl, qX3_addBelow⟩
theorem qX4_init : pM yX4_init 0 := by decide +kernel
theorem pX4_init : yX4_init.cls = RX4 ∧ pM yX4_init 0 := ⟨rfl, qX4_init⟩
theorem qX4_follow : pM yX4_follow 2 := by decide +kernel
theorem pX4_follow : yX4_follow.cls = RX4 ∧ pM yX4_follow 2 := ⟨rfl, qX4_follow⟩
theorem qX4_unfollow : pM yX4_unfollow 2 := by decide +kernel
theorem pX4_unfollow : yX4_unfollow.cls = RX4 ∧ pM yX4_unfollow 2 := ⟨rfl, qX4_unfollow⟩
theorem qX4_mute : pM yX4_mute 3 := by decide +kernel
theorem pX4_mute : yX4_mute.cls = RX4 ∧ pM yX4_mute 3 := ⟨rfl, qX4_mute⟩
theorem qX4_block : pM yX4_block 3 := by decide +kernel
theorem pX4_block : yX4_block.cls = RX4 ∧ pM yX4_block 3 := ⟨rfl, qX4_block⟩
theorem qX4_post : pM yX4_post 1 := by decide +kernel
theorem pX4_post : yX4_post.cls = RX4 ∧ pM yX4_post 1 := ⟨rfl, qX4_post⟩
theorem qX4_repost : pM yX4_repost 2 := by decide +kernel
theorem pX4_repost : yX4_repost.cls = RX4 ∧ pM yX4_repost 2 := ⟨rfl, qX4_repost⟩
theorem qX4_delete : pM yX4_delete 1 := by decide +kernel
theorem pX4_delete : yX4_delete.cls = RX4 ∧ pM yX4_delete 1 := ⟨rfl, qX4_delete⟩
theorem qX4_setMark : pM yX4_setMark 1 := by decide +kernel
theorem pX4_setMark : yX4_setMark.cls = RX4 ∧ pM yX4_setMark 1 := ⟨rfl, qX4_setMark⟩
theorem qX4_setRoom : pM yX4_setRoom 1 := by decide +kernel
theorem pX4_setRoom : yX4_setRoom.cls = RX4 ∧ pM yX4_setRoom 1 := ⟨rfl, qX4_setRoom⟩
theorem qX4_entries : pM yX4_entries 0 := by decide +kernel
theorem pX4_entries : yX4_entries.cls = RX4 ∧ pM yX4_entries 0 := ⟨rfl, qX4_entries⟩
theorem qX4_authorOf : pM yX4_authorOf 1 := by decide +kernel
theorem pX4_authorOf : yX4_authorOf.cls = RX4 ∧ pM yX4_authorOf 1 := ⟨rfl, qX4_authorOf⟩
theorem qX4_originOf : pM yX4_originOf 1 := by decide +kernel
theorem pX4_originOf : yX4_originOf.cls = RX4 ∧ pM yX4_originOf 1 := ⟨rfl, qX4_originOf⟩
theorem qX4_follows : pM yX4_follows 2 := by decide +kernel
theorem pX4_follows : yX4_follows.cls = RX4 ∧ pM yX4_follows 2 := ⟨rfl, qX4_follows⟩
theorem qX4_followers : pM yX4_followers 1 := by decide +kernel
theorem pX4_followers : yX4_followers.cls = RX4 ∧ pM yX4_followers 1 := ⟨rfl, qX4_followers⟩
theorem qX4_isLarge : pM yX4_isLarge 1 := by decide +kernel
theorem pX4_isLarge : yX4_isLarge.cls = RX4 ∧ pM yX4_isLarge 1 := ⟨rfl, qX4_isLarge⟩
theorem qX4_inRow : pM yX4_inRow 1 := by decide +kernel
theorem pX4_inRow : yX4_inRow.cls = RX4 ∧ pM yX4_inRow 1 := ⟨rfl, qX4_inRow⟩
theorem qX4_rowAt : pM yX4_rowAt 2 := by decide +kernel
theorem pX4_rowAt : yX4_rowAt.cls = RX4 ∧ pM yX4_rowAt 2 := ⟨rfl, qX4_rowAt⟩
theorem qX4_floorOf : pM yX4_floorOf 1 := by decide +kernel
theorem pX4_floorOf : yX4_floorOf.cls = RX4 ∧ pM yX4_floorOf 1 := ⟨rfl, qX4_floorOf⟩
theorem qX4_shows : pM yX4_shows 2 := by decide +kernel
theorem pX4_shows : yX4_shows.cls = RX4 ∧ pM yX4_shows 2 := ⟨rfl, qX4_shows⟩
theorem qX4_next : pM yX4_next 2 := by decide +kernel
theorem pX4_next : yX4_next.cls = RX4 ∧ pM yX4_next 2 := ⟨rfl, qX4_next⟩
theorem qX4_pageEnd : pM yX4_pageEnd 3 := by decide +kernel
theorem pX4_pageEnd : yX4_pageEnd.cls = RX4 ∧ pM yX4_pageEnd 3 := ⟨rfl, qX4_pageEnd⟩
theorem qX4_length : pM yX4_length 1 := by decide +kernel
theorem pX4_length : yX4_length.cls = RX4 ∧ pM yX4_length 1 := ⟨rfl, qX4_length⟩
theorem qX4_lengthByMerging : pM yX4_lengthByMerging 1 := by decide +kernel
theorem pX4_lengthByMerging : yX4_lengthByMerging.cls = RX4 ∧ pM yX4_lengthByMerging 1 := ⟨rfl, qX4_lengthByMerging⟩
theorem qX4_hasGap : pM yX4_hasGap 1 := by decide +kernel
theorem pX4_hasGap : yX4_hasGap.cls = RX4 ∧ pM yX4_hasGap 1 := ⟨rfl, qX4_hasGap⟩
theorem qX4_isPerson : pM yX4_isPerson 1 := by decide +kernel
theorem qX4_checkPerson : pM yX4_checkPerson 1 := by decide +kernel
theorem qX4_checkDifferent : pM yX4_checkDifferent 2 := by decide +kernel
theorem qX4_checkRange : pM yX4_checkRange 3 := by decide +kernel
theorem qX4_checkEntry : pM yX4_checkEntry 1 := by decide +kernel
theorem pX4_checkEntry : yX4_checkEntry.cls = RX4 ∧ pM yX4_checkEntry 1 := ⟨rfl, qX4_checkEntry⟩
theorem qX4_checkPlace : pM yX4_checkPlace 0 := by decide +kernel
theorem pX4_checkPlace : yX4_checkPlace.cls = RX4 ∧ pM yX4_checkPlace 0 := ⟨rfl, qX4_checkPlace⟩
theorem qX4_rowOf : pM yX4_rowOf 1 := by decide +kernel
theorem pX4_rowOf : yX4_rowOf.cls = RX4 ∧ pM yX4_rowOf 1 := ⟨rfl, qX4_rowOf⟩
theorem qX4_isOverMark : pM yX4_isOverMark 1 := by decide +kernel
theorem pX4_isOverMark : yX4_isOverMark.cls = RX4 ∧ pM yX4_isOverMark 1 := ⟨rfl, qX4_isOverMark⟩
theorem qX4_countLarge : pM yX4_countLarge 0 := by decide +kernel
theorem pX4_countLarge : yX4_countLarge.cls = RX4 ∧ pM yX4_countLarge 0 := ⟨rfl, qX4_countLarge⟩
theorem qX4_settleRows : pM yX4_settleRows 0 := by decide +kernel
theorem pX4_settleRows : yX4_settleRows.cls = RX4 ∧ pM yX4_settleRows 0 := ⟨rfl, qX4_settleRows⟩
theorem qX4_settleRow : pM yX4_settleRow 1 := by decide +kernel
theorem pX4_settleRow : yX4_settleRow.cls = RX4 ∧ pM yX4_settleRow 1 := ⟨rfl, qX4_settleRow⟩
theorem qX4_isForRow : pM yX4_isForRow 2 := by decide +kernel
theorem pX4_isForRow : yX4_isForRow.cls = RX4 ∧ pM yX4_isForRow 2 := ⟨rfl, qX4_isForRow⟩
theorem qX4_readTimeline : pM yX4_readTimeline 1 := by decide +kernel
theorem pX4_readTimeline : yX4_readTimeline.cls = RX4 ∧ pM yX4_readTimeline 1 := ⟨rfl, qX4_readTimeline⟩
theorem qX4_mergeTimeline : pM yX4_mergeTimeline 2 := by decide +kernel
theorem pX4_mergeTimeline : yX4_mergeTimeline.cls = RX4 ∧ pM yX4_mergeTimeline 2 := ⟨rfl, qX4_mergeTimeline⟩
theorem qX4_isFetched : pM yX4_isFetched 2 := by decide +kernel
theorem pX4_isFetched : yX4_isFetched.cls = RX4 ∧ pM yX4_isFetched 2 := ⟨rfl, qX4_isFetched⟩
theorem qX4_offer : pM yX4_offer 2 := by decide +kernel
theorem pX4_offer : yX4_offer.cls = RX4 ∧ pM yX4_offer 2 := ⟨rfl, qX4_offer⟩
theorem qX4_isHidden : pM yX4_isHidden 2 := by decide +kernel
theorem pX4_isHidden : yX4_isHidden.cls = RX4 ∧ pM yX4_isHidden 2 := ⟨rfl, qX4_isHidden⟩
theorem qX5_init : pM yX5_init 0 := by decide +kernel
theorem pX5_init : yX5_init.cls = RX5 ∧ pM yX5_init 0 := ⟨rfl, qX5_init⟩
theorem qX5_thrown : pM yX5_thrown 0 := by decide +kernel
theorem pX5_thrown : yX5_thrown.cls = RX5 ∧ pM yX5_thrown 0 := ⟨rfl, qX5_thrown⟩
theorem qX5_in : pM yX5_in 3 := by decide +kernel
theorem qX5_isFine : pM yX5_isFine 1 := by decide +kernel
theorem pX5_isFine : yX5_isFine.cls = RX5 ∧ pM yX5_isFine 1 := ⟨rfl, qX5_isFine⟩
theorem qX5_isOne : pM yX5_isOne 1 := by decide +kernel
theorem qX5_isEntry : pM yX5_isEntry 1 := by decide +kernel
theorem pX5_isEntry : yX5_isEntry.cls = RX5 ∧ pM yX5_isEntry 1 := ⟨rfl, qX5_isEntry⟩
theorem qX5_followersOf : pM yX5_followersOf 1 := by decide +kernel
theorem pX5_followersOf : yX5_followersOf.cls = RX5 ∧ pM yX5_followersOf 1 := ⟨rfl, qX5_followersOf⟩
theorem qX5_large : pM yX5_large 1 := by decide +kernel
theorem pX5_large : yX5_large.cls = RX5 ∧ pM yX5_large 1 := ⟨rfl, qX5_large⟩
theorem qX5_isInRow : pM yX5_isInRow 2 := by decide +kernel
theorem pX5_isInRow : yX5_isInRow.cls = RX5 ∧ pM yX5_isInRow 2 := ⟨rfl, qX5_isInRow⟩
theorem qX5_rowLength : pM yX5_rowLength 1 := by decide +kernel
theorem pX5_rowLength : yX5_rowLength.cls = RX5 ∧ pM yX5_rowLength 1 := ⟨rfl, qX5_rowLength⟩
theorem qX5_cuts : pM yX5_cuts 0 := by decide +kernel
theorem pX5_cuts : yX5_cuts.cls = RX5 ∧ pM yX5_cuts 0 := ⟨rfl, qX5_cuts⟩
theorem qX5_follow : pM yX5_follow 2 := by decide +kernel
theorem pX5_follow : yX5_follow.cls = RX5 ∧ pM yX5_follow 2 := ⟨rfl, qX5_follow⟩
theorem qX5_unfollow : pM yX5_unfollow 2 := by decide +kernel
theorem pX5_unfollow : yX5_unfollow.cls = RX5 ∧ pM yX5_unfollow 2 := ⟨rfl, qX5_unfollow⟩
theorem qX5_mute : pM yX5_mute 3 := by decide +kernel
theorem pX5_mute : yX5_mute.cls = RX5 ∧ pM yX5_mute 3 := ⟨rfl, qX5_mute⟩
theorem qX5_block : pM yX5_block 3 := by decide +kernel
theorem pX5_block : yX5_block.cls = RX5 ∧ pM yX5_block 3 := ⟨rfl, qX5_block⟩
theorem qX5_makes : pM yX5_makes 2 := by decide +kernel
theorem pX5_makes : yX5_makes.cls = RX5 ∧ pM yX5_makes 2 := ⟨rfl, qX5_makes⟩
theorem qX5_post : pM yX5_post 1 := by decide +kernel
theorem pX5_post : yX5_post.cls = RX5 ∧ pM yX5_post 1 := ⟨rfl, qX5_post⟩
theorem qX5_repost : pM yX5_repost 2 := by decide +kernel
theorem pX5_repost : yX5_repost.cls = RX5 ∧ pM yX5_repost 2 := ⟨rfl, qX5_repost⟩
theorem qX5_delete : pM yX5_delete 1 := by decide +kernel
theorem pX5_delete : yX5_delete.cls = RX5 ∧ pM yX5_delete 1 := ⟨rfl, qX5_delete⟩
theorem qX5_setMark : pM yX5_setMark 1 := by decide +kernel
theorem pX5_setMark : yX5_setMark.cls = RX5 ∧ pM yX5_setMark 1 := ⟨rfl, qX5_setMark⟩
theorem qX5_setRoom : pM yX5_setRoom 1 := by decide +kernel
theorem pX5_setRoom : yX5_setRoom.cls = RX5 ∧ pM yX5_setRoom 1 := ⟨rfl, qX5_setRoom⟩
theorem qX5_entries : pM yX5_entries 0 := by decide +kernel
theorem pX5_entries : yX5_entries.cls = RX5 ∧ pM yX5_entries 0 := ⟨rfl, qX5_entries⟩
theorem qX5_authorOf : pM yX5_authorOf 1 := by decide +kernel
theorem pX5_authorOf : yX5_authorOf.cls = RX5 ∧ pM yX5_authorOf 1 := ⟨rfl, qX5_authorOf⟩
theorem qX5_originOf : pM yX5_originOf 1 := by decide +kernel
theorem pX5_originOf : yX5_originOf.cls = RX5 ∧ pM yX5_originOf 1 := ⟨rfl, qX5_originOf⟩
theorem qX5_follows : pM yX5_follows 2 := by decide +kernel
theorem pX5_follows : yX5_follows.cls = RX5 ∧ pM yX5_follows 2 := ⟨rfl, qX5_follows⟩
theorem qX5_followers : pM yX5_followers 1 := by decide +kernel
theorem pX5_followers : yX5_followers.cls = RX5 ∧ pM yX5_followers 1 := ⟨rfl, qX5_followers⟩
theorem qX5_isLarge : pM yX5_isLarge 1 := by decide +kernel
theorem pX5_isLarge : yX5_isLarge.cls = RX5 ∧ pM yX5_isLarge 1 := ⟨rfl, qX5_isLarge⟩
theorem qX5_inRow : pM yX5_inRow 1 := by decide +kernel
theorem pX5_inRow : yX5_inRow.cls = RX5 ∧ pM yX5_inRow 1 := ⟨rfl, qX5_inRow⟩
theorem qX5_rowAt : pM yX5_rowAt 2 := by decide +kernel
theorem pX5_rowAt : yX5_rowAt.cls = RX5 ∧ pM yX5_rowAt 2 := ⟨rfl, qX5_rowAt⟩
theorem qX5_floorOf : pM yX5_floorOf 1 := by decide +kernel
theorem pX5_floorOf : yX5_floorOf.cls = RX5 ∧ pM yX5_floorOf 1 := ⟨rfl, qX5_floorOf⟩
theorem qX5_isDue : pM yX5_isDue 2 := by decide +kernel
theorem pX5_isDue : yX5_isDue.cls = RX5 ∧ pM yX5_isDue 2 := ⟨rfl, qX5_isDue⟩
theorem qX5_isShown : pM yX5_isShown 2 := by decide +kernel
theorem pX5_isShown : yX5_isShown.cls = RX5 ∧ pM yX5_isShown 2 := ⟨rfl, qX5_isShown⟩
theorem qX5_shows : pM yX5_shows 2 := by decide +kernel
theorem pX5_shows : yX5_shows.cls = RX5 ∧ pM yX5_shows 2 := ⟨rfl, qX5_shows⟩
theorem qX5_nextBelow : pM yX5_nextBelow 2 := by decide +kernel
theorem pX5_nextBelow : yX5_nextBelow.cls = RX5 ∧ pM yX5_nextBelow 2 := ⟨rfl, qX5_nextBelow⟩
theorem qX5_next : pM yX5_next 2 := by decide +kernel
theorem pX5_next : yX5_next.cls = RX5 ∧ pM yX5_next 2 := ⟨rfl, qX5_next⟩
theorem qX5_pageEnd : pM yX5_pageEnd 3 := by decide +kernel
theorem pX5_pageEnd : yX5_pageEnd.cls = RX5 ∧ pM yX5_pageEnd 3 := ⟨rfl, qX5_pageEnd⟩
theorem qX5_length : pM yX5_length 1 := by decide +kernel
theorem pX5_length : yX5_length.cls = RX5 ∧ pM yX5_length 1 := ⟨rfl, qX5_length⟩
theorem qX5_lengthByMerging : pM yX5_lengthByMerging 1 := by decide +kernel
theorem pX5_lengthByMerging : yX5_lengthByMerging.cls = RX5 ∧ pM yX5_lengthByMerging 1 := ⟨rfl, qX5_lengthByMerging⟩
theorem qX5_hasGap : pM yX5_hasGap 1 := by decide +kernel
theorem pX5_hasGap : yX5_hasGap.cls = RX5 ∧ pM yX5_hasGap 1 := ⟨rfl, qX5_hasGap⟩
theorem qL_follow : pM yL_follow 4 := by decide +kernel
theorem qL_unfollow : pM yL_unfollow 4 := by decide +kernel
theorem qL_mute : pM yL_mute 5 := by decide +kernel
theorem qL_block : pM yL_block 5 := by decide +kernel
theorem qL_post : pM yL_post 3 := by decide +kernel
theorem qL_repost : pM yL_repost 4 := by decide +kernel
theorem qL_delete : pM yL_delete 3 := by decide +kernel
theorem qL_setMark : pM yL_setMark 3 := by decide +kernel
theorem qL_setRoom : pM yL_setRoom 3 := by decide +kernel
theorem qL_authorOf : pM yL_authorOf 3 := by decide +kernel
theorem qL_originOf : pM yL_originOf 3 := by decide +kernel
theorem qL_follows : pM yL_follows 4 := by decide +kernel
theorem qL_followers : pM yL_followers 3 := by decide +kernel
theorem qL_isLarge : pM yL_isLarge 3 := by decide +kernel
theorem qL_inRow : pM yL_inRow 3 := by decide +kernel
theorem qL_rowAt : pM yL_rowAt 4 := by decide +kernel
theorem qL_floorOf : pM yL_floorOf 3 := by decide +kernel
theorem qL_shows : pM yL_shows 4 := by decide +kernel
theorem qL_next : pM yL_next 4 := by decide +kernel
theorem qL_pageEnd : pM yL_pageEnd 5 := by decide +kernel
theorem qL_length : pM yL_length 3 := by decide +kernel
theorem qL_lengthByMerging : pM yL_lengthByMerging 3 := by decide +kernel
theorem qL_hasGap : pM yL_hasGap 3 := by decide +kernel
theorem qL_law : pM yL_law 1 := by decide +kernel
theorem gP_nil {g : GT} {H : Heap} : gP g [] H := fun k q h => by simp at h
theorem isB_neg {x : Int32} {n : Nat} (h : x < 0) : false = isB x n := by
  have h1 : x.toInt < 0 := Int32.lt_iff_toInt_lt.mp h
  simp only [isB]
  rw [decide_eq_false (by omega)]
  rfl
theorem isB_big {x : Int32} {n : Nat} (hn : n < 2 ^ 31) (h : nI n ≤ x) : false = isB x n := by
  have h1 := Int32.le_iff_toInt_le.mp h
  rw [nI_toInt hn] at h1
  simp only [isB]
  rw [decide_eq_false (p := x.toInt < n) (by omega), Bool.and_false]
theorem isB_ok {x : Int32} {n : Nat} (hn : n < 2 ^ 31) (h : ¬ x < 0) (h2 : ¬ nI n ≤ x) : true = isB x n := by
  have h1 : ¬ x.toInt < 0 := fun z => h (Int32.lt_iff_toInt_lt.mpr z)
  have h3 : ¬ (n : Int) ≤ x.toInt := fun z => h2 (Int32.le_iff_toInt_le.mpr (by rw [nI_toInt hn]; exact z))
  simp only [isB]
  rw [decide_eq_true (by omega), decide_eq_true (by omega)]
  rfl
theorem isB_lt {j n : Nat} (hn : n < 2 ^ 31) (h : j < n) : isB (nI j) n = true := by
  rw [isB_nI (by omega)]
  exact decide_eq_true h
theorem cN_t {P : Nat → Bool} {k : Nat} (h : P k = true) : cN P (k + 1) = cN P k + 1 := by simp [cN, h]
theorem cN_f {P : Nat → Bool} {k : Nat} (h : P k = false) : cN P (k + 1) = cN P k := by simp [cN, h]
def clr (tk : Nat → Bool) (i : Nat) : Nat → Bool := fun j => if j < i then false else tk j
theorem clr_0 (tk : Nat → Bool) : clr tk 0 = tk := by funext j; simp [clr]
theorem clr_s (tk : Nat → Bool) (i : Nat) : va_up (clr tk i) i false = clr tk (i + 1) := by
  funext j
  by_cases h : j = i
  · subst h; simp [va_up, clr]
  · by_cases h2 : j < i
    · have h3 : j < i + 1 := by omega
      simp [va_up, clr, h, h2, h3]
    · have h3 : ¬ j < i + 1 := by omega
      simp [va_up, clr, h, h2, h3]
set_option maxHeartbeats 4000000 in
set_option maxRecDepth 100000 in
/-- isPerson(x) -/
theorem c_X4_isPerson (l : Launch) (g : GT) (x : Int32) : rdM l g yX4_isPerson wsX4_isPerson 0 0 [.int (x)] ([]) (some (.int (bI (isP x)))) := by
  refine rd_of (cc := cX4_isPerson) (maxL := 1) (ret := (some .boolean)) (by decide) rfl (Nat.le_of_ble_eq_true rfl) (fun p e s m below meth c ls hx hb hr hml hts hown hlocks hl hP hE => ?_)
  have hl : lv_has ls 1 [(0, .int (x))] := hl
  have hown : s.vm.findClass RX4 = some m.cls := hown
  refine lv_iload_n hx hb dX4_isPerson_0 rfl (lv_at hl 0 rfl) ?_
  refine lv_if_lt (tgt := 14) hx hb dX4_isPerson_1 (by decide) (fun h1 => ?_) (fun h1 => ?_)
  · refine lv_iconst (v := bI (false)) hx hb dX4_isPerson_14 (by decide) ?_
    exact rd_retz hx hb hr hlocks (isB_neg h1) dX4_isPerson_15
  · refine lv_iload_n hx hb dX4_isPerson_4 rfl (lv_at hl 0 rfl) ?_
    refine lv_bipush (v := nI (8)) hx hb dX4_isPerson_5 (by decide) ?_
    refine lv_icmp_ge (tgt := 14) hx hb dX4_isPerson_7 (by decide) (fun h2 => ?_) (fun h2 => ?_)
    · refine lv_iconst (v := bI (false)) hx hb dX4_isPerson_14 (by decide) ?_
      exact rd_retz hx hb hr hlocks (isB_big (n := 8) (by decide) h2) dX4_isPerson_15
    · refine lv_iconst (v := bI (true)) hx hb dX4_isPerson_10 (by decide) ?_
      refine lv_goto (tgt := 15) hx hb dX4_isPerson_11 (by decide) ?_
      exact rd_retz hx hb hr hlocks (isB_ok (n := 8) (by decide) h1 h2) dX4_isPerson_15
theorem mX1_has_9 : Cond.fieldLink RX1 9 "Followrow$Relation" "pairs" "[Z" ∈ wsX1_has := by decide +kernel
theorem iX1_has_1 : ∀ w ∈ wsX10, w ∈ wsX1_has := by decide +kernel
theorem nX1_has_X4_isPerson : Cond.initialized yX4_isPerson.cls ∈ wsX1_has ∧ Cond.static yX4_isPerson ∈ wsX1_has := by decide +kernel
set_option maxHeartbeats 4000000 in
set_option maxRecDepth 100000 in
/-- has(x, y) of a relation -/
theorem c_X1_has (l : Launch) (g : GT) {r q : Nat} {F : Nat → Bool} {x y : Nat} (h1 : x < 8) (h2 : y < 8) : rdM l g yX1_has wsX1_has 1 20 [.ref (r), .int (nI (x)), .int (nI (y))] (wRel g (r) (q) (F)) (some (.int (bI (F (8 * x + y))))) := by
  refine rd_of (cc := cX1_has) (maxL := 3) (ret := (some .boolean)) (by decide) rfl (Nat.le_of_ble_eq_true rfl) (fun p e s m below meth c ls hx hb hr hml hts hown hlocks hl hP hE => ?_)
  have hl : lv_has ls 3 [(0, .ref (r)), (1, .int (nI (x))), (2, .int (nI (y)))] := hl
  have hown : s.vm.findClass RX1 = some m.cls := hown
  refine lv_iload_n hx hb dX1_has_0 rfl (lv_at hl 1 rfl) ?_
  refine rd_goS (rn_SN (host := RX4) ⟨hx, hb, hml, hown, hts⟩ (c_X4_isPerson l g (nI (x))) gX1_has_X4_isPerson_n15 rfl (hE.2.1 _ (by simp [nestW])) (hts _ nX1_has_X4_isPerson.1) (hts _ nX1_has_X4_isPerson.2) qX4_isPerson ⟨Nat.le_of_ble_eq_true rfl, Nat.le_of_ble_eq_true rfl⟩ ⟨Nat.le_of_ble_eq_true rfl, Nat.le_of_ble_eq_true rfl⟩ (gP_nil) hE rfl hl.1 rfl (Nat.le_of_ble_eq_true rfl) dX1_has_1) ?_
  refine tp_i (congrArg bI (isP_nI (j := x) (by omega))) ?_
  refine br_eqB (tgt := 32) hx hb dX1_has_4 (by decide) (fun h3 => ?_) (fun h3 => ?_)
  · exact absurd h3 (by decide)
  · refine lv_iload_n hx hb dX1_has_7 rfl (lv_at hl 2 rfl) ?_
    refine rd_goS (rn_SN (host := RX4) ⟨hx, hb, hml, hown, hts⟩ (c_X4_isPerson l g (nI (y))) gX1_has_X4_isPerson_n15 rfl (hE.2.1 _ (by simp [nestW])) (hts _ nX1_has_X4_isPerson.1) (hts _ nX1_has_X4_isPerson.2) qX4_isPerson ⟨Nat.le_of_ble_eq_true rfl, Nat.le_of_ble_eq_true rfl⟩ ⟨Nat.le_of_ble_eq_true rfl, Nat.le_of_ble_eq_true rfl⟩ (gP_nil) hE rfl hl.1 rfl (Nat.le_of_ble_eq_true rfl) dX1_has_8) ?_
    refine tp_i (congrArg bI (isP_nI (j := y) (by omega))) ?_
    refine br_eqB (tgt := 32) hx hb dX1_has_11 (by decide) (fun h4 => ?_) (fun h4 => ?_)
    · exact absurd h4 (by decide)
    · refine lv_aload_n hx hb dX1_has_14 rfl (lv_at hl 0 rfl) ?_
      refine gf (q0 := 0) (ci := 1) (k := 0) (v := .ref (q)) hx hb hts iX1_has_1 hown hE hP rfl rfl (by decide) mX1_has_9 rfl dX1_has_15 ?_
      refine lv_iload_n hx hb dX1_has_18 rfl (lv_at hl 1 rfl) ?_
      refine lv_bipush (v := nI (8)) hx hb dX1_has_19 (by decide) ?_
      refine lv_imul hx hb dX1_has_21 ?_
      refine tp_i (mulN (x) (8)) ?_
      refine lv_iload_n hx hb dX1_has_22 rfl (lv_at hl 2 rfl) ?_
      refine lv_iadd hx hb dX1_has_23 ?_
      refine tp_i (nI_add _ _) ?_
      refine ra_z (q0 := 1) (i := 8 * x + y) hx hb hE hP rfl (by omega) (by decide) dX1_has_24 ?_
      refine br_eqB (tgt := 32) hx hb dX1_has_25 (by decide) (fun h5 => ?_) (fun h5 => ?_)
      · refine lv_iconst (v := bI (false)) hx hb dX1_has_32 (by decide) ?_
        exact rd_retz hx hb hr hlocks h5.symm dX1_has_33
      · refine lv_iconst (v := bI (true)) hx hb dX1_has_28 (by decide) ?_
        refine lv_goto (tgt := 33) hx hb dX1_has_29 (by decide) ?_
        exact rd_retz hx hb hr hlocks h5.symm dX1_has_33
set_option maxHeartbeats 4000000 in
set_option maxRecDepth 100000 in
/-- countTo(y) -/
theorem c_X1_countTo (l : Launch) (g : GT) {r q : Nat} {F : Nat → Bool} {y : Nat} (h2 : y < 8) : rdM l g yX1_countTo wsX1_countTo 2 42 [.ref (r), .int (nI (y))] (wRel g (r) (q) (F)) (some (.int (nI (fcnt F y)))) := by
  refine rd_of (cc := cX1_countTo) (maxL := 4) (ret := (some .int)) (by decide) rfl (Nat.le_of_ble_eq_true rfl) (fun p e s m below meth c ls hx hb hr hml hts hown hlocks hl hP hE => ?_)
  have hl : lv_has ls 4 [(0, .ref (r)), (1, .int (nI (y)))] := hl
  have hown : s.vm.findClass RX1 = some m.cls := hown
  refine lv_iconst (v := nI (0)) hx hb dX1_countTo_0 (by decide) ?_
  refine lv_istore_n (lv' := [(2, .int (nI (0))), (0, .ref (r)), (1, .int (nI (y)))]) hx hb dX1_countTo_1 rfl hl (by decide) rfl (fun ls hl => ?_)
  refine lv_iconst (v := nI (0)) hx hb dX1_countTo_2 (by decide) ?_
  refine lv_istore_n (lv' := [(3, .int (nI (0))), (2, .int (nI (0))), (0, .ref (r)), (1, .int (nI (y)))]) hx hb dX1_countTo_3 rfl hl (by decide) rfl (fun ls hl => ?_)
  have lp6 : ∀ (n9 i : Nat), 8 - i < n9 → (i ≤ 8) → ∀ ls : Array Slot, lv_has ls 4 [(0, .ref (r)), (1, .int (nI (y))), (2, .int (nI (cN (fun k => F (8 * k + y)) i))), (3, .int (nI (i)))] → W p l e ({ frames := 2, cells := 0, slots := 0, locals := 42 } : Room) s m ([.ref (r), .int (nI (y))] : List Value).toArray below meth c s.heap [] 0 0 (MQ below (rdQ (some (.int (nI (fcnt F y))))) ([.ref (r), .int (nI (y))] : List Value).toArray s 0 0 (fun _ => False)) (F0 m 4 ls []) := by
    intro n9
    induction n9 with
    | zero => intro i h; omega
    | succ n9 ih =>
      intro i h9 hi ls hl
      refine lv_iload_n hx hb dX1_countTo_4 rfl (lv_at hl 3 rfl) ?_
      refine lv_bipush (v := nI (8)) hx hb dX1_countTo_5 (by decide) ?_
      refine br_geN (a := i) (b := 8) (tgt := 28) hx hb (by omega) (by omega) dX1_countTo_7 (by decide) (fun h7 => ?_) (fun h7 => ?_)
      · refine lv_iload_n hx hb dX1_countTo_28 rfl (lv_at hl 2 rfl) ?_
        exact rd_reti hx hb hr hlocks (by rw [show i = 8 by omega]; rfl) dX1_countTo_29
      · refine lv_aload_n hx hb dX1_countTo_10 rfl (lv_at hl 0 rfl) ?_
        refine lv_iload_n hx hb dX1_countTo_11 rfl (lv_at hl 3 rfl) ?_
        refine lv_iload_n hx hb dX1_countTo_12 rfl (lv_at hl 1 rfl) ?_
        refine rd_goS (rn_V ⟨hx, hb, hml, hown, hts⟩ (c_X1_has l g (x := i) (y := y) (by omega) (by omega)) gX1_countTo_X1_has rfl pX1_has ⟨Nat.le_of_ble_eq_true rfl, Nat.le_of_ble_eq_true rfl⟩ ⟨Nat.le_of_ble_eq_true rfl, Nat.le_of_ble_eq_true rfl⟩ (hP) hE rfl rfl rfl hl.1 rfl (Nat.le_of_ble_eq_true rfl) dX1_countTo_13) ?_
        refine br_eqB (tgt := 22) hx hb dX1_countTo_16 (by decide) (fun h8 => ?_) (fun h8 => ?_)
        · refine lv_iinc (v := nI (i + 1)) (lv' := [(3, .int (nI (i + 1))), (0, .ref (r)), (1, .int (nI (y))), (2, .int (nI (cN (fun k => F (8 * k + y)) i)))]) hx hb dX1_countTo_22 hl (k := 3) rfl (inc1 (i)) (by decide) rfl (fun ls hl => ?_)
          refine lv_goto (tgt := 4) hx hb dX1_countTo_25 (by decide) ?_
          rw [← cN_f (P := fun k => F (8 * k + y)) (k := i) h8] at hl
          exact ih (i + 1) (by omega) (by omega) ls (lv_sub hl [1, 2, 3, 0] rfl)
        · refine lv_iinc (v := nI (cN (fun k => F (8 * k + y)) i + 1)) (lv' := [(2, .int (nI (cN (fun k => F (8 * k + y)) i + 1))), (0, .ref (r)), (1, .int (nI (y))), (3, .int (nI (i)))]) hx hb dX1_countTo_19 hl (k := 2) rfl (inc1 (cN (fun k => F (8 * k + y)) i)) (by decide) rfl (fun ls hl => ?_)
          refine lv_iinc (v := nI (i + 1)) (lv' := [(3, .int (nI (i + 1))), (2, .int (nI (cN (fun k => F (8 * k + y)) i + 1))), (0, .ref (r)), (1, .int (nI (y)))]) hx hb dX1_countTo_22 hl (k := 3) rfl (inc1 (i)) (by decide) rfl (fun ls hl => ?_)
          refine lv_goto (tgt := 4) hx hb dX1_countTo_25 (by decide) ?_
          rw [← cN_t (P := fun k => F (8 * k + y)) (k := i) h8] at hl
          exact ih (i + 1) (by omega) (by omega) ls (lv_sub hl [2, 3, 1, 0] rfl)
  exact lp6 (8 + 1) (0) (by omega) (by omega) ls (lv_sub hl [2, 3, 1, 0] rfl)
theorem mX1_put_9 : Cond.fieldLink RX1 9 "Followrow$Relation" "pairs" "[Z" ∈ wsX1_put := by decide +kernel
theorem iX1_put_1 : ∀ w ∈ wsX10, w ∈ wsX1_put := by decide +kernel
theorem nX1_put_X4_isPerson : Cond.initialized yX4_isPerson.cls ∈ wsX1_put ∧ Cond.static yX4_isPerson ∈ wsX1_put := by decide +kernel
set_option maxHeartbeats 4000000 in
set_option maxRecDepth 100000 in
/-- put(x, y, v) -/
theorem c_X1_put (l : Launch) (g : GT) {r q : Nat} {F : Nat → Bool} {x y : Nat} {v : Bool} (hN : Nd [r, q]) (h1 : x < 8) (h2 : y < 8) : wrM l g yX1_put wsX1_put 1 20 [.ref (r), .int (nI (x)), .int (nI (y)), .int (bI (v))] (wRel g (r) (q) (F)) none (fun H1 => gP g (wRel g r q (va_up F (8 * x + y) v)) H1) ([r, q]) := by
  refine wr_of (cc := cX1_put) (maxL := 4) (ret := none) (by decide) rfl (Nat.le_of_ble_eq_true rfl) (fun p e s m below meth c ls hx hb hr hml hts hown hlocks hl hP hE hS => ?_)
  have hl : lv_has ls 4 [(0, .ref (r)), (1, .int (nI (x))), (2, .int (nI (y))), (3, .int (bI (v)))] := hl
  have hown : s.vm.findClass RX1 = some m.cls := hown
  have hD : va_D (fun z => z ∈ [r, q]) (wRel g r q F) := D_of hN (fun _ h => h)
  refine lv_iload_n hx hb dX1_put_0 rfl (lv_at hl 1 rfl) ?_
  refine rd_goS (rn_SN (host := RX4) ⟨hx, hb, hml, hown, hts⟩ (c_X4_isPerson l g (nI (x))) gX1_put_X4_isPerson_n15 rfl (hE.2.1 _ (by simp [nestW])) (hts _ nX1_put_X4_isPerson.1) (hts _ nX1_put_X4_isPerson.2) qX4_isPerson ⟨Nat.le_of_ble_eq_true rfl, Nat.le_of_ble_eq_true rfl⟩ ⟨Nat.le_of_ble_eq_true rfl, Nat.le_of_ble_eq_true rfl⟩ (gP_nil) hE rfl hl.1 rfl (Nat.le_of_ble_eq_true rfl) dX1_put_1) ?_
  refine tp_i (congrArg bI (isP_nI (j := x) (by omega))) ?_
  refine br_eqB (tgt := 26) hx hb dX1_put_4 (by decide) (fun h9 => ?_) (fun h9 => ?_)
  · exact absurd h9 (by decide)
  · refine lv_iload_n hx hb dX1_put_7 rfl (lv_at hl 2 rfl) ?_
    refine rd_goS (rn_SN (host := RX4) ⟨hx, hb, hml, hown, hts⟩ (c_X4_isPerson l g (nI (y))) gX1_put_X4_isPerson_n15 rfl (hE.2.1 _ (by simp [nestW])) (hts _ nX1_put_X4_isPerson.1) (hts _ nX1_put_X4_isPerson.2) qX4_isPerson ⟨Nat.le_of_ble_eq_true rfl, Nat.le_of_ble_eq_true rfl⟩ ⟨Nat.le_of_ble_eq_true rfl, Nat.le_of_ble_eq_true rfl⟩ (gP_nil) hE rfl hl.1 rfl (Nat.le_of_ble_eq_true rfl) dX1_put_8) ?_
    refine tp_i (congrArg bI (isP_nI (j := y) (by omega))) ?_
    refine br_eqB (tgt := 26) hx hb dX1_put_11 (by decide) (fun h10 => ?_) (fun h10 => ?_)
    · exact absurd h10 (by decide)
    · refine lv_aload_n hx hb dX1_put_14 rfl (lv_at hl 0 rfl) ?_
      refine gf (q0 := 0) (ci := 1) (k := 0) (v := .ref (q)) hx hb hts iX1_put_1 hown hE hP rfl rfl (by decide) mX1_put_9 rfl dX1_put_15 ?_
      refine lv_iload_n hx hb dX1_put_18 rfl (lv_at hl 1 rfl) ?_
      refine lv_bipush (v := nI (8)) hx hb dX1_put_19 (by decide) ?_
      refine lv_imul hx hb dX1_put_21 ?_
      refine tp_i (mulN (x) (8)) ?_
      refine lv_iload_n hx hb dX1_put_22 rfl (lv_at hl 2 rfl) ?_
      refine lv_iadd hx hb dX1_put_23 ?_
      refine tp_i (nI_add _ _) ?_
      refine lv_iload_n hx hb dX1_put_24 rfl (lv_at hl 3 rfl) ?_
      refine wa_z (q0 := 1) (i := 8 * x + y) (b := v) (ws' := wRel g (r) (q) (va_up (F) (8 * x + y) (v))) hx hb hE hP hD hS rfl rfl (by omega) (by decide) dX1_put_25 (fun H locs hP hD hS => ?_)
      exact wr_retv hx hb hr hlocks hS hP dX1_put_26
theorem mX0_made_22 : Cond.fieldLink RX0 22 "Followrow$Ledger" "made" "I" ∈ wsX0_made := by decide +kernel
theorem iX0_made_0 : ∀ w ∈ wsX00, w ∈ wsX0_made := by decide +kernel
set_option maxHeartbeats 4000000 in
set_option maxRecDepth 100000 in
/-- made() -/
theorem c_X0_made (l : Launch) (g : GT) {a0 a1 a2 a3 n : Nat} {au og : Nat → Nat} {dl : Nat → Bool} : rdM l g yX0_made wsX0_made 0 0 [.ref (a0)] (wLed g (a0) (a1) (a2) (a3) (au) (og) (dl) (n)) (some (.int (nI (n)))) := by
  refine rd_of (cc := cX0_made) (maxL := 1) (ret := (some .int)) (by decide) rfl (Nat.le_of_ble_eq_true rfl) (fun p e s m below meth c ls hx hb hr hml hts hown hlocks hl hP hE => ?_)
  have hl : lv_has ls 1 [(0, .ref (a0))] := hl
  have hown : s.vm.findClass RX0 = some m.cls := hown
  refine lv_aload_n hx hb dX0_made_0 rfl (lv_at hl 0 rfl) ?_
  refine gf (q0 := 0) (ci := 0) (k := 3) (v := .int (nI (n))) hx hb hts iX0_made_0 hown hE hP rfl rfl (by decide) mX0_made_22 rfl dX0_made_1 ?_
  exact rd_reti hx hb hr hlocks rfl dX0_made_4
theorem mX0_has_22 : Cond.fieldLink RX0 22 "Followrow$Ledger" "made" "I" ∈ wsX0_has := by decide +kernel
theorem iX0_has_0 : ∀ w ∈ wsX00, w ∈ wsX0_has := by decide +kernel
set_option maxHeartbeats 4000000 in
set_option maxRecDepth 100000 in
/-- has(x) of the ledger -/
theorem c_X0_has (l : Launch) (g : GT) {a0 a1 a2 a3 n : Nat} {au og : Nat → Nat} {dl : Nat → Bool} {x : Int32} (hn : n ≤ 150) : rdM l g yX0_has wsX0_has 0 0 [.ref (a0), .int (x)] (wLed g (a0) (a1) (a2) (a3) (au) (og) (dl) (n)) (some (.int (bI (isB x n)))) := by
  refine rd_of (cc := cX0_has) (maxL := 2) (ret := (some .boolean)) (by decide) rfl (Nat.le_of_ble_eq_true rfl) (fun p e s m below meth c ls hx hb hr hml hts hown hlocks hl hP hE => ?_)
  have hl : lv_has ls 2 [(0, .ref (a0)), (1, .int (x))] := hl
  have hown : s.vm.findClass RX0 = some m.cls := hown
  refine lv_iload_n hx hb dX0_has_0 rfl (lv_at hl 1 rfl) ?_
  refine lv_if_lt (tgt := 16) hx hb dX0_has_1 (by decide) (fun h11 => ?_) (fun h11 => ?_)
  · refine lv_iconst (v := bI (false)) hx hb dX0_has_16 (by decide) ?_
    exact rd_retz hx hb hr hlocks (isB_neg h11) dX0_has_17
  · refine lv_iload_n hx hb dX0_has_4 rfl (lv_at hl 1 rfl) ?_
    refine lv_aload_n hx hb dX0_has_5 rfl (lv_at hl 0 rfl) ?_
    refine gf (q0 := 0) (ci := 0) (k := 3) (v := .int (nI (n))) hx hb hts iX0_has_0 hown hE hP rfl rfl (by decide) mX0_has_22 rfl dX0_has_6 ?_
    refine lv_icmp_ge (tgt := 16) hx hb dX0_has_9 (by decide) (fun h12 => ?_) (fun h12 => ?_)
    · refine lv_iconst (v := bI (false)) hx hb dX0_has_16 (by decide) ?_
      exact rd_retz hx hb hr hlocks (isB_big (by omega) h12) dX0_has_17
    · refine lv_iconst (v := bI (true)) hx hb dX0_has_12 (by decide) ?_
      refine lv_goto (tgt := 17) hx hb dX0_has_13 (by decide) ?_
      exact rd_retz hx hb hr hlocks (isB_ok (by omega) h11 h12) dX0_has_17
theorem mX0_stands_18 : Cond.fieldLink RX0 18 "Followrow$Ledger" "deleted" "[Z" ∈ wsX0_stands := by decide +kernel
theorem iX0_stands_0 : ∀ w ∈ wsX00, w ∈ wsX0_stands := by decide +kernel
set_option maxHeartbeats 4000000 in
set_option maxRecDepth 100000 in
/-- stands(x) -/
theorem c_X0_stands (l : Launch) (g : GT) {a0 a1 a2 a3 n : Nat} {au og : Nat → Nat} {dl : Nat → Bool} {x : Nat} (hn : n ≤ 150) (h1 : x < n) : rdM l g yX0_stands wsX0_stands 1 21 [.ref (a0), .int (nI (x))] (wLed g (a0) (a1) (a2) (a3) (au) (og) (dl) (n)) (some (.int (bI (!dl x)))) := by
  refine rd_of (cc := cX0_stands) (maxL := 2) (ret := (some .boolean)) (by decide) rfl (Nat.le_of_ble_eq_true rfl) (fun p e s m below meth c ls hx hb hr hml hts hown hlocks hl hP hE => ?_)
  have hl : lv_has ls 2 [(0, .ref (a0)), (1, .int (nI (x)))] := hl
  have hown : s.vm.findClass RX0 = some m.cls := hown
  refine lv_aload_n hx hb dX0_stands_0 rfl (lv_at hl 0 rfl) ?_
  refine lv_iload_n hx hb dX0_stands_1 rfl (lv_at hl 1 rfl) ?_
  refine rd_goS (rn_V ⟨hx, hb, hml, hown, hts⟩ (c_X0_has l g (x := nI (x)) (by omega)) gX0_stands_X0_has rfl pX0_has ⟨Nat.le_of_ble_eq_true rfl, Nat.le_of_ble_eq_true rfl⟩ ⟨Nat.le_of_ble_eq_true rfl, Nat.le_of_ble_eq_true rfl⟩ (hP) hE rfl rfl rfl hl.1 rfl (Nat.le_of_ble_eq_true rfl) dX0_stands_2) ?_
  refine tp_i (congrArg bI (isB_lt (j := x) (by omega) (by omega))) ?_
  refine br_eqB (tgt := 21) hx hb dX0_stands_5 (by decide) (fun h13 => ?_) (fun h13 => ?_)
  · exact absurd h13 (by decide)
  · refine lv_aload_n hx hb dX0_stands_8 rfl (lv_at hl 0 rfl) ?_
    refine gf (q0 := 0) (ci := 0) (k := 2) (v := .ref (a3)) hx hb hts iX0_stands_0 hown hE hP rfl rfl (by decide) mX0_stands_18 rfl dX0_stands_9 ?_
    refine lv_iload_n hx hb dX0_stands_12 rfl (lv_at hl 1 rfl) ?_
    refine ra_z (q0 := 3) (i := x) hx hb hE hP rfl (by omega) (by decide) dX0_stands_13 ?_
    refine br_neB (tgt := 21) hx hb dX0_stands_14 (by decide) (fun h14 => ?_) (fun h14 => ?_)
    · refine lv_iconst (v := bI (false)) hx hb dX0_stands_21 (by decide) ?_
      exact rd_retz hx hb hr hlocks (by rw [h14]; rfl) dX0_stands_22
    · refine lv_iconst (v := bI (true)) hx hb dX0_stands_17 (by decide) ?_
      refine lv_goto (tgt := 22) hx hb dX0_stands_18 (by decide) ?_
      exact rd_retz hx hb hr hlocks (by rw [h14]; rfl) dX0_stands_22
theorem mX0_author_9 : Cond.fieldLink RX0 9 "Followrow$Ledger" "authors" "[I" ∈ wsX0_author := by decide +kernel
theorem iX0_author_0 : ∀ w ∈ wsX00, w ∈ wsX0_author := by decide +kernel
set_option maxHeartbeats 4000000 in
set_option maxRecDepth 100000 in
/-- author(x) -/
theorem c_X0_author (l : Launch) (g : GT) {a0 a1 a2 a3 n : Nat} {au og : Nat → Nat} {dl : Nat → Bool} {x : Nat} (hn : n ≤ 150) (h1 : x < n) : rdM l g yX0_author wsX0_author 1 21 [.ref (a0), .int (nI (x))] (wLed g (a0) (a1) (a2) (a3) (au) (og) (dl) (n)) (some (.int (nI (au x)))) := by
  refine rd_of (cc := cX0_author) (maxL := 2) (ret := (some .int)) (by decide) rfl (Nat.le_of_ble_eq_true rfl) (fun p e s m below meth c ls hx hb hr hml hts hown hlocks hl hP hE => ?_)
  have hl : lv_has ls 2 [(0, .ref (a0)), (1, .int (nI (x)))] := hl
  have hown : s.vm.findClass RX0 = some m.cls := hown
  refine lv_aload_n hx hb dX0_author_0 rfl (lv_at hl 0 rfl) ?_
  refine lv_iload_n hx hb dX0_author_1 rfl (lv_at hl 1 rfl) ?_
  refine rd_goS (rn_V ⟨hx, hb, hml, hown, hts⟩ (c_X0_has l g (x := nI (x)) (by omega)) gX0_author_X0_has rfl pX0_has ⟨Nat.le_of_ble_eq_true rfl, Nat.le_of_ble_eq_true rfl⟩ ⟨Nat.le_of_ble_eq_true rfl, Nat.le_of_ble_eq_true rfl⟩ (hP) hE rfl rfl rfl hl.1 rfl (Nat.le_of_ble_eq_true rfl) dX0_author_2) ?_
  refine tp_i (congrArg bI (isB_lt (j := x) (by omega) (by omega))) ?_
  refine br_eqB (tgt := 17) hx hb dX0_author_5 (by decide) (fun h15 => ?_) (fun h15 => ?_)
  · exact absurd h15 (by decide)
  · refine lv_aload_n hx hb dX0_author_8 rfl (lv_at hl 0 rfl) ?_
    refine gf (q0 := 0) (ci := 0) (k := 0) (v := .ref (a1)) hx hb hts iX0_author_0 hown hE hP rfl rfl (by decide) mX0_author_9 rfl dX0_author_9 ?_
    refine lv_iload_n hx hb dX0_author_12 rfl (lv_at hl 1 rfl) ?_
    refine ra_i (q0 := 1) (i := x) hx hb hE hP rfl (by omega) (by decide) dX0_author_13 ?_
    refine lv_goto (tgt := 18) hx hb dX0_author_14 (by decide) ?_
    exact rd_reti hx hb hr hlocks rfl dX0_author_18
theorem mX0_origin_15 : Cond.fieldLink RX0 15 "Followrow$Ledger" "origins" "[I" ∈ wsX0_origin := by decide +kernel
theorem iX0_origin_0 : ∀ w ∈ wsX00, w ∈ wsX0_origin := by decide +kernel
set_option maxHeartbeats 4000000 in
set_option maxRecDepth 100000 in
/-- origin(x) -/
theorem c_X0_origin (l : Launch) (g : GT) {a0 a1 a2 a3 n : Nat} {au og : Nat → Nat} {dl : Nat → Bool} {x : Nat} (hn : n ≤ 150) (h1 : x < n) : rdM l g yX0_origin wsX0_origin 1 21 [.ref (a0), .int (nI (x))] (wLed g (a0) (a1) (a2) (a3) (au) (og) (dl) (n)) (some (.int (nI (og x)))) := by
  refine rd_of (cc := cX0_origin) (maxL := 2) (ret := (some .int)) (by decide) rfl (Nat.le_of_ble_eq_true rfl) (fun p e s m below meth c ls hx hb hr hml hts hown hlocks hl hP hE => ?_)
  have hl : lv_has ls 2 [(0, .ref (a0)), (1, .int (nI (x)))] := hl
  have hown : s.vm.findClass RX0 = some m.cls := hown
  refine lv_aload_n hx hb dX0_origin_0 rfl (lv_at hl 0 rfl) ?_
  refine lv_iload_n hx hb dX0_origin_1 rfl (lv_at hl 1 rfl) ?_
  refine rd_goS (rn_V ⟨hx, hb, hml, hown, hts⟩ (c_X0_has l g (x := nI (x)) (by omega)) gX0_origin_X0_has rfl pX0_has ⟨Nat.le_of_ble_eq_true rfl, Nat.le_of_ble_eq_true rfl⟩ ⟨Nat.le_of_ble_eq_true rfl, Nat.le_of_ble_eq_true rfl⟩ (hP) hE rfl rfl rfl hl.1 rfl (Nat.le_of_ble_eq_true rfl) dX0_origin_2) ?_
  refine tp_i (congrArg bI (isB_lt (j := x) (by omega) (by omega))) ?_
  refine br_eqB (tgt := 17) hx hb dX0_origin_5 (by decide) (fun h16 => ?_) (fun h16 => ?_)
  · exact absurd h16 (by decide)
  · refine lv_aload_n hx hb dX0_origin_8 rfl (lv_at hl 0 rfl) ?_
    refine gf (q0 := 0) (ci := 0) (k := 1) (v := .ref (a2)) hx hb hts iX0_origin_0 hown hE hP rfl rfl (by decide) mX0_origin_15 rfl dX0_origin_9 ?_
    refine lv_iload_n hx hb dX0_origin_12 rfl (lv_at hl 1 rfl) ?_
    refine ra_i (q0 := 2) (i := x) hx hb hE hP rfl (by omega) (by decide) dX0_origin_13 ?_
    refine lv_goto (tgt := 18) hx hb dX0_origin_14 (by decide) ?_
    exact rd_reti hx hb hr hlocks rfl dX0_origin_18
theorem mX0_add_9 : Cond.fieldLink RX0 9 "Followrow$Ledger" "authors" "[I" ∈ wsX0_add := by decide +kernel
theorem mX0_add_15 : Cond.fieldLink RX0 15 "Followrow$Ledger" "origins" "[I" ∈ wsX0_add := by decide +kernel
theorem mX0_add_22 : Cond.fieldLink RX0 22 "Followrow$Ledger" "made" "I" ∈ wsX0_add := by decide +kernel
theorem iX0_add_0 : ∀ w ∈ wsX00, w ∈ wsX0_add := by decide +kernel
set_option maxHeartbeats 4000000 in
set_option maxRecDepth 100000 in
/-- add(x, y) -/
theorem c_X0_add (l : Launch) (g : GT) {a0 a1 a2 a3 n : Nat} {au og : Nat → Nat} {dl : Nat → Bool} {x y : Nat} (hN : Nd [a0, a1, a2, a3]) (hn : n < 150) : wrM l g yX0_add wsX0_add 0 0 [.ref (a0), .int (nI (x)), .int (nI (y))] (wLed g (a0) (a1) (a2) (a3) (au) (og) (dl) (n)) none (fun H1 => gP g (wLed g a0 a1 a2 a3 (va_up au n x) (va_up og n y) dl (n + 1)) H1) ([a0, a1, a2, a3]) := by
  refine wr_of (cc := cX0_add) (maxL := 3) (ret := none) (by decide) rfl (Nat.le_of_ble_eq_true rfl) (fun p e s m below meth c ls hx hb hr hml hts hown hlocks hl hP hE hS => ?_)
  have hl : lv_has ls 3 [(0, .ref (a0)), (1, .int (nI (x))), (2, .int (nI (y)))] := hl
  have hown : s.vm.findClass RX0 = some m.cls := hown
  have hD : va_D (fun z => z ∈ [a0, a1, a2, a3]) (wLed g a0 a1 a2 a3 au og dl n) := D_of hN (fun _ h => h)
  refine lv_aload_n hx hb dX0_add_0 rfl (lv_at hl 0 rfl) ?_
  refine gf (q0 := 0) (ci := 0) (k := 3) (v := .int (nI (n))) hx hb hts iX0_add_0 hown hE hP rfl rfl (by decide) mX0_add_22 rfl dX0_add_1 ?_
  refine lv_sipush (v := nI (150)) hx hb dX0_add_4 (by decide) ?_
  refine br_geN (a := n) (b := 150) (tgt := 40) hx hb (by omega) (by omega) dX0_add_7 (by decide) (fun h17 => ?_) (fun h17 => ?_)
  · exact absurd h17 (by omega)
  · refine lv_aload_n hx hb dX0_add_10 rfl (lv_at hl 0 rfl) ?_
    refine gf (q0 := 0) (ci := 0) (k := 0) (v := .ref (a1)) hx hb hts iX0_add_0 hown hE hP rfl rfl (by decide) mX0_add_9 rfl dX0_add_11 ?_
    refine lv_aload_n hx hb dX0_add_14 rfl (lv_at hl 0 rfl) ?_
    refine gf (q0 := 0) (ci := 0) (k := 3) (v := .int (nI (n))) hx hb hts iX0_add_0 hown hE hP rfl rfl (by decide) mX0_add_22 rfl dX0_add_15 ?_
    refine lv_iload_n hx hb dX0_add_18 rfl (lv_at hl 1 rfl) ?_
    refine wa_i (q0 := 1) (i := n) (ws' := wLed g (a0) (a1) (a2) (a3) (va_up (au) (n) (x)) (og) (dl) (n)) hx hb hE hP hD hS rfl (nc_up _ _ _) rfl (by omega) (by decide) dX0_add_19 (fun H locs hP hD hS => ?_)
    refine lv_aload_n hx hb dX0_add_20 rfl (lv_at hl 0 rfl) ?_
    refine gf (q0 := 0) (ci := 0) (k := 1) (v := .ref (a2)) hx hb hts iX0_add_0 hown hE hP rfl rfl (by decide) mX0_add_15 rfl dX0_add_21 ?_
    refine lv_aload_n hx hb dX0_add_24 rfl (lv_at hl 0 rfl) ?_
    refine gf (q0 := 0) (ci := 0) (k := 3) (v := .int (nI (n))) hx hb hts iX0_add_0 hown hE hP rfl rfl (by decide) mX0_add_22 rfl dX0_add_25 ?_
    refine lv_iload_n hx hb dX0_add_28 rfl (lv_at hl 2 rfl) ?_
    refine wa_i (q0 := 2) (i := n) (ws' := wLed g (a0) (a1) (a2) (a3) (va_up (au) (n) (x)) (va_up (og) (n) (y)) (dl) (n)) hx hb hE hP hD hS rfl (nc_up _ _ _) rfl (by omega) (by decide) dX0_add_29 (fun H locs hP hD hS => ?_)
    refine lv_aload_n hx hb dX0_add_30 rfl (lv_at hl 0 rfl) ?_
    refine lv_dup hx hb dX0_add_31 rfl ?_
    refine gf (q0 := 0) (ci := 0) (k := 3) (v := .int (nI (n))) hx hb hts iX0_add_0 hown hE hP rfl rfl (by decide) mX0_add_22 rfl dX0_add_32 ?_
    refine lv_iconst (v := nI (1)) hx hb dX0_add_35 (by decide) ?_
    refine lv_iadd hx hb dX0_add_36 ?_
    refine tp_i (nI_add _ _) ?_
    refine pf (q0 := 0) (ci := 0) (k := 3) (ws' := wLed g (a0) (a1) (a2) (a3) (va_up (au) (n) (x)) (va_up (og) (n) (y)) (dl) (n + 1)) hx hb hts iX0_add_0 hown hE hP hD hS rfl rfl (by decide) tyX0_ok nmX0 mX0_add_22 rfl (by decide +kernel) (Nat.le_of_ble_eq_true rfl) rfl dX0_add_37 (fun H locs hP hD hS => ?_)
    exact wr_retv hx hb hr hlocks hS hP dX0_add_40
theorem mX0_remove_18 : Cond.fieldLink RX0 18 "Followrow$Ledger" "deleted" "[Z" ∈ wsX0_remove := by decide +kernel
theorem iX0_remove_0 : ∀ w ∈ wsX00, w ∈ wsX0_remove := by decide +kernel
set_option maxHeartbeats 4000000 in
set_option maxRecDepth 100000 in
/-- remove(x) -/
theorem c_X0_remove (l : Launch) (g : GT) {a0 a1 a2 a3 n : Nat} {au og : Nat → Nat} {dl : Nat → Bool} {x : Nat} (hN : Nd [a0, a1, a2, a3]) (hn : n ≤ 150) (h1 : x < n) : wrM l g yX0_remove wsX0_remove 1 21 [.ref (a0), .int (nI (x))] (wLed g (a0) (a1) (a2) (a3) (au) (og) (dl) (n)) none (fun H1 => gP g (wLed g a0 a1 a2 a3 au og (va_up dl x true) n) H1) ([a0, a1, a2, a3]) := by
  refine wr_of (cc := cX0_remove) (maxL := 2) (ret := none) (by decide) rfl (Nat.le_of_ble_eq_true rfl) (fun p e s m below meth c ls hx hb hr hml hts hown hlocks hl hP hE hS => ?_)
  have hl : lv_has ls 2 [(0, .ref (a0)), (1, .int (nI (x)))] := hl
  have hown : s.vm.findClass RX0 = some m.cls := hown
  have hD : va_D (fun z => z ∈ [a0, a1, a2, a3]) (wLed g a0 a1 a2 a3 au og dl n) := D_of hN (fun _ h => h)
  refine lv_aload_n hx hb dX0_remove_0 rfl (lv_at hl 0 rfl) ?_
  refine lv_iload_n hx hb dX0_remove_1 rfl (lv_at hl 1 rfl) ?_
  refine rd_goS (rn_V ⟨hx, hb, hml, hown, hts⟩ (c_X0_has l g (x := nI (x)) (by omega)) gX0_remove_X0_has rfl pX0_has ⟨Nat.le_of_ble_eq_true rfl, Nat.le_of_ble_eq_true rfl⟩ ⟨Nat.le_of_ble_eq_true rfl, Nat.le_of_ble_eq_true rfl⟩ (hP) hE rfl rfl rfl hl.1 rfl (Nat.le_of_ble_eq_true rfl) dX0_remove_2) ?_
  refine tp_i (congrArg bI (isB_lt (j := x) (by omega) (by omega))) ?_
  refine br_eqB (tgt := 15) hx hb dX0_remove_5 (by decide) (fun h18 => ?_) (fun h18 => ?_)
  · exact absurd h18 (by decide)
  · refine lv_aload_n hx hb dX0_remove_8 rfl (lv_at hl 0 rfl) ?_
    refine gf (q0 := 0) (ci := 0) (k := 2) (v := .ref (a3)) hx hb hts iX0_remove_0 hown hE hP rfl rfl (by decide) mX0_remove_18 rfl dX0_remove_9 ?_
    refine lv_iload_n hx hb dX0_remove_12 rfl (lv_at hl 1 rfl) ?_
    refine lv_iconst (v := bI (true)) hx hb dX0_remove_13 (by decide) ?_
    refine wa_z (q0 := 3) (i := x) (b := true) (ws' := wLed g (a0) (a1) (a2) (a3) (au) (og) (va_up (dl) (x) (true)) (n)) hx hb hE hP hD hS rfl rfl (by omega) (by decide) dX0_remove_14 (fun H locs hP hD hS => ?_)
    exact wr_retv hx hb hr hlocks hS hP dX0_remove_15
theorem mX0_countStandingOf_22 : Cond.fieldLink RX0 22 "Followrow$Ledger" "made" "I" ∈ wsX0_countStandingOf := by decide +kernel
theorem iX0_countStandingOf_0 : ∀ w ∈ wsX00, w ∈ wsX0_countStandingOf := by decide +kernel
set_option maxHeartbeats 4000000 in
set_option maxRecDepth 100000 in
/-- countStandingOf(y) -/
theorem c_X0_countStandingOf (l : Launch) (g : GT) {a0 a1 a2 a3 n : Nat} {au og : Nat → Nat} {dl : Nat → Bool} {y : Nat} (hn : n ≤ 150) (hog : ∀ e, og e < 150) (h2 : y < 150) : rdM l g yX0_countStandingOf wsX0_countStandingOf 2 42 [.ref (a0), .int (nI (y))] (wLed g (a0) (a1) (a2) (a3) (au) (og) (dl) (n)) (some (.int (nI (cN (fun k => decide (og k = y) && !dl k) n)))) := by
  refine rd_of (cc := cX0_countStandingOf) (maxL := 4) (ret := (some .int)) (by decide) rfl (Nat.le_of_ble_eq_true rfl) (fun p e s m below meth c ls hx hb hr hml hts hown hlocks hl hP hE => ?_)
  have hl : lv_has ls 4 [(0, .ref (a0)), (1, .int (nI (y)))] := hl
  have hown : s.vm.findClass RX0 = some m.cls := hown
  refine lv_iconst (v := nI (0)) hx hb dX0_countStandingOf_0 (by decide) ?_
  refine lv_istore_n (lv' := [(2, .int (nI (0))), (0, .ref (a0)), (1, .int (nI (y)))]) hx hb dX0_countStandingOf_1 rfl hl (by decide) rfl (fun ls hl => ?_)
  refine lv_iconst (v := nI (0)) hx hb dX0_countStandingOf_2 (by decide) ?_
  refine lv_istore_n (lv' := [(3, .int (nI (0))), (2, .int (nI (0))), (0, .ref (a0)), (1, .int (nI (y)))]) hx hb dX0_countStandingOf_3 rfl hl (by decide) rfl (fun ls hl => ?_)
  have lp19 : ∀ (n9 i : Nat), n - i < n9 → (i ≤ n) → ∀ ls : Array Slot, lv_has ls 4 [(0, .ref (a0)), (1, .int (nI (y))), (2, .int (nI (cN (fun k => decide (og k = y) && !dl k) i))), (3, .int (nI (i)))] → W p l e ({ frames := 2, cells := 0, slots := 0, locals := 42 } : Room) s m ([.ref (a0), .int (nI (y))] : List Value).toArray below meth c s.heap [] 0 0 (MQ below (rdQ (some (.int (nI (cN (fun k => decide (og k = y) && !dl k) n))))) ([.ref (a0), .int (nI (y))] : List Value).toArray s 0 0 (fun _ => False)) (F0 m 4 ls []) := by
    intro n9
    induction n9 with
    | zero => intro i h; omega
    | succ n9 ih =>
      intro i h9 hi ls hl
      refine lv_iload_n hx hb dX0_countStandingOf_4 rfl (lv_at hl 3 rfl) ?_
      refine lv_aload_n hx hb dX0_countStandingOf_5 rfl (lv_at hl 0 rfl) ?_
      refine gf (q0 := 0) (ci := 0) (k := 3) (v := .int (nI (n))) hx hb hts iX0_countStandingOf_0 hown hE hP rfl rfl (by decide) mX0_countStandingOf_22 rfl dX0_countStandingOf_6 ?_
      refine br_geN (a := i) (b := n) (tgt := 38) hx hb (by omega) (by omega) dX0_countStandingOf_9 (by decide) (fun h20 => ?_) (fun h20 => ?_)
      · refine lv_iload_n hx hb dX0_countStandingOf_38 rfl (lv_at hl 2 rfl) ?_
        exact rd_reti hx hb hr hlocks (by rw [show i = n by omega]) dX0_countStandingOf_39
      · refine lv_aload_n hx hb dX0_countStandingOf_12 rfl (lv_at hl 0 rfl) ?_
        refine lv_iload_n hx hb dX0_countStandingOf_13 rfl (lv_at hl 3 rfl) ?_
        refine rd_goS (rn_V ⟨hx, hb, hml, hown, hts⟩ (c_X0_origin l g (x := i) (by omega) (by omega)) gX0_countStandingOf_X0_origin rfl pX0_origin ⟨Nat.le_of_ble_eq_true rfl, Nat.le_of_ble_eq_true rfl⟩ ⟨Nat.le_of_ble_eq_true rfl, Nat.le_of_ble_eq_true rfl⟩ (hP) hE rfl rfl rfl hl.1 rfl (Nat.le_of_ble_eq_true rfl) dX0_countStandingOf_14) ?_
        refine lv_iload_n hx hb dX0_countStandingOf_17 rfl (lv_at hl 1 rfl) ?_
        refine br_neN (a := og i) (b := y) (tgt := 32) hx hb (by have := hog i; omega) (by omega) dX0_countStandingOf_18 (by decide) (fun h21 => ?_) (fun h21 => ?_)
        · refine lv_iinc (v := nI (i + 1)) (lv' := [(3, .int (nI (i + 1))), (0, .ref (a0)), (1, .int (nI (y))), (2, .int (nI (cN (fun k => decide (og k = y) && !dl k) i)))]) hx hb dX0_countStandingOf_32 hl (k := 3) rfl (inc1 (i)) (by decide) rfl (fun ls hl => ?_)
          refine lv_goto (tgt := 4) hx hb dX0_countStandingOf_35 (by decide) ?_
          rw [← cN_f (P := fun k => decide (og k = y) && !dl k) (k := i) (by simp only [decide_eq_false h21]; rfl)] at hl
          exact ih (i + 1) (by omega) (by omega) ls (lv_sub hl [1, 2, 3, 0] rfl)
        · refine lv_aload_n hx hb dX0_countStandingOf_21 rfl (lv_at hl 0 rfl) ?_
          refine lv_iload_n hx hb dX0_countStandingOf_22 rfl (lv_at hl 3 rfl) ?_
          refine rd_goS (rn_V ⟨hx, hb, hml, hown, hts⟩ (c_X0_stands l g (x := i) (by omega) (by omega)) gX0_countStandingOf_X0_stands rfl pX0_stands ⟨Nat.le_of_ble_eq_true rfl, Nat.le_of_ble_eq_true rfl⟩ ⟨Nat.le_of_ble_eq_true rfl, Nat.le_of_ble_eq_true rfl⟩ (hP) hE rfl rfl rfl hl.1 rfl (Nat.le_of_ble_eq_true rfl) dX0_countStandingOf_23) ?_
          refine br_eqB (tgt := 32) hx hb dX0_countStandingOf_26 (by decide) (fun h22 => ?_) (fun h22 => ?_)
          · refine lv_iinc (v := nI (i + 1)) (lv' := [(3, .int (nI (i + 1))), (0, .ref (a0)), (1, .int (nI (y))), (2, .int (nI (cN (fun k => decide (og k = y) && !dl k) i)))]) hx hb dX0_countStandingOf_32 hl (k := 3) rfl (inc1 (i)) (by decide) rfl (fun ls hl => ?_)
            refine lv_goto (tgt := 4) hx hb dX0_countStandingOf_35 (by decide) ?_
            rw [← cN_f (P := fun k => decide (og k = y) && !dl k) (k := i) (by simp only [h22]; simp)] at hl
            exact ih (i + 1) (by omega) (by omega) ls (lv_sub hl [1, 2, 3, 0] rfl)
          · refine lv_iinc (v := nI (cN (fun k => decide (og k = y) && !dl k) i + 1)) (lv' := [(2, .int (nI (cN (fun k => decide (og k = y) && !dl k) i + 1))), (0, .ref (a0)), (1, .int (nI (y))), (3, .int (nI (i)))]) hx hb dX0_countStandingOf_29 hl (k := 2) rfl (inc1 (cN (fun k => decide (og k = y) && !dl k) i)) (by decide) rfl (fun ls hl => ?_)
            refine lv_iinc (v := nI (i + 1)) (lv' := [(3, .int (nI (i + 1))), (2, .int (nI (cN (fun k => decide (og k = y) && !dl k) i + 1))), (0, .ref (a0)), (1, .int (nI (y)))]) hx hb dX0_countStandingOf_32 hl (k := 3) rfl (inc1 (i)) (by decide) rfl (fun ls hl => ?_)
            refine lv_goto (tgt := 4) hx hb dX0_countStandingOf_35 (by decide) ?_
            rw [← cN_t (P := fun k => decide (og k = y) && !dl k) (k := i) (by simp only [h21, h22]; decide)] at hl
            exact ih (i + 1) (by omega) (by omega) ls (lv_sub hl [2, 3, 1, 0] rfl)
  exact lp19 (n + 1) (0) (by omega) (by omega) ls (lv_sub hl [2, 3, 1, 0] rfl)
theorem mX2_owner_19 : Cond.fieldLink RX2 19 "Followrow$Row" "owner" "I" ∈ wsX2_owner := by decide +kernel
theorem iX2_owner_2 : ∀ w ∈ wsX20, w ∈ wsX2_owner := by decide +kernel
set_option maxHeartbeats 4000000 in
set_option maxRecDepth 100000 in
/-- owner() -/
theorem c_X2_owner (l : Launch) (g : GT) {b0 b1 q cnt fl : Nat} {fn : Nat → Int32} : rdM l g yX2_owner wsX2_owner 0 0 [.ref (b0)] (wRow g (b0) (b1) (q) (fn) (cnt) (fl)) (some (.int (nI (q)))) := by
  refine rd_of (cc := cX2_owner) (maxL := 1) (ret := (some .int)) (by decide) rfl (Nat.le_of_ble_eq_true rfl) (fun p e s m below meth c ls hx hb hr hml hts hown hlocks hl hP hE => ?_)
  have hl : lv_has ls 1 [(0, .ref (b0))] := hl
  have hown : s.vm.findClass RX2 = some m.cls := hown
  refine lv_aload_n hx hb dX2_owner_0 rfl (lv_at hl 0 rfl) ?_
  refine gf (q0 := 0) (ci := 2) (k := 0) (v := .int (nI (q))) hx hb hts iX2_owner_2 hown hE hP rfl rfl (by decide) mX2_owner_19 rfl dX2_owner_1 ?_
  exact rd_reti hx hb hr hlocks rfl dX2_owner_4
theorem mX2_floor_15 : Cond.fieldLink RX2 15 "Followrow$Row" "floor" "I" ∈ wsX2_floor := by decide +kernel
theorem iX2_floor_2 : ∀ w ∈ wsX20, w ∈ wsX2_floor := by decide +kernel
set_option maxHeartbeats 4000000 in
set_option maxRecDepth 100000 in
/-- floor() -/
theorem c_X2_floor (l : Launch) (g : GT) {b0 b1 q cnt fl : Nat} {fn : Nat → Int32} : rdM l g yX2_floor wsX2_floor 0 0 [.ref (b0)] (wRow g (b0) (b1) (q) (fn) (cnt) (fl)) (some (.int (fI (fl)))) := by
  refine rd_of (cc := cX2_floor) (maxL := 1) (ret := (some .int)) (by decide) rfl (Nat.le_of_ble_eq_true rfl) (fun p e s m below meth c ls hx hb hr hml hts hown hlocks hl hP hE => ?_)
  have hl : lv_has ls 1 [(0, .ref (b0))] := hl
  have hown : s.vm.findClass RX2 = some m.cls := hown
  refine lv_aload_n hx hb dX2_floor_0 rfl (lv_at hl 0 rfl) ?_
  refine gf (q0 := 0) (ci := 2) (k := 3) (v := .int (fI (fl))) hx hb hts iX2_floor_2 hown hE hP rfl rfl (by decide) mX2_floor_15 rfl dX2_floor_1 ?_
  exact rd_reti hx hb hr hlocks rfl dX2_floor_4
theorem mX2_count_22 : Cond.fieldLink RX2 22 "Followrow$Row" "count" "I" ∈ wsX2_count := by decide +kernel
theorem iX2_count_2 : ∀ w ∈ wsX20, w ∈ wsX2_count := by decide +kernel
set_option maxHeartbeats 4000000 in
set_option maxRecDepth 100000 in
/-- count() of a row -/
theorem c_X2_count (l : Launch) (g : GT) {b0 b1 q cnt fl : Nat} {fn : Nat → Int32} : rdM l g yX2_count wsX2_count 0 0 [.ref (b0)] (wRow g (b0) (b1) (q) (fn) (cnt) (fl)) (some (.int (nI (cnt)))) := by
  refine rd_of (cc := cX2_count) (maxL := 1) (ret := (some .int)) (by decide) rfl (Nat.le_of_ble_eq_true rfl) (fun p e s m below meth c ls hx hb hr hml hts hown hlocks hl hP hE => ?_)
  have hl : lv_has ls 1 [(0, .ref (b0))] := hl
  have hown : s.vm.findClass RX2 = some m.cls := hown
  refine lv_aload_n hx hb dX2_count_0 rfl (lv_at hl 0 rfl) ?_
  refine gf (q0 := 0) (ci := 2) (k := 2) (v := .int (nI (cnt))) hx hb hts iX2_count_2 hown hE hP rfl rfl (by decide) mX2_count_22 rfl dX2_count_1 ?_
  exact rd_reti hx hb hr hlocks rfl dX2_count_4
theorem mX2_raiseFloor_15 : Cond.fieldLink RX2 15 "Followrow$Row" "floor" "I" ∈ wsX2_raiseFloor := by decide +kernel
theorem iX2_raiseFloor_2 : ∀ w ∈ wsX20, w ∈ wsX2_raiseFloor := by decide +kernel
set_option maxHeartbeats 4000000 in
set_option maxRecDepth 100000 in
/-- raiseFloor(x) -/
theorem c_X2_raiseFloor (l : Launch) (g : GT) {b0 b1 q cnt fl : Nat} {fn : Nat → Int32} {x : Nat} (hN : Nd [b0, b1]) : wrM l g yX2_raiseFloor wsX2_raiseFloor 0 0 [.ref (b0), .int (nI (x))] (wRow g (b0) (b1) (q) (fn) (cnt) (fl)) none (fun H1 => gP g (wRow g b0 b1 q (fn) (cnt) (x + 1)) H1) ([b0, b1]) := by
  refine wr_of (cc := cX2_raiseFloor) (maxL := 2) (ret := none) (by decide) rfl (Nat.le_of_ble_eq_true rfl) (fun p e s m below meth c ls hx hb hr hml hts hown hlocks hl hP hE hS => ?_)
  have hl : lv_has ls 2 [(0, .ref (b0)), (1, .int (nI (x)))] := hl
  have hown : s.vm.findClass RX2 = some m.cls := hown
  have hD : va_D (fun z => z ∈ [b0, b1]) (wRow g b0 b1 q fn cnt fl) := D_of hN (fun _ h => h)
  refine lv_aload_n hx hb dX2_raiseFloor_0 rfl (lv_at hl 0 rfl) ?_
  refine lv_iload_n hx hb dX2_raiseFloor_1 rfl (lv_at hl 1 rfl) ?_
  refine tp_i nI_fI ?_
  refine pf (q0 := 0) (ci := 2) (k := 3) (ws' := wRow g (b0) (b1) (q) (fn) (cnt) (x + 1)) hx hb hts iX2_raiseFloor_2 hown hE hP hD hS rfl rfl (by decide) tyX2_ok nmX2 mX2_raiseFloor_15 rfl (by decide +kernel) (Nat.le_of_ble_eq_true rfl) rfl dX2_raiseFloor_2 (fun H locs hP hD hS => ?_)
  exact wr_retv hx hb hr hlocks hS hP dX2_raiseFloor_5
theorem mX2_empty_22 : Cond.fieldLink RX2 22 "Followrow$Row" "count" "I" ∈ wsX2_empty := by decide +kernel
theorem iX2_empty_2 : ∀ w ∈ wsX20, w ∈ wsX2_empty := by decide +kernel
set_option maxHeartbeats 4000000 in
set_option maxRecDepth 100000 in
/-- empty() of a row -/
theorem c_X2_empty (l : Launch) (g : GT) {b0 b1 q cnt fl : Nat} {fn : Nat → Int32} (hN : Nd [b0, b1]) : wrM l g yX2_empty wsX2_empty 0 0 [.ref (b0)] (wRow g (b0) (b1) (q) (fn) (cnt) (fl)) none (fun H1 => gP g (wRow g b0 b1 q (fn) (0) (fl)) H1) ([b0, b1]) := by
  refine wr_of (cc := cX2_empty) (maxL := 1) (ret := none) (by decide) rfl (Nat.le_of_ble_eq_true rfl) (fun p e s m below meth c ls hx hb hr hml hts hown hlocks hl hP hE hS => ?_)
  have hl : lv_has ls 1 [(0, .ref (b0))] := hl
  have hown : s.vm.findClass RX2 = some m.cls := hown
  have hD : va_D (fun z => z ∈ [b0, b1]) (wRow g b0 b1 q fn cnt fl) := D_of hN (fun _ h => h)
  refine lv_aload_n hx hb dX2_empty_0 rfl (lv_at hl 0 rfl) ?_
  refine lv_iconst (v := nI (0)) hx hb dX2_empty_1 (by decide) ?_
  refine pf (q0 := 0) (ci := 2) (k := 2) (ws' := wRow g (b0) (b1) (q) (fn) (0) (fl)) hx hb hts iX2_empty_2 hown hE hP hD hS rfl rfl (by decide) tyX2_ok nmX2 mX2_empty_22 rfl (by decide +kernel) (Nat.le_of_ble_eq_true rfl) rfl dX2_empty_2 (fun H locs hP hD hS => ?_)
  exact wr_retv hx hb hr hlocks hS hP dX2_empty_5
theorem mX2_addBelow_9 : Cond.fieldLink RX2 9 "Followrow$Row" "numbers" "[I" ∈ wsX2_addBelow := by decide +kernel
theorem mX2_addBelow_22 : Cond.fieldLink RX2 22 "Followrow$Row" "count" "I" ∈ wsX2_addBelow := by decide +kernel
theorem iX2_addBelow_2 : ∀ w ∈ wsX20, w ∈ wsX2_addBelow := by decide +kernel
set_option maxHeartbeats 4000000 in
set_option maxRecDepth 100000 in
/-- addBelow(x) of a row -/
theorem c_X2_addBelow (l : Launch) (g : GT) {b0 b1 q cnt fl : Nat} {fn : Nat → Int32} {x : Nat} (hN : Nd [b0, b1]) (hn : cnt < 40) : wrM l g yX2_addBelow wsX2_addBelow 0 0 [.ref (b0), .int (nI (x))] (wRow g (b0) (b1) (q) (fn) (cnt) (fl)) none (fun H1 => gP g (wRow g b0 b1 q (upd fn cnt (nI x)) (cnt + 1) (fl)) H1) ([b0, b1]) := by
  refine wr_of (cc := cX2_addBelow) (maxL := 2) (ret := none) (by decide) rfl (Nat.le_of_ble_eq_true rfl) (fun p e s m below meth c ls hx hb hr hml hts hown hlocks hl hP hE hS => ?_)
  have hl : lv_has ls 2 [(0, .ref (b0)), (1, .int (nI (x)))] := hl
  have hown : s.vm.findClass RX2 = some m.cls := hown
  have hD : va_D (fun z => z ∈ [b0, b1]) (wRow g b0 b1 q fn cnt fl) := D_of hN (fun _ h => h)
  refine lv_aload_n hx hb dX2_addBelow_0 rfl (lv_at hl 0 rfl) ?_
  refine gf (q0 := 0) (ci := 2) (k := 2) (v := .int (nI (cnt))) hx hb hts iX2_addBelow_2 hown hE hP rfl rfl (by decide) mX2_addBelow_22 rfl dX2_addBelow_1 ?_
  refine lv_bipush (v := nI (40)) hx hb dX2_addBelow_4 (by decide) ?_
  refine br_geN (a := cnt) (b := 40) (tgt := 29) hx hb (by omega) (by omega) dX2_addBelow_6 (by decide) (fun h23 => ?_) (fun h23 => ?_)
  · exact absurd h23 (by omega)
  · refine lv_aload_n hx hb dX2_addBelow_9 rfl (lv_at hl 0 rfl) ?_
    refine gf (q0 := 0) (ci := 2) (k := 1) (v := .ref (b1)) hx hb hts iX2_addBelow_2 hown hE hP rfl rfl (by decide) mX2_addBelow_9 rfl dX2_addBelow_10 ?_
    refine lv_aload_n hx hb dX2_addBelow_13 rfl (lv_at hl 0 rfl) ?_
    refine gf (q0 := 0) (ci := 2) (k := 2) (v := .int (nI (cnt))) hx hb hts iX2_addBelow_2 hown hE hP rfl rfl (by decide) mX2_addBelow_22 rfl dX2_addBelow_14 ?_
    refine lv_iload_n hx hb dX2_addBelow_17 rfl (lv_at hl 1 rfl) ?_
    refine wa_i (q0 := 1) (i := cnt) (ws' := wRow g (b0) (b1) (q) (upd (fn) (cnt) (nI (x))) (cnt) (fl)) hx hb hE hP hD hS rfl rfl rfl (by omega) (by decide) dX2_addBelow_18 (fun H locs hP hD hS => ?_)
    refine lv_aload_n hx hb dX2_addBelow_19 rfl (lv_at hl 0 rfl) ?_
    refine lv_dup hx hb dX2_addBelow_20 rfl ?_
    refine gf (q0 := 0) (ci := 2) (k := 2) (v := .int (nI (cnt))) hx hb hts iX2_addBelow_2 hown hE hP rfl rfl (by decide) mX2_addBelow_22 rfl dX2_addBelow_21 ?_
    refine lv_iconst (v := nI (1)) hx hb dX2_addBelow_24 (by decide) ?_
    refine lv_iadd hx hb dX2_addBelow_25 ?_
    refine tp_i (nI_add _ _) ?_
    refine pf (q0 := 0) (ci := 2) (k := 2) (ws' := wRow g (b0) (b1) (q) (upd (fn) (cnt) (nI (x))) (cnt + 1) (fl)) hx hb hts iX2_addBelow_2 hown hE hP hD hS rfl rfl (by decide) tyX2_ok nmX2 mX2_addBelow_22 rfl (by decide +kernel) (Nat.le_of_ble_eq_true rfl) rfl dX2_addBelow_26 (fun H locs hP hD hS => ?_)
    exact wr_retv hx hb hr hlocks hS hP dX2_addBelow_29
theorem mX2_fromNewest_9 : Cond.fieldLink RX2 9 "Followrow$Row" "numbers" "[I" ∈ wsX2_fromNewest := by decide +kernel
theorem mX2_fromNewest_22 : Cond.fieldLink RX2 22 "Followrow$Row" "count" "I" ∈ wsX2_fromNewest := by decide +kernel
theorem iX2_fromNewest_2 : ∀ w ∈ wsX20, w ∈ wsX2_fromNewest := by decide +kernel
set_option maxHeartbeats 4000000 in
set_option maxRecDepth 100000 in
/-- fromNewest(x) -/
theorem c_X2_fromNewest (l : Launch) (g : GT) {b0 b1 q cnt fl : Nat} {fn : Nat → Int32} {x : Nat} (hn : cnt ≤ 40) (h1 : x ≤ 150) : rdM l g yX2_fromNewest wsX2_fromNewest 0 0 [.ref (b0), .int (nI (x))] (wRow g (b0) (b1) (q) (fn) (cnt) (fl)) (some (.int (if x < cnt then fn x else (-1)))) := by
  refine rd_of (cc := cX2_fromNewest) (maxL := 2) (ret := (some .int)) (by decide) rfl (Nat.le_of_ble_eq_true rfl) (fun p e s m below meth c ls hx hb hr hml hts hown hlocks hl hP hE => ?_)
  have hl : lv_has ls 2 [(0, .ref (b0)), (1, .int (nI (x)))] := hl
  have hown : s.vm.findClass RX2 = some m.cls := hown
  refine lv_iload_n hx hb dX2_fromNewest_0 rfl (lv_at hl 1 rfl) ?_
  refine br_lt0 (tgt := 21) hx hb (by omega) dX2_fromNewest_1 (by decide) (fun h24 => ?_) (fun h24 => ?_)
  · exact h24.elim
  · refine lv_iload_n hx hb dX2_fromNewest_4 rfl (lv_at hl 1 rfl) ?_
    refine lv_aload_n hx hb dX2_fromNewest_5 rfl (lv_at hl 0 rfl) ?_
    refine gf (q0 := 0) (ci := 2) (k := 2) (v := .int (nI (cnt))) hx hb hts iX2_fromNewest_2 hown hE hP rfl rfl (by decide) mX2_fromNewest_22 rfl dX2_fromNewest_6 ?_
    refine br_geN (a := x) (b := cnt) (tgt := 21) hx hb (by omega) (by omega) dX2_fromNewest_9 (by decide) (fun h25 => ?_) (fun h25 => ?_)
    · refine lv_iconst (v := (-1)) hx hb dX2_fromNewest_21 (by decide) ?_
      exact rd_reti hx hb hr hlocks (if_neg (by omega)).symm dX2_fromNewest_22
    · refine lv_aload_n hx hb dX2_fromNewest_12 rfl (lv_at hl 0 rfl) ?_
      refine gf (q0 := 0) (ci := 2) (k := 1) (v := .ref (b1)) hx hb hts iX2_fromNewest_2 hown hE hP rfl rfl (by decide) mX2_fromNewest_9 rfl dX2_fromNewest_13 ?_
      refine lv_iload_n hx hb dX2_fromNewest_16 rfl (lv_at hl 1 rfl) ?_
      refine ra_i (q0 := 1) (i := x) hx hb hE hP rfl (by omega) (by decide) dX2_fromNewest_17 ?_
      refine lv_goto (tgt := 22) hx hb dX2_fromNewest_18 (by decide) ?_
      exact rd_reti hx hb hr hlocks (if_pos (by omega)).symm dX2_fromNewest_22
theorem mX3_count_19 : Cond.fieldLink RX3 19 "Followrow$Timeline" "count" "I" ∈ wsX3_count := by decide +kernel
theorem iX3_count_3 : ∀ w ∈ wsX30, w ∈ wsX3_count := by decide +kernel
set_option maxHeartbeats 4000000 in
set_option maxRecDepth 100000 in
/-- count() of the timeline -/
theorem c_X3_count (l : Launch) (g : GT) {t0 t1 t2 cnt : Nat} {fn : Nat → Int32} {tk : Nat → Bool} : rdM l g yX3_count wsX3_count 0 0 [.ref (t0)] (wTim g (t0) (t1) (t2) (fn) (tk) (cnt)) (some (.int (nI (cnt)))) := by
  refine rd_of (cc := cX3_count) (maxL := 1) (ret := (some .int)) (by decide) rfl (Nat.le_of_ble_eq_true rfl) (fun p e s m below meth c ls hx hb hr hml hts hown hlocks hl hP hE => ?_)
  have hl : lv_has ls 1 [(0, .ref (t0))] := hl
  have hown : s.vm.findClass RX3 = some m.cls := hown
  refine lv_aload_n hx hb dX3_count_0 rfl (lv_at hl 0 rfl) ?_
  refine gf (q0 := 0) (ci := 3) (k := 2) (v := .int (nI (cnt))) hx hb hts iX3_count_3 hown hE hP rfl rfl (by decide) mX3_count_19 rfl dX3_count_1 ?_
  exact rd_reti hx hb hr hlocks rfl dX3_count_4
theorem mX3_at_9 : Cond.fieldLink RX3 9 "Followrow$Timeline" "numbers" "[I" ∈ wsX3_at := by decide +kernel
theorem mX3_at_19 : Cond.fieldLink RX3 19 "Followrow$Timeline" "count" "I" ∈ wsX3_at := by decide +kernel
theorem iX3_at_3 : ∀ w ∈ wsX30, w ∈ wsX3_at := by decide +kernel
set_option maxHeartbeats 4000000 in
set_option maxRecDepth 100000 in
/-- at(x) -/
theorem c_X3_at (l : Launch) (g : GT) {t0 t1 t2 cnt : Nat} {fn : Nat → Int32} {tk : Nat → Bool} {x : Nat} (hn : cnt ≤ 150) (h1 : x ≤ 150) : rdM l g yX3_at wsX3_at 0 0 [.ref (t0), .int (nI (x))] (wTim g (t0) (t1) (t2) (fn) (tk) (cnt)) (some (.int (if x < cnt then fn x else (-1)))) := by
  refine rd_of (cc := cX3_at) (maxL := 2) (ret := (some .int)) (by decide) rfl (Nat.le_of_ble_eq_true rfl) (fun p e s m below meth c ls hx hb hr hml hts hown hlocks hl hP hE => ?_)
  have hl : lv_has ls 2 [(0, .ref (t0)), (1, .int (nI (x)))] := hl
  have hown : s.vm.findClass RX3 = some m.cls := hown
  refine lv_iload_n hx hb dX3_at_0 rfl (lv_at hl 1 rfl) ?_
  refine br_lt0 (tgt := 21) hx hb (by omega) dX3_at_1 (by decide) (fun h26 => ?_) (fun h26 => ?_)
  · exact h26.elim
  · refine lv_iload_n hx hb dX3_at_4 rfl (lv_at hl 1 rfl) ?_
    refine lv_aload_n hx hb dX3_at_5 rfl (lv_at hl 0 rfl) ?_
    refine gf (q0 := 0) (ci := 3) (k := 2) (v := .int (nI (cnt))) hx hb hts iX3_at_3 hown hE hP rfl rfl (by decide) mX3_at_19 rfl dX3_at_6 ?_
    refine br_geN (a := x) (b := cnt) (tgt := 21) hx hb (by omega) (by omega) dX3_at_9 (by decide) (fun h27 => ?_) (fun h27 => ?_)
    · refine lv_iconst (v := (-1)) hx hb dX3_at_21 (by decide) ?_
      exact rd_reti hx hb hr hlocks (if_neg (by omega)).symm dX3_at_22
    · refine lv_aload_n hx hb dX3_at_12 rfl (lv_at hl 0 rfl) ?_
      refine gf (q0 := 0) (ci := 3) (k := 0) (v := .ref (t1)) hx hb hts iX3_at_3 hown hE hP rfl rfl (by decide) mX3_at_9 rfl dX3_at_13 ?_
      refine lv_iload_n hx hb dX3_at_16 rfl (lv_at hl 1 rfl) ?_
      refine ra_i (q0 := 1) (i := x) hx hb hE hP rfl (by omega) (by decide) dX3_at_17 ?_
      refine lv_goto (tgt := 22) hx hb dX3_at_18 (by decide) ?_
      exact rd_reti hx hb hr hlocks (if_pos (by omega)).symm dX3_at_22
theorem mX3_placeBelow_19 : Cond.fieldLink RX3 19 "Followrow$Timeline" "count" "I" ∈ wsX3_placeBelow := by decide +kernel
theorem iX3_placeBelow_3 : ∀ w ∈ wsX30, w ∈ wsX3_placeBelow := by decide +kernel
set_option maxHeartbeats 4000000 in
set_option maxRecDepth 100000 in
/-- placeBelow(y): the place x -/
theorem c_X3_placeBelow (l : Launch) (g : GT) {t0 t1 t2 cnt : Nat} {fn : Nat → Int32} {tk : Nat → Bool} {x y : Nat} (hn : cnt ≤ 150) (hr1 : x ≤ cnt) (hr2 : ∀ j, j < x → nI y ≤ fn j) (hr3 : ∀ j, j = x → j < cnt → ¬ nI y ≤ fn j) : rdM l g yX3_placeBelow wsX3_placeBelow 1 21 [.ref (t0), .int (nI (y))] (wTim g (t0) (t1) (t2) (fn) (tk) (cnt)) (some (.int (nI (x)))) := by
  refine rd_of (cc := cX3_placeBelow) (maxL := 3) (ret := (some .int)) (by decide) rfl (Nat.le_of_ble_eq_true rfl) (fun p e s m below meth c ls hx hb hr hml hts hown hlocks hl hP hE => ?_)
  have hl : lv_has ls 3 [(0, .ref (t0)), (1, .int (nI (y)))] := hl
  have hown : s.vm.findClass RX3 = some m.cls := hown
  refine lv_iconst (v := nI (0)) hx hb dX3_placeBelow_0 (by decide) ?_
  refine lv_istore_n (lv' := [(2, .int (nI (0))), (0, .ref (t0)), (1, .int (nI (y)))]) hx hb dX3_placeBelow_1 rfl hl (by decide) rfl (fun ls hl => ?_)
  have lp28 : ∀ (n9 i : Nat), cnt - i < n9 → (i ≤ x) → ∀ ls : Array Slot, lv_has ls 3 [(0, .ref (t0)), (1, .int (nI (y))), (2, .int (nI (i)))] → W p l e ({ frames := 1, cells := 0, slots := 0, locals := 21 } : Room) s m ([.ref (t0), .int (nI (y))] : List Value).toArray below meth c s.heap [] 0 0 (MQ below (rdQ (some (.int (nI (x))))) ([.ref (t0), .int (nI (y))] : List Value).toArray s 0 0 (fun _ => False)) (F0 m 2 ls []) := by
    intro n9
    induction n9 with
    | zero => intro i h; omega
    | succ n9 ih =>
      intro i h9 hi ls hl
      refine lv_iload_n hx hb dX3_placeBelow_2 rfl (lv_at hl 2 rfl) ?_
      refine lv_aload_n hx hb dX3_placeBelow_3 rfl (lv_at hl 0 rfl) ?_
      refine gf (q0 := 0) (ci := 3) (k := 2) (v := .int (nI (cnt))) hx hb hts iX3_placeBelow_3 hown hE hP rfl rfl (by decide) mX3_placeBelow_19 rfl dX3_placeBelow_4 ?_
      refine br_geN (a := i) (b := cnt) (tgt := 27) hx hb (by omega) (by omega) dX3_placeBelow_7 (by decide) (fun h29 => ?_) (fun h29 => ?_)
      · refine lv_aload_n hx hb dX3_placeBelow_27 rfl (lv_at hl 0 rfl) ?_
        refine gf (q0 := 0) (ci := 3) (k := 2) (v := .int (nI (cnt))) hx hb hts iX3_placeBelow_3 hown hE hP rfl rfl (by decide) mX3_placeBelow_19 rfl dX3_placeBelow_28 ?_
        exact rd_reti hx hb hr hlocks (congrArg nI (by omega)) dX3_placeBelow_31
      · refine lv_aload_n hx hb dX3_placeBelow_10 rfl (lv_at hl 0 rfl) ?_
        refine lv_iload_n hx hb dX3_placeBelow_11 rfl (lv_at hl 2 rfl) ?_
        refine rd_goS (rn_V ⟨hx, hb, hml, hown, hts⟩ (c_X3_at l g (x := i) (by omega) (by omega)) gX3_placeBelow_X3_at rfl pX3_at ⟨Nat.le_of_ble_eq_true rfl, Nat.le_of_ble_eq_true rfl⟩ ⟨Nat.le_of_ble_eq_true rfl, Nat.le_of_ble_eq_true rfl⟩ (hP) hE rfl rfl rfl hl.1 rfl (Nat.le_of_ble_eq_true rfl) dX3_placeBelow_12) ?_
        refine tp_i (if_pos (by omega)) ?_
        refine lv_iload_n hx hb dX3_placeBelow_15 rfl (lv_at hl 1 rfl) ?_
        refine lv_icmp_ge (tgt := 21) hx hb dX3_placeBelow_16 (by decide) (fun h30 => ?_) (fun h30 => ?_)
        · refine lv_iinc (v := nI (i + 1)) (lv' := [(2, .int (nI (i + 1))), (0, .ref (t0)), (1, .int (nI (y)))]) hx hb dX3_placeBelow_21 hl (k := 2) rfl (inc1 (i)) (by decide) rfl (fun ls hl => ?_)
          refine lv_goto (tgt := 2) hx hb dX3_placeBelow_24 (by decide) ?_
          exact ih (i + 1) (by omega) (Nat.lt_of_le_of_ne hi (fun hq => hr3 i hq (by omega) h30)) ls (lv_sub hl [1, 2, 0] rfl)
        · refine lv_iload_n hx hb dX3_placeBelow_19 rfl (lv_at hl 2 rfl) ?_
          exact rd_reti hx hb hr hlocks (congrArg nI (Nat.le_antisymm hi (Nat.not_lt.mp (fun z => h30 (hr2 i z))))) dX3_placeBelow_20
  exact lp28 (cnt + 1) (0) (by omega) (by omega) ls (lv_sub hl [1, 2, 0] rfl)
theorem mX3_empty_15 : Cond.fieldLink RX3 15 "Followrow$Timeline" "taken" "[Z" ∈ wsX3_empty := by decide +kernel
theorem mX3_empty_19 : Cond.fieldLink RX3 19 "Followrow$Timeline" "count" "I" ∈ wsX3_empty := by decide +kernel
theorem iX3_empty_3 : ∀ w ∈ wsX30, w ∈ wsX3_empty := by decide +kernel
set_option maxHeartbeats 4000000 in
set_option maxRecDepth 100000 in
/-- empty() of the timeline -/
theorem c_X3_empty (l : Launch) (g : GT) {t0 t1 t2 cnt : Nat} {fn : Nat → Int32} {tk : Nat → Bool} (hN : Nd [t0, t1, t2]) : wrM l g yX3_empty wsX3_empty 0 0 [.ref (t0)] (wTim g (t0) (t1) (t2) (fn) (tk) (cnt)) none (fun H1 => gP g (wTim g t0 t1 t2 (fn) (clr tk 150) (0)) H1) ([t0, t1, t2]) := by
  refine wr_of (cc := cX3_empty) (maxL := 2) (ret := none) (by decide) rfl (Nat.le_of_ble_eq_true rfl) (fun p e s m below meth c ls hx hb hr hml hts hown hlocks hl hP hE hS => ?_)
  have hl : lv_has ls 2 [(0, .ref (t0))] := hl
  have hown : s.vm.findClass RX3 = some m.cls := hown
  have hD : va_D (fun z => z ∈ [t0, t1, t2]) (wTim g t0 t1 t2 fn tk cnt) := D_of hN (fun _ h => h)
  refine lv_aload_n hx hb dX3_empty_0 rfl (lv_at hl 0 rfl) ?_
  refine lv_iconst (v := nI (0)) hx hb dX3_empty_1 (by decide) ?_
  refine pf (q0 := 0) (ci := 3) (k := 2) (ws' := wTim g (t0) (t1) (t2) (fn) (tk) (0)) hx hb hts iX3_empty_3 hown hE hP hD hS rfl rfl (by decide) tyX3_ok nmX3 mX3_empty_19 rfl (by decide +kernel) (Nat.le_of_ble_eq_true rfl) rfl dX3_empty_2 (fun H locs hP hD hS => ?_)
  refine lv_iconst (v := nI (0)) hx hb dX3_empty_5 (by decide) ?_
  refine lv_istore_n (lv' := [(1, .int (nI (0))), (0, .ref (t0))]) hx hb dX3_empty_6 rfl hl (by decide) rfl (fun ls hl => ?_)
  rw [← clr_0 tk] at hP hD
  have lp31 : ∀ (n9 i : Nat), 150 - i < n9 → (i ≤ 150) → ∀ (H : Heap) (locs : List Loc), gP g (wTim g (t0) (t1) (t2) (fn) (clr tk (i)) (0)) H → va_D (fun q => q ∈ ([t0, t1, t2])) (wTim g (t0) (t1) (t2) (fn) (clr tk (i)) (0)) → va_S (fun q => q ∈ ([t0, t1, t2])) s.heap H locs → ∀ ls : Array Slot, lv_has ls 2 [(0, .ref (t0)), (1, .int (nI (i)))] → W p l e ({ frames := 0, cells := 0, slots := 0, locals := 0 } : Room) s m ([.ref (t0)] : List Value).toArray below meth c H locs 0 0 (MQ below (wrQ none (fun H1 => gP g (wTim g t0 t1 t2 (fn) (clr tk 150) (0)) H1) ([t0, t1, t2])) ([.ref (t0)] : List Value).toArray s 0 0 (fun q => q ∈ ([t0, t1, t2]))) (F0 m 7 ls []) := by
    intro n9
    induction n9 with
    | zero => intro i h; omega
    | succ n9 ih =>
      intro i h9 hi H locs hP hD hS ls hl
      refine lv_iload_n hx hb dX3_empty_7 rfl (lv_at hl 1 rfl) ?_
      refine lv_sipush (v := nI (150)) hx hb dX3_empty_8 (by decide) ?_
      refine br_geN (a := i) (b := 150) (tgt := 27) hx hb (by omega) (by omega) dX3_empty_11 (by decide) (fun h32 => ?_) (fun h32 => ?_)
      · exact wr_retv hx hb hr hlocks hS (by rw [show i = 150 by omega] at hP; exact hP) dX3_empty_27
      · refine lv_aload_n hx hb dX3_empty_14 rfl (lv_at hl 0 rfl) ?_
        refine gf (q0 := 0) (ci := 3) (k := 1) (v := .ref (t2)) hx hb hts iX3_empty_3 hown hE hP rfl rfl (by decide) mX3_empty_15 rfl dX3_empty_15 ?_
        refine lv_iload_n hx hb dX3_empty_18 rfl (lv_at hl 1 rfl) ?_
        refine lv_iconst (v := bI (false)) hx hb dX3_empty_19 (by decide) ?_
        refine wa_z (q0 := 2) (i := i) (b := false) (ws' := wTim g (t0) (t1) (t2) (fn) (va_up (clr tk (i)) (i) (false)) (0)) hx hb hE hP hD hS rfl rfl (by omega) (by decide) dX3_empty_20 (fun H locs hP hD hS => ?_)
        refine lv_iinc (v := nI (i + 1)) (lv' := [(1, .int (nI (i + 1))), (0, .ref (t0))]) hx hb dX3_empty_21 hl (k := 1) rfl (inc1 (i)) (by decide) rfl (fun ls hl => ?_)
        refine lv_goto (tgt := 7) hx hb dX3_empty_24 (by decide) ?_
        rw [clr_s] at hP hD
        exact ih (i + 1) (by omega) (by omega) H locs hP hD hS ls (lv_sub hl [1, 0] rfl)
  exact lp31 (150 + 1) (0) (by omega) (by omega) _ _ hP hD hS ls (lv_sub hl [1, 0] rfl)
theorem mX3_addBelow_15 : Cond.fieldLink RX3 15 "Followrow$Timeline" "taken" "[Z" ∈ wsX3_addBelow := by decide +kernel
theorem mX3_addBelow_19 : Cond.fieldLink RX3 19 "Followrow$Timeline" "count" "I" ∈ wsX3_addBelow := by decide +kernel
theorem iX3_addBelow_3 : ∀ w ∈ wsX30, w ∈ wsX3_addBelow := by decide +kernel
set_option maxHeartbeats 4000000 in
set_option maxRecDepth 100000 in
/-- addBelow(x, y), y taken -/
theorem c_X3_addBelow_t (l : Launch) (g : GT) {t0 t1 t2 cnt : Nat} {fn : Nat → Int32} {tk : Nat → Bool} {x y : Nat} (hN : Nd [t0, t1, t2]) (hn : cnt < 150) (h2 : y < 150) (ht : tk y = true) : wrM l g yX3_addBelow wsX3_addBelow 0 0 [.ref (t0), .int (nI (x)), .int (nI (y))] (wTim g (t0) (t1) (t2) (fn) (tk) (cnt)) none (fun H1 => gP g (wTim g t0 t1 t2 (fn) (tk) (cnt)) H1) ([t0, t1, t2]) := by
  refine wr_of (cc := cX3_addBelow) (maxL := 4) (ret := none) (by decide) rfl (Nat.le_of_ble_eq_true rfl) (fun p e s m below meth c ls hx hb hr hml hts hown hlocks hl hP hE hS => ?_)
  have hl : lv_has ls 4 [(0, .ref (t0)), (1, .int (nI (x))), (2, .int (nI (y)))] := hl
  have hown : s.vm.findClass RX3 = some m.cls := hown
  have hD : va_D (fun z => z ∈ [t0, t1, t2]) (wTim g t0 t1 t2 fn tk cnt) := D_of hN (fun _ h => h)
  refine lv_aload_n hx hb dX3_addBelow_0 rfl (lv_at hl 0 rfl) ?_
  refine gf (q0 := 0) (ci := 3) (k := 2) (v := .int (nI (cnt))) hx hb hts iX3_addBelow_3 hown hE hP rfl rfl (by decide) mX3_addBelow_19 rfl dX3_addBelow_1 ?_
  refine lv_sipush (v := nI (150)) hx hb dX3_addBelow_4 (by decide) ?_
  refine br_geN (a := cnt) (b := 150) (tgt := 25) hx hb (by omega) (by omega) dX3_addBelow_7 (by decide) (fun h33 => ?_) (fun h33 => ?_)
  · exact absurd h33 (by omega)
  · refine lv_iload_n hx hb dX3_addBelow_10 rfl (lv_at hl 2 rfl) ?_
    refine br_lt0 (tgt := 25) hx hb (by omega) dX3_addBelow_11 (by decide) (fun h34 => ?_) (fun h34 => ?_)
    · exact h34.elim
    · refine lv_iload_n hx hb dX3_addBelow_14 rfl (lv_at hl 2 rfl) ?_
      refine lv_sipush (v := nI (150)) hx hb dX3_addBelow_15 (by decide) ?_
      refine br_geN (a := y) (b := 150) (tgt := 25) hx hb (by omega) (by omega) dX3_addBelow_18 (by decide) (fun h35 => ?_) (fun h35 => ?_)
      · exact absurd h35 (by omega)
      · refine lv_iconst (v := bI (true)) hx hb dX3_addBelow_21 (by decide) ?_
        refine lv_goto (tgt := 26) hx hb dX3_addBelow_22 (by decide) ?_
        refine lv_istore_n (lv' := [(3, .int (bI (true))), (0, .ref (t0)), (1, .int (nI (x))), (2, .int (nI (y)))]) hx hb dX3_addBelow_26 rfl hl (by decide) rfl (fun ls hl => ?_)
        refine lv_iload_n hx hb dX3_addBelow_27 rfl (lv_at hl 0 rfl) ?_
        refine br_eqB (tgt := 67) hx hb dX3_addBelow_28 (by decide) (fun h36 => ?_) (fun h36 => ?_)
        · exact absurd h36 (by decide)
        · refine lv_aload_n hx hb dX3_addBelow_31 rfl (lv_at hl 1 rfl) ?_
          refine gf (q0 := 0) (ci := 3) (k := 1) (v := .ref (t2)) hx hb hts iX3_addBelow_3 hown hE hP rfl rfl (by decide) mX3_addBelow_15 rfl dX3_addBelow_32 ?_
          refine lv_iload_n hx hb dX3_addBelow_35 rfl (lv_at hl 3 rfl) ?_
          refine ra_z (q0 := 2) (i := y) hx hb hE hP rfl (by omega) (by decide) dX3_addBelow_36 ?_
          refine br_neB (tgt := 67) hx hb dX3_addBelow_37 (by decide) (fun h37 => ?_) (fun h37 => ?_)
          · exact wr_retv hx hb hr hlocks hS hP dX3_addBelow_67
          · exact absurd (ht.symm.trans h37) (by decide)
theorem mX3_addBelow_9 : Cond.fieldLink RX3 9 "Followrow$Timeline" "numbers" "[I" ∈ wsX3_addBelow := by decide +kernel
set_option maxHeartbeats 4000000 in
set_option maxRecDepth 100000 in
/-- addBelow(x, y), y not taken -/
theorem c_X3_addBelow_f (l : Launch) (g : GT) {t0 t1 t2 cnt : Nat} {fn : Nat → Int32} {tk : Nat → Bool} {x y : Nat} (hN : Nd [t0, t1, t2]) (hn : cnt < 150) (h2 : y < 150) (ht : tk y = false) : wrM l g yX3_addBelow wsX3_addBelow 0 0 [.ref (t0), .int (nI (x)), .int (nI (y))] (wTim g (t0) (t1) (t2) (fn) (tk) (cnt)) none (fun H1 => gP g (wTim g t0 t1 t2 (upd fn cnt (nI x)) (va_up tk y true) (cnt + 1)) H1) ([t0, t1, t2]) := by
  refine wr_of (cc := cX3_addBelow) (maxL := 4) (ret := none) (by decide) rfl (Nat.le_of_ble_eq_true rfl) (fun p e s m below meth c ls hx hb hr hml hts hown hlocks hl hP hE hS => ?_)
  have hl : lv_has ls 4 [(0, .ref (t0)), (1, .int (nI (x))), (2, .int (nI (y)))] := hl
  have hown : s.vm.findClass RX3 = some m.cls := hown
  have hD : va_D (fun z => z ∈ [t0, t1, t2]) (wTim g t0 t1 t2 fn tk cnt) := D_of hN (fun _ h => h)
  refine lv_aload_n hx hb dX3_addBelow_0 rfl (lv_at hl 0 rfl) ?_
  refine gf (q0 := 0) (ci := 3) (k := 2) (v := .int (nI (cnt))) hx hb hts iX3_addBelow_3 hown hE hP rfl rfl (by decide) mX3_addBelow_19 rfl dX3_addBelow_1 ?_
  refine lv_sipush (v := nI (150)) hx hb dX3_addBelow_4 (by decide) ?_
  refine br_geN (a := cnt) (b := 150) (tgt := 25) hx hb (by omega) (by omega) dX3_addBelow_7 (by decide) (fun h38 => ?_) (fun h38 => ?_)
  · exact absurd h38 (by omega)
  · refine lv_iload_n hx hb dX3_addBelow_10 rfl (lv_at hl 2 rfl) ?_
    refine br_lt0 (tgt := 25) hx hb (by omega) dX3_addBelow_11 (by decide) (fun h39 => ?_) (fun h39 => ?_)
    · exact h39.elim
    · refine lv_iload_n hx hb dX3_addBelow_14 rfl (lv_at hl 2 rfl) ?_
      refine lv_sipush (v := nI (150)) hx hb dX3_addBelow_15 (by decide) ?_
      refine br_geN (a := y) (b := 150) (tgt := 25) hx hb (by omega) (by omega) dX3_addBelow_18 (by decide) (fun h40 => ?_) (fun h40 => ?_)
      · exact absurd h40 (by omega)
      · refine lv_iconst (v := bI (true)) hx hb dX3_addBelow_21 (by decide) ?_
        refine lv_goto (tgt := 26) hx hb dX3_addBelow_22 (by decide) ?_
        refine lv_istore_n (lv' := [(3, .int (bI (true))), (0, .ref (t0)), (1, .int (nI (x))), (2, .int (nI (y)))]) hx hb dX3_addBelow_26 rfl hl (by decide) rfl (fun ls hl => ?_)
        refine lv_iload_n hx hb dX3_addBelow_27 rfl (lv_at hl 0 rfl) ?_
        refine br_eqB (tgt := 67) hx hb dX3_addBelow_28 (by decide) (fun h41 => ?_) (fun h41 => ?_)
        · exact absurd h41 (by decide)
        · refine lv_aload_n hx hb dX3_addBelow_31 rfl (lv_at hl 1 rfl) ?_
          refine gf (q0 := 0) (ci := 3) (k := 1) (v := .ref (t2)) hx hb hts iX3_addBelow_3 hown hE hP rfl rfl (by decide) mX3_addBelow_15 rfl dX3_addBelow_32 ?_
          refine lv_iload_n hx hb dX3_addBelow_35 rfl (lv_at hl 3 rfl) ?_
          refine ra_z (q0 := 2) (i := y) hx hb hE hP rfl (by omega) (by decide) dX3_addBelow_36 ?_
          refine br_neB (tgt := 67) hx hb dX3_addBelow_37 (by decide) (fun h42 => ?_) (fun h42 => ?_)
          · exact absurd (ht.symm.trans h42) (by decide)
          · refine lv_aload_n hx hb dX3_addBelow_40 rfl (lv_at hl 1 rfl) ?_
            refine gf (q0 := 0) (ci := 3) (k := 1) (v := .ref (t2)) hx hb hts iX3_addBelow_3 hown hE hP rfl rfl (by decide) mX3_addBelow_15 rfl dX3_addBelow_41 ?_
            refine lv_iload_n hx hb dX3_addBelow_44 rfl (lv_at hl 3 rfl) ?_
            refine lv_iconst (v := bI (true)) hx hb dX3_addBelow_45 (by decide) ?_
            refine wa_z (q0 := 2) (i := y) (b := true) (ws' := wTim g (t0) (t1) (t2) (fn) (va_up (tk) (y) (true)) (cnt)) hx hb hE hP hD hS rfl rfl (by omega) (by decide) dX3_addBelow_46 (fun H locs hP hD hS => ?_)
            refine lv_aload_n hx hb dX3_addBelow_47 rfl (lv_at hl 1 rfl) ?_
            refine gf (q0 := 0) (ci := 3) (k := 0) (v := .ref (t1)) hx hb hts iX3_addBelow_3 hown hE hP rfl rfl (by decide) mX3_addBelow_9 rfl dX3_addBelow_48 ?_
            refine lv_aload_n hx hb dX3_addBelow_51 rfl (lv_at hl 1 rfl) ?_
            refine gf (q0 := 0) (ci := 3) (k := 2) (v := .int (nI (cnt))) hx hb hts iX3_addBelow_3 hown hE hP rfl rfl (by decide) mX3_addBelow_19 rfl dX3_addBelow_52 ?_
            refine lv_iload_n hx hb dX3_addBelow_55 rfl (lv_at hl 2 rfl) ?_
            refine wa_i (q0 := 1) (i := cnt) (ws' := wTim g (t0) (t1) (t2) (upd (fn) (cnt) (nI (x))) (va_up (tk) (y) (true)) (cnt)) hx hb hE hP hD hS rfl rfl rfl (by omega) (by decide) dX3_addBelow_56 (fun H locs hP hD hS => ?_)
            refine lv_aload_n hx hb dX3_addBelow_57 rfl (lv_at hl 1 rfl) ?_
            refine lv_dup hx hb dX3_addBelow_58 rfl ?_
            refine gf (q0 := 0) (ci := 3) (k := 2) (v := .int (nI (cnt))) hx hb hts iX3_addBelow_3 hown hE hP rfl rfl (by decide) mX3_addBelow_19 rfl dX3_addBelow_59 ?_
            refine lv_iconst (v := nI (1)) hx hb dX3_addBelow_62 (by decide) ?_
            refine lv_iadd hx hb dX3_addBelow_63 ?_
            refine tp_i (nI_add _ _) ?_
            refine pf (q0 := 0) (ci := 3) (k := 2) (ws' := wTim g (t0) (t1) (t2) (upd (fn) (cnt) (nI (x))) (va_up (tk) (y) (true)) (cnt + 1)) hx hb hts iX3_addBelow_3 hown hE hP hD hS rfl rfl (by decide) tyX3_ok nmX3 mX3_addBelow_19 rfl (by decide +kernel) (Nat.le_of_ble_eq_true rfl) rfl dX3_addBelow_64 (fun H locs hP hD hS => ?_)
            exact wr_retv hx hb hr hlocks hS hP dX3_addBelow_67
end
section
/-! Plain facts of counts, floors, rows and timelines. -/
theorem cN_mono (P : Nat → Bool) {a b : Nat} (h : a ≤ b) : cN P a ≤ cN P b := by
  induction h with
  | refl => exact Nat.le_refl _
  | step _ ih => exact Nat.le_trans ih (by simp only [cN]; omega)
theorem cN_add (P : Nat → Bool) (a d : Nat) : cN P (a + d) ≤ cN P a + d := by
  induction d with
  | zero => exact Nat.le_refl _
  | succ d ih =>
    show cN P (a + d) + (if P (a + d) then 1 else 0) ≤ cN P a + (d + 1)
    split <;> omega
theorem cN_up (P : Nat → Bool) {a b : Nat} (h : a < b) (hp : P a = true) : cN P a + 1 ≤ cN P b := by
  rw [← cN_t hp]
  exact cN_mono P h
theorem cN_congr {P P' : Nat → Bool} (n : Nat) (h : ∀ k, k < n → P k = P' k) : cN P n = cN P' n := by
  induction n with
  | zero => rfl
  | succ k ih => simp only [cN]; rw [ih (fun j hj => h j (by omega)), h k (by omega)]
theorem cN_zero {P : Nat → Bool} (n : Nat) (h : ∀ k, k < n → P k = false) : cN P n = 0 := by
  induction n with
  | zero => rfl
  | succ k ih => simp only [cN]; rw [ih (fun j hj => h j (by omega)), h k (by omega)]; rfl
theorem cN_above {P : Nat → Bool} {a b : Nat} (hab : a ≤ b) (h : ∀ k, a ≤ k → k < b → P k = false) : cN P b = cN P a := by
  induction hab with
  | refl => rfl
  | @step k hk ih => simp only [cN]; rw [ih (fun j h1 h2 => h j h1 (by omega)), h k hk (by omega)]; rfl
theorem cN_sel (P : Nat → Bool) (f n t : Nat) (hf : f ≤ n) (h : t < cN P n - cN P f) : ∃ e, f ≤ e ∧ e < n ∧ P e = true ∧ cN P n - cN P (e + 1) = t := by
  induction n generalizing t with
  | zero => simp [cN] at h
  | succ k ih =>
    rcases Nat.lt_or_ge k f with q | q
    · have : f = k + 1 := by omega
      subst this
      omega
    · cases hp : P k with
      | true =>
        cases t with
        | zero => exact ⟨k, q, by omega, hp, by omega⟩
        | succ u =>
          have h1 := cN_t hp
          obtain ⟨e, h2, h3, h4, h5⟩ := ih u q (by omega)
          have := cN_mono P (show e + 1 ≤ k by omega)
          exact ⟨e, h2, by omega, h4, by omega⟩
      | false =>
        have h1 := cN_f hp
        obtain ⟨e, h2, h3, h4, h5⟩ := ih t q (by omega)
        exact ⟨e, h2, by omega, h4, by omega⟩
theorem cN_inj (P : Nat → Bool) {a b : Nat} (ha : P a = true) (hb : P b = true) (h : cN P (a + 1) = cN P (b + 1)) : a = b := by
  rcases Nat.lt_trichotomy a b with q | q | q
  · have := cN_up P q ha
    have h1 := cN_t ha
    have h2 := cN_t hb
    omega
  · exact q
  · have := cN_up P q hb
    have h1 := cN_t ha
    have h2 := cN_t hb
    omega
theorem exB_iff (P : Nat → Bool) (n : Nat) : exB P n = true ↔ ∃ k, k < n ∧ P k = true := by
  induction n with
  | zero => simp [exB]
  | succ k ih =>
    simp only [exB, Bool.or_eq_true, ih]
    constructor
    · rintro (⟨j, h1, h2⟩ | h)
      · exact ⟨j, by omega, h2⟩
      · exact ⟨k, by omega, h⟩
    · rintro ⟨j, h1, h2⟩
      rcases Nat.lt_or_ge j k with q | q
      · exact Or.inl ⟨j, q, h2⟩
      · have : j = k := by omega
        subst this
        exact Or.inr h2
theorem exB_false {P : Nat → Bool} {n : Nat} : exB P n = false ↔ ∀ k, k < n → P k = false := by
  constructor
  · intro h k hk
    cases hp : P k with
    | false => rfl
    | true => rw [(exB_iff P n).mpr ⟨k, hk, hp⟩] at h; cases h
  · intro h
    cases he : exB P n with
    | false => rfl
    | true =>
      obtain ⟨k, hk, hp⟩ := (exB_iff P n).mp he
      rw [h k hk] at hp; cases hp
theorem exB_congr {P P' : Nat → Bool} (n : Nat) (h : ∀ k, k < n → P k = P' k) : exB P n = exB P' n := by
  induction n with
  | zero => rfl
  | succ k ih => simp only [exB]; rw [ih (fun j hj => h j (by omega)), h k (by omega)]
-- floors
def nflD (P : Nat → Bool) (f r : Nat) : Nat → Nat → Nat
  | 0, _ => f
  | k + 1, c => if k + 1 ≤ f then f else if P k then (if r ≤ c then k + 1 else nflD P f r k (c + 1)) else nflD P f r k c
/-- the floor behind a cut: from f, over n entries, with room r -/
def nfl (P : Nat → Bool) (f n r : Nat) : Nat := nflD P f r n 0
def Pnf (P : Nat → Bool) (f n r x : Nat) : Prop := (x = f ∧ cN P n ≤ cN P f + r) ∨ (f < x ∧ x ≤ n ∧ P (x - 1) = true ∧ cN P n = cN P x + r)
theorem nflD_pnf (P : Nat → Bool) (f n r : Nat) : ∀ k c, f ≤ k → k ≤ n → cN P n = cN P k + c → c ≤ r → Pnf P f n r (nflD P f r k c) := by
  intro k
  induction k with
  | zero =>
    intro c h1 h2 h3 h4
    have : f = 0 := by omega
    subst this
    exact Or.inl ⟨rfl, by omega⟩
  | succ j ih =>
    intro c h1 h2 h3 h4
    simp only [nflD]
    by_cases hk : j + 1 ≤ f
    · rw [if_pos hk]
      have : f = j + 1 := by omega
      subst this
      exact Or.inl ⟨rfl, by omega⟩
    · rw [if_neg hk]
      cases hp : P j with
      | true =>
        have h5 := cN_t hp
        simp only [if_true]
        by_cases hr : r ≤ c
        · rw [if_pos hr]
          exact Or.inr ⟨by omega, h2, hp, by omega⟩
        · rw [if_neg hr]
          exact ih (c + 1) (by omega) (by omega) (by omega) (by omega)
      | false =>
        have h5 := cN_f hp
        simp only [Bool.false_eq_true, if_false]
        exact ih c (by omega) (by omega) (by omega) h4
theorem nfl_pnf {P : Nat → Bool} {f n r : Nat} (h : f ≤ n) : Pnf P f n r (nfl P f n r) := nflD_pnf P f n r n 0 h (Nat.le_refl _) (by omega) (Nat.zero_le _)
theorem pnf_uniq {P : Nat → Bool} {f n r x y : Nat} (hx : Pnf P f n r x) (hy : Pnf P f n r y) : x = y := by
  rcases hx with ⟨h1, h2⟩ | ⟨h1, h2, h3, h4⟩ <;> rcases hy with ⟨g1, g2⟩ | ⟨g1, g2, g3, g4⟩
  · omega
  · have := cN_up P (show y - 1 < y by omega) g3
    have := cN_mono P (show f ≤ y - 1 by omega)
    omega
  · have := cN_up P (show x - 1 < x by omega) h3
    have := cN_mono P (show f ≤ x - 1 by omega)
    omega
  · rcases Nat.lt_trichotomy x y with q | q | q
    · have := cN_up P (show y - 1 < y by omega) g3
      have := cN_mono P (show x ≤ y - 1 by omega)
      omega
    · exact q
    · have := cN_up P (show x - 1 < x by omega) h3
      have := cN_mono P (show y ≤ x - 1 by omega)
      omega
theorem nfl_eq {P : Nat → Bool} {f n r x : Nat} (h : f ≤ n) (hx : Pnf P f n r x) : nfl P f n r = x := pnf_uniq (nfl_pnf h) hx
theorem nfl_le {P : Nat → Bool} {f n r : Nat} (h : f ≤ n) : f ≤ nfl P f n r ∧ nfl P f n r ≤ n ∧ cN P n - cN P (nfl P f n r) ≤ r := by
  rcases nfl_pnf (P := P) (r := r) h with ⟨h1, h2⟩ | ⟨h1, h2, h3, h4⟩
  · rw [h1]; omega
  · omega
-- rows
def rowOk (P : Nat → Bool) (f n c : Nat) (fn : Nat → Int32) : Prop := c = cN P n - cN P f ∧ ∀ e, f ≤ e → e < n → P e = true → fn (cN P n - cN P (e + 1)) = nI e
theorem nI_m1 {j : Nat} (h : j < 2 ^ 31) : ¬ (-1 : Int32) = nI j := by
  intro z
  have h1 : (-1 : Int32).toInt = (nI j).toInt := by rw [z]
  rw [nI_toInt h] at h1
  have h2 : (-1 : Int32).toInt = -1 := by decide
  omega
theorem rowOk_push {P : Nat → Bool} {f n c j : Nat} {fn : Nat → Int32} (h : rowOk P f n c fn) (h1 : f ≤ j) (h2 : j < n) (hn : n ≤ 150) : (if cN P n - cN P (j + 1) < c then fn (cN P n - cN P (j + 1)) else (-1)) = nI j ↔ P j = true := by
  obtain ⟨hc, hf⟩ := h
  constructor
  · intro h3
    by_cases h4 : cN P n - cN P (j + 1) < c
    · rw [if_pos h4] at h3
      obtain ⟨e, g1, g2, g3, g4⟩ := cN_sel P f n _ (by omega) (by rw [hc] at h4; exact h4)
      have h5 := hf e g1 g2 g3
      rw [g4, h3] at h5
      have h6 := (nI_eq (by omega) (by omega)).mp h5
      rw [h6]; exact g3
    · rw [if_neg h4] at h3
      exact absurd h3 (nI_m1 (by omega))
  · intro h3
    have g1 := cN_up P h2 h3
    have g2 := cN_mono P h1
    have g3 := cN_t h3
    rw [if_pos (by omega)]
    exact hf j h1 h2 h3
theorem rowOk_stop {P : Nat → Bool} {n k : Nat} {fn : Nat → Int32} {c : Nat} (h : rowOk P k n c fn) (hk : k < n + 1) {j : Nat} (hj : k = j + 1) (hp : P j = false) : rowOk P j n c fn := by
  subst hj
  obtain ⟨hc, hf⟩ := h
  have h1 := cN_f hp
  refine ⟨by omega, fun e h2 h3 h4 => ?_⟩
  rcases Nat.lt_or_ge j e with q | q
  · exact hf e q h3 h4
  · have : e = j := by omega
    subst this
    rw [hp] at h4; cases h4
theorem rowOk_add {P : Nat → Bool} {n j : Nat} {fn : Nat → Int32} {c : Nat} (h : rowOk P (j + 1) n c fn) (hj : j < n) (hp : P j = true) : rowOk P j n (c + 1) (upd fn c (nI j)) := by
  obtain ⟨hc, hf⟩ := h
  have h1 := cN_t hp
  have h0 := cN_up P hj hp
  refine ⟨by omega, fun e h2 h3 h4 => ?_⟩
  rcases Nat.lt_or_ge j e with q | q
  · have g1 := cN_up P h3 h4
    have g2 := cN_mono P (show j + 1 ≤ e by omega)
    have g3 := cN_t h4
    have hne : ¬ cN P n - cN P (e + 1) = c := by omega
    simp only [upd, if_neg hne]
    exact hf e q h3 h4
  · have : e = j := by omega
    subst this
    have he : cN P n - cN P (e + 1) = c := by omega
    simp only [upd, if_pos he]
theorem rowOk_0 {P : Nat → Bool} {n : Nat} {fn : Nat → Int32} : rowOk P n n 0 fn := ⟨by omega, fun e h1 h2 => by omega⟩
-- timelines
def tAdd (σ : St) (q : Nat) (τ : Sc) (x : Nat) : Sc := if hid σ q x || tt τ (so σ x) then τ else uTim τ (upd (tn τ) (tc τ) (nI x)) (va_up (tt τ) (so σ x) true) (tc τ + 1)
def timOk (σ : St) (q k : Nat) (τ : Sc) : Prop := tc τ = cN (shw σ q) (sn σ) - cN (shw σ q) k ∧ (∀ e, k ≤ e → e < sn σ → shw σ q e = true → tn τ (cN (shw σ q) (sn σ) - cN (shw σ q) (e + 1)) = nI e) ∧ ∀ o, o < 150 → tt τ o = exB (fun j => decide (k ≤ j) && (decide (so σ j = o) && due σ q j)) (sn σ)
theorem timOk_0 {σ : St} {q : Nat} {τ : Sc} {fn : Nat → Int32} {tk : Nat → Bool} : timOk σ q (sn σ) (uTim τ fn (clr tk 150) 0) := by
  refine ⟨by show 0 = _; omega, fun e h1 h2 => by omega, fun o ho => ?_⟩
  show clr tk 150 o = _
  simp only [clr, if_pos ho]
  exact (exB_false.mpr (fun k hk => by rw [decide_eq_false (by omega)]; rfl)).symm
theorem timOk_shw {σ : St} {q j : Nat} {τ : Sc} (h : timOk σ q (j + 1) τ) (ho : so σ j < 150) : shw σ q j = (due σ q j && !tt τ (so σ j)) := by
  rw [h.2.2 _ ho]
  simp only [shw]
  congr 2
theorem timOk_skip {σ : St} {q j : Nat} {τ : Sc} (h : timOk σ q (j + 1) τ) (hs : shw σ q j = false) (hd : due σ q j = false ∨ tt τ (so σ j) = true) : timOk σ q j τ := by
  obtain ⟨h1, h2, h3⟩ := h
  have g1 := cN_f hs
  refine ⟨by omega, fun e g2 g3 g4 => ?_, fun o ho => ?_⟩
  · rcases Nat.lt_or_ge j e with z9 | z9
    · exact h2 e z9 g3 g4
    · have : e = j := by omega
      subst this
      rw [hs] at g4; cases g4
  · rw [h3 o ho]
    rcases hd with hd | hd
    · refine exB_congr _ (fun k hk => ?_)
      by_cases hkj : k = j
      · subst hkj; simp [hd]
      · congr 1
        by_cases z : j + 1 ≤ k
        · rw [decide_eq_true z, decide_eq_true (by omega)]
        · rw [decide_eq_false z, decide_eq_false (by omega)]
    · by_cases hoj : o = so σ j
      · subst hoj
        rw [h3 _ ho] at hd
        obtain ⟨k, hk, hp⟩ := (exB_iff _ _).mp hd
        rw [(exB_iff _ _).mpr ⟨k, hk, hp⟩]
        refine ((exB_iff _ _).mpr ⟨k, hk, ?_⟩).symm
        simp only [Bool.and_eq_true, decide_eq_true_eq] at hp ⊢
        exact ⟨by omega, hp.2⟩
      · refine exB_congr _ (fun k hk => ?_)
        by_cases hkj : k = j
        · subst hkj
          rw [decide_eq_false (p := so σ k = o) (fun z => hoj z.symm)]
          simp
        · congr 1
          by_cases z : j + 1 ≤ k
          · rw [decide_eq_true z, decide_eq_true (by omega)]
          · rw [decide_eq_false z, decide_eq_false (by omega)]
theorem timOk_add {σ : St} {q j : Nat} {τ : Sc} (h : timOk σ q (j + 1) τ) (hj : j < sn σ) (hs : shw σ q j = true) (hd : due σ q j = true) : timOk σ q j (uTim τ (upd (tn τ) (tc τ) (nI j)) (va_up (tt τ) (so σ j) true) (tc τ + 1)) := by
  obtain ⟨h1, h2, h3⟩ := h
  have g1 := cN_t hs
  have g0 := cN_up _ hj hs
  refine ⟨by show tc τ + 1 = _; omega, fun e g2 g3 g4 => ?_, fun o ho => ?_⟩
  · show upd (tn τ) (tc τ) (nI j) _ = _
    rcases Nat.lt_or_ge j e with z9 | z9
    · have k1 := cN_up _ g3 g4
      have k2 := cN_mono (shw σ q) (show j + 1 ≤ e by omega)
      have k3 := cN_t g4
      simp only [upd]
      rw [if_neg (by omega)]
      exact h2 e z9 g3 g4
    · have : e = j := by omega
      subst this
      simp only [upd]
      rw [if_pos (by omega)]
  · show va_up (tt τ) (so σ j) true o = _
    by_cases hoj : o = so σ j
    · subst hoj
      simp only [va_up, if_pos]
      refine ((exB_iff _ _).mpr ⟨j, hj, ?_⟩).symm
      simp [hd]
    · simp only [va_up, if_neg hoj]
      rw [h3 o ho]
      refine exB_congr _ (fun k hk => ?_)
      by_cases hkj : k = j
      · subst hkj
        rw [decide_eq_false (p := so σ k = o) (fun z => hoj z.symm)]
        simp
      · congr 1
        by_cases z : j + 1 ≤ k
        · rw [decide_eq_true z, decide_eq_true (by omega)]
        · rw [decide_eq_false z, decide_eq_false (by omega)]
/-- an entry offered, or passed over since it can't be due -/
theorem timOk_step {σ : St} {q j : Nat} {τ : Sc} (h : timOk σ q (j + 1) τ) (hj : j < sn σ) (ho : so σ j < 150) (hf : sf σ q ≤ j) (hF : sF σ (8 * q + sa σ j) = true) : timOk σ q j (tAdd σ q τ j) := by
  have h1 := timOk_shw h ho
  have hd : due σ q j = !hid σ q j := by simp [due, hF, hf]
  cases hh : hid σ q j with
  | true =>
    have hd1 : due σ q j = false := by rw [hd, hh]; rfl
    simp only [tAdd, hh, Bool.true_or, if_true]
    exact timOk_skip h (by rw [h1, hd1]; rfl) (Or.inl hd1)
  | false =>
    have hd1 : due σ q j = true := by rw [hd, hh]; rfl
    cases ht : tt τ (so σ j) with
    | true =>
      simp only [tAdd, hh, ht, Bool.or_true, if_true]
      exact timOk_skip h (by rw [h1, hd1, ht]; rfl) (Or.inr ht)
    | false =>
      simp only [tAdd, hh, ht, Bool.or_false, Bool.false_eq_true, if_false]
      exact timOk_add h hj (by rw [h1, hd1, ht]; rfl) hd1
theorem timOk_pass {σ : St} {q j : Nat} {τ : Sc} (h : timOk σ q (j + 1) τ) (ho : so σ j < 150) (hd : due σ q j = false) : timOk σ q j τ := timOk_skip h (by rw [timOk_shw h ho, hd]; rfl) (Or.inl hd)
/-- the timeline is the entries that show -/
def TL (σ : St) (q : Nat) (τ : Sc) : Prop := tc τ = cN (shw σ q) (sn σ) ∧ ∀ e, e < sn σ → shw σ q e = true → tn τ (cN (shw σ q) (sn σ) - cN (shw σ q) (e + 1)) = nI e
theorem shw_floor {σ : St} {q e : Nat} (h : e < sf σ q) : shw σ q e = false := by
  simp only [shw, due, decide_eq_false (show ¬ sf σ q ≤ e by omega), Bool.false_and]
theorem TL_of {σ : St} {q : Nat} {τ : Sc} (h : timOk σ q (sf σ q) τ) : TL σ q τ := by
  have h0 : cN (shw σ q) (sf σ q) = 0 := cN_zero _ (fun k hk => shw_floor hk)
  refine ⟨by rw [h.1, h0]; rfl, fun e h1 h2 => ?_⟩
  rcases Nat.lt_or_ge e (sf σ q) with z | z
  · rw [shw_floor z] at h2; cases h2
  · exact h.2.1 e z h1 h2
theorem timOk_tc {σ : St} {q k : Nat} {τ : Sc} (h : timOk σ q k τ) (hn : sn σ ≤ 150) : tc τ ≤ 150 := by
  have := cN_le (shw σ q) (sn σ)
  have := h.1
  omega
theorem timOk_tc2 {σ : St} {q j : Nat} {τ : Sc} (h : timOk σ q (j + 1) τ) (hn : sn σ ≤ 150) (hj : j < sn σ) : tc τ < 150 := by
  have h1 := h.1
  have h2 := cN_add (shw σ q) (j + 1) (sn σ - (j + 1))
  rw [show j + 1 + (sn σ - (j + 1)) = sn σ by omega] at h2
  omega
theorem tAdd_rows {σ : St} {q x : Nat} {τ : Sc} : rc (tAdd σ q τ x) = rc τ ∧ rn (tAdd σ q τ x) = rn τ := by
  unfold tAdd
  split
  · exact ⟨rfl, rfl⟩
  · exact ⟨rfl, rfl⟩
-- scratch
theorem upself {α : Type} (f : Nat → α) (k : Nat) : va_up f k (f k) = f := by
  funext j
  by_cases h : j = k
  · subst h; simp [va_up]
  · simp [va_up, h]
theorem va_up_at {α : Type} (f : Nat → α) (k : Nat) (v : α) : va_up f k v k = v := by simp [va_up]
theorem uRow_self (τ : Sc) (q : Nat) : uRow τ q (rc τ q) (rn τ q) = τ := by
  simp only [uRow, upself]
  rfl
theorem uRow_uu (τ : Sc) (q c c' : Nat) (f f' : Nat → Int32) : uRow (uRow τ q c f) q c' f' = uRow τ q c' f' := by
  show (va_up (va_up (rc τ) q c) q c', va_up (va_up (rn τ) q f) q f', _, _, _) = _
  rw [bx_uu, bx_uu]
  rfl
theorem uS_self (σ : St) (q : Nat) : uS σ (va_up (sf σ) q (sf σ q)) = σ := by
  simp only [uS, upself]
  rfl
theorem wF_rowG {g : GT} {ad : Nat → Nat} {σ : St} {τ : Sc} {H : Heap} {q c : Nat} {fn : Nat → Int32} (hq : q < 8) (h : gP g (wF g ad σ (uRow τ q c fn)) H) : gP g (wRow g (ad (15 + 2 * q)) (ad (16 + 2 * q)) q fn c (sf σ q)) H := by
  have h1 := wF_row hq h
  have e1 : rc (uRow τ q c fn) q = c := va_up_at _ _ _
  have e2 : rn (uRow τ q c fn) q = fn := va_up_at _ _ _
  rw [wR, e1, e2] at h1
  exact h1
theorem wF_rowF {g : GT} {ad : Nat → Nat} {σ : St} {τ : Sc} {H H1 : Heap} {q c c' f : Nat} {fn fn' : Nat → Int32} (hN : FN ad 31) (hq : q < 8) (h : gP g (wF g ad σ (uRow τ q c fn)) H) (hk : ∀ x : Nat, x < H.size → ¬ x ∈ [ad (15 + 2 * q), ad (16 + 2 * q)] → H1[x]? = H[x]?) (h1 : gP g (wRow g (ad (15 + 2 * q)) (ad (16 + 2 * q)) q fn' c' f) H1) :
    gP g (wF g ad (uS σ (va_up (sf σ) q f)) (uRow τ q c' fn')) H1 := by
  have h2 := wF_rowU hN hq h hk h1
  rw [uRow_uu] at h2
  exact h2
theorem wF_rowS {g : GT} {ad : Nat → Nat} {σ : St} {τ : Sc} {H H1 : Heap} {q c c' : Nat} {fn fn' : Nat → Int32} (hN : FN ad 31) (hq : q < 8) (h : gP g (wF g ad σ (uRow τ q c fn)) H) (hk : ∀ x : Nat, x < H.size → ¬ x ∈ [ad (15 + 2 * q), ad (16 + 2 * q)] → H1[x]? = H[x]?) (h1 : gP g (wRow g (ad (15 + 2 * q)) (ad (16 + 2 * q)) q fn' c' (sf σ q)) H1) :
    gP g (wF g ad σ (uRow τ q c' fn')) H1 := by
  have h2 := wF_rowF hN hq h hk h1
  rw [uS_self] at h2
  exact h2
theorem as2 {ad : Nat → Nat} {q : Nat} (hq : q < 8) : ∀ x ∈ [ad (15 + 2 * q), ad (16 + 2 * q)], x ∈ fA ad := by
  intro x hx
  simp only [List.mem_cons, List.not_mem_nil, or_false] at hx
  rcases hx with rfl | rfl
  · exact fA_mem (by omega)
  · exact fA_mem (by omega)
theorem nd2 {ad : Nat → Nat} {q : Nat} (hN : FN ad 31) (hq : q < 8) : Nd [ad (15 + 2 * q), ad (16 + 2 * q)] :=
  nd_of hN [15 + 2 * q, 16 + 2 * q] (by simp [va_nd]) (by intro i hi; simp only [List.mem_cons, List.not_mem_nil, or_false] at hi; omega)
theorem asL {ad : Nat → Nat} {is : List Nat} (h : ∀ i ∈ is, i < 31) : ∀ x ∈ is.map ad, x ∈ fA ad := by
  intro x hx
  obtain ⟨i, hi, rfl⟩ := List.mem_map.mp hx
  exact fA_mem (h i hi)
theorem fcnt_le (F : Nat → Bool) (a : Nat) : fcnt F a ≤ 8 := cN_le _ 8
theorem decNF (j : Nat) : nI j + Int32.ofInt (-1) = fI j := by
  show nI j + (-1) = nI j - 1
  rw [Int32.sub_eq_add_neg]
def stlI (σ : St) (i : Nat) : St := uS σ (fun q => if q < i then nfl (el σ q) (sf σ q) (sn σ) (sr σ) else sf σ q)
/-- the state behind a cut of all rows -/
def stl (σ : St) : St := stlI σ 8
theorem stlI_0 (σ : St) : stlI σ 0 = σ := by
  show uS σ (fun q => if q < 0 then _ else sf σ q) = σ
  simp only [Nat.not_lt_zero, if_false]
  rfl
theorem stlI_s {σ : St} {i : Nat} : uS (stlI σ i) (va_up (sf (stlI σ i)) i (nfl (el (stlI σ i) i) (sf (stlI σ i) i) (sn (stlI σ i)) (sr (stlI σ i)))) = stlI σ (i + 1) := by
  have e1 : sf (stlI σ i) i = sf σ i := by show (if i < i then _ else _) = _; rw [if_neg (by omega)]
  rw [e1]
  show (sF σ, sM σ, sB σ, sa σ, so σ, sd σ, sn σ, sk σ, sr σ, va_up (fun q => if q < i then nfl (el σ q) (sf σ q) (sn σ) (sr σ) else sf σ q) i (nfl (el σ i) (sf σ i) (sn σ) (sr σ))) = (sF σ, sM σ, sB σ, sa σ, so σ, sd σ, sn σ, sk σ, sr σ, fun q => if q < i + 1 then nfl (el σ q) (sf σ q) (sn σ) (sr σ) else sf σ q)
  congr 9
  funext j
  by_cases h : j = i
  · subst h; simp [va_up]
  · by_cases h2 : j < i
    · have h3 : j < i + 1 := by omega
      simp [va_up, h, h2, h3]
    · have h3 : ¬ j < i + 1 := by omega
      simp [va_up, h, h2, h3]
theorem Inv_stlI {σ : St} (h : Inv σ) (i : Nat) : Inv (stlI σ i) := by
  obtain ⟨h1, h2, h3, h4, h5, h6, h7, h8⟩ := h
  refine ⟨h1, h2, h3, h4, h5, h6, h7, fun q hq => ?_⟩
  show (if q < i then _ else _) ≤ _
  split
  · exact (nfl_le (h8 q hq)).2.1
  · exact h8 q hq
theorem Inv_stl {σ : St} (h : Inv σ) : Inv (stl σ) := Inv_stlI h 8
def rowsOk (σ : St) (τ : Sc) (i : Nat) : Prop := ∀ q, q < i → rowOk (el σ q) (sf σ q) (sn σ) (rc τ q) (rn τ q)
end
section
theorem mX4_isOverMark_10 : Cond.fieldLink RX4 10 "Followrow" "following" "LFollowrow$Relation;" ∈ wsX4_isOverMark := by decide +kernel
theorem mX4_isOverMark_42 : Cond.fieldLink RX4 42 "Followrow" "mark" "I" ∈ wsX4_isOverMark := by decide +kernel
theorem iX4_isOverMark_4 : ∀ w ∈ wsX40, w ∈ wsX4_isOverMark := by decide +kernel
set_option maxHeartbeats 4000000 in
set_option maxRecDepth 100000 in
/-- isOverMark(y) -/
theorem c_X4_isOverMark (l : Launch) (g : GT) {ad : Nat → Nat} {σ : St} {τ : Sc} (hI : Inv σ) {y : Nat} (h2 : y < 8) : rdM l g yX4_isOverMark wsX4_isOverMark 3 65 [.ref (ad 0), .int (nI (y))] (wF g ad (σ) (τ)) (some (.int (bI (lg σ y)))) := by
  refine rd_of (cc := cX4_isOverMark) (maxL := 2) (ret := (some .boolean)) (by decide) rfl (Nat.le_of_ble_eq_true rfl) (fun p e s m below meth c ls hx hb hr hml hts hown hlocks hl hP hE => ?_)
  have hl : lv_has ls 2 [(0, .ref (ad 0)), (1, .int (nI (y)))] := hl
  have hown : s.vm.findClass RX4 = some m.cls := hown
  obtain ⟨hi1, hi2, hi3, hi4, hi5, hi6, hi7, hi8⟩ := id hI
  refine lv_aload_n hx hb dX4_isOverMark_0 rfl (lv_at hl 0 rfl) ?_
  refine gf (q0 := 0) (ci := 4) (k := 0) (v := .ref (ad 1)) hx hb hts iX4_isOverMark_4 hown hE hP rfl rfl (by decide) mX4_isOverMark_10 rfl dX4_isOverMark_1 ?_
  refine lv_iload_n hx hb dX4_isOverMark_4 rfl (lv_at hl 1 rfl) ?_
  refine rd_goS (rn_V ⟨hx, hb, hml, hown, hts⟩ (c_X1_countTo l g (y := y) (by first | omega | exact hi5 _ | exact hi6 _)) gX4_isOverMark_X1_countTo rfl pX1_countTo ⟨Nat.le_of_ble_eq_true rfl, Nat.le_of_ble_eq_true rfl⟩ ⟨Nat.le_of_ble_eq_true rfl, Nat.le_of_ble_eq_true rfl⟩ (hP.sub (ws' := wRel g (ad 1) (ad 2) (sF σ)) [1, 2] rfl) hE rfl rfl rfl hl.1 rfl (Nat.le_of_ble_eq_true rfl) dX4_isOverMark_5) ?_
  refine lv_aload_n hx hb dX4_isOverMark_8 rfl (lv_at hl 0 rfl) ?_
  refine gf (q0 := 0) (ci := 4) (k := 6) (v := .int (nI (sk σ))) hx hb hts iX4_isOverMark_4 hown hE hP rfl rfl (by decide) mX4_isOverMark_42 rfl dX4_isOverMark_9 ?_
  refine br_leN (a := fcnt (sF σ) (y)) (b := sk σ) (tgt := 19) hx hb (by have := fcnt_le (sF σ) (y); omega) (by omega) dX4_isOverMark_12 (by decide) (fun h43 => ?_) (fun h43 => ?_)
  · refine lv_iconst (v := bI (false)) hx hb dX4_isOverMark_19 (by decide) ?_
    exact rd_retz hx hb hr hlocks (decide_eq_false (p := sk σ < fcnt (sF σ) y) (by omega)).symm dX4_isOverMark_20
  · refine lv_iconst (v := bI (true)) hx hb dX4_isOverMark_15 (by decide) ?_
    refine lv_goto (tgt := 20) hx hb dX4_isOverMark_16 (by decide) ?_
    exact rd_retz hx hb hr hlocks (decide_eq_true (p := sk σ < fcnt (sF σ) y) (by omega)).symm dX4_isOverMark_20
theorem bnt {b : Bool} (h : (!b) = true) : b = false := by cases b <;> simp_all
theorem bnf {b : Bool} (h : (!b) = false) : b = true := by cases b <;> simp_all
theorem mX4_isForRow_10 : Cond.fieldLink RX4 10 "Followrow" "following" "LFollowrow$Relation;" ∈ wsX4_isForRow := by decide +kernel
theorem mX4_isForRow_25 : Cond.fieldLink RX4 25 "Followrow" "ledger" "LFollowrow$Ledger;" ∈ wsX4_isForRow := by decide +kernel
theorem iX4_isForRow_4 : ∀ w ∈ wsX40, w ∈ wsX4_isForRow := by decide +kernel
set_option maxHeartbeats 4000000 in
set_option maxRecDepth 100000 in
/-- isForRow(q, x) -/
theorem c_X4_isForRow (l : Launch) (g : GT) {ad : Nat → Nat} {σ : St} {τ : Sc} (hI : Inv σ) {q x : Nat} (h1 : q < 8) (h2 : x < sn σ) : rdM l g yX4_isForRow wsX4_isForRow 4 86 [.ref (ad 0), .int (nI (q)), .int (nI (x))] (wF g ad (σ) (τ)) (some (.int (bI (el σ q x)))) := by
  refine rd_of (cc := cX4_isForRow) (maxL := 4) (ret := (some .boolean)) (by decide) rfl (Nat.le_of_ble_eq_true rfl) (fun p e s m below meth c ls hx hb hr hml hts hown hlocks hl hP hE => ?_)
  have hl : lv_has ls 4 [(0, .ref (ad 0)), (1, .int (nI (q))), (2, .int (nI (x)))] := hl
  have hown : s.vm.findClass RX4 = some m.cls := hown
  obtain ⟨hi1, hi2, hi3, hi4, hi5, hi6, hi7, hi8⟩ := id hI
  refine lv_aload_n hx hb dX4_isForRow_0 rfl (lv_at hl 0 rfl) ?_
  refine gf (q0 := 0) (ci := 4) (k := 3) (v := .ref (ad 7)) hx hb hts iX4_isForRow_4 hown hE hP rfl rfl (by decide) mX4_isForRow_25 rfl dX4_isForRow_1 ?_
  refine lv_iload_n hx hb dX4_isForRow_4 rfl (lv_at hl 2 rfl) ?_
  refine rd_goS (rn_V ⟨hx, hb, hml, hown, hts⟩ (c_X0_author l g (x := x) (by omega) (by omega)) gX4_isForRow_X0_author rfl pX0_author ⟨Nat.le_of_ble_eq_true rfl, Nat.le_of_ble_eq_true rfl⟩ ⟨Nat.le_of_ble_eq_true rfl, Nat.le_of_ble_eq_true rfl⟩ (hP.sub (ws' := wLed g (ad 7) (ad 8) (ad 9) (ad 10) (sa σ) (so σ) (sd σ) (sn σ)) [7, 8, 9, 10] rfl) hE rfl rfl rfl hl.1 rfl (Nat.le_of_ble_eq_true rfl) dX4_isForRow_5) ?_
  refine lv_istore_n (lv' := [(3, .int (nI (sa σ x))), (0, .ref (ad 0)), (1, .int (nI (q))), (2, .int (nI (x)))]) hx hb dX4_isForRow_8 rfl hl (by decide) rfl (fun ls hl => ?_)
  refine lv_aload_n hx hb dX4_isForRow_9 rfl (lv_at hl 1 rfl) ?_
  refine gf (q0 := 0) (ci := 4) (k := 3) (v := .ref (ad 7)) hx hb hts iX4_isForRow_4 hown hE hP rfl rfl (by decide) mX4_isForRow_25 rfl dX4_isForRow_10 ?_
  refine lv_iload_n hx hb dX4_isForRow_13 rfl (lv_at hl 3 rfl) ?_
  refine rd_goS (rn_V ⟨hx, hb, hml, hown, hts⟩ (c_X0_stands l g (x := x) (by omega) (by omega)) gX4_isForRow_X0_stands rfl pX0_stands ⟨Nat.le_of_ble_eq_true rfl, Nat.le_of_ble_eq_true rfl⟩ ⟨Nat.le_of_ble_eq_true rfl, Nat.le_of_ble_eq_true rfl⟩ (hP.sub (ws' := wLed g (ad 7) (ad 8) (ad 9) (ad 10) (sa σ) (so σ) (sd σ) (sn σ)) [7, 8, 9, 10] rfl) hE rfl rfl rfl hl.1 rfl (Nat.le_of_ble_eq_true rfl) dX4_isForRow_14) ?_
  refine br_eqB (tgt := 44) hx hb dX4_isForRow_17 (by decide) (fun h44 => ?_) (fun h44 => ?_)
  · refine lv_iconst (v := bI (false)) hx hb dX4_isForRow_44 (by decide) ?_
    exact rd_retz hx hb hr hlocks (by simp [el, bnf h44]) dX4_isForRow_45
  · refine lv_aload_n hx hb dX4_isForRow_20 rfl (lv_at hl 1 rfl) ?_
    refine gf (q0 := 0) (ci := 4) (k := 0) (v := .ref (ad 1)) hx hb hts iX4_isForRow_4 hown hE hP rfl rfl (by decide) mX4_isForRow_10 rfl dX4_isForRow_21 ?_
    refine lv_iload_n hx hb dX4_isForRow_24 rfl (lv_at hl 2 rfl) ?_
    refine lv_iload_n hx hb dX4_isForRow_25 rfl (lv_at hl 0 rfl) ?_
    refine rd_goS (rn_V ⟨hx, hb, hml, hown, hts⟩ (c_X1_has l g (x := q) (y := sa σ x) (by first | omega | exact hi5 _ | exact hi6 _) (by first | omega | exact hi5 _ | exact hi6 _)) gX4_isForRow_X1_has rfl pX1_has ⟨Nat.le_of_ble_eq_true rfl, Nat.le_of_ble_eq_true rfl⟩ ⟨Nat.le_of_ble_eq_true rfl, Nat.le_of_ble_eq_true rfl⟩ (hP.sub (ws' := wRel g (ad 1) (ad 2) (sF σ)) [1, 2] rfl) hE rfl rfl rfl hl.1 rfl (Nat.le_of_ble_eq_true rfl) dX4_isForRow_26) ?_
    refine br_eqB (tgt := 44) hx hb dX4_isForRow_29 (by decide) (fun h45 => ?_) (fun h45 => ?_)
    · refine lv_iconst (v := bI (false)) hx hb dX4_isForRow_44 (by decide) ?_
      exact rd_retz hx hb hr hlocks (by simp [el, bnt h44, h45]) dX4_isForRow_45
    · refine lv_aload_n hx hb dX4_isForRow_32 rfl (lv_at hl 1 rfl) ?_
      refine lv_iload_n hx hb dX4_isForRow_33 rfl (lv_at hl 0 rfl) ?_
      refine rd_goS (rn_V ⟨hx, hb, hml, hown, hts⟩ (c_X4_isOverMark l g hI (y := sa σ x) (by first | omega | exact hi5 _ | exact hi6 _)) gX4_isForRow_X4_isOverMark rfl pX4_isOverMark ⟨Nat.le_of_ble_eq_true rfl, Nat.le_of_ble_eq_true rfl⟩ ⟨Nat.le_of_ble_eq_true rfl, Nat.le_of_ble_eq_true rfl⟩ (hP) hE rfl rfl rfl hl.1 rfl (Nat.le_of_ble_eq_true rfl) dX4_isForRow_34) ?_
      refine br_neB (tgt := 44) hx hb dX4_isForRow_37 (by decide) (fun h46 => ?_) (fun h46 => ?_)
      · refine lv_iconst (v := bI (false)) hx hb dX4_isForRow_44 (by decide) ?_
        exact rd_retz hx hb hr hlocks (by simp [el, bnt h44, h45, h46]) dX4_isForRow_45
      · refine lv_iconst (v := bI (true)) hx hb dX4_isForRow_40 (by decide) ?_
        refine lv_goto (tgt := 45) hx hb dX4_isForRow_41 (by decide) ?_
        exact rd_retz hx hb hr hlocks (by simp [el, bnt h44, h45, h46]) dX4_isForRow_45
theorem mX4_isFetched_10 : Cond.fieldLink RX4 10 "Followrow" "following" "LFollowrow$Relation;" ∈ wsX4_isFetched := by decide +kernel
theorem mX4_isFetched_25 : Cond.fieldLink RX4 25 "Followrow" "ledger" "LFollowrow$Ledger;" ∈ wsX4_isFetched := by decide +kernel
theorem iX4_isFetched_4 : ∀ w ∈ wsX40, w ∈ wsX4_isFetched := by decide +kernel
set_option maxHeartbeats 4000000 in
set_option maxRecDepth 100000 in
/-- isFetched(q, x) -/
theorem c_X4_isFetched (l : Launch) (g : GT) {ad : Nat → Nat} {σ : St} {τ : Sc} (hI : Inv σ) {q x : Nat} (h1 : q < 8) (h2 : x < sn σ) : rdM l g yX4_isFetched wsX4_isFetched 4 86 [.ref (ad 0), .int (nI (q)), .int (nI (x))] (wF g ad (σ) (τ)) (some (.int (bI (sF σ (8 * q + sa σ x) && lg σ (sa σ x))))) := by
  refine rd_of (cc := cX4_isFetched) (maxL := 4) (ret := (some .boolean)) (by decide) rfl (Nat.le_of_ble_eq_true rfl) (fun p e s m below meth c ls hx hb hr hml hts hown hlocks hl hP hE => ?_)
  have hl : lv_has ls 4 [(0, .ref (ad 0)), (1, .int (nI (q))), (2, .int (nI (x)))] := hl
  have hown : s.vm.findClass RX4 = some m.cls := hown
  obtain ⟨hi1, hi2, hi3, hi4, hi5, hi6, hi7, hi8⟩ := id hI
  refine lv_aload_n hx hb dX4_isFetched_0 rfl (lv_at hl 0 rfl) ?_
  refine gf (q0 := 0) (ci := 4) (k := 3) (v := .ref (ad 7)) hx hb hts iX4_isFetched_4 hown hE hP rfl rfl (by decide) mX4_isFetched_25 rfl dX4_isFetched_1 ?_
  refine lv_iload_n hx hb dX4_isFetched_4 rfl (lv_at hl 2 rfl) ?_
  refine rd_goS (rn_V ⟨hx, hb, hml, hown, hts⟩ (c_X0_author l g (x := x) (by omega) (by omega)) gX4_isFetched_X0_author rfl pX0_author ⟨Nat.le_of_ble_eq_true rfl, Nat.le_of_ble_eq_true rfl⟩ ⟨Nat.le_of_ble_eq_true rfl, Nat.le_of_ble_eq_true rfl⟩ (hP.sub (ws' := wLed g (ad 7) (ad 8) (ad 9) (ad 10) (sa σ) (so σ) (sd σ) (sn σ)) [7, 8, 9, 10] rfl) hE rfl rfl rfl hl.1 rfl (Nat.le_of_ble_eq_true rfl) dX4_isFetched_5) ?_
  refine lv_istore_n (lv' := [(3, .int (nI (sa σ x))), (0, .ref (ad 0)), (1, .int (nI (q))), (2, .int (nI (x)))]) hx hb dX4_isFetched_8 rfl hl (by decide) rfl (fun ls hl => ?_)
  refine lv_aload_n hx hb dX4_isFetched_9 rfl (lv_at hl 1 rfl) ?_
  refine gf (q0 := 0) (ci := 4) (k := 0) (v := .ref (ad 1)) hx hb hts iX4_isFetched_4 hown hE hP rfl rfl (by decide) mX4_isFetched_10 rfl dX4_isFetched_10 ?_
  refine lv_iload_n hx hb dX4_isFetched_13 rfl (lv_at hl 2 rfl) ?_
  refine lv_iload_n hx hb dX4_isFetched_14 rfl (lv_at hl 0 rfl) ?_
  refine rd_goS (rn_V ⟨hx, hb, hml, hown, hts⟩ (c_X1_has l g (x := q) (y := sa σ x) (by first | omega | exact hi5 _ | exact hi6 _) (by first | omega | exact hi5 _ | exact hi6 _)) gX4_isFetched_X1_has rfl pX1_has ⟨Nat.le_of_ble_eq_true rfl, Nat.le_of_ble_eq_true rfl⟩ ⟨Nat.le_of_ble_eq_true rfl, Nat.le_of_ble_eq_true rfl⟩ (hP.sub (ws' := wRel g (ad 1) (ad 2) (sF σ)) [1, 2] rfl) hE rfl rfl rfl hl.1 rfl (Nat.le_of_ble_eq_true rfl) dX4_isFetched_15) ?_
  refine br_eqB (tgt := 33) hx hb dX4_isFetched_18 (by decide) (fun h47 => ?_) (fun h47 => ?_)
  · refine lv_iconst (v := bI (false)) hx hb dX4_isFetched_33 (by decide) ?_
    exact rd_retz hx hb hr hlocks (by simp [Bool.and_eq_true, h47]) dX4_isFetched_34
  · refine lv_aload_n hx hb dX4_isFetched_21 rfl (lv_at hl 1 rfl) ?_
    refine lv_iload_n hx hb dX4_isFetched_22 rfl (lv_at hl 0 rfl) ?_
    refine rd_goS (rn_V ⟨hx, hb, hml, hown, hts⟩ (c_X4_isOverMark l g hI (y := sa σ x) (by first | omega | exact hi5 _ | exact hi6 _)) gX4_isFetched_X4_isOverMark rfl pX4_isOverMark ⟨Nat.le_of_ble_eq_true rfl, Nat.le_of_ble_eq_true rfl⟩ ⟨Nat.le_of_ble_eq_true rfl, Nat.le_of_ble_eq_true rfl⟩ (hP) hE rfl rfl rfl hl.1 rfl (Nat.le_of_ble_eq_true rfl) dX4_isFetched_23) ?_
    refine br_eqB (tgt := 33) hx hb dX4_isFetched_26 (by decide) (fun h48 => ?_) (fun h48 => ?_)
    · refine lv_iconst (v := bI (false)) hx hb dX4_isFetched_33 (by decide) ?_
      exact rd_retz hx hb hr hlocks (by simp [Bool.and_eq_true, h47, h48]) dX4_isFetched_34
    · refine lv_iconst (v := bI (true)) hx hb dX4_isFetched_29 (by decide) ?_
      refine lv_goto (tgt := 34) hx hb dX4_isFetched_30 (by decide) ?_
      exact rd_retz hx hb hr hlocks (by simp [Bool.and_eq_true, h47, h48]) dX4_isFetched_34
theorem mX4_isHidden_16 : Cond.fieldLink RX4 16 "Followrow" "muting" "LFollowrow$Relation;" ∈ wsX4_isHidden := by decide +kernel
theorem mX4_isHidden_19 : Cond.fieldLink RX4 19 "Followrow" "blocking" "LFollowrow$Relation;" ∈ wsX4_isHidden := by decide +kernel
theorem mX4_isHidden_25 : Cond.fieldLink RX4 25 "Followrow" "ledger" "LFollowrow$Ledger;" ∈ wsX4_isHidden := by decide +kernel
theorem iX4_isHidden_4 : ∀ w ∈ wsX40, w ∈ wsX4_isHidden := by decide +kernel
set_option maxHeartbeats 4000000 in
set_option maxRecDepth 100000 in
/-- isHidden(q, x) -/
theorem c_X4_isHidden (l : Launch) (g : GT) {ad : Nat → Nat} {σ : St} {τ : Sc} (hI : Inv σ) {q x : Nat} (h1 : q < 8) (h2 : x < sn σ) : rdM l g yX4_isHidden wsX4_isHidden 2 42 [.ref (ad 0), .int (nI (q)), .int (nI (x))] (wF g ad (σ) (τ)) (some (.int (bI (hid σ q x)))) := by
  refine rd_of (cc := cX4_isHidden) (maxL := 5) (ret := (some .boolean)) (by decide) rfl (Nat.le_of_ble_eq_true rfl) (fun p e s m below meth c ls hx hb hr hml hts hown hlocks hl hP hE => ?_)
  have hl : lv_has ls 5 [(0, .ref (ad 0)), (1, .int (nI (q))), (2, .int (nI (x)))] := hl
  have hown : s.vm.findClass RX4 = some m.cls := hown
  obtain ⟨hi1, hi2, hi3, hi4, hi5, hi6, hi7, hi8⟩ := id hI
  have hox := hi7 x h2
  refine lv_aload_n hx hb dX4_isHidden_0 rfl (lv_at hl 0 rfl) ?_
  refine gf (q0 := 0) (ci := 4) (k := 3) (v := .ref (ad 7)) hx hb hts iX4_isHidden_4 hown hE hP rfl rfl (by decide) mX4_isHidden_25 rfl dX4_isHidden_1 ?_
  refine lv_iload_n hx hb dX4_isHidden_4 rfl (lv_at hl 2 rfl) ?_
  refine rd_goS (rn_V ⟨hx, hb, hml, hown, hts⟩ (c_X0_origin l g (x := x) (by omega) (by omega)) gX4_isHidden_X0_origin rfl pX0_origin ⟨Nat.le_of_ble_eq_true rfl, Nat.le_of_ble_eq_true rfl⟩ ⟨Nat.le_of_ble_eq_true rfl, Nat.le_of_ble_eq_true rfl⟩ (hP.sub (ws' := wLed g (ad 7) (ad 8) (ad 9) (ad 10) (sa σ) (so σ) (sd σ) (sn σ)) [7, 8, 9, 10] rfl) hE rfl rfl rfl hl.1 rfl (Nat.le_of_ble_eq_true rfl) dX4_isHidden_5) ?_
  refine lv_istore_n (lv' := [(3, .int (nI (so σ x))), (0, .ref (ad 0)), (1, .int (nI (q))), (2, .int (nI (x)))]) hx hb dX4_isHidden_8 rfl hl (by decide) rfl (fun ls hl => ?_)
  refine lv_aload_n hx hb dX4_isHidden_9 rfl (lv_at hl 1 rfl) ?_
  refine gf (q0 := 0) (ci := 4) (k := 3) (v := .ref (ad 7)) hx hb hts iX4_isHidden_4 hown hE hP rfl rfl (by decide) mX4_isHidden_25 rfl dX4_isHidden_10 ?_
  refine lv_iload_n hx hb dX4_isHidden_13 rfl (lv_at hl 3 rfl) ?_
  refine rd_goS (rn_V ⟨hx, hb, hml, hown, hts⟩ (c_X0_stands l g (x := x) (by omega) (by omega)) gX4_isHidden_X0_stands rfl pX0_stands ⟨Nat.le_of_ble_eq_true rfl, Nat.le_of_ble_eq_true rfl⟩ ⟨Nat.le_of_ble_eq_true rfl, Nat.le_of_ble_eq_true rfl⟩ (hP.sub (ws' := wLed g (ad 7) (ad 8) (ad 9) (ad 10) (sa σ) (so σ) (sd σ) (sn σ)) [7, 8, 9, 10] rfl) hE rfl rfl rfl hl.1 rfl (Nat.le_of_ble_eq_true rfl) dX4_isHidden_14) ?_
  refine br_eqB (tgt := 31) hx hb dX4_isHidden_17 (by decide) (fun h49 => ?_) (fun h49 => ?_)
  · refine lv_iconst (v := bI (true)) hx hb dX4_isHidden_31 (by decide) ?_
    exact rd_retz hx hb hr hlocks (by simp [hid, bnf h49]) dX4_isHidden_32
  · refine lv_aload_n hx hb dX4_isHidden_20 rfl (lv_at hl 1 rfl) ?_
    refine gf (q0 := 0) (ci := 4) (k := 3) (v := .ref (ad 7)) hx hb hts iX4_isHidden_4 hown hE hP rfl rfl (by decide) mX4_isHidden_25 rfl dX4_isHidden_21 ?_
    refine lv_iload_n hx hb dX4_isHidden_24 rfl (lv_at hl 0 rfl) ?_
    refine rd_goS (rn_V ⟨hx, hb, hml, hown, hts⟩ (c_X0_stands l g (x := so σ x) (by omega) (by omega)) gX4_isHidden_X0_stands rfl pX0_stands ⟨Nat.le_of_ble_eq_true rfl, Nat.le_of_ble_eq_true rfl⟩ ⟨Nat.le_of_ble_eq_true rfl, Nat.le_of_ble_eq_true rfl⟩ (hP.sub (ws' := wLed g (ad 7) (ad 8) (ad 9) (ad 10) (sa σ) (so σ) (sd σ) (sn σ)) [7, 8, 9, 10] rfl) hE rfl rfl rfl hl.1 rfl (Nat.le_of_ble_eq_true rfl) dX4_isHidden_25) ?_
    refine br_neB (tgt := 33) hx hb dX4_isHidden_28 (by decide) (fun h50 => ?_) (fun h50 => ?_)
    · refine lv_aload_n hx hb dX4_isHidden_33 rfl (lv_at hl 1 rfl) ?_
      refine gf (q0 := 0) (ci := 4) (k := 3) (v := .ref (ad 7)) hx hb hts iX4_isHidden_4 hown hE hP rfl rfl (by decide) mX4_isHidden_25 rfl dX4_isHidden_34 ?_
      refine lv_iload_n hx hb dX4_isHidden_37 rfl (lv_at hl 0 rfl) ?_
      refine rd_goS (rn_V ⟨hx, hb, hml, hown, hts⟩ (c_X0_author l g (x := so σ x) (by omega) (by omega)) gX4_isHidden_X0_author rfl pX0_author ⟨Nat.le_of_ble_eq_true rfl, Nat.le_of_ble_eq_true rfl⟩ ⟨Nat.le_of_ble_eq_true rfl, Nat.le_of_ble_eq_true rfl⟩ (hP.sub (ws' := wLed g (ad 7) (ad 8) (ad 9) (ad 10) (sa σ) (so σ) (sd σ) (sn σ)) [7, 8, 9, 10] rfl) hE rfl rfl rfl hl.1 rfl (Nat.le_of_ble_eq_true rfl) dX4_isHidden_38) ?_
      refine lv_istore (lv' := [(4, .int (nI (sa σ (so σ x)))), (3, .int (nI (so σ x))), (0, .ref (ad 0)), (1, .int (nI (q))), (2, .int (nI (x)))]) hx hb dX4_isHidden_41 hl (by decide) rfl (fun ls hl => ?_)
      refine lv_aload_n hx hb dX4_isHidden_43 rfl (lv_at hl 2 rfl) ?_
      refine gf (q0 := 0) (ci := 4) (k := 1) (v := .ref (ad 3)) hx hb hts iX4_isHidden_4 hown hE hP rfl rfl (by decide) mX4_isHidden_16 rfl dX4_isHidden_44 ?_
      refine lv_iload_n hx hb dX4_isHidden_47 rfl (lv_at hl 3 rfl) ?_
      refine lv_aload_n hx hb dX4_isHidden_48 rfl (lv_at hl 2 rfl) ?_
      refine gf (q0 := 0) (ci := 4) (k := 3) (v := .ref (ad 7)) hx hb hts iX4_isHidden_4 hown hE hP rfl rfl (by decide) mX4_isHidden_25 rfl dX4_isHidden_49 ?_
      refine lv_iload_n hx hb dX4_isHidden_52 rfl (lv_at hl 4 rfl) ?_
      refine rd_goS (rn_V ⟨hx, hb, hml, hown, hts⟩ (c_X0_author l g (x := x) (by omega) (by omega)) gX4_isHidden_X0_author rfl pX0_author ⟨Nat.le_of_ble_eq_true rfl, Nat.le_of_ble_eq_true rfl⟩ ⟨Nat.le_of_ble_eq_true rfl, Nat.le_of_ble_eq_true rfl⟩ (hP.sub (ws' := wLed g (ad 7) (ad 8) (ad 9) (ad 10) (sa σ) (so σ) (sd σ) (sn σ)) [7, 8, 9, 10] rfl) hE rfl rfl rfl hl.1 rfl (Nat.le_of_ble_eq_true rfl) dX4_isHidden_53) ?_
      refine rd_goS (rn_V ⟨hx, hb, hml, hown, hts⟩ (c_X1_has l g (x := q) (y := sa σ x) (by first | omega | exact hi5 _ | exact hi6 _) (by first | omega | exact hi5 _ | exact hi6 _)) gX4_isHidden_X1_has rfl pX1_has ⟨Nat.le_of_ble_eq_true rfl, Nat.le_of_ble_eq_true rfl⟩ ⟨Nat.le_of_ble_eq_true rfl, Nat.le_of_ble_eq_true rfl⟩ (hP.sub (ws' := wRel g (ad 3) (ad 4) (sM σ)) [3, 4] rfl) hE rfl rfl rfl hl.1 rfl (Nat.le_of_ble_eq_true rfl) dX4_isHidden_56) ?_
      refine br_neB (tgt := 88) hx hb dX4_isHidden_59 (by decide) (fun h51 => ?_) (fun h51 => ?_)
      · refine lv_iconst (v := bI (true)) hx hb dX4_isHidden_88 (by decide) ?_
        refine lv_goto (tgt := 93) hx hb dX4_isHidden_89 (by decide) ?_
        exact rd_retz hx hb hr hlocks (by simp [hid, bnt h49, bnt h50, h51]) dX4_isHidden_93
      · refine lv_aload_n hx hb dX4_isHidden_62 rfl (lv_at hl 2 rfl) ?_
        refine gf (q0 := 0) (ci := 4) (k := 1) (v := .ref (ad 3)) hx hb hts iX4_isHidden_4 hown hE hP rfl rfl (by decide) mX4_isHidden_16 rfl dX4_isHidden_63 ?_
        refine lv_iload_n hx hb dX4_isHidden_66 rfl (lv_at hl 3 rfl) ?_
        refine lv_iload hx hb dX4_isHidden_67 (lv_at hl 0 rfl) ?_
        refine rd_goS (rn_V ⟨hx, hb, hml, hown, hts⟩ (c_X1_has l g (x := q) (y := sa σ (so σ x)) (by first | omega | exact hi5 _ | exact hi6 _) (by first | omega | exact hi5 _ | exact hi6 _)) gX4_isHidden_X1_has rfl pX1_has ⟨Nat.le_of_ble_eq_true rfl, Nat.le_of_ble_eq_true rfl⟩ ⟨Nat.le_of_ble_eq_true rfl, Nat.le_of_ble_eq_true rfl⟩ (hP.sub (ws' := wRel g (ad 3) (ad 4) (sM σ)) [3, 4] rfl) hE rfl rfl rfl hl.1 rfl (Nat.le_of_ble_eq_true rfl) dX4_isHidden_69) ?_
        refine br_neB (tgt := 88) hx hb dX4_isHidden_72 (by decide) (fun h52 => ?_) (fun h52 => ?_)
        · refine lv_iconst (v := bI (true)) hx hb dX4_isHidden_88 (by decide) ?_
          refine lv_goto (tgt := 93) hx hb dX4_isHidden_89 (by decide) ?_
          exact rd_retz hx hb hr hlocks (by simp [hid, bnt h49, bnt h50, h51, h52]) dX4_isHidden_93
        · refine lv_aload_n hx hb dX4_isHidden_75 rfl (lv_at hl 2 rfl) ?_
          refine gf (q0 := 0) (ci := 4) (k := 2) (v := .ref (ad 5)) hx hb hts iX4_isHidden_4 hown hE hP rfl rfl (by decide) mX4_isHidden_19 rfl dX4_isHidden_76 ?_
          refine lv_iload hx hb dX4_isHidden_79 (lv_at hl 0 rfl) ?_
          refine lv_iload_n hx hb dX4_isHidden_81 rfl (lv_at hl 3 rfl) ?_
          refine rd_goS (rn_V ⟨hx, hb, hml, hown, hts⟩ (c_X1_has l g (x := sa σ (so σ x)) (y := q) (by first | omega | exact hi5 _ | exact hi6 _) (by first | omega | exact hi5 _ | exact hi6 _)) gX4_isHidden_X1_has rfl pX1_has ⟨Nat.le_of_ble_eq_true rfl, Nat.le_of_ble_eq_true rfl⟩ ⟨Nat.le_of_ble_eq_true rfl, Nat.le_of_ble_eq_true rfl⟩ (hP.sub (ws' := wRel g (ad 5) (ad 6) (sB σ)) [5, 6] rfl) hE rfl rfl rfl hl.1 rfl (Nat.le_of_ble_eq_true rfl) dX4_isHidden_82) ?_
          refine br_eqB (tgt := 92) hx hb dX4_isHidden_85 (by decide) (fun h53 => ?_) (fun h53 => ?_)
          · refine lv_iconst (v := bI (false)) hx hb dX4_isHidden_92 (by decide) ?_
            exact rd_retz hx hb hr hlocks (by simp [hid, bnt h49, bnt h50, h51, h52, h53]) dX4_isHidden_93
          · refine lv_iconst (v := bI (true)) hx hb dX4_isHidden_88 (by decide) ?_
            refine lv_goto (tgt := 93) hx hb dX4_isHidden_89 (by decide) ?_
            exact rd_retz hx hb hr hlocks (by simp [hid, bnt h49, bnt h50, h51, h52, h53]) dX4_isHidden_93
    · refine lv_iconst (v := bI (true)) hx hb dX4_isHidden_31 (by decide) ?_
      exact rd_retz hx hb hr hlocks (by simp [hid, bnt h49, bnf h50]) dX4_isHidden_32
theorem mX4_entries_25 : Cond.fieldLink RX4 25 "Followrow" "ledger" "LFollowrow$Ledger;" ∈ wsX4_entries := by decide +kernel
theorem iX4_entries_4 : ∀ w ∈ wsX40, w ∈ wsX4_entries := by decide +kernel
set_option maxHeartbeats 4000000 in
set_option maxRecDepth 100000 in
/-- entries() -/
theorem c_X4_entries (l : Launch) (g : GT) {ad : Nat → Nat} {σ : St} {τ : Sc} (hI : Inv σ) : rdM l g yX4_entries wsX4_entries 1 20 [.ref (ad 0)] (wF g ad (σ) (τ)) (some (.int (nI (sn σ)))) := by
  refine rd_of (cc := cX4_entries) (maxL := 1) (ret := (some .int)) (by decide) rfl (Nat.le_of_ble_eq_true rfl) (fun p e s m below meth c ls hx hb hr hml hts hown hlocks hl hP hE => ?_)
  have hl : lv_has ls 1 [(0, .ref (ad 0))] := hl
  have hown : s.vm.findClass RX4 = some m.cls := hown
  refine lv_aload_n hx hb dX4_entries_0 rfl (lv_at hl 0 rfl) ?_
  refine gf (q0 := 0) (ci := 4) (k := 3) (v := .ref (ad 7)) hx hb hts iX4_entries_4 hown hE hP rfl rfl (by decide) mX4_entries_25 rfl dX4_entries_1 ?_
  refine rd_goS (rn_V ⟨hx, hb, hml, hown, hts⟩ (c_X0_made l g) gX4_entries_X0_made rfl pX0_made ⟨Nat.le_of_ble_eq_true rfl, Nat.le_of_ble_eq_true rfl⟩ ⟨Nat.le_of_ble_eq_true rfl, Nat.le_of_ble_eq_true rfl⟩ (hP.sub (ws' := wLed g (ad 7) (ad 8) (ad 9) (ad 10) (sa σ) (so σ) (sd σ) (sn σ)) [7, 8, 9, 10] rfl) hE rfl rfl rfl hl.1 rfl (Nat.le_of_ble_eq_true rfl) dX4_entries_4) ?_
  exact rd_reti hx hb hr hlocks rfl dX4_entries_7
set_option maxHeartbeats 4000000 in
set_option maxRecDepth 100000 in
/-- countLarge() -/
theorem c_X4_countLarge (l : Launch) (g : GT) {ad : Nat → Nat} {σ : St} {τ : Sc} (hI : Inv σ) : rdM l g yX4_countLarge wsX4_countLarge 4 86 [.ref (ad 0)] (wF g ad (σ) (τ)) (some (.int (nI (cN (lg σ) 8)))) := by
  refine rd_of (cc := cX4_countLarge) (maxL := 3) (ret := (some .int)) (by decide) rfl (Nat.le_of_ble_eq_true rfl) (fun p e s m below meth c ls hx hb hr hml hts hown hlocks hl hP hE => ?_)
  have hl : lv_has ls 3 [(0, .ref (ad 0))] := hl
  have hown : s.vm.findClass RX4 = some m.cls := hown
  obtain ⟨hi1, hi2, hi3, hi4, hi5, hi6, hi7, hi8⟩ := id hI
  refine lv_iconst (v := nI (0)) hx hb dX4_countLarge_0 (by decide) ?_
  refine lv_istore_n (lv' := [(1, .int (nI (0))), (0, .ref (ad 0))]) hx hb dX4_countLarge_1 rfl hl (by decide) rfl (fun ls hl => ?_)
  refine lv_iconst (v := nI (0)) hx hb dX4_countLarge_2 (by decide) ?_
  refine lv_istore_n (lv' := [(2, .int (nI (0))), (1, .int (nI (0))), (0, .ref (ad 0))]) hx hb dX4_countLarge_3 rfl hl (by decide) rfl (fun ls hl => ?_)
  have lp54 : ∀ (n9 i : Nat), 8 - i < n9 → (i ≤ 8) → ∀ ls : Array Slot, lv_has ls 3 [(0, .ref (ad 0)), (1, .int (nI (cN (lg σ) i))), (2, .int (nI (i)))] → W p l e ({ frames := 4, cells := 0, slots := 0, locals := 86 } : Room) s m ([.ref (ad 0)] : List Value).toArray below meth c s.heap [] 0 0 (MQ below (rdQ (some (.int (nI (cN (lg σ) 8))))) ([.ref (ad 0)] : List Value).toArray s 0 0 (fun _ => False)) (F0 m 4 ls []) := by
    intro n9
    induction n9 with
    | zero => intro i h; omega
    | succ n9 ih =>
      intro i h9 hi ls hl
      refine lv_iload_n hx hb dX4_countLarge_4 rfl (lv_at hl 2 rfl) ?_
      refine lv_bipush (v := nI (8)) hx hb dX4_countLarge_5 (by decide) ?_
      refine br_geN (a := i) (b := 8) (tgt := 27) hx hb (by omega) (by omega) dX4_countLarge_7 (by decide) (fun h55 => ?_) (fun h55 => ?_)
      · refine lv_iload_n hx hb dX4_countLarge_27 rfl (lv_at hl 1 rfl) ?_
        exact rd_reti hx hb hr hlocks (by rw [show i = 8 by omega]) dX4_countLarge_28
      · refine lv_aload_n hx hb dX4_countLarge_10 rfl (lv_at hl 0 rfl) ?_
        refine lv_iload_n hx hb dX4_countLarge_11 rfl (lv_at hl 2 rfl) ?_
        refine rd_goS (rn_V ⟨hx, hb, hml, hown, hts⟩ (c_X4_isOverMark l g hI (y := i) (by first | omega | exact hi5 _ | exact hi6 _)) gX4_countLarge_X4_isOverMark rfl pX4_isOverMark ⟨Nat.le_of_ble_eq_true rfl, Nat.le_of_ble_eq_true rfl⟩ ⟨Nat.le_of_ble_eq_true rfl, Nat.le_of_ble_eq_true rfl⟩ (hP) hE rfl rfl rfl hl.1 rfl (Nat.le_of_ble_eq_true rfl) dX4_countLarge_12) ?_
        refine br_eqB (tgt := 21) hx hb dX4_countLarge_15 (by decide) (fun h56 => ?_) (fun h56 => ?_)
        · refine lv_iinc (v := nI (i + 1)) (lv' := [(2, .int (nI (i + 1))), (0, .ref (ad 0)), (1, .int (nI (cN (lg σ) i)))]) hx hb dX4_countLarge_21 hl (k := 2) rfl (inc1 (i)) (by decide) rfl (fun ls hl => ?_)
          refine lv_goto (tgt := 4) hx hb dX4_countLarge_24 (by decide) ?_
          rw [← cN_f (P := lg σ) (k := i) h56] at hl
          exact ih (i + 1) (by omega) (by omega) ls (lv_sub hl [1, 2, 0] rfl)
        · refine lv_iinc (v := nI (cN (lg σ) i + 1)) (lv' := [(1, .int (nI (cN (lg σ) i + 1))), (0, .ref (ad 0)), (2, .int (nI (i)))]) hx hb dX4_countLarge_18 hl (k := 1) rfl (inc1 (cN (lg σ) i)) (by decide) rfl (fun ls hl => ?_)
          refine lv_iinc (v := nI (i + 1)) (lv' := [(2, .int (nI (i + 1))), (1, .int (nI (cN (lg σ) i + 1))), (0, .ref (ad 0))]) hx hb dX4_countLarge_21 hl (k := 2) rfl (inc1 (i)) (by decide) rfl (fun ls hl => ?_)
          refine lv_goto (tgt := 4) hx hb dX4_countLarge_24 (by decide) ?_
          rw [← cN_t (P := lg σ) (k := i) h56] at hl
          exact ih (i + 1) (by omega) (by omega) ls (lv_sub hl [2, 1, 0] rfl)
  exact lp54 (8 + 1) (0) (by omega) (by omega) ls (lv_sub hl [2, 1, 0] rfl)
theorem mX4_settleRow_25 : Cond.fieldLink RX4 25 "Followrow" "ledger" "LFollowrow$Ledger;" ∈ wsX4_settleRow := by decide +kernel
theorem mX4_settleRow_46 : Cond.fieldLink RX4 46 "Followrow" "room" "I" ∈ wsX4_settleRow := by decide +kernel
theorem iX4_settleRow_4 : ∀ w ∈ wsX40, w ∈ wsX4_settleRow := by decide +kernel
set_option maxHeartbeats 4000000 in
set_option maxRecDepth 100000 in
/-- settleRow(row q): the floor is cut, the row has what is above it -/
theorem c_X4_settleRow (l : Launch) (g : GT) {ad : Nat → Nat} {σ : St} {τ : Sc} {q : Nat} (hN : FN ad 31) (hI : Inv σ) (hq : q < 8) : wrM l g yX4_settleRow wsX4_settleRow 5 109 [.ref (ad 0), .ref (ad (15 + 2 * q))] (wF g ad (σ) (τ)) none (fun H1 => ∃ (c : Nat) (fn : Nat → Int32), gP g (wF g ad (uS σ (va_up (sf σ) q (nfl (el σ q) (sf σ q) (sn σ) (sr σ)))) (uRow τ q c fn)) H1 ∧ rowOk (el σ q) (nfl (el σ q) (sf σ q) (sn σ) (sr σ)) (sn σ) c fn) (fA ad) := by
  refine wr_of (cc := cX4_settleRow) (maxL := 4) (ret := none) (by decide) rfl (Nat.le_of_ble_eq_true rfl) (fun p e s m below meth c ls hx hb hr hml hts hown hlocks hl hP hE hS => ?_)
  have hl : lv_has ls 4 [(0, .ref (ad 0)), (1, .ref (ad (15 + 2 * q)))] := hl
  have hown : s.vm.findClass RX4 = some m.cls := hown
  obtain ⟨hi1, hi2, hi3, hi4, hi5, hi6, hi7, hi8⟩ := id hI
  have hfq := hi8 q hq
  have hP : gP g (wF g ad (σ) (uRow τ q (rc τ q) (rn τ q))) s.heap := by rw [uRow_self]; exact hP
  refine lv_aload_n hx hb dX4_settleRow_0 rfl (lv_at hl 1 rfl) ?_
  refine rd_goS (rn_V ⟨hx, hb, hml, hown, hts⟩ (c_X2_floor l g) gX4_settleRow_X2_floor rfl pX2_floor ⟨Nat.le_of_ble_eq_true rfl, Nat.le_of_ble_eq_true rfl⟩ ⟨Nat.le_of_ble_eq_true rfl, Nat.le_of_ble_eq_true rfl⟩ ((wF_rowG hq hP)) hE rfl rfl rfl hl.1 rfl (Nat.le_of_ble_eq_true rfl) dX4_settleRow_1) ?_
  refine lv_istore_n (lv' := [(2, .int (fI (sf σ q))), (0, .ref (ad 0)), (1, .ref (ad (15 + 2 * q)))]) hx hb dX4_settleRow_4 rfl hl (by decide) rfl (fun ls hl => ?_)
  refine lv_aload_n hx hb dX4_settleRow_5 rfl (lv_at hl 2 rfl) ?_
  refine wr_goN (rn_V ⟨hx, hb, hml, hown, hts⟩ (c_X2_empty l g (nd2 hN hq)) gX4_settleRow_X2_empty rfl pX2_empty ⟨Nat.le_of_ble_eq_true rfl, Nat.le_of_ble_eq_true rfl⟩ ⟨Nat.le_of_ble_eq_true rfl, Nat.le_of_ble_eq_true rfl⟩ (wF_rowG hq hP) hE rfl rfl rfl hl.1 rfl (Nat.le_of_ble_eq_true rfl) dX4_settleRow_6) hS (as2 hq) (fun H1 locs1 hB hz hk hS => ?_)
  have hP := wF_rowS hN hq hP hk hB
  have hD : va_D (fun z => z ∈ fA ad) (wF g ad (σ) (uRow τ q (0) (rn τ q))) := wF_D hN
  clear hk hB hz
  generalize H1 = H at hP hS ⊢
  generalize locs1 = locs at hS ⊢
  refine lv_aload_n hx hb dX4_settleRow_9 rfl (lv_at hl 1 rfl) ?_
  refine gf (q0 := 0) (ci := 4) (k := 3) (v := .ref (ad 7)) hx hb hts iX4_settleRow_4 hown hE hP rfl rfl (by decide) mX4_settleRow_25 rfl dX4_settleRow_10 ?_
  refine rd_goS (rn_V ⟨hx, hb, hml, hown, hts⟩ (c_X0_made l g) gX4_settleRow_X0_made rfl pX0_made ⟨Nat.le_of_ble_eq_true rfl, Nat.le_of_ble_eq_true rfl⟩ ⟨Nat.le_of_ble_eq_true rfl, Nat.le_of_ble_eq_true rfl⟩ (hP.sub (ws' := wLed g (ad 7) (ad 8) (ad 9) (ad 10) (sa σ) (so σ) (sd σ) (sn σ)) [7, 8, 9, 10] rfl) hE rfl rfl rfl hl.1 rfl (Nat.le_of_ble_eq_true rfl) dX4_settleRow_13) ?_
  refine lv_iconst (v := nI (1)) hx hb dX4_settleRow_16 (by decide) ?_
  refine lv_isub hx hb dX4_settleRow_17 ?_
  refine tp_i (sub1 (sn σ)) ?_
  refine lv_istore_n (lv' := [(3, .int (fI (sn σ))), (2, .int (fI (sf σ q))), (0, .ref (ad 0)), (1, .ref (ad (15 + 2 * q)))]) hx hb dX4_settleRow_18 rfl hl (by decide) rfl (fun ls hl => ?_)
  have lp57 : ∀ (n9 : Nat) (k : Nat) (c9 : Nat) (fn9 : Nat → Int32), k < n9 → (sf σ q ≤ k) → (k ≤ sn σ) → (rowOk (el σ q) k (sn σ) c9 fn9) → (c9 ≤ sr σ) → ∀ (H : Heap) (locs : List Loc), gP g (wF g ad (σ) (uRow τ q (c9) (fn9))) H → va_D (fun q => q ∈ (fA ad)) (wF g ad (σ) (uRow τ q (c9) (fn9))) → va_S (fun q => q ∈ (fA ad)) s.heap H locs → ∀ ls : Array Slot, lv_has ls 4 [(0, .ref (ad 0)), (1, .ref (ad (15 + 2 * q))), (2, .int (fI (sf σ q))), (3, .int (fI (k)))] → W p l e ({ frames := 5, cells := 0, slots := 0, locals := 109 } : Room) s m ([.ref (ad 0), .ref (ad (15 + 2 * q))] : List Value).toArray below meth c H locs 0 0 (MQ below (wrQ none (fun H1 => ∃ (c : Nat) (fn : Nat → Int32), gP g (wF g ad (uS σ (va_up (sf σ) q (nfl (el σ q) (sf σ q) (sn σ) (sr σ)))) (uRow τ q c fn)) H1 ∧ rowOk (el σ q) (nfl (el σ q) (sf σ q) (sn σ) (sr σ)) (sn σ) c fn) (fA ad)) ([.ref (ad 0), .ref (ad (15 + 2 * q))] : List Value).toArray s 0 0 (fun q => q ∈ (fA ad))) (F0 m 19 ls []) := by
    intro n9
    induction n9 with
    | zero => intro k c9 fn9 h; omega
    | succ n9 ih =>
      intro k c9 fn9 h9 hk1 hk2 hr9 hc9 H locs hP hD hS ls hl
      refine lv_iload_n hx hb dX4_settleRow_19 rfl (lv_at hl 3 rfl) ?_
      refine lv_iload_n hx hb dX4_settleRow_20 rfl (lv_at hl 2 rfl) ?_
      refine br_leF (a := k) (b := sf σ q) (tgt := 64) hx hb (by omega) (by omega) dX4_settleRow_21 (by decide) (fun h58 => ?_) (fun h58 => ?_)
      · have hkf : k = sf σ q := by omega
        subst hkf
        have hpn : Pnf (el σ q) (sf σ q) (sn σ) (sr σ) (sf σ q) := Or.inl ⟨rfl, by have := hr9.1; omega⟩
        have e9 := nfl_eq (by omega) hpn
        exact wr_retv hx hb hr hlocks hS ⟨c9, fn9, by rw [e9, uS_self]; exact hP, by rw [e9]; exact hr9⟩ dX4_settleRow_64
      · obtain ⟨j, rfl⟩ : ∃ j, k = j + 1 := ⟨k - 1, by omega⟩
        have hl : lv_has ls 4 [(0, .ref (ad 0)), (1, .ref (ad (15 + 2 * q))), (2, .int (fI (sf σ q))), (3, .int (nI (j)))] := by rw [fI_succ] at hl; exact hl
        refine lv_aload_n hx hb dX4_settleRow_24 rfl (lv_at hl 0 rfl) ?_
        refine lv_aload_n hx hb dX4_settleRow_25 rfl (lv_at hl 1 rfl) ?_
        refine rd_goS (rn_V ⟨hx, hb, hml, hown, hts⟩ (c_X2_owner l g) gX4_settleRow_X2_owner rfl pX2_owner ⟨Nat.le_of_ble_eq_true rfl, Nat.le_of_ble_eq_true rfl⟩ ⟨Nat.le_of_ble_eq_true rfl, Nat.le_of_ble_eq_true rfl⟩ ((wF_rowG hq hP)) hE rfl rfl rfl hl.1 rfl (Nat.le_of_ble_eq_true rfl) dX4_settleRow_26) ?_
        refine lv_iload_n hx hb dX4_settleRow_29 rfl (lv_at hl 3 rfl) ?_
        refine rd_goS (rn_V ⟨hx, hb, hml, hown, hts⟩ (c_X4_isForRow l g hI (q := q) (x := j) (by omega) (by omega)) gX4_settleRow_X4_isForRow rfl pX4_isForRow ⟨Nat.le_of_ble_eq_true rfl, Nat.le_of_ble_eq_true rfl⟩ ⟨Nat.le_of_ble_eq_true rfl, Nat.le_of_ble_eq_true rfl⟩ (hP) hE rfl rfl rfl hl.1 rfl (Nat.le_of_ble_eq_true rfl) dX4_settleRow_30) ?_
        refine br_eqB (tgt := 58) hx hb dX4_settleRow_33 (by decide) (fun h59 => ?_) (fun h59 => ?_)
        · refine lv_iinc (v := fI (j)) (lv' := [(3, .int (fI (j))), (0, .ref (ad 0)), (1, .ref (ad (15 + 2 * q))), (2, .int (fI (sf σ q)))]) hx hb dX4_settleRow_58 hl (k := 3) rfl (decNF j) (by decide) rfl (fun ls hl => ?_)
          refine lv_goto (tgt := 19) hx hb dX4_settleRow_61 (by decide) ?_
          exact ih j c9 fn9 (by omega) (by omega) (by omega) (rowOk_stop hr9 (by omega) rfl h59) hc9 H locs hP hD hS ls (lv_sub hl [1, 2, 3, 0] rfl)
        · refine lv_aload_n hx hb dX4_settleRow_36 rfl (lv_at hl 1 rfl) ?_
          refine rd_goS (rn_V ⟨hx, hb, hml, hown, hts⟩ (c_X2_count l g) gX4_settleRow_X2_count rfl pX2_count ⟨Nat.le_of_ble_eq_true rfl, Nat.le_of_ble_eq_true rfl⟩ ⟨Nat.le_of_ble_eq_true rfl, Nat.le_of_ble_eq_true rfl⟩ ((wF_rowG hq hP)) hE rfl rfl rfl hl.1 rfl (Nat.le_of_ble_eq_true rfl) dX4_settleRow_37) ?_
          refine lv_aload_n hx hb dX4_settleRow_40 rfl (lv_at hl 0 rfl) ?_
          refine gf (q0 := 0) (ci := 4) (k := 7) (v := .int (nI (sr σ))) hx hb hts iX4_settleRow_4 hown hE hP rfl rfl (by decide) mX4_settleRow_46 rfl dX4_settleRow_41 ?_
          refine br_ltN (a := c9) (b := sr σ) (tgt := 53) hx hb (by omega) (by omega) dX4_settleRow_44 (by decide) (fun h60 => ?_) (fun h60 => ?_)
          · refine lv_aload_n hx hb dX4_settleRow_53 rfl (lv_at hl 1 rfl) ?_
            refine lv_iload_n hx hb dX4_settleRow_54 rfl (lv_at hl 3 rfl) ?_
            refine wr_goN (rn_V ⟨hx, hb, hml, hown, hts⟩ (c_X2_addBelow l g (x := j) (nd2 hN hq) (by omega)) gX4_settleRow_X2_addBelow rfl pX2_addBelow ⟨Nat.le_of_ble_eq_true rfl, Nat.le_of_ble_eq_true rfl⟩ ⟨Nat.le_of_ble_eq_true rfl, Nat.le_of_ble_eq_true rfl⟩ (wF_rowG hq hP) hE rfl rfl rfl hl.1 rfl (Nat.le_of_ble_eq_true rfl) dX4_settleRow_55) hS (as2 hq) (fun H1 locs1 hB hz hk hS => ?_)
            have hP := wF_rowS hN hq hP hk hB
            have hD : va_D (fun z => z ∈ fA ad) (wF g ad (σ) (uRow τ q (c9 + 1) (upd fn9 c9 (nI j)))) := wF_D hN
            clear hk hB hz
            generalize H1 = H at hP hS ⊢
            generalize locs1 = locs at hS ⊢
            refine lv_iinc (v := fI (j)) (lv' := [(3, .int (fI (j))), (0, .ref (ad 0)), (1, .ref (ad (15 + 2 * q))), (2, .int (fI (sf σ q)))]) hx hb dX4_settleRow_58 hl (k := 3) rfl (decNF j) (by decide) rfl (fun ls hl => ?_)
            refine lv_goto (tgt := 19) hx hb dX4_settleRow_61 (by decide) ?_
            exact ih j (c9 + 1) (upd fn9 c9 (nI j)) (by omega) (by omega) (by omega) (rowOk_add hr9 (by omega) h59) (by omega) H locs hP hD hS ls (lv_sub hl [1, 2, 3, 0] rfl)
          · refine lv_aload_n hx hb dX4_settleRow_47 rfl (lv_at hl 1 rfl) ?_
            refine lv_iload_n hx hb dX4_settleRow_48 rfl (lv_at hl 3 rfl) ?_
            refine wr_goN (rn_V ⟨hx, hb, hml, hown, hts⟩ (c_X2_raiseFloor l g (x := j) (nd2 hN hq)) gX4_settleRow_X2_raiseFloor rfl pX2_raiseFloor ⟨Nat.le_of_ble_eq_true rfl, Nat.le_of_ble_eq_true rfl⟩ ⟨Nat.le_of_ble_eq_true rfl, Nat.le_of_ble_eq_true rfl⟩ (wF_rowG hq hP) hE rfl rfl rfl hl.1 rfl (Nat.le_of_ble_eq_true rfl) dX4_settleRow_49) hS (as2 hq) (fun H1 locs1 hB hz hk hS => ?_)
            have hP := wF_rowF hN hq hP hk hB
            have hpn : Pnf (el σ q) (sf σ q) (sn σ) (sr σ) (j + 1) := Or.inr ⟨by omega, by omega, h59, by have := hr9.1; have := cN_mono (el σ q) (show j + 1 ≤ sn σ by omega); omega⟩
            have e9 := nfl_eq (by omega) hpn
            exact wr_retv hx hb hr hlocks hS ⟨c9, fn9, by rw [e9]; exact hP, by rw [e9]; exact hr9⟩ dX4_settleRow_52
  exact lp57 (_ + 1) (sn σ) 0 (rn τ q) (Nat.lt_succ_self _) (by omega) (Nat.le_refl _) rowOk_0 (Nat.zero_le _) _ _ hP hD hS ls (lv_sub hl [2, 3, 1, 0] rfl)
theorem el_stlI (σ : St) (i : Nat) : el (stlI σ i) = el σ := rfl
theorem sn_stlI (σ : St) (i : Nat) : sn (stlI σ i) = sn σ := rfl
theorem sr_stlI (σ : St) (i : Nat) : sr (stlI σ i) = sr σ := rfl
theorem sf_stlI (σ : St) (i : Nat) : sf (stlI σ i) = fun q => if q < i then nfl (el σ q) (sf σ q) (sn σ) (sr σ) else sf σ q := rfl
theorem rows_step {σ : St} {τ : Sc} {i c : Nat} {fn : Nat → Int32} (h : rowsOk (stlI σ i) τ i) (hr : rowOk (el (stlI σ i) i) (nfl (el (stlI σ i) i) (sf (stlI σ i) i) (sn (stlI σ i)) (sr (stlI σ i))) (sn (stlI σ i)) c fn) : rowsOk (stlI σ (i + 1)) (uRow τ i c fn) (i + 1) := by
  intro q hq
  have e0 : ∀ j z, j < z → sf (stlI σ z) j = nfl (el σ j) (sf σ j) (sn σ) (sr σ) := fun j z hj => by
    rw [sf_stlI]
    simp only [if_pos hj]
  rw [el_stlI, sn_stlI, sr_stlI] at hr
  rw [el_stlI, sn_stlI]
  by_cases hqi : q = i
  · subst hqi
    have e1 : rc (uRow τ q c fn) q = c := va_up_at _ _ _
    have e2 : rn (uRow τ q c fn) q = fn := va_up_at _ _ _
    have e3 : sf (stlI σ q) q = sf σ q := by
      rw [sf_stlI]
      simp only [if_neg (Nat.lt_irrefl q)]
    rw [e1, e2, e0 q (q + 1) (by omega)]
    rw [e3] at hr
    exact hr
  · have hlt : q < i := by omega
    have e1 : rc (uRow τ i c fn) q = rc τ q := va_up_ne _ _ hqi
    have e2 : rn (uRow τ i c fn) q = rn τ q := va_up_ne _ _ hqi
    have h1 := h q hlt
    rw [el_stlI, sn_stlI, e0 q i hlt] at h1
    rw [e1, e2, e0 q (i + 1) (by omega)]
    exact h1
theorem mX4_settleRows_31 : Cond.fieldLink RX4 31 "Followrow" "rows" "[LFollowrow$Row;" ∈ wsX4_settleRows := by decide +kernel
theorem iX4_settleRows_4 : ∀ w ∈ wsX40, w ∈ wsX4_settleRows := by decide +kernel
set_option maxHeartbeats 4000000 in
set_option maxRecDepth 100000 in
/-- settleRows(): all rows are cut -/
theorem c_X4_settleRows (l : Launch) (g : GT) {ad : Nat → Nat} {σ : St} {τ : Sc} (hN : FN ad 31) (hI : Inv σ) : wrM l g yX4_settleRows wsX4_settleRows 6 132 [.ref (ad 0)] (wF g ad (σ) (τ)) none (fun H1 => ∃ τ1 : Sc, gP g (wF g ad (stl σ) τ1) H1 ∧ rowsOk (stl σ) τ1 8 ∧ tc τ1 = tc τ) (fA ad) := by
  refine wr_of (cc := cX4_settleRows) (maxL := 5) (ret := none) (by decide) rfl (Nat.le_of_ble_eq_true rfl) (fun p e s m below meth c ls hx hb hr hml hts hown hlocks hl hP hE hS => ?_)
  have hl : lv_has ls 5 [(0, .ref (ad 0))] := hl
  have hown : s.vm.findClass RX4 = some m.cls := hown
  have hD : va_D (fun z => z ∈ fA ad) (wF g ad σ τ) := wF_D hN
  refine lv_aload_n hx hb dX4_settleRows_0 rfl (lv_at hl 0 rfl) ?_
  refine gf (q0 := 0) (ci := 4) (k := 4) (v := .ref (ad 11)) hx hb hts iX4_settleRows_4 hown hE hP rfl rfl (by decide) mX4_settleRows_31 rfl dX4_settleRows_1 ?_
  refine lv_astore_n (lv' := [(1, .ref (ad 11)), (0, .ref (ad 0))]) hx hb dX4_settleRows_4 rfl hl (by decide) rfl (fun ls hl => ?_)
  refine lv_aload_n hx hb dX4_settleRows_5 rfl (lv_at hl 0 rfl) ?_
  refine va_alen (v := nI 8) hx hb hE.1 hP 11 2 rfl rfl rfl dX4_settleRows_6 ?_
  refine lv_istore_n (lv' := [(2, .int (nI (8))), (1, .ref (ad 11)), (0, .ref (ad 0))]) hx hb dX4_settleRows_7 rfl hl (by decide) rfl (fun ls hl => ?_)
  refine lv_iconst (v := nI (0)) hx hb dX4_settleRows_8 (by decide) ?_
  refine lv_istore_n (lv' := [(3, .int (nI (0))), (2, .int (nI (8))), (1, .ref (ad 11)), (0, .ref (ad 0))]) hx hb dX4_settleRows_9 rfl hl (by decide) rfl (fun ls hl => ?_)
  rw [← stlI_0 σ] at hP hD
  have lp61 : ∀ (n9 : Nat) (i : Nat) (τ9 : Sc), 8 - i < n9 → (i ≤ 8) → (rowsOk (stlI σ i) τ9 i) → (tc τ9 = tc τ) → ∀ (H : Heap) (locs : List Loc), gP g (wF g ad (stlI σ i) (τ9)) H → va_D (fun q => q ∈ (fA ad)) (wF g ad (stlI σ i) (τ9)) → va_S (fun q => q ∈ (fA ad)) s.heap H locs → ∀ ls : Array Slot, lv_has ls 5 [(0, .ref (ad 0)), (1, .ref (ad 11)), (2, .int (nI (8))), (3, .int (nI (i)))] → W p l e ({ frames := 6, cells := 0, slots := 0, locals := 132 } : Room) s m ([.ref (ad 0)] : List Value).toArray below meth c H locs 0 0 (MQ below (wrQ none (fun H1 => ∃ τ1 : Sc, gP g (wF g ad (stl σ) τ1) H1 ∧ rowsOk (stl σ) τ1 8 ∧ tc τ1 = tc τ) (fA ad)) ([.ref (ad 0)] : List Value).toArray s 0 0 (fun q => q ∈ (fA ad))) (F0 m 10 ls []) := by
    intro n9
    induction n9 with
    | zero => intro i τ9 h; omega
    | succ n9 ih =>
      intro i τ9 h9 hi hrs9 htm9 H locs hP hD hS ls hl
      refine lv_iload_n hx hb dX4_settleRows_10 rfl (lv_at hl 3 rfl) ?_
      refine lv_iload_n hx hb dX4_settleRows_11 rfl (lv_at hl 2 rfl) ?_
      refine br_geN (a := i) (b := 8) (tgt := 32) hx hb (by omega) (by omega) dX4_settleRows_12 (by decide) (fun h62 => ?_) (fun h62 => ?_)
      · have hi9 : i = 8 := by omega
        subst hi9
        exact wr_retv hx hb hr hlocks hS ⟨τ9, hP, hrs9, htm9⟩ dX4_settleRows_32
      · refine lv_aload_n hx hb dX4_settleRows_15 rfl (lv_at hl 1 rfl) ?_
        refine lv_iload_n hx hb dX4_settleRows_16 rfl (lv_at hl 3 rfl) ?_
        refine ra_q (q0 := 11) (i := i) hx hb hE hP rfl (by omega) (by decide) dX4_settleRows_17 ?_
        show W _ _ _ _ _ _ _ _ _ _ _ _ _ _ _ (F0 m _ ls (.ref (ad (15 + 2 * i)) :: _))
        refine lv_astore (lv' := [(4, .ref (ad (15 + 2 * i))), (0, .ref (ad 0)), (1, .ref (ad 11)), (2, .int (nI (8))), (3, .int (nI (i)))]) hx hb dX4_settleRows_18 hl (by decide) rfl (fun ls hl => ?_)
        refine lv_aload_n hx hb dX4_settleRows_20 rfl (lv_at hl 1 rfl) ?_
        refine lv_aload hx hb dX4_settleRows_21 (lv_at hl 0 rfl) ?_
        refine wr_goN (rn_V ⟨hx, hb, hml, hown, hts⟩ (c_X4_settleRow l g (σ := stlI σ i) (τ := τ9) (q := i) hN (Inv_stlI hI i) (by omega)) gX4_settleRows_X4_settleRow rfl pX4_settleRow ⟨Nat.le_of_ble_eq_true rfl, Nat.le_of_ble_eq_true rfl⟩ ⟨Nat.le_of_ble_eq_true rfl, Nat.le_of_ble_eq_true rfl⟩ hP hE rfl rfl rfl hl.1 rfl (Nat.le_of_ble_eq_true rfl) dX4_settleRows_23) hS (fun x h => h) (fun H1 locs1 hB hz hk hS => ?_)
        obtain ⟨c8, fn8, hP, hro⟩ := hB
        rw [stlI_s] at hP
        have hD : va_D (fun z => z ∈ fA ad) (wF g ad (stlI σ (i + 1)) (uRow τ9 i c8 fn8)) := wF_D hN
        have hrs2 : rowsOk (stlI σ (i + 1)) (uRow τ9 i c8 fn8) (i + 1) := rows_step hrs9 hro
        clear hk hz
        generalize H1 = H at hP hS ⊢
        generalize locs1 = locs at hS ⊢
        refine lv_iinc (v := nI (i + 1)) (lv' := [(3, .int (nI (i + 1))), (4, .ref (ad (15 + 2 * i))), (0, .ref (ad 0)), (1, .ref (ad 11)), (2, .int (nI (8)))]) hx hb dX4_settleRows_26 hl (k := 4) rfl (inc1 (i)) (by decide) rfl (fun ls hl => ?_)
        refine lv_goto (tgt := 10) hx hb dX4_settleRows_29 (by decide) ?_
        exact ih (i + 1) (uRow τ9 i c8 fn8) (by omega) (by omega) hrs2 htm9 H locs hP hD hS ls (lv_sub hl [2, 3, 4, 0] rfl)
  exact lp61 (_ + 1) 0 τ (Nat.lt_succ_self _) (by omega) (fun q h => absurd h (Nat.not_lt_zero q)) rfl _ _ hP hD hS ls (lv_sub hl [3, 2, 1, 0] rfl)
theorem mX4_offer_25 : Cond.fieldLink RX4 25 "Followrow" "ledger" "LFollowrow$Ledger;" ∈ wsX4_offer := by decide +kernel
theorem mX4_offer_38 : Cond.fieldLink RX4 38 "Followrow" "timeline" "LFollowrow$Timeline;" ∈ wsX4_offer := by decide +kernel
theorem iX4_offer_4 : ∀ w ∈ wsX40, w ∈ wsX4_offer := by decide +kernel
set_option maxHeartbeats 4000000 in
set_option maxRecDepth 100000 in
/-- offer(q, x) -/
theorem c_X4_offer (l : Launch) (g : GT) {ad : Nat → Nat} {σ : St} {τ : Sc} {q x : Nat} (hN : FN ad 31) (hI : Inv σ) (hq : q < 8) (h2 : x < sn σ) (h3 : tc τ < 150) : wrM l g yX4_offer wsX4_offer 3 66 [.ref (ad 0), .int (nI (q)), .int (nI (x))] (wF g ad (σ) (τ)) none (fun H1 => gP g (wF g ad σ (tAdd σ q τ x)) H1) (fA ad) := by
  refine wr_of (cc := cX4_offer) (maxL := 3) (ret := none) (by decide) rfl (Nat.le_of_ble_eq_true rfl) (fun p e s m below meth c ls hx hb hr hml hts hown hlocks hl hP hE hS => ?_)
  have hl : lv_has ls 3 [(0, .ref (ad 0)), (1, .int (nI (q))), (2, .int (nI (x)))] := hl
  have hown : s.vm.findClass RX4 = some m.cls := hown
  obtain ⟨hi1, hi2, hi3, hi4, hi5, hi6, hi7, hi8⟩ := id hI
  have hox := hi7 x h2
  refine lv_aload_n hx hb dX4_offer_0 rfl (lv_at hl 0 rfl) ?_
  refine lv_iload_n hx hb dX4_offer_1 rfl (lv_at hl 1 rfl) ?_
  refine lv_iload_n hx hb dX4_offer_2 rfl (lv_at hl 2 rfl) ?_
  refine rd_goS (rn_V ⟨hx, hb, hml, hown, hts⟩ (c_X4_isHidden l g hI (q := q) (x := x) (by omega) (by omega)) gX4_offer_X4_isHidden rfl pX4_isHidden ⟨Nat.le_of_ble_eq_true rfl, Nat.le_of_ble_eq_true rfl⟩ ⟨Nat.le_of_ble_eq_true rfl, Nat.le_of_ble_eq_true rfl⟩ (hP) hE rfl rfl rfl hl.1 rfl (Nat.le_of_ble_eq_true rfl) dX4_offer_3) ?_
  refine br_neB (tgt := 25) hx hb dX4_offer_6 (by decide) (fun h63 => ?_) (fun h63 => ?_)
  · have e9 : tAdd σ q τ x = τ := by simp only [tAdd, h63, Bool.true_or, if_true]
    exact wr_retv hx hb hr hlocks hS (by rw [e9]; exact hP) dX4_offer_25
  · refine lv_aload_n hx hb dX4_offer_9 rfl (lv_at hl 0 rfl) ?_
    refine gf (q0 := 0) (ci := 4) (k := 5) (v := .ref (ad 12)) hx hb hts iX4_offer_4 hown hE hP rfl rfl (by decide) mX4_offer_38 rfl dX4_offer_10 ?_
    refine lv_iload_n hx hb dX4_offer_13 rfl (lv_at hl 2 rfl) ?_
    refine lv_aload_n hx hb dX4_offer_14 rfl (lv_at hl 0 rfl) ?_
    refine gf (q0 := 0) (ci := 4) (k := 3) (v := .ref (ad 7)) hx hb hts iX4_offer_4 hown hE hP rfl rfl (by decide) mX4_offer_25 rfl dX4_offer_15 ?_
    refine lv_iload_n hx hb dX4_offer_18 rfl (lv_at hl 2 rfl) ?_
    refine rd_goS (rn_V ⟨hx, hb, hml, hown, hts⟩ (c_X0_origin l g (x := x) (by omega) (by omega)) gX4_offer_X0_origin rfl pX0_origin ⟨Nat.le_of_ble_eq_true rfl, Nat.le_of_ble_eq_true rfl⟩ ⟨Nat.le_of_ble_eq_true rfl, Nat.le_of_ble_eq_true rfl⟩ (hP.sub (ws' := wLed g (ad 7) (ad 8) (ad 9) (ad 10) (sa σ) (so σ) (sd σ) (sn σ)) [7, 8, 9, 10] rfl) hE rfl rfl rfl hl.1 rfl (Nat.le_of_ble_eq_true rfl) dX4_offer_19) ?_
    cases hT : tt τ (so σ x) with
    | true =>
      refine wr_goN (rn_V ⟨hx, hb, hml, hown, hts⟩ (c_X3_addBelow_t l g (x := x) (y := so σ x) (nd_of hN [12, 13, 14] (by decide) (by decide)) (by omega) (hi6 _) hT) gX4_offer_X3_addBelow rfl pX3_addBelow ⟨Nat.le_of_ble_eq_true rfl, Nat.le_of_ble_eq_true rfl⟩ ⟨Nat.le_of_ble_eq_true rfl, Nat.le_of_ble_eq_true rfl⟩ (hP.sub (ws' := wTim g (ad 12) (ad 13) (ad 14) (tn τ) (tt τ) (tc τ)) [12, 13, 14] rfl) hE rfl rfl rfl hl.1 rfl (Nat.le_of_ble_eq_true rfl) dX4_offer_22) hS (asL (ad := ad) (is := [12, 13, 14]) (by decide)) (fun H1 locs1 hB hz hk hS => ?_)
      have hP := wF_TU hN hP hk hB
      have e9 : tAdd σ q τ x = uTim τ (tn τ) (tt τ) (tc τ) := by simp only [tAdd, h63, hT, Bool.or_true, if_true]; rfl
      rw [← e9] at hP
      exact wr_retv hx hb hr hlocks hS hP dX4_offer_25
    | false =>
      refine wr_goN (rn_V ⟨hx, hb, hml, hown, hts⟩ (c_X3_addBelow_f l g (x := x) (y := so σ x) (nd_of hN [12, 13, 14] (by decide) (by decide)) (by omega) (hi6 _) hT) gX4_offer_X3_addBelow rfl pX3_addBelow ⟨Nat.le_of_ble_eq_true rfl, Nat.le_of_ble_eq_true rfl⟩ ⟨Nat.le_of_ble_eq_true rfl, Nat.le_of_ble_eq_true rfl⟩ (hP.sub (ws' := wTim g (ad 12) (ad 13) (ad 14) (tn τ) (tt τ) (tc τ)) [12, 13, 14] rfl) hE rfl rfl rfl hl.1 rfl (Nat.le_of_ble_eq_true rfl) dX4_offer_22) hS (asL (ad := ad) (is := [12, 13, 14]) (by decide)) (fun H1 locs1 hB hz hk hS => ?_)
      have hP := wF_TU hN hP hk hB
      have e9 : tAdd σ q τ x = uTim τ (upd (tn τ) (tc τ) (nI x)) (va_up (tt τ) (so σ x) true) (tc τ + 1) := by simp only [tAdd, h63, hT, Bool.or_false, Bool.false_eq_true, if_false]
      rw [← e9] at hP
      exact wr_retv hx hb hr hlocks hS hP dX4_offer_25
theorem due_off {σ : St} {q j : Nat} (h1 : el σ q j = false) (h2 : (sF σ (8 * q + sa σ j) && lg σ (sa σ j)) = false) : due σ q j = false := by
  cases hf : sF σ (8 * q + sa σ j) with
  | false => simp [due, hf]
  | true =>
    rw [hf] at h2
    have h3 : lg σ (sa σ j) = false := by simpa using h2
    have h4 : sd σ j = true := by
      cases hz : sd σ j with
      | true => rfl
      | false => simp [el, hz, hf, h3] at h1
    simp [due, hid, h4]
theorem due_off2 {σ : St} {q j : Nat} (hf : sF σ (8 * q + sa σ j) = false) : due σ q j = false := by simp [due, hf]
theorem mX4_readTimeline_25 : Cond.fieldLink RX4 25 "Followrow" "ledger" "LFollowrow$Ledger;" ∈ wsX4_readTimeline := by decide +kernel
theorem mX4_readTimeline_38 : Cond.fieldLink RX4 38 "Followrow" "timeline" "LFollowrow$Timeline;" ∈ wsX4_readTimeline := by decide +kernel
theorem iX4_readTimeline_4 : ∀ w ∈ wsX40, w ∈ wsX4_readTimeline := by decide +kernel
set_option maxHeartbeats 4000000 in
set_option maxRecDepth 100000 in
/-- readTimeline(row q) -/
theorem c_X4_readTimeline (l : Launch) (g : GT) {ad : Nat → Nat} {σ : St} {τ : Sc} {q : Nat} (hN : FN ad 31) (hI : Inv σ) (hq : q < 8) (hrow : rowOk (el σ q) (sf σ q) (sn σ) (rc τ q) (rn τ q)) (hcr : rc τ q ≤ 40) : wrM l g yX4_readTimeline wsX4_readTimeline 5 109 [.ref (ad 0), .ref (ad (15 + 2 * q))] (wF g ad (σ) (τ)) none (fun H1 => ∃ τ1 : Sc, gP g (wF g ad σ τ1) H1 ∧ rc τ1 = rc τ ∧ rn τ1 = rn τ ∧ TL σ q τ1 ∧ tc τ1 ≤ 150) (fA ad) := by
  refine wr_of (cc := cX4_readTimeline) (maxL := 5) (ret := none) (by decide) rfl (Nat.le_of_ble_eq_true rfl) (fun p e s m below meth c ls hx hb hr hml hts hown hlocks hl hP hE hS => ?_)
  have hl : lv_has ls 5 [(0, .ref (ad 0)), (1, .ref (ad (15 + 2 * q)))] := hl
  have hown : s.vm.findClass RX4 = some m.cls := hown
  obtain ⟨hi1, hi2, hi3, hi4, hi5, hi6, hi7, hi8⟩ := id hI
  have hfq := hi8 q hq
  refine lv_aload_n hx hb dX4_readTimeline_0 rfl (lv_at hl 0 rfl) ?_
  refine gf (q0 := 0) (ci := 4) (k := 5) (v := .ref (ad 12)) hx hb hts iX4_readTimeline_4 hown hE hP rfl rfl (by decide) mX4_readTimeline_38 rfl dX4_readTimeline_1 ?_
  refine wr_goN (rn_V ⟨hx, hb, hml, hown, hts⟩ (c_X3_empty l g (nd_of hN [12, 13, 14] (by decide) (by decide))) gX4_readTimeline_X3_empty rfl pX3_empty ⟨Nat.le_of_ble_eq_true rfl, Nat.le_of_ble_eq_true rfl⟩ ⟨Nat.le_of_ble_eq_true rfl, Nat.le_of_ble_eq_true rfl⟩ (hP.sub (ws' := wTim g (ad 12) (ad 13) (ad 14) (tn τ) (tt τ) (tc τ)) [12, 13, 14] rfl) hE rfl rfl rfl hl.1 rfl (Nat.le_of_ble_eq_true rfl) dX4_readTimeline_4) hS (asL (ad := ad) (is := [12, 13, 14]) (by decide)) (fun H1 locs1 hB hz hk hS => ?_)
  have hP := wF_TU hN hP hk hB
  have hD : va_D (fun z => z ∈ fA ad) (wF g ad (σ) (uTim τ (tn τ) (clr (tt τ) 150) 0)) := wF_D hN
  clear hk hB hz
  generalize H1 = H at hP hS ⊢
  generalize locs1 = locs at hS ⊢
  refine lv_iconst (v := nI (0)) hx hb dX4_readTimeline_7 (by decide) ?_
  refine lv_istore_n (lv' := [(2, .int (nI (0))), (0, .ref (ad 0)), (1, .ref (ad (15 + 2 * q)))]) hx hb dX4_readTimeline_8 rfl hl (by decide) rfl (fun ls hl => ?_)
  refine lv_aload_n hx hb dX4_readTimeline_9 rfl (lv_at hl 1 rfl) ?_
  refine gf (q0 := 0) (ci := 4) (k := 3) (v := .ref (ad 7)) hx hb hts iX4_readTimeline_4 hown hE hP rfl rfl (by decide) mX4_readTimeline_25 rfl dX4_readTimeline_10 ?_
  refine rd_goS (rn_V ⟨hx, hb, hml, hown, hts⟩ (c_X0_made l g) gX4_readTimeline_X0_made rfl pX0_made ⟨Nat.le_of_ble_eq_true rfl, Nat.le_of_ble_eq_true rfl⟩ ⟨Nat.le_of_ble_eq_true rfl, Nat.le_of_ble_eq_true rfl⟩ (hP.sub (ws' := wLed g (ad 7) (ad 8) (ad 9) (ad 10) (sa σ) (so σ) (sd σ) (sn σ)) [7, 8, 9, 10] rfl) hE rfl rfl rfl hl.1 rfl (Nat.le_of_ble_eq_true rfl) dX4_readTimeline_13) ?_
  refine lv_iconst (v := nI (1)) hx hb dX4_readTimeline_16 (by decide) ?_
  refine lv_isub hx hb dX4_readTimeline_17 ?_
  refine tp_i (sub1 (sn σ)) ?_
  refine lv_istore_n (lv' := [(3, .int (fI (sn σ))), (2, .int (nI (0))), (0, .ref (ad 0)), (1, .ref (ad (15 + 2 * q)))]) hx hb dX4_readTimeline_18 rfl hl (by decide) rfl (fun ls hl => ?_)
  have hl : lv_has ls 5 [(3, .int (fI (sn σ))), (2, .int (nI (cN (el σ q) (sn σ) - cN (el σ q) (sn σ)))), (0, .ref (ad 0)), (1, .ref (ad (15 + 2 * q)))] := by rw [show cN (el σ q) (sn σ) - cN (el σ q) (sn σ) = 0 by omega]; exact hl
  have lp64 : ∀ (n9 : Nat) (k : Nat) (τ9 : Sc), k < n9 → (sf σ q ≤ k) → (k ≤ sn σ) → (rc τ9 = rc τ) → (rn τ9 = rn τ) → (timOk σ q k τ9) → ∀ (H : Heap) (locs : List Loc), gP g (wF g ad (σ) (τ9)) H → va_D (fun q => q ∈ (fA ad)) (wF g ad (σ) (τ9)) → va_S (fun q => q ∈ (fA ad)) s.heap H locs → ∀ ls : Array Slot, lv_has ls 5 [(0, .ref (ad 0)), (1, .ref (ad (15 + 2 * q))), (2, .int (nI (cN (el σ q) (sn σ) - cN (el σ q) k))), (3, .int (fI (k)))] → W p l e ({ frames := 5, cells := 0, slots := 0, locals := 109 } : Room) s m ([.ref (ad 0), .ref (ad (15 + 2 * q))] : List Value).toArray below meth c H locs 0 0 (MQ below (wrQ none (fun H1 => ∃ τ1 : Sc, gP g (wF g ad σ τ1) H1 ∧ rc τ1 = rc τ ∧ rn τ1 = rn τ ∧ TL σ q τ1 ∧ tc τ1 ≤ 150) (fA ad)) ([.ref (ad 0), .ref (ad (15 + 2 * q))] : List Value).toArray s 0 0 (fun q => q ∈ (fA ad))) (F0 m 19 ls []) := by
    intro n9
    induction n9 with
    | zero => intro k τ9 h; omega
    | succ n9 ih =>
      intro k τ9 h9 hk1 hk2 hr1 hr2 ht9 H locs hP hD hS ls hl
      refine lv_iload_n hx hb dX4_readTimeline_19 rfl (lv_at hl 3 rfl) ?_
      refine lv_aload_n hx hb dX4_readTimeline_20 rfl (lv_at hl 1 rfl) ?_
      refine rd_goS (rn_V ⟨hx, hb, hml, hown, hts⟩ (c_X2_floor l g) gX4_readTimeline_X2_floor rfl pX2_floor ⟨Nat.le_of_ble_eq_true rfl, Nat.le_of_ble_eq_true rfl⟩ ⟨Nat.le_of_ble_eq_true rfl, Nat.le_of_ble_eq_true rfl⟩ ((wF_row hq hP)) hE rfl rfl rfl hl.1 rfl (Nat.le_of_ble_eq_true rfl) dX4_readTimeline_21) ?_
      refine br_leF (a := k) (b := sf σ q) (tgt := 83) hx hb (by omega) (by omega) dX4_readTimeline_24 (by decide) (fun h65 => ?_) (fun h65 => ?_)
      · have hkf : k = sf σ q := by omega
        subst hkf
        exact wr_retv hx hb hr hlocks hS ⟨τ9, hP, hr1, hr2, TL_of ht9, timOk_tc ht9 hi1⟩ dX4_readTimeline_83
      · obtain ⟨j, rfl⟩ : ∃ j, k = j + 1 := ⟨k - 1, by omega⟩
        have hl : lv_has ls 5 [(0, .ref (ad 0)), (1, .ref (ad (15 + 2 * q))), (2, .int (nI (cN (el σ q) (sn σ) - cN (el σ q) (j + 1)))), (3, .int (nI (j)))] := by rw [fI_succ] at hl; exact hl
        have hro : rowOk (el σ q) (sf σ q) (sn σ) (rc τ9 q) (rn τ9 q) := by rw [hr1, hr2]; exact hrow
        have hcn := cN_le (el σ q) (sn σ)
        have hrc40 : rc τ9 q ≤ 40 := by rw [hr1]; exact hcr
        have hroc := hro.1
        have hoj := hi6 j
        refine lv_aload_n hx hb dX4_readTimeline_27 rfl (lv_at hl 1 rfl) ?_
        refine lv_iload_n hx hb dX4_readTimeline_28 rfl (lv_at hl 2 rfl) ?_
        refine rd_goS (rn_V ⟨hx, hb, hml, hown, hts⟩ (c_X2_fromNewest l g (x := cN (el σ q) (sn σ) - cN (el σ q) (j + 1)) (by omega) (by omega)) gX4_readTimeline_X2_fromNewest rfl pX2_fromNewest ⟨Nat.le_of_ble_eq_true rfl, Nat.le_of_ble_eq_true rfl⟩ ⟨Nat.le_of_ble_eq_true rfl, Nat.le_of_ble_eq_true rfl⟩ ((wF_row hq hP)) hE rfl rfl rfl hl.1 rfl (Nat.le_of_ble_eq_true rfl) dX4_readTimeline_29) ?_
        refine lv_iload_n hx hb dX4_readTimeline_32 rfl (lv_at hl 3 rfl) ?_
        refine lv_icmp_ne (tgt := 40) hx hb dX4_readTimeline_33 (by decide) (fun h66 => ?_) (fun h66 => ?_)
        · have hel : el σ q j = false := by cases hz9 : el σ q j with | false => rfl | true => exact absurd ((rowOk_push hro (show sf σ q ≤ j by omega) (show j < sn σ by omega) (by omega)).mpr hz9) h66
          refine lv_iconst (v := bI (false)) hx hb dX4_readTimeline_40 (by decide) ?_
          refine lv_istore (lv' := [(4, .int (bI (false))), (0, .ref (ad 0)), (1, .ref (ad (15 + 2 * q))), (2, .int (nI (cN (el σ q) (sn σ) - cN (el σ q) (j + 1)))), (3, .int (nI (j)))]) hx hb dX4_readTimeline_41 hl (by decide) rfl (fun ls hl => ?_)
          refine lv_iload hx hb dX4_readTimeline_43 (lv_at hl 0 rfl) ?_
          refine br_eqB (tgt := 51) hx hb dX4_readTimeline_45 (by decide) (fun h67 => ?_) (fun h67 => ?_)
          · refine lv_iload hx hb dX4_readTimeline_51 (lv_at hl 0 rfl) ?_
            refine br_neB (tgt := 68) hx hb dX4_readTimeline_53 (by decide) (fun h68 => ?_) (fun h68 => ?_)
            · exact absurd h68 (by decide)
            · refine lv_aload_n hx hb dX4_readTimeline_56 rfl (lv_at hl 1 rfl) ?_
              refine lv_aload_n hx hb dX4_readTimeline_57 rfl (lv_at hl 2 rfl) ?_
              refine rd_goS (rn_V ⟨hx, hb, hml, hown, hts⟩ (c_X2_owner l g) gX4_readTimeline_X2_owner rfl pX2_owner ⟨Nat.le_of_ble_eq_true rfl, Nat.le_of_ble_eq_true rfl⟩ ⟨Nat.le_of_ble_eq_true rfl, Nat.le_of_ble_eq_true rfl⟩ ((wF_row hq hP)) hE rfl rfl rfl hl.1 rfl (Nat.le_of_ble_eq_true rfl) dX4_readTimeline_58) ?_
              refine lv_iload_n hx hb dX4_readTimeline_61 rfl (lv_at hl 4 rfl) ?_
              refine rd_goS (rn_V ⟨hx, hb, hml, hown, hts⟩ (c_X4_isFetched l g hI (q := q) (x := j) (by omega) (by omega)) gX4_readTimeline_X4_isFetched rfl pX4_isFetched ⟨Nat.le_of_ble_eq_true rfl, Nat.le_of_ble_eq_true rfl⟩ ⟨Nat.le_of_ble_eq_true rfl, Nat.le_of_ble_eq_true rfl⟩ (hP) hE rfl rfl rfl hl.1 rfl (Nat.le_of_ble_eq_true rfl) dX4_readTimeline_62) ?_
              refine br_eqB (tgt := 77) hx hb dX4_readTimeline_65 (by decide) (fun h69 => ?_) (fun h69 => ?_)
              · refine lv_iinc (v := fI (j)) (lv' := [(3, .int (fI (j))), (4, .int (bI (false))), (0, .ref (ad 0)), (1, .ref (ad (15 + 2 * q))), (2, .int (nI (cN (el σ q) (sn σ) - cN (el σ q) (j + 1))))]) hx hb dX4_readTimeline_77 hl (k := 4) rfl (decNF j) (by decide) rfl (fun ls hl => ?_)
                refine lv_goto (tgt := 19) hx hb dX4_readTimeline_80 (by decide) ?_
                have hpl : cN (el σ q) (sn σ) - cN (el σ q) (j + 1) = cN (el σ q) (sn σ) - cN (el σ q) j := by have := cN_f hel; omega
                rw [hpl] at hl
                exact ih j τ9 (by omega) (by omega) (by omega) hr1 hr2 (timOk_pass ht9 hoj (due_off hel h69)) H locs hP hD hS ls (lv_sub hl [2, 3, 4, 0] rfl)
              · refine lv_aload_n hx hb dX4_readTimeline_68 rfl (lv_at hl 1 rfl) ?_
                refine lv_aload_n hx hb dX4_readTimeline_69 rfl (lv_at hl 2 rfl) ?_
                refine rd_goS (rn_V ⟨hx, hb, hml, hown, hts⟩ (c_X2_owner l g) gX4_readTimeline_X2_owner rfl pX2_owner ⟨Nat.le_of_ble_eq_true rfl, Nat.le_of_ble_eq_true rfl⟩ ⟨Nat.le_of_ble_eq_true rfl, Nat.le_of_ble_eq_true rfl⟩ ((wF_row hq hP)) hE rfl rfl rfl hl.1 rfl (Nat.le_of_ble_eq_true rfl) dX4_readTimeline_70) ?_
                refine lv_iload_n hx hb dX4_readTimeline_73 rfl (lv_at hl 4 rfl) ?_
                refine wr_goN (rn_V ⟨hx, hb, hml, hown, hts⟩ (c_X4_offer l g (q := q) (x := j) (τ := τ9) hN hI hq (by omega) (timOk_tc2 ht9 (by omega) (by omega))) gX4_readTimeline_X4_offer rfl pX4_offer ⟨Nat.le_of_ble_eq_true rfl, Nat.le_of_ble_eq_true rfl⟩ ⟨Nat.le_of_ble_eq_true rfl, Nat.le_of_ble_eq_true rfl⟩ hP hE rfl rfl rfl hl.1 rfl (Nat.le_of_ble_eq_true rfl) dX4_readTimeline_74) hS (fun x h => h) (fun H1 locs1 hB hz hk hS => ?_)
                have hP : gP g (wF g ad σ (tAdd σ q τ9 j)) H1 := hB
                have hD : va_D (fun z => z ∈ fA ad) (wF g ad σ (tAdd σ q τ9 j)) := wF_D hN
                clear hk hB hz
                generalize H1 = H at hP hS ⊢
                generalize locs1 = locs at hS ⊢
                refine lv_iinc (v := fI (j)) (lv' := [(3, .int (fI (j))), (4, .int (bI (false))), (0, .ref (ad 0)), (1, .ref (ad (15 + 2 * q))), (2, .int (nI (cN (el σ q) (sn σ) - cN (el σ q) (j + 1))))]) hx hb dX4_readTimeline_77 hl (k := 4) rfl (decNF j) (by decide) rfl (fun ls hl => ?_)
                refine lv_goto (tgt := 19) hx hb dX4_readTimeline_80 (by decide) ?_
                have hpl : cN (el σ q) (sn σ) - cN (el σ q) (j + 1) = cN (el σ q) (sn σ) - cN (el σ q) j := by have := cN_f hel; omega
                rw [hpl] at hl
                exact ih j (tAdd σ q τ9 j) (by omega) (by omega) (by omega) (tAdd_rows.1.trans hr1) (tAdd_rows.2.trans hr2) (timOk_step ht9 (by omega) hoj (by omega) (by have := h69; simp only [Bool.and_eq_true] at this; exact this.1)) H locs hP hD hS ls (lv_sub hl [2, 3, 4, 0] rfl)
          · exact absurd h67 (by decide)
        · have hel : el σ q j = true := (rowOk_push hro (show sf σ q ≤ j by omega) (show j < sn σ by omega) (by omega)).mp h66
          refine lv_iconst (v := bI (true)) hx hb dX4_readTimeline_36 (by decide) ?_
          refine lv_goto (tgt := 41) hx hb dX4_readTimeline_37 (by decide) ?_
          refine lv_istore (lv' := [(4, .int (bI (true))), (0, .ref (ad 0)), (1, .ref (ad (15 + 2 * q))), (2, .int (nI (cN (el σ q) (sn σ) - cN (el σ q) (j + 1)))), (3, .int (nI (j)))]) hx hb dX4_readTimeline_41 hl (by decide) rfl (fun ls hl => ?_)
          refine lv_iload hx hb dX4_readTimeline_43 (lv_at hl 0 rfl) ?_
          refine br_eqB (tgt := 51) hx hb dX4_readTimeline_45 (by decide) (fun h70 => ?_) (fun h70 => ?_)
          · exact absurd h70 (by decide)
          · refine lv_iinc (v := nI (cN (el σ q) (sn σ) - cN (el σ q) (j + 1) + 1)) (lv' := [(2, .int (nI (cN (el σ q) (sn σ) - cN (el σ q) (j + 1) + 1))), (4, .int (bI (true))), (0, .ref (ad 0)), (1, .ref (ad (15 + 2 * q))), (3, .int (nI (j)))]) hx hb dX4_readTimeline_48 hl (k := 3) rfl (inc1 (cN (el σ q) (sn σ) - cN (el σ q) (j + 1))) (by decide) rfl (fun ls hl => ?_)
            refine lv_iload hx hb dX4_readTimeline_51 (lv_at hl 1 rfl) ?_
            refine br_neB (tgt := 68) hx hb dX4_readTimeline_53 (by decide) (fun h71 => ?_) (fun h71 => ?_)
            · refine lv_aload_n hx hb dX4_readTimeline_68 rfl (lv_at hl 2 rfl) ?_
              refine lv_aload_n hx hb dX4_readTimeline_69 rfl (lv_at hl 3 rfl) ?_
              refine rd_goS (rn_V ⟨hx, hb, hml, hown, hts⟩ (c_X2_owner l g) gX4_readTimeline_X2_owner rfl pX2_owner ⟨Nat.le_of_ble_eq_true rfl, Nat.le_of_ble_eq_true rfl⟩ ⟨Nat.le_of_ble_eq_true rfl, Nat.le_of_ble_eq_true rfl⟩ ((wF_row hq hP)) hE rfl rfl rfl hl.1 rfl (Nat.le_of_ble_eq_true rfl) dX4_readTimeline_70) ?_
              refine lv_iload_n hx hb dX4_readTimeline_73 rfl (lv_at hl 4 rfl) ?_
              refine wr_goN (rn_V ⟨hx, hb, hml, hown, hts⟩ (c_X4_offer l g (q := q) (x := j) (τ := τ9) hN hI hq (by omega) (timOk_tc2 ht9 (by omega) (by omega))) gX4_readTimeline_X4_offer rfl pX4_offer ⟨Nat.le_of_ble_eq_true rfl, Nat.le_of_ble_eq_true rfl⟩ ⟨Nat.le_of_ble_eq_true rfl, Nat.le_of_ble_eq_true rfl⟩ hP hE rfl rfl rfl hl.1 rfl (Nat.le_of_ble_eq_true rfl) dX4_readTimeline_74) hS (fun x h => h) (fun H1 locs1 hB hz hk hS => ?_)
              have hP : gP g (wF g ad σ (tAdd σ q τ9 j)) H1 := hB
              have hD : va_D (fun z => z ∈ fA ad) (wF g ad σ (tAdd σ q τ9 j)) := wF_D hN
              clear hk hB hz
              generalize H1 = H at hP hS ⊢
              generalize locs1 = locs at hS ⊢
              refine lv_iinc (v := fI (j)) (lv' := [(3, .int (fI (j))), (2, .int (nI (cN (el σ q) (sn σ) - cN (el σ q) (j + 1) + 1))), (4, .int (bI (true))), (0, .ref (ad 0)), (1, .ref (ad (15 + 2 * q)))]) hx hb dX4_readTimeline_77 hl (k := 4) rfl (decNF j) (by decide) rfl (fun ls hl => ?_)
              refine lv_goto (tgt := 19) hx hb dX4_readTimeline_80 (by decide) ?_
              have hpl : cN (el σ q) (sn σ) - cN (el σ q) (j + 1) + 1 = cN (el σ q) (sn σ) - cN (el σ q) j := by have := cN_t hel; have := cN_up _ (show j < sn σ by omega) hel; omega
              rw [hpl] at hl
              exact ih j (tAdd σ q τ9 j) (by omega) (by omega) (by omega) (tAdd_rows.1.trans hr1) (tAdd_rows.2.trans hr2) (timOk_step ht9 (by omega) hoj (by omega) (by have := hel; simp only [el, Bool.and_eq_true] at this; exact this.2.1)) H locs hP hD hS ls (lv_sub hl [3, 4, 1, 0] rfl)
            · exact absurd h71 (by decide)
  exact lp64 (_ + 1) (sn σ) (uTim τ (tn τ) (clr (tt τ) 150) 0) (Nat.lt_succ_self _) hfq (Nat.le_refl _) rfl rfl timOk_0 _ _ hP hD hS ls (lv_sub hl [2, 3, 1, 0] rfl)
theorem mX4_mergeTimeline_10 : Cond.fieldLink RX4 10 "Followrow" "following" "LFollowrow$Relation;" ∈ wsX4_mergeTimeline := by decide +kernel
theorem mX4_mergeTimeline_25 : Cond.fieldLink RX4 25 "Followrow" "ledger" "LFollowrow$Ledger;" ∈ wsX4_mergeTimeline := by decide +kernel
theorem mX4_mergeTimeline_38 : Cond.fieldLink RX4 38 "Followrow" "timeline" "LFollowrow$Timeline;" ∈ wsX4_mergeTimeline := by decide +kernel
theorem iX4_mergeTimeline_4 : ∀ w ∈ wsX40, w ∈ wsX4_mergeTimeline := by decide +kernel
set_option maxHeartbeats 4000000 in
set_option maxRecDepth 100000 in
/-- mergeTimeline(q, its floor) -/
theorem c_X4_mergeTimeline (l : Launch) (g : GT) {ad : Nat → Nat} {σ : St} {τ : Sc} {q : Nat} (hN : FN ad 31) (hI : Inv σ) (hq : q < 8) : wrM l g yX4_mergeTimeline wsX4_mergeTimeline 4 88 [.ref (ad 0), .int (nI (q)), .int (fI (sf σ q))] (wF g ad (σ) (τ)) none (fun H1 => ∃ τ1 : Sc, gP g (wF g ad σ τ1) H1 ∧ rc τ1 = rc τ ∧ rn τ1 = rn τ ∧ TL σ q τ1 ∧ tc τ1 ≤ 150) (fA ad) := by
  refine wr_of (cc := cX4_mergeTimeline) (maxL := 4) (ret := none) (by decide) rfl (Nat.le_of_ble_eq_true rfl) (fun p e s m below meth c ls hx hb hr hml hts hown hlocks hl hP hE hS => ?_)
  have hl : lv_has ls 4 [(0, .ref (ad 0)), (1, .int (nI (q))), (2, .int (fI (sf σ q)))] := hl
  have hown : s.vm.findClass RX4 = some m.cls := hown
  obtain ⟨hi1, hi2, hi3, hi4, hi5, hi6, hi7, hi8⟩ := id hI
  have hfq := hi8 q hq
  refine lv_aload_n hx hb dX4_mergeTimeline_0 rfl (lv_at hl 0 rfl) ?_
  refine gf (q0 := 0) (ci := 4) (k := 5) (v := .ref (ad 12)) hx hb hts iX4_mergeTimeline_4 hown hE hP rfl rfl (by decide) mX4_mergeTimeline_38 rfl dX4_mergeTimeline_1 ?_
  refine wr_goN (rn_V ⟨hx, hb, hml, hown, hts⟩ (c_X3_empty l g (nd_of hN [12, 13, 14] (by decide) (by decide))) gX4_mergeTimeline_X3_empty rfl pX3_empty ⟨Nat.le_of_ble_eq_true rfl, Nat.le_of_ble_eq_true rfl⟩ ⟨Nat.le_of_ble_eq_true rfl, Nat.le_of_ble_eq_true rfl⟩ (hP.sub (ws' := wTim g (ad 12) (ad 13) (ad 14) (tn τ) (tt τ) (tc τ)) [12, 13, 14] rfl) hE rfl rfl rfl hl.1 rfl (Nat.le_of_ble_eq_true rfl) dX4_mergeTimeline_4) hS (asL (ad := ad) (is := [12, 13, 14]) (by decide)) (fun H1 locs1 hB hz hk hS => ?_)
  have hP := wF_TU hN hP hk hB
  have hD : va_D (fun z => z ∈ fA ad) (wF g ad (σ) (uTim τ (tn τ) (clr (tt τ) 150) 0)) := wF_D hN
  clear hk hB hz
  generalize H1 = H at hP hS ⊢
  generalize locs1 = locs at hS ⊢
  refine lv_aload_n hx hb dX4_mergeTimeline_7 rfl (lv_at hl 0 rfl) ?_
  refine gf (q0 := 0) (ci := 4) (k := 3) (v := .ref (ad 7)) hx hb hts iX4_mergeTimeline_4 hown hE hP rfl rfl (by decide) mX4_mergeTimeline_25 rfl dX4_mergeTimeline_8 ?_
  refine rd_goS (rn_V ⟨hx, hb, hml, hown, hts⟩ (c_X0_made l g) gX4_mergeTimeline_X0_made rfl pX0_made ⟨Nat.le_of_ble_eq_true rfl, Nat.le_of_ble_eq_true rfl⟩ ⟨Nat.le_of_ble_eq_true rfl, Nat.le_of_ble_eq_true rfl⟩ (hP.sub (ws' := wLed g (ad 7) (ad 8) (ad 9) (ad 10) (sa σ) (so σ) (sd σ) (sn σ)) [7, 8, 9, 10] rfl) hE rfl rfl rfl hl.1 rfl (Nat.le_of_ble_eq_true rfl) dX4_mergeTimeline_11) ?_
  refine lv_iconst (v := nI (1)) hx hb dX4_mergeTimeline_14 (by decide) ?_
  refine lv_isub hx hb dX4_mergeTimeline_15 ?_
  refine tp_i (sub1 (sn σ)) ?_
  refine lv_istore_n (lv' := [(3, .int (fI (sn σ))), (0, .ref (ad 0)), (1, .int (nI (q))), (2, .int (fI (sf σ q)))]) hx hb dX4_mergeTimeline_16 rfl hl (by decide) rfl (fun ls hl => ?_)
  have lp72 : ∀ (n9 : Nat) (k : Nat) (τ9 : Sc), k < n9 → (sf σ q ≤ k) → (k ≤ sn σ) → (rc τ9 = rc τ) → (rn τ9 = rn τ) → (timOk σ q k τ9) → ∀ (H : Heap) (locs : List Loc), gP g (wF g ad (σ) (τ9)) H → va_D (fun q => q ∈ (fA ad)) (wF g ad (σ) (τ9)) → va_S (fun q => q ∈ (fA ad)) s.heap H locs → ∀ ls : Array Slot, lv_has ls 4 [(0, .ref (ad 0)), (1, .int (nI (q))), (2, .int (fI (sf σ q))), (3, .int (fI (k)))] → W p l e ({ frames := 4, cells := 0, slots := 0, locals := 88 } : Room) s m ([.ref (ad 0), .int (nI (q)), .int (fI (sf σ q))] : List Value).toArray below meth c H locs 0 0 (MQ below (wrQ none (fun H1 => ∃ τ1 : Sc, gP g (wF g ad σ τ1) H1 ∧ rc τ1 = rc τ ∧ rn τ1 = rn τ ∧ TL σ q τ1 ∧ tc τ1 ≤ 150) (fA ad)) ([.ref (ad 0), .int (nI (q)), .int (fI (sf σ q))] : List Value).toArray s 0 0 (fun q => q ∈ (fA ad))) (F0 m 17 ls []) := by
    intro n9
    induction n9 with
    | zero => intro k τ9 h; omega
    | succ n9 ih =>
      intro k τ9 h9 hk1 hk2 hr1 hr2 ht9 H locs hP hD hS ls hl
      refine lv_iload_n hx hb dX4_mergeTimeline_17 rfl (lv_at hl 3 rfl) ?_
      refine lv_iload_n hx hb dX4_mergeTimeline_18 rfl (lv_at hl 2 rfl) ?_
      refine br_leF (a := k) (b := sf σ q) (tgt := 53) hx hb (by omega) (by omega) dX4_mergeTimeline_19 (by decide) (fun h73 => ?_) (fun h73 => ?_)
      · have hkf : k = sf σ q := by omega
        subst hkf
        exact wr_retv hx hb hr hlocks hS ⟨τ9, hP, hr1, hr2, TL_of ht9, timOk_tc ht9 hi1⟩ dX4_mergeTimeline_53
      · obtain ⟨j, rfl⟩ : ∃ j, k = j + 1 := ⟨k - 1, by omega⟩
        have hl : lv_has ls 4 [(0, .ref (ad 0)), (1, .int (nI (q))), (2, .int (fI (sf σ q))), (3, .int (nI (j)))] := by rw [fI_succ] at hl; exact hl
        have hoj := hi6 j
        refine lv_aload_n hx hb dX4_mergeTimeline_22 rfl (lv_at hl 0 rfl) ?_
        refine gf (q0 := 0) (ci := 4) (k := 0) (v := .ref (ad 1)) hx hb hts iX4_mergeTimeline_4 hown hE hP rfl rfl (by decide) mX4_mergeTimeline_10 rfl dX4_mergeTimeline_23 ?_
        refine lv_iload_n hx hb dX4_mergeTimeline_26 rfl (lv_at hl 1 rfl) ?_
        refine lv_aload_n hx hb dX4_mergeTimeline_27 rfl (lv_at hl 0 rfl) ?_
        refine gf (q0 := 0) (ci := 4) (k := 3) (v := .ref (ad 7)) hx hb hts iX4_mergeTimeline_4 hown hE hP rfl rfl (by decide) mX4_mergeTimeline_25 rfl dX4_mergeTimeline_28 ?_
        refine lv_iload_n hx hb dX4_mergeTimeline_31 rfl (lv_at hl 3 rfl) ?_
        refine rd_goS (rn_V ⟨hx, hb, hml, hown, hts⟩ (c_X0_author l g (x := j) (by omega) (by omega)) gX4_mergeTimeline_X0_author rfl pX0_author ⟨Nat.le_of_ble_eq_true rfl, Nat.le_of_ble_eq_true rfl⟩ ⟨Nat.le_of_ble_eq_true rfl, Nat.le_of_ble_eq_true rfl⟩ (hP.sub (ws' := wLed g (ad 7) (ad 8) (ad 9) (ad 10) (sa σ) (so σ) (sd σ) (sn σ)) [7, 8, 9, 10] rfl) hE rfl rfl rfl hl.1 rfl (Nat.le_of_ble_eq_true rfl) dX4_mergeTimeline_32) ?_
        refine rd_goS (rn_V ⟨hx, hb, hml, hown, hts⟩ (c_X1_has l g (x := q) (y := sa σ j) (by first | omega | exact hi5 _ | exact hi6 _) (by first | omega | exact hi5 _ | exact hi6 _)) gX4_mergeTimeline_X1_has rfl pX1_has ⟨Nat.le_of_ble_eq_true rfl, Nat.le_of_ble_eq_true rfl⟩ ⟨Nat.le_of_ble_eq_true rfl, Nat.le_of_ble_eq_true rfl⟩ (hP.sub (ws' := wRel g (ad 1) (ad 2) (sF σ)) [1, 2] rfl) hE rfl rfl rfl hl.1 rfl (Nat.le_of_ble_eq_true rfl) dX4_mergeTimeline_35) ?_
        refine br_eqB (tgt := 47) hx hb dX4_mergeTimeline_38 (by decide) (fun h74 => ?_) (fun h74 => ?_)
        · refine lv_iinc (v := fI (j)) (lv' := [(3, .int (fI (j))), (0, .ref (ad 0)), (1, .int (nI (q))), (2, .int (fI (sf σ q)))]) hx hb dX4_mergeTimeline_47 hl (k := 3) rfl (decNF j) (by decide) rfl (fun ls hl => ?_)
          refine lv_goto (tgt := 17) hx hb dX4_mergeTimeline_50 (by decide) ?_
          exact ih j τ9 (by omega) (by omega) (by omega) hr1 hr2 (timOk_pass ht9 hoj (due_off2 h74)) H locs hP hD hS ls (lv_sub hl [1, 2, 3, 0] rfl)
        · refine lv_aload_n hx hb dX4_mergeTimeline_41 rfl (lv_at hl 0 rfl) ?_
          refine lv_iload_n hx hb dX4_mergeTimeline_42 rfl (lv_at hl 1 rfl) ?_
          refine lv_iload_n hx hb dX4_mergeTimeline_43 rfl (lv_at hl 3 rfl) ?_
          refine wr_goN (rn_V ⟨hx, hb, hml, hown, hts⟩ (c_X4_offer l g (q := q) (x := j) (τ := τ9) hN hI hq (by omega) (timOk_tc2 ht9 (by omega) (by omega))) gX4_mergeTimeline_X4_offer rfl pX4_offer ⟨Nat.le_of_ble_eq_true rfl, Nat.le_of_ble_eq_true rfl⟩ ⟨Nat.le_of_ble_eq_true rfl, Nat.le_of_ble_eq_true rfl⟩ hP hE rfl rfl rfl hl.1 rfl (Nat.le_of_ble_eq_true rfl) dX4_mergeTimeline_44) hS (fun x h => h) (fun H1 locs1 hB hz hk hS => ?_)
          have hP : gP g (wF g ad σ (tAdd σ q τ9 j)) H1 := hB
          have hD : va_D (fun z => z ∈ fA ad) (wF g ad σ (tAdd σ q τ9 j)) := wF_D hN
          clear hk hB hz
          generalize H1 = H at hP hS ⊢
          generalize locs1 = locs at hS ⊢
          refine lv_iinc (v := fI (j)) (lv' := [(3, .int (fI (j))), (0, .ref (ad 0)), (1, .int (nI (q))), (2, .int (fI (sf σ q)))]) hx hb dX4_mergeTimeline_47 hl (k := 3) rfl (decNF j) (by decide) rfl (fun ls hl => ?_)
          refine lv_goto (tgt := 17) hx hb dX4_mergeTimeline_50 (by decide) ?_
          exact ih j (tAdd σ q τ9 j) (by omega) (by omega) (by omega) (tAdd_rows.1.trans hr1) (tAdd_rows.2.trans hr2) (timOk_step ht9 (by omega) hoj (by omega) h74) H locs hP hD hS ls (lv_sub hl [1, 2, 3, 0] rfl)
  exact lp72 (_ + 1) (sn σ) (uTim τ (tn τ) (clr (tt τ) 150) 0) (Nat.lt_succ_self _) hfq (Nat.le_refl _) rfl rfl timOk_0 _ _ hP hD hS ls (lv_sub hl [1, 2, 3, 0] rfl)
end
section
/-! What each call throws (1: no such .., 2: a wrong argument, 3: a wrong state), what it answers, what the state is behind it. -/
def eP (x : Int32) : Nat := if isP x = true then 0 else 1
def eE (n : Nat) (x : Int32) : Nat := if isB x n = true then 0 else 1
def eR (lo hi : Nat) (x : Int32) : Nat := if decide (nI lo ≤ x) && decide (x ≤ nI hi) then 0 else 2
theorem eP_0 {x : Int32} (h : eP x = 0) : isP x = true := by
  cases hz : isP x with
  | true => rfl
  | false => simp [eP, hz] at h
theorem eE_0 {n : Nat} {x : Int32} (h : eE n x = 0) : isB x n = true := by
  cases hz : isB x n with
  | true => rfl
  | false => simp [eE, hz] at h
theorem eR_0 {lo hi : Nat} {x : Int32} (hl : lo < 2 ^ 31) (hh : hi < 2 ^ 31) (h : eR lo hi x = 0) : ∃ j, lo ≤ j ∧ j ≤ hi ∧ x = nI j ∧ ix x = j := by
  have h1 : (decide (nI lo ≤ x) && decide (x ≤ nI hi)) = true := by
    cases hz : decide (nI lo ≤ x) && decide (x ≤ nI hi) with
    | true => rfl
    | false => simp [eR, hz] at h
  simp only [Bool.and_eq_true, decide_eq_true_eq] at h1
  have h2 := Int32.le_iff_toInt_le.mp h1.1
  have h3 := Int32.le_iff_toInt_le.mp h1.2
  rw [nI_toInt hl] at h2
  rw [nI_toInt hh] at h3
  refine ⟨x.toInt.toNat, by omega, by omega, ?_, rfl⟩
  apply Int32.toInt_inj.mp
  rw [nI_toInt (by omega)]
  omega
theorem eR_nI {lo hi j : Nat} (hl : lo < 2 ^ 31) (hh : hi < 2 ^ 31) (h1 : lo ≤ j) (h2 : j ≤ hi) : eR lo hi (nI j) = 0 := by
  simp only [eR]
  rw [decide_eq_true ((nI_leI hl (by omega)).mpr h1), decide_eq_true ((nI_leI (by omega) hh).mpr h2)]
  rfl
/-- no row is over its room -/
def Setd (σ : St) : Prop := ∀ q, q < 8 → cN (el σ q) (sn σ) ≤ cN (el σ q) (sf σ q) + sr σ
def eFol (σ : St) (x y : Int32) : Nat := if isP x = true then (if isP y = true then (if x = y then 2 else if sF σ (8 * ix x + ix y) = true then 3 else if sB σ (8 * ix y + ix x) = true then 3 else if sB σ (8 * ix x + ix y) = true then 3 else 0) else 1) else 1
def nFol (σ : St) (x y : Int32) : St := stl (uF σ (va_up (sF σ) (8 * ix x + ix y) true))
def rFol (σ : St) (x y : Int32) : Nat := fcnt (va_up (sF σ) (8 * ix x + ix y) true) (ix y)
def eUnf (σ : St) (x y : Int32) : Nat := if isP x = true then (if isP y = true then (if sF σ (8 * ix x + ix y) = true then 0 else 3) else 1) else 1
def nUnf (σ : St) (x y : Int32) : St := stl (uF σ (va_up (sF σ) (8 * ix x + ix y) false))
def rUnf (σ : St) (x y : Int32) : Nat := fcnt (va_up (sF σ) (8 * ix x + ix y) false) (ix y)
def eMut (x y : Int32) : Nat := if isP x = true then (if isP y = true then (if x = y then 2 else 0) else 1) else 1
def nMut (σ : St) (x y : Int32) (v : Bool) : St := uM σ (va_up (sM σ) (8 * ix x + ix y) v)
def nBlk (σ : St) (x y : Int32) (v : Bool) : St := if v = true then stl (uF (uB σ (va_up (sB σ) (8 * ix x + ix y) true)) (va_up (va_up (sF σ) (8 * ix x + ix y) false) (8 * ix y + ix x) false)) else uB σ (va_up (sB σ) (8 * ix x + ix y) false)
def ePst (σ : St) (x : Int32) : Nat := if isP x = true then (if sn σ < 150 then 0 else 3) else 1
def nPst (σ : St) (x : Int32) : St := stl (uE σ (va_up (sa σ) (sn σ) (ix x)) (va_up (so σ) (sn σ) (sn σ)) (sn σ + 1))
def eRep (σ : St) (x y : Int32) : Nat := if isP x = true then (if isB y (sn σ) = true then (if sn σ < 150 then (if sd σ (ix y) = true then 3 else if sd σ (so σ (ix y)) = true then 3 else if sB σ (8 * sa σ (so σ (ix y)) + ix x) = true then 3 else 0) else 3) else 1) else 1
def nRep (σ : St) (x y : Int32) : St := stl (uE σ (va_up (sa σ) (sn σ) (ix x)) (va_up (so σ) (sn σ) (so σ (ix y))) (sn σ + 1))
def eDel (σ : St) (x : Int32) : Nat := if isB x (sn σ) = true then (if sd σ (ix x) = true then 3 else 0) else 1
def nDel (σ : St) (x : Int32) : St := stl (uD σ (va_up (sd σ) (ix x) true))
def rDel (σ : St) (x : Int32) : Nat := cN (fun k => decide (so σ k = ix x) && !va_up (sd σ) (ix x) true k) (sn σ)
def nMrk (σ : St) (x : Int32) : St := stl (uK σ (ix x))
def rMrk (σ : St) (x : Int32) : Nat := cN (lg (uK σ (ix x))) 8
def nRom (σ : St) (x : Int32) : St := stl (uR σ (ix x))
def eFls (x y : Int32) : Nat := if isP x = true then (if isP y = true then 0 else 1) else 1
def rcn (σ : St) (q : Nat) : Nat := cN (el σ q) (sn σ) - cN (el σ q) (sf σ q)
def eRow (σ : St) (x y : Int32) : Nat := if isP x = true then (if isB y (rcn σ (ix x)) = true then 0 else 1) else 1
/-- v is the entry of that place in the row -/
def isRow (σ : St) (q i v : Nat) : Prop := sf σ q ≤ v ∧ v < sn σ ∧ el σ q v = true ∧ cN (el σ q) v = cN (el σ q) (sf σ q) + i
def eShw (σ : St) (x y : Int32) : Nat := if isP x = true then (if isB y (sn σ) = true then 0 else 1) else 1
def eNxt (x y : Int32) : Nat := if isP x = true then eR 0 150 y else 1
def cmin (c n : Nat) : Nat := if c < n then c else n
def rNxt (σ : St) (q c : Nat) : Nat := laB (shw σ q) (cmin c (sn σ))
def ePag (x y z : Int32) : Nat := if isP x = true then (if eR 0 150 y = 0 then eR 1 20 z else 2) else 1
/-- r - 1 is the last entry of the page; r = 0: there is none -/
def isPag (P : Nat → Bool) (c z r : Nat) : Prop := (r = 0 ∧ cN P c = 0) ∨ (0 < r ∧ r ≤ c ∧ P (r - 1) = true ∧ cN P r + cmin z (cN P c) = cN P c + 1)
def rGap (σ : St) (q : Nat) : Bool := exB (fun e => decide (e < sf σ q) && (!sd σ e && sF σ (8 * q + sa σ e))) (sn σ)
-- what holds all along
def FWq (g : GT) (ad : Nat → Nat) (σ : St) (H : Heap) : Prop := ∃ τ : Sc, gP g (wF g ad σ τ) H ∧ rowsOk σ τ 8 ∧ tc τ ≤ 150
theorem Setd_stl {σ : St} (h : Inv σ) : Setd (stl σ) := by
  intro q hq
  have e1 : sf (stl σ) q = nfl (el σ q) (sf σ q) (sn σ) (sr σ) := by
    show (if q < 8 then _ else _) = _
    rw [if_pos hq]
  have h1 := (nfl_le (P := el σ q) (f := sf σ q) (n := sn σ) (r := sr σ) (h.2.2.2.2.2.2.2 q hq)).2.2
  show cN (el σ q) (sn σ) ≤ cN (el σ q) (sf (stl σ) q) + sr σ
  rw [e1]
  omega
theorem stl_id {σ : St} (h : Inv σ) (hs : Setd σ) : stl σ = σ := by
  show uS σ _ = σ
  have e1 : (fun q => if q < 8 then nfl (el σ q) (sf σ q) (sn σ) (sr σ) else sf σ q) = sf σ := by
    funext q
    by_cases hq : q < 8
    · rw [if_pos hq]
      exact nfl_eq (h.2.2.2.2.2.2.2 q hq) (Or.inl ⟨rfl, hs q hq⟩)
    · rw [if_neg hq]
  rw [e1]
  rfl
theorem laB_le (P : Nat → Bool) (n : Nat) : laB P n ≤ n := by
  induction n with
  | zero => exact Nat.le_refl _
  | succ k ih => simp only [laB]; split <;> omega
theorem laB_at (P : Nat → Bool) (n : Nat) (h : 0 < laB P n) : P (laB P n - 1) = true := by
  induction n with
  | zero => simp [laB] at h
  | succ k ih =>
    simp only [laB] at h ⊢
    split
    · rename_i hp; exact hp
    · rename_i hp
      rw [if_neg hp] at h
      exact ih h
theorem laB_cN (P : Nat → Bool) (n : Nat) : cN P (laB P n) = cN P n := by
  induction n with
  | zero => rfl
  | succ k ih =>
    simp only [laB]
    split
    · rfl
    · rename_i hp
      rw [ih]
      exact (cN_f (by simpa using hp)).symm
theorem laB_0 (P : Nat → Bool) (n : Nat) (h : laB P n = 0) : cN P n = 0 := by
  rw [← laB_cN, h]; rfl
/-- the place that stands for a cursor -/
theorem TL_place {σ : St} {q c : Nat} {τ : Sc} (h : TL σ q τ) (hn : sn σ ≤ 150) (hc : c < 2 ^ 31) : (cN (shw σ q) (sn σ) - cN (shw σ q) (cmin c (sn σ)) ≤ tc τ) ∧ (∀ j, j < cN (shw σ q) (sn σ) - cN (shw σ q) (cmin c (sn σ)) → nI c ≤ tn τ j) ∧ ∀ j, j = cN (shw σ q) (sn σ) - cN (shw σ q) (cmin c (sn σ)) → j < tc τ → ¬ nI c ≤ tn τ j := by
  obtain ⟨h1, h2⟩ := h
  have hm : cmin c (sn σ) ≤ sn σ := by unfold cmin; split <;> omega
  refine ⟨by omega, fun j hj => ?_, fun j hj hjt hle => ?_⟩
  · obtain ⟨e, g1, g2, g3, g4⟩ := cN_sel (shw σ q) (cmin c (sn σ)) (sn σ) j hm hj
    rw [← g4, h2 e g2 g3]
    refine (nI_leI hc (by omega)).mpr ?_
    unfold cmin at g1
    split at g1 <;> omega
  · have hm0 : 0 < cN (shw σ q) (cmin c (sn σ)) := by
      have := cN_mono (shw σ q) hm
      omega
    have hb : 0 < laB (shw σ q) (cmin c (sn σ)) := by
      rcases Nat.eq_zero_or_pos (laB (shw σ q) (cmin c (sn σ))) with z | z
      · have := laB_0 _ _ z; omega
      · exact z
    have k1 := laB_at _ _ hb
    have k2 := laB_le (shw σ q) (cmin c (sn σ))
    have k3 := laB_cN (shw σ q) (cmin c (sn σ))
    have k4 := h2 (laB (shw σ q) (cmin c (sn σ)) - 1) (by omega) k1
    rw [show laB (shw σ q) (cmin c (sn σ)) - 1 + 1 = laB (shw σ q) (cmin c (sn σ)) by omega, k3, ← hj] at k4
    rw [k4] at hle
    have := (nI_leI hc (by omega)).mp hle
    have hmc : cmin c (sn σ) ≤ c := by unfold cmin; split <;> omega
    omega
/-- what stands at that place -/
theorem TL_at {σ : St} {q c : Nat} {τ : Sc} (h : TL σ q τ) (hn : sn σ ≤ 150) : (if cN (shw σ q) (sn σ) - cN (shw σ q) (cmin c (sn σ)) < tc τ then tn τ (cN (shw σ q) (sn σ) - cN (shw σ q) (cmin c (sn σ))) else (-1)) = fI (rNxt σ q c) := by
  obtain ⟨h1, h2⟩ := h
  have hm : cmin c (sn σ) ≤ sn σ := by unfold cmin; split <;> omega
  have k2 := laB_le (shw σ q) (cmin c (sn σ))
  have k3 := laB_cN (shw σ q) (cmin c (sn σ))
  have k5 := cN_mono (shw σ q) hm
  rcases Nat.eq_zero_or_pos (laB (shw σ q) (cmin c (sn σ))) with z | z
  · have k6 := laB_0 _ _ z
    rw [if_neg (by omega)]
    show _ = fI (laB _ _)
    rw [z]
    rfl
  · have k1 := laB_at _ _ z
    have k7 := cN_up (shw σ q) (show laB (shw σ q) (cmin c (sn σ)) - 1 < laB (shw σ q) (cmin c (sn σ)) by omega) k1
    have k4 := h2 (laB (shw σ q) (cmin c (sn σ)) - 1) (by omega) k1
    rw [show laB (shw σ q) (cmin c (sn σ)) - 1 + 1 = laB (shw σ q) (cmin c (sn σ)) by omega, k3] at k4
    rw [if_pos (by omega), k4]
    show _ = fI (laB _ _)
    rw [nI_fI, show laB (shw σ q) (cmin c (sn σ)) - 1 + 1 = laB (shw σ q) (cmin c (sn σ)) by omega]
theorem laB_s (P : Nat → Bool) (n : Nat) : laB P (n + 1) = n + 1 ↔ P n = true := by
  simp only [laB]
  have := laB_le P n
  constructor
  · intro h
    split at h
    · rename_i hp; exact hp
    · omega
  · intro h
    rw [if_pos h]
theorem isPag_uniq {P : Nat → Bool} {c z r r' : Nat} (hz : 0 < z) (h : isPag P c z r) (h' : isPag P c z r') : r = r' := by
  rcases h with ⟨h1, h2⟩ | ⟨h1, h2, h3, h4⟩ <;> rcases h' with ⟨g1, g2⟩ | ⟨g1, g2, g3, g4⟩
  · omega
  · have k1 := cN_up P (show r' - 1 < r' by omega) g3
    have k2 := cN_mono P g2
    omega
  · have k1 := cN_up P (show r - 1 < r by omega) h3
    have k2 := cN_mono P h2
    omega
  · have := cN_inj P h3 g3 (by rw [show r - 1 + 1 = r by omega, show r' - 1 + 1 = r' by omega]; omega)
    omega
theorem isPag_ex (P : Nat → Bool) (c z : Nat) (hz : 0 < z) : ∃ r, isPag P c z r := by
  rcases Nat.eq_zero_or_pos (cN P c) with h | h
  · exact ⟨0, Or.inl ⟨rfl, h⟩⟩
  · have hm : cmin z (cN P c) ≤ cN P c ∧ 0 < cmin z (cN P c) := by unfold cmin; split <;> omega
    obtain ⟨e, h1, h2, h3, h4⟩ := cN_sel P 0 c (cmin z (cN P c) - 1) (Nat.zero_le _) (by show _ < cN P c - 0; omega)
    have := cN_mono P (show e + 1 ≤ c by omega)
    have k := cN_t h3
    exact ⟨e + 1, Or.inr ⟨by omega, by omega, h3, by omega⟩⟩
theorem isRow_ex {σ : St} {q i : Nat} (h : sf σ q ≤ sn σ) (hi : i < rcn σ q) : ∃ v, isRow σ q i v := by
  unfold rcn at hi
  obtain ⟨e, h1, h2, h3, h4⟩ := cN_sel (el σ q) (sf σ q) (sn σ) (rcn σ q - 1 - i) h (by unfold rcn; omega)
  have k := cN_t h3
  have k2 := cN_up _ h2 h3
  have k3 := cN_mono (el σ q) h1
  unfold rcn at h4
  exact ⟨e, h1, h2, h3, by omega⟩
theorem isRow_uniq {σ : St} {q i v w : Nat} (h : isRow σ q i v) (h' : isRow σ q i w) : v = w := by
  obtain ⟨a1, a2, a3, a4⟩ := h
  obtain ⟨b1, b2, b3, b4⟩ := h'
  exact cN_inj _ a3 b3 (by rw [cN_t a3, cN_t b3]; omega)
theorem Inv_uF {σ : St} (h : Inv σ) (x : Nat → Bool) : Inv (uF σ x) := h
theorem Inv_uM {σ : St} (h : Inv σ) (x : Nat → Bool) : Inv (uM σ x) := h
theorem Inv_uB {σ : St} (h : Inv σ) (x : Nat → Bool) : Inv (uB σ x) := h
theorem Inv_uD {σ : St} (h : Inv σ) (x : Nat → Bool) : Inv (uD σ x) := h
theorem Inv_uK {σ : St} (h : Inv σ) {x : Nat} (hx : x ≤ 8) : Inv (uK σ x) := ⟨h.1, hx, h.2.2⟩
theorem Inv_uR {σ : St} (h : Inv σ) {x : Nat} (h1 : 1 ≤ x) (h2 : x ≤ 40) : Inv (uR σ x) := ⟨h.1, h.2.1, h1, h2, h.2.2.2.2⟩
theorem Inv_uE {σ : St} (h : Inv σ) {a o : Nat} (hn : sn σ < 150) (ha : a < 8) (ho : o ≤ sn σ) : Inv (uE σ (va_up (sa σ) (sn σ) a) (va_up (so σ) (sn σ) o) (sn σ + 1)) := by
  obtain ⟨h1, h2, h3, h4, h5, h6, h7, h8⟩ := h
  refine ⟨hn, h2, h3, h4, fun e => ?_, fun e => ?_, fun e he => ?_, fun q hq => Nat.le_succ_of_le (h8 q hq)⟩
  · show va_up (sa σ) (sn σ) a e < 8
    unfold va_up
    split
    · exact ha
    · exact h5 e
  · show va_up (so σ) (sn σ) o e < 150
    unfold va_up
    split
    · omega
    · exact h6 e
  · show va_up (so σ) (sn σ) o e ≤ e
    have he2 : e < sn σ + 1 := he
    unfold va_up
    split
    · omega
    · exact h7 e (by omega)
end
