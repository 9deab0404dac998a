/-! The law's loop: what holds at its head, and the steps of one turn. -/
theorem xn_SX {p : Program} {l : Launch} {e : Env} {R : Room} {s : State} {m : MethodId} {args : Array Value} {below : List Frame} {meth : Method} {c : Code} {H : Heap} {locs : List Loc} {cells slots : Nat} {g : GT} {y : MethodName} {wsY wsY' Ts : List Cond} {fr lo nL maxL n index pc mc ms : Nat} {As rest st0 : List Value} {W0 : va_W} {own : String} {cc bytes : ByteArray} {ret : Option FieldType} {ls : Array Slot} {hh : List (Nat × Nat × Nat × Nat)} {Qc : Array Value → State → Outcome → State → Prop} {XC : String → State → State → Prop} {free : Addr → Prop} (S : CallFix p m c cc nL s args Ts own) (hM : vx_Met l y wsY ({ frames := fr, cells := mc, slots := ms, locals := lo }) (xP g As W0) Qc XC mc ms free)
    (hG : GoodIn Ts (va_wsS own index y wsY)) (hw : wsY = .codeWith y bytes maxL ret hh :: wsY') (hd : pM y n) (hR : fr + 1 ≤ R.frames ∧ 8 + (maxL + 11) + lo ≤ R.locals) (hf : cells + mc ≤ R.cells ∧ slots + ms ≤ R.slots)
    (hP : gP g W0 H) (hE : gE g s) (hxv : xv H s) (hn : As.length = n) (hl : ls.size = nL) (hst : st0 = As.reverse ++ rest) (hW : (rest.map fun v => v.category).sum ≤ 8) (hdg : decode cc pc = .ok (.invokestatic index, 3)) :
    vx_Run p l e R s m args below meth c H locs cells slots mc ms (F0 m pc ls st0) rest (Qc As.toArray) XC free :=
  vx_runSX (g := F0 m pc ls st0) (rest := rest) (As := As) S hM (vx_cwSW n S.2.2.2.2 hG hw rfl rfl hd hR) ⟨xP_blind, fun U hU hW1 => ⟨rfl, by rw [hU]; exact hP, gE_warm hW1 hE, by rw [hU]; exact xv_warm hW1 hxv⟩⟩ rfl hn hl hst (lv_room hW) hdg hf
abbrev frA (s : State) : Nat → Prop := fun q => s.heap.size ≤ q
theorem xv_fr {s : State} {H : Heap} {locs : List Loc} (h : xv s.heap s) (hS : va_S (frA s) s.heap H locs) : xv H s :=
  ⟨(h.1.kept (fun a ha hn => hS.2.1 a ha hn)).narrow (fun q hq => Nat.le_trans hS.1 hq), (h.2.kept (fun a ha hn => hS.2.1 a ha hn)).narrow (fun q hq => Nat.le_trans hS.1 hq)⟩
/-- where the law's own objects lie: apart, and all of them new -/
def lwC (p : Program) (l : Launch) (s : State) (m : MethodId) (c : Code) (b L : Nat) (xs : Nat → Int32) (g : GT) (ad am : Nat → Nat) (o : Nat) : Prop :=
  p.tables.exec = Jvm.exec ∧ c.code = cL_law ∧ c.maxLocals = 7 ∧ s.vm.findClass RL = some m.cls ∧ (∀ w ∈ wsL_law, w.before #[Value.ref b] s = true) ∧ va_X b L xs s s.heap ∧ b < s.heap.size ∧ L ≤ 2048 ∧ l.stackTraces = false ∧ gE g s ∧ xv s.heap s ∧ FN ad 31 ∧ FN am 8 ∧ (¬ o ∈ fA ad) ∧ (¬ o ∈ mA am) ∧ (∀ z ∈ mA am, ¬ z ∈ fA ad) ∧ (∀ z ∈ fA ad, frA s z) ∧ (∀ z ∈ mA am, frA s z) ∧ frA s o
def lwI (g : GT) (ad am : Nat → Nat) (o : Nat) (σ : St) (H : Heap) : Prop := Inv σ ∧ Setd σ ∧ FWq g ad σ H ∧ (∃ th, gP g (wM g am σ th) H) ∧ ∃ fn, gP g (wO g o fn) H
section LAWS
variable {p : Program} {l : Launch} {en : Env} {R : Room} {s : State} {m : MethodId} {args : Array Value} {below : List Frame} {meth : Method} {c : Code} {H : Heap} {locs : List Loc} {cells slots : Nat} {Q : State → Prop}
variable {g : GT} {ad am : Nat → Nat} {o e k mc ms pc b L i : Nat} {xs : Nat → Int32} {σ σ' : St} {τ : Sc} {x : Int64} {fn : Nat → Int64} {rest st0 : List Value} {cc : ByteArray} {ls : Array Slot} {a : Array Value} {as : List Nat}
theorem lw_lcmp0 (hexec : p.tables.exec = Jvm.exec) (hb : c.code = cc) {x y : Int64} (hxy : x = y) (hdg : decode cc pc = .ok (.lcmp, 1)) (k : W p l en R s m args below meth c H locs cells slots Q (F0 m (pc + 1) ls (.int (nI 0) :: rest))) : W p l en R s m args below meth c H locs cells slots Q (F0 m pc ls (.long y :: .long x :: rest)) := by
  subst hxy
  have h0 : ¬ x > x := by simp
  have h1 : nI 0 = 0 := by decide
  rw [h1] at k
  intro T hT X
  obtain ⟨t, a, b⟩ := k T hT X
  refine ⟨t, ?_, b⟩
  jvm_step X.here [X.here.top, hexec, hb, hdg, h0]
  exact a
/-- an operand of the script -/
theorem lw_ld {j : Nat} (hexec : p.tables.exec = Jvm.exec) (hb : c.code = cc) (hX : va_X b L xs s s.heap) (hbl : b < s.heap.size) (hS : va_S (frA s) s.heap H locs) (hj : j < L) (hL : L ≤ 2048) (hdg : decode cc pc = .ok (.iaload, 1)) (kk : W p l en R s m args below meth c H locs cells slots Q (F0 m (pc + 1) ls (.int (xs j) :: rest))) : W p l en R s m args below meth c H locs cells slots Q (F0 m pc ls (.int (nI j) :: .ref b :: rest)) := by
  refine va_sld hexec hb hX hbl (fun h => by have h9 : s.heap.size ≤ b := h
                                             omega) hS (vp_in_nI hj (by omega)) hdg ?_
  rw [nI_clamp (by omega)]
  exact kk
/-- what a wrapper of the law leaves -/
theorem lw_go (hr : vx_Run p l en R s m args below meth c H locs cells slots mc ms (F0 m pc ls st0) rest (lwQ g ad o e k σ' x a) noX (fun q => q ∈ o :: fA ad)) (hS : va_S (frA s) s.heap H locs) (has : ∀ z ∈ o :: fA ad, frA s z)
    (kk : ∀ (H1 : Heap) (locs1 : List Loc) (fn' : Nat → Int64), gP g (wO g o fn') H1 → (e = 0 → fn' 0 = x) → FWq g ad σ' H1 → (∀ q : Nat, q < H.size → ¬ q ∈ o :: fA ad → H1[q]? = H[q]?) → va_S (frA s) s.heap H1 locs1 → W p l en R s m args below meth c H1 locs1 (cells + mc) (slots + ms) Q (F0 m (pc + 3) ls (.int (nI k) :: rest))) : W p l en R s m args below meth c H locs cells slots Q (F0 m pc ls st0) := by
  intro T hT X
  rcases hr T hT X with ⟨v', st₀, t, T', L, h0, X', hL, e1, e2, ⟨hv, ⟨fn', hO, hfn⟩, hF, hFr⟩, st⟩ | ⟨q, st₀, t, T', L, E, ce, h0, X', hL, e1, e2, hfalse, -⟩
  · cases hv
    obtain ⟨k1, k2, k3⟩ := vx_keep (A1 := fun q => q ∈ o :: fA ad) (free := fun q => q ∈ o :: fA ad) h0 e1 hS (fun q _ h => has q h) (fun q h => has q h) hL hFr
    obtain ⟨t2, a1, b1⟩ := kk T'.heap (locs ++ L) fn' (by rw [e1]; exact hO) hfn (by rw [e1]; exact hF) k2 k3 T' rfl X'
    exact ⟨t2, st t2 a1, b1⟩
  · exact hfalse.elim
theorem wM_keepO {th : Nat} {H1 : Heap} (ho : ¬ o ∈ mA am) (hd : ∀ z ∈ mA am, ¬ z ∈ fA ad) (hP : gP g (wM g am σ th) H) (hk : ∀ q : Nat, q < H.size → ¬ q ∈ o :: fA ad → H1[q]? = H[q]?) : gP g (wM g am σ th) H1 :=
  P_keep hP (fun z (hz : z ∈ mA am) h => by
    rcases List.mem_cons.mp h with h | h
    · exact ho (h ▸ hz)
    · exact hd z hz h) hk
theorem FWq_keepM {H1 : Heap} (hd : ∀ z ∈ mA am, ¬ z ∈ fA ad) (hP : FWq g ad σ H) (hk : ∀ q : Nat, q < H.size → ¬ q ∈ mA am → H1[q]? = H[q]?) : FWq g ad σ H1 := by
  obtain ⟨τ, h1, h2, h3⟩ := hP
  exact ⟨τ, P_keep h1 (fun z (hz : z ∈ fA ad) h => hd z h hz) hk, h2, h3⟩
theorem wO_keepM {H1 : Heap} (ho : ¬ o ∈ mA am) (hP : gP g (wO g o fn) H) (hk : ∀ q : Nat, q < H.size → ¬ q ∈ mA am → H1[q]? = H[q]?) : gP g (wO g o fn) H1 :=
  P_keep hP (fun z hz h => by
    have h9 : z = o := by simpa [wO, adr] using hz
    exact ho (h9 ▸ h)) hk
theorem lw_lald (hx : p.tables.exec = Jvm.exec) (hb : c.code = cc) (hE : gE g s) (hO : gP g (wO g o fn) H) (hfn : fn 0 = x) (hdg : decode cc pc = .ok (.laload, 1)) (kk : W p l en R s m args below meth c H locs cells slots Q (F0 m (pc + 1) ls (.long x :: rest))) : W p l en R s m args below meth c H locs cells slots Q (F0 m pc ls (.int (nI 0) :: .ref o :: rest)) := by
  refine va_lald hx hb hE.1 hO 0 3 rfl rfl (vp_in_nI (by decide) (by decide)) hdg ?_
  rw [nI_clamp (by decide), hfn]
  exact kk
theorem plc_0 {e : Nat} : nI 0 = 0 := by decide
theorem pl2_z {e : Nat} (h : pl2 e = 0) : e = 0 := by
  unfold pl2 at h
  split at h <;> omega
theorem pl1_z {e : Nat} (h : pl1 e = 0) : e = 0 := by
  unfold pl1 at h
  split at h <;> omega
theorem pl2_le {e : Nat} (h : e ≤ 3) : pl2 e ≤ 3 := by
  unfold pl2
  split <;> omega
theorem pl1_le {e : Nat} (h : e ≤ 3) : pl1 e ≤ 3 := by
  unfold pl1
  split <;> omega
theorem nI_z {k : Nat} (h : k ≤ 3) (h2 : nI k = 0) : k = 0 := by
  by_cases hk : k = 0
  · exact hk
  · exact absurd h2 (nI_ne0 (by omega) (by omega))
theorem Inv_oS {e : Nat} {n σ : St} (h1 : e = 0 → Inv n) (h2 : Inv σ) : Inv (oS e n σ) := by
  unfold oS
  split
  · exact h1 (by assumption)
  · exact h2
theorem Setd_oS {e : Nat} {n σ : St} (h1 : e = 0 → Setd n) (h2 : Setd σ) : Setd (oS e n σ) := by
  unfold oS
  split
  · exact h1 (by assumption)
  · exact h2
theorem and31 (x : Int32) : ∃ j, j < 32 ∧ x &&& nI 31 = nI j := ⟨x.toBitVec.toNat % 2 ^ 5, Nat.mod_lt _ (by decide), pk_and x 5 (by decide)⟩
end LAWS
