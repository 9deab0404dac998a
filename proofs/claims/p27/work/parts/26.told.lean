/-! told: the number at a place of the script; and what the law's methods ask of a name. -/
theorem qL_told : pM yL_told 2 := by decide +kernel
theorem qL_isRead : pM yL_isRead 3 := by decide +kernel
theorem qL_isCut : pM yL_isCut 3 := by decide +kernel
theorem qL_does : pM yL_does 3 := by decide +kernel
/-- the number that the law is told at place k -/
def tld (L : Nat) (xs : Nat → Int32) (k : Nat) : Nat := (if k < L then xs k else nI 22003 * nI (k + 6) * nI (k + 9)).toBitVec.toNat % 2 ^ 31
theorem tld_lt {L : Nat} {xs : Nat → Int32} {k : Nat} : tld L xs k < 2 ^ 31 := Nat.mod_lt _ (Nat.two_pow_pos 31)
def tP (b L : Nat) (xs : Nat → Int32) (k : Nat) : Array Value → State → Prop := fun v U => v = ([Value.ref b, .int (nI k)] : List Value).toArray ∧ va_X b L xs U U.heap ∧ b < U.heap.size
theorem tP_blind {b L : Nat} {xs : Nat → Int32} {k : Nat} : FrameBlind (tP b L xs k) := fun a U gf mk h => ⟨h.1, va_X.moved (u := U) (Vm.Alike.refl U.vm) h.2.1, h.2.2⟩
theorem k_told : Cond.constant RL 7 2147483647 ∈ wsL_told := by decide +kernel
abbrev tldM (l : Launch) (b L : Nat) (xs : Nat → Int32) (k : Nat) : Prop := Met l yL_told wsL_told ({ frames := 0, cells := 0, slots := 0, locals := 0 }) (tP b L xs k) (rdQ (some (.int (nI (tld L xs k))))) 0 0 (fun _ => False)
set_option maxHeartbeats 1000000 in
theorem c_L_told (l : Launch) {b L : Nat} {xs : Nat → Int32} {k : Nat} (hL : L ≤ 260) (hk : k < 1000) : tldM l b L xs k := by
  refine Met.ofW (cc := cL_told) (maxL := 2) (ret := some .int) (by decide) rfl ?_
  intro p e s m args below meth c s₁ B hml hv
  obtain ⟨rfl, hX, hbl⟩ := hv
  have hl0 := lv_entry [Value.ref b, .int (nI k)] (n := 2) (Nat.le_of_ble_eq_true rfl)
  rw [lg_entry_eq]
  have hx := B.exec
  have hb := B.bytes
  have hr := B.returns
  have hts := atoms_spec (ws := wsL_told) B.pre
  have hown : s.vm.findClass RL = some m.cls := findClass_of_methodNamed B.named
  have hlocks := B.notSynchronized
  have key : ∀ ls : Array Slot, lv_has ls 2 [(0, .ref b), (1, .int (nI k))] → W p l e ({ frames := 0, cells := 0, slots := 0, locals := 0 }) s m ([Value.ref b, .int (nI k)] : List Value).toArray below meth c s.heap [] 0 0 (MQ below (rdQ (some (.int (nI (tld L xs k))))) ([Value.ref b, .int (nI k)] : List Value).toArray s 0 0 (fun _ => False)) (F0 m 0 ls []) := by
    intro ls hl
    have hend : ∀ x : Int32, x = (if k < L then xs k else nI 22003 * nI (k + 6) * nI (k + 9)) → W p l e ({ frames := 0, cells := 0, slots := 0, locals := 0 }) s m ([Value.ref b, .int (nI k)] : List Value).toArray below meth c s.heap [] 0 0 (MQ below (rdQ (some (.int (nI (tld L xs k))))) ([Value.ref b, .int (nI k)] : List Value).toArray s 0 0 (fun _ => False)) (F0 m 25 ls [.int x]) := by
      intro x hxe
      refine lv_ldc hx hb hown (hts _ k_told) dL_told_25 ?_
      refine lv_iand hx hb dL_told_27 ?_
      refine tp_i (pk_and x 31 (by decide +kernel)) ?_
      exact rd_reti hx hb hr hlocks (by rw [hxe]; rfl) dL_told_28
    refine lv_iload_n hx hb dL_told_0 rfl (lv_at hl 1 rfl) ?_
    refine lv_aload_n hx hb dL_told_1 rfl (lv_at hl 0 rfl) ?_
    refine va_slen (A := fun _ => False) hx hb hX hbl (fun h => h) va_S.rf dL_told_2 ?_
    refine br_geN (a := k) (b := L) (tgt := 12) hx hb (by omega) (by omega) dL_told_3 (by decide) (fun h => ?_) (fun h => ?_)
    · refine lv_sipush (v := nI 22003) hx hb dL_told_12 (by decide) ?_
      refine lv_iload_n hx hb dL_told_15 rfl (lv_at hl 1 rfl) ?_
      refine lv_bipush (v := nI 6) hx hb dL_told_16 (by decide) ?_
      refine lv_iadd hx hb dL_told_18 ?_
      refine tp_i (nI_add _ _) ?_
      refine lv_imul hx hb dL_told_19 ?_
      refine lv_iload_n hx hb dL_told_20 rfl (lv_at hl 1 rfl) ?_
      refine lv_bipush (v := nI 9) hx hb dL_told_21 (by decide) ?_
      refine lv_iadd hx hb dL_told_23 ?_
      refine tp_i (nI_add _ _) ?_
      refine lv_imul hx hb dL_told_24 ?_
      exact hend _ (by rw [if_neg (by omega)])
    · refine lv_aload_n hx hb dL_told_6 rfl (lv_at hl 0 rfl) ?_
      refine lv_iload_n hx hb dL_told_7 rfl (lv_at hl 1 rfl) ?_
      refine va_sld (A := fun _ => False) hx hb hX hbl (fun h => h) va_S.rf (vp_in_nI h (by omega)) dL_told_8 ?_
      rw [nI_clamp (by omega)]
      refine lv_goto (tgt := 25) hx hb dL_told_9 (by decide) ?_
      exact hend _ (by rw [if_pos h])
  exact key _ hl0
theorem k_T {p : Program} {l : Launch} {e : Env} {R : Room} {s : State} {m : MethodId} {args : Array Value} {below : List Frame} {meth : Method} {c : Code} {H : Heap} {locs : List Loc} {cells slots : Nat} {Q : State → Prop} {Ts : List Cond} {nL index pc b L k : Nat} {xs : Nat → Int32} {rest st0 : List Value} {own : String} {cc : ByteArray} {ls : Array Slot} {A : Nat → Prop} (S : CallFix p m c cc nL s args Ts own) (hM : tldM l b L xs k)
    (hG : GoodIn Ts (va_wsS own index yL_told wsL_told)) (hR : 0 + 1 ≤ R.frames ∧ 8 + (2 + 11) + 0 ≤ R.locals) (hf : cells ≤ R.cells ∧ slots ≤ R.slots) (hX : va_X b L xs s s.heap) (hbl : b < s.heap.size) (hbA : ¬ A b) (hS : va_S A s.heap H locs) (hl : ls.size = nL) (hst : st0 = .int (nI k) :: .ref b :: rest) (hW : (rest.map fun v => v.category).sum ≤ 8) (hdg : decode cc pc = .ok (.invokestatic index, 3))
    (kk : W p l e R s m args below meth c H locs cells slots Q (F0 m (pc + 3) ls (.int (nI (tld L xs k)) :: rest))) : W p l e R s m args below meth c H locs cells slots Q (F0 m pc ls st0) :=
  rd_goS (W.runS (g := F0 m pc ls st0) (rest := rest) (As := [Value.ref b, .int (nI k)]) S hM (va_cwS 2 S.2.2.2.2 hG rfl rfl rfl qL_told hR) ⟨tP_blind, fun U hU hW1 => ⟨rfl, va_X.moved hW1.alike (by rw [hU]; exact hX.kept (hS.2.1 b hbl hbA)), by rw [hU]; exact Nat.lt_of_lt_of_le hbl hS.1⟩⟩ rfl rfl hl hst (lv_room hW) hdg hf) kk
