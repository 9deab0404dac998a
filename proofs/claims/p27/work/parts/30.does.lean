/-! does: a turn of the law -/
def dB (g : GT) (ad : Nat → Nat) (σ : St) (H1 : Heap) : Prop := ∃ σ' : St, OK σ' ∧ sr σ' = sr σ ∧ FWq g ad σ' H1
def dC (p : Program) (l : Launch) (s : State) (m : MethodId) (args : Array Value) (meth : Method) (c : Code) (g : GT) (ad : Nat → Nat) (σ : St) : Prop := p.tables.exec = Jvm.exec ∧ c.code = cL_does ∧ meth.sig.returnType = some .boolean ∧ c.maxLocals = 8 ∧ (∀ w ∈ wsL_does, w.before args s = true) ∧ s.vm.findClass RL = some m.cls ∧ meth.locks = false ∧ l.stackTraces = false ∧ gE g s ∧ FN ad 31 ∧ OK σ
theorem rep_so {σ : St} {q j : Nat} (hj : j < sn σ) (hn : sn σ ≤ 150) : so (nRep σ (nI q) (nI j)) (sn σ) = so (nRep σ (nI q) (nI j)) j := by
  show va_up (so σ) (sn σ) (so σ (ix (nI j))) (sn σ) = va_up (so σ) (sn σ) (so σ (ix (nI j))) j
  rw [va_up_at, up_ne _ _ (by omega), ix_nI (by omega)]
theorem pst_sa {σ : St} {q : Nat} (hq : q < 8) : sa (nPst σ (nI q)) (sn σ) = q := by
  show va_up (sa σ) (sn σ) (ix (nI q)) (sn σ) = q
  rw [va_up_at, ix_nI (by omega)]
theorem pst_so {σ : St} {x : Int32} : so (nPst σ x) (sn σ) = sn σ := va_up_at _ _ _
theorem unfn_F {σ : St} {q a : Nat} (hq : q < 8) (ha : a < 8) : sF (nUnf σ (nI q) (nI a)) (8 * q + a) = false := by
  have h := unf_F (σ := σ) (x := nI q) (y := nI a)
  rw [ix_nI (j := q) (by omega), ix_nI (j := a) (by omega)] at h
  exact h
theorem blkn_F1 {σ : St} {q a : Nat} (hq : q < 8) (ha : a < 8) : sF (nBlk σ (nI a) (nI q) true) (8 * a + q) = false := by
  have h := blk_F1 (σ := σ) (x := nI a) (y := nI q)
  rw [ix_nI (j := q) (by omega), ix_nI (j := a) (by omega)] at h
  exact h
theorem blkn_F2 {σ : St} {q a : Nat} (hq : q < 8) (ha : a < 8) : sF (nBlk σ (nI a) (nI q) true) (8 * q + a) = false := by
  have h := blk_F2 (σ := σ) (x := nI a) (y := nI q)
  rw [ix_nI (j := q) (by omega), ix_nI (j := a) (by omega)] at h
  exact h
theorem mrk_r {σ : St} {x : Int32} : rMrk σ x = cN (lg (nMrk σ x)) 8 := rfl
set_option maxHeartbeats 4000000 in
set_option maxRecDepth 100000 in
theorem d_0 {p : Program} {l : Launch} {e : Env} {s : State} {m : MethodId} {below : List Frame} {meth : Method} {c : Code} {g : GT} {ad : Nat → Nat} {σ : St} {v w q a x5 : Nat} (C : dC p l s m ([.ref (ad 0), .int (nI (v)), .int (nI (w))] : List Value).toArray meth c g ad σ) (hw : w < 2 ^ 31) (hq : q < 8) (ha : a < 8) (hx5 : x5 ≤ sn σ) {H : Heap} {locs : List Loc} (hK : cH g ad s (fun q => q ∈ fA ad) σ H locs) {ls : Array Slot} (hl : lv_has ls 8 [(5, .int (fI (x5))), (4, .int (nI (a))), (3, .int (nI (q))), (0, .ref (ad 0)), (1, .int (nI (v))), (2, .int (nI (w)))]) : W p l e ({ frames := 9, cells := 14, slots := 84, locals := 180 } : Room) s m ([.ref (ad 0), .int (nI (v)), .int (nI (w))] : List Value).toArray below meth c H locs 0 0 (vx_MQ below (xwQ 0 (some (.int (bI true))) (dB g ad σ) (fA ad)) (xX 0) ([.ref (ad 0), .int (nI (v)), .int (nI (w))] : List Value).toArray s 14 84 (fun q => q ∈ fA ad)) (F0 m 76 ls []) := by
  obtain ⟨hx, hb, hr, hml, hts, hown, hlocks, hlf, hE, hN, hO⟩ := C
  have hA : ∀ z ∈ fA ad, z ∈ fA ad := fun _ h => h
  have hn150 := hO.1.1
  refine lv_iload_n hx hb dL_does_76 rfl (lv_at hl 2 rfl) ?_
  refine lv_iload hx hb dL_does_77 (lv_at hl 1 rfl) ?_
  refine br_eqN (a := q) (b := a) (tgt := 136) hx hb (by omega) (by omega) dL_does_79 (by decide) (fun h1 => ?_) (fun h1 => ?_)
  · refine lv_iconst (v := bI (true)) hx hb dL_does_136 (by decide) ?_
    exact lc_ret hx hb hr hlocks hK (fun h => ⟨_, hO, (by first | rfl | (rw [blk_sr, blk_sr]) | (rw [blk_sr])), h⟩) (Nat.le_of_ble_eq_true rfl) (Nat.le_of_ble_eq_true rfl) dL_does_137
  · refine lv_aload_n hx hb dL_does_82 rfl (lv_at hl 3 rfl) ?_
    refine lv_iload_n hx hb dL_does_83 rfl (lv_at hl 2 rfl) ?_
    refine lv_iload hx hb dL_does_84 (lv_at hl 1 rfl) ?_
    refine k_R (v := .int (bI (sF σ (8 * q + a)))) ⟨hx, hb, hml, hown, hts⟩ (n_follows l hlf g hN hO (q := q) (by omega) (a := a) (by omega)) gL_does_X4_follows rfl pX4_follows ⟨Nat.le_of_ble_eq_true rfl, Nat.le_of_ble_eq_true rfl⟩ ⟨Nat.le_of_ble_eq_true rfl, Nat.le_of_ble_eq_true rfl⟩ hK hE rfl rfl hl.1 rfl (Nat.le_of_ble_eq_true rfl) dL_does_86 ?_
    refine br_eqB (tgt := 136) hx hb dL_does_89 (by decide) (fun h2 => ?_) (fun h2 => ?_)
    · refine lv_iconst (v := bI (true)) hx hb dL_does_136 (by decide) ?_
      exact lc_ret hx hb hr hlocks hK (fun h => ⟨_, hO, (by first | rfl | (rw [blk_sr, blk_sr]) | (rw [blk_sr])), h⟩) (Nat.le_of_ble_eq_true rfl) (Nat.le_of_ble_eq_true rfl) dL_does_137
    · refine lv_aload_n hx hb dL_does_92 rfl (lv_at hl 3 rfl) ?_
      refine lv_iload hx hb dL_does_93 (lv_at hl 1 rfl) ?_
      refine k_R (v := .int (nI (fcnt (sF σ) a))) ⟨hx, hb, hml, hown, hts⟩ (n_followers l hlf g hN hO (a := a) (by omega)) gL_does_X4_followers rfl pX4_followers ⟨Nat.le_of_ble_eq_true rfl, Nat.le_of_ble_eq_true rfl⟩ ⟨Nat.le_of_ble_eq_true rfl, Nat.le_of_ble_eq_true rfl⟩ hK hE rfl rfl hl.1 rfl (Nat.le_of_ble_eq_true rfl) dL_does_95 ?_
      refine lv_istore (lv' := [(6, .int (nI (fcnt (sF σ) a))), (5, .int (fI (x5))), (4, .int (nI (a))), (3, .int (nI (q))), (0, .ref (ad 0)), (1, .int (nI (v))), (2, .int (nI (w)))]) hx hb dL_does_98 hl (by decide) rfl (fun ls hl => ?_)
      refine lv_iload_n hx hb dL_does_100 rfl (lv_at hl 6 rfl) ?_
      refine lv_iconst (v := nI (3)) hx hb dL_does_101 (by decide) ?_
      refine n_rem (x := w) (d := 3) (by omega) (by omega) (by omega) hx hb dL_does_102 ?_
      refine br_gt0 (tgt := 130) hx hb (by omega) dL_does_103 (by decide) (fun h3 => ?_) (fun h3 => ?_)
      · refine lv_iconst (v := bI (true)) hx hb dL_does_130 (by decide) ?_
        refine lv_goto (tgt := 135) hx hb dL_does_131 (by decide) ?_
        exact lc_ret hx hb hr hlocks hK (fun h => ⟨_, hO, (by first | rfl | (rw [blk_sr, blk_sr]) | (rw [blk_sr])), h⟩) (Nat.le_of_ble_eq_true rfl) (Nat.le_of_ble_eq_true rfl) dL_does_135
      · refine lv_aload_n hx hb dL_does_106 rfl (lv_at hl 4 rfl) ?_
        refine lv_iload_n hx hb dL_does_107 rfl (lv_at hl 3 rfl) ?_
        refine lv_iload hx hb dL_does_108 (lv_at hl 2 rfl) ?_
        have hF := h2
        refine k_W (v := .int (nI (rUnf σ (nI q) (nI a)))) (σ' := nUnf σ (nI q) (nI a)) ⟨hx, hb, hml, hown, hts⟩ (n_unfollow l hlf g hN hO (q := q) hq (a := a) ha (eUnf_0 hq ha hF)) gL_does_X4_unfollow rfl pX4_unfollow ⟨Nat.le_of_ble_eq_true rfl, Nat.le_of_ble_eq_true rfl⟩ ⟨Nat.le_of_ble_eq_true rfl, Nat.le_of_ble_eq_true rfl⟩ hK hA hE rfl rfl hl.1 rfl (Nat.le_of_ble_eq_true rfl) dL_does_110 (fun H locs hK => ?_)
        have hO1 : OK (nUnf σ (nI q) (nI a)) := OK_unf hO hq ha
        refine lv_iload hx hb dL_does_113 (lv_at hl 0 rfl) ?_
        refine lv_iconst (v := nI (1)) hx hb dL_does_115 (by decide) ?_
        refine lv_isub hx hb dL_does_116 ?_
        refine tp_i (show nI (fcnt (sF σ) a) - nI 1 = nI (rUnf σ (nI q) (nI a)) from by rw [← unf_r hq ha hF]; exact fI_succ _) ?_
        refine br_neN (a := rUnf σ (nI q) (nI a)) (b := rUnf σ (nI q) (nI a)) (tgt := 134) hx hb (Nat.lt_of_le_of_lt (show rUnf σ (nI q) (nI a) ≤ 8 from cN_le _ 8) (by decide)) (Nat.lt_of_le_of_lt (show rUnf σ (nI q) (nI a) ≤ 8 from cN_le _ 8) (by decide)) dL_does_117 (by decide) (fun h4 => ?_) (fun h4 => ?_)
        · exact absurd rfl h4
        · refine lv_aload_n hx hb dL_does_120 rfl (lv_at hl 4 rfl) ?_
          refine lv_iload_n hx hb dL_does_121 rfl (lv_at hl 3 rfl) ?_
          refine lv_iload hx hb dL_does_122 (lv_at hl 2 rfl) ?_
          refine k_R (v := .int (bI (sF (nUnf σ (nI q) (nI a)) (8 * q + a)))) ⟨hx, hb, hml, hown, hts⟩ (n_follows l hlf g hN hO1 (q := q) (by omega) (a := a) (by omega)) gL_does_X4_follows rfl pX4_follows ⟨Nat.le_of_ble_eq_true rfl, Nat.le_of_ble_eq_true rfl⟩ ⟨Nat.le_of_ble_eq_true rfl, Nat.le_of_ble_eq_true rfl⟩ hK hE rfl rfl hl.1 rfl (Nat.le_of_ble_eq_true rfl) dL_does_124 ?_
          refine br_neB (tgt := 134) hx hb dL_does_127 (by decide) (fun h5 => ?_) (fun h5 => ?_)
          · exact absurd h5 (by rw [unfn_F hq ha]; decide)
          · refine lv_iconst (v := bI (true)) hx hb dL_does_130 (by decide) ?_
            refine lv_goto (tgt := 135) hx hb dL_does_131 (by decide) ?_
            exact lc_ret hx hb hr hlocks hK (fun h => ⟨_, hO1, (by first | rfl | (rw [blk_sr, blk_sr]) | (rw [blk_sr])), h⟩) (Nat.le_of_ble_eq_true rfl) (Nat.le_of_ble_eq_true rfl) dL_does_135
set_option maxHeartbeats 4000000 in
set_option maxRecDepth 100000 in
theorem d_1 {p : Program} {l : Launch} {e : Env} {s : State} {m : MethodId} {below : List Frame} {meth : Method} {c : Code} {g : GT} {ad : Nat → Nat} {σ : St} {v w q a x5 : Nat} (C : dC p l s m ([.ref (ad 0), .int (nI (v)), .int (nI (w))] : List Value).toArray meth c g ad σ) (hw : w < 2 ^ 31) (hq : q < 8) (ha : a < 8) (hx5 : x5 ≤ sn σ) {H : Heap} {locs : List Loc} (hK : cH g ad s (fun q => q ∈ fA ad) σ H locs) {ls : Array Slot} (hl : lv_has ls 8 [(5, .int (fI (x5))), (4, .int (nI (a))), (3, .int (nI (q))), (0, .ref (ad 0)), (1, .int (nI (v))), (2, .int (nI (w)))]) : W p l e ({ frames := 9, cells := 14, slots := 84, locals := 180 } : Room) s m ([.ref (ad 0), .int (nI (v)), .int (nI (w))] : List Value).toArray below meth c H locs 0 0 (vx_MQ below (xwQ 0 (some (.int (bI true))) (dB g ad σ) (fA ad)) (xX 0) ([.ref (ad 0), .int (nI (v)), .int (nI (w))] : List Value).toArray s 14 84 (fun q => q ∈ fA ad)) (F0 m 138 ls []) := by
  obtain ⟨hx, hb, hr, hml, hts, hown, hlocks, hlf, hE, hN, hO⟩ := C
  have hA : ∀ z ∈ fA ad, z ∈ fA ad := fun _ h => h
  have hn150 := hO.1.1
  refine lv_iload_n hx hb dL_does_138 rfl (lv_at hl 2 rfl) ?_
  refine lv_iload hx hb dL_does_139 (lv_at hl 1 rfl) ?_
  refine br_eqN (a := q) (b := a) (tgt := 212) hx hb (by omega) (by omega) dL_does_141 (by decide) (fun h6 => ?_) (fun h6 => ?_)
  · refine lv_iconst (v := bI (true)) hx hb dL_does_212 (by decide) ?_
    exact lc_ret hx hb hr hlocks hK (fun h => ⟨_, hO, (by first | rfl | (rw [blk_sr, blk_sr]) | (rw [blk_sr])), h⟩) (Nat.le_of_ble_eq_true rfl) (Nat.le_of_ble_eq_true rfl) dL_does_213
  · refine lv_iload_n hx hb dL_does_144 rfl (lv_at hl 5 rfl) ?_
    refine lv_iconst (v := nI (4)) hx hb dL_does_145 (by decide) ?_
    refine n_rem (x := w) (d := 4) (by omega) (by omega) (by omega) hx hb dL_does_146 ?_
    refine br_ne0 (tgt := 154) hx hb (by omega) dL_does_147 (by decide) (fun h7 => ?_) (fun h7 => ?_)
    · refine lv_iconst (v := bI (false)) hx hb dL_does_154 (by decide) ?_
      refine lv_istore (lv' := [(6, .int (bI (false))), (5, .int (fI (x5))), (4, .int (nI (a))), (3, .int (nI (q))), (0, .ref (ad 0)), (1, .int (nI (v))), (2, .int (nI (w)))]) hx hb dL_does_155 hl (by decide) rfl (fun ls hl => ?_)
      refine lv_aload_n hx hb dL_does_157 rfl (lv_at hl 4 rfl) ?_
      refine lv_iload hx hb dL_does_158 (lv_at hl 2 rfl) ?_
      refine lv_iload_n hx hb dL_does_160 rfl (lv_at hl 3 rfl) ?_
      refine lv_iload hx hb dL_does_161 (lv_at hl 0 rfl) ?_
      refine k_W (v := .int (bI (sB σ (8 * ix (nI a) + ix (nI q))))) (σ' := nBlk σ (nI a) (nI q) false) ⟨hx, hb, hml, hown, hts⟩ (n_block l hlf g hN hO (q := a) ha (a := q) hq (eMut_0 ha hq (fun z => h6 z.symm)) (v := false)) gL_does_X4_block rfl pX4_block ⟨Nat.le_of_ble_eq_true rfl, Nat.le_of_ble_eq_true rfl⟩ ⟨Nat.le_of_ble_eq_true rfl, Nat.le_of_ble_eq_true rfl⟩ hK hA hE rfl rfl hl.1 rfl (Nat.le_of_ble_eq_true rfl) dL_does_163 (fun H locs hK => ?_)
      have hO1 : OK (nBlk σ (nI a) (nI q) false) := OK_blk hO
      refine lv_pop hx hb dL_does_166 rfl ?_
      refine lv_aload_n hx hb dL_does_167 rfl (lv_at hl 4 rfl) ?_
      refine lv_iload hx hb dL_does_168 (lv_at hl 2 rfl) ?_
      refine lv_iload_n hx hb dL_does_170 rfl (lv_at hl 3 rfl) ?_
      refine lv_iload hx hb dL_does_171 (lv_at hl 0 rfl) ?_
      refine k_W (v := .int (bI (sB (nBlk σ (nI a) (nI q) false) (8 * ix (nI a) + ix (nI q))))) (σ' := nBlk (nBlk σ (nI a) (nI q) false) (nI a) (nI q) false) ⟨hx, hb, hml, hown, hts⟩ (n_block l hlf g hN hO1 (q := a) ha (a := q) hq (eMut_0 ha hq (fun z => h6 z.symm)) (v := false)) gL_does_X4_block rfl pX4_block ⟨Nat.le_of_ble_eq_true rfl, Nat.le_of_ble_eq_true rfl⟩ ⟨Nat.le_of_ble_eq_true rfl, Nat.le_of_ble_eq_true rfl⟩ hK hA hE rfl rfl hl.1 rfl (Nat.le_of_ble_eq_true rfl) dL_does_173 (fun H locs hK => ?_)
      have hO2 : OK (nBlk (nBlk σ (nI a) (nI q) false) (nI a) (nI q) false) := OK_blk hO1
      refine tp_i (congrArg bI blk_B) ?_
      refine lv_iload hx hb dL_does_176 (lv_at hl 0 rfl) ?_
      refine lv_icmp_ne (tgt := 210) hx hb dL_does_178 (by decide) (fun h8 => ?_) (fun h8 => ?_)
      · exact absurd rfl h8
      · refine lv_iload hx hb dL_does_181 (lv_at hl 0 rfl) ?_
        refine br_eqB (tgt := 206) hx hb dL_does_183 (by decide) (fun h9 => ?_) (fun h9 => ?_)
        · refine lv_iconst (v := bI (true)) hx hb dL_does_206 (by decide) ?_
          refine lv_goto (tgt := 211) hx hb dL_does_207 (by decide) ?_
          exact lc_ret hx hb hr hlocks hK (fun h => ⟨_, hO2, (by first | rfl | (rw [blk_sr, blk_sr]) | (rw [blk_sr])), h⟩) (Nat.le_of_ble_eq_true rfl) (Nat.le_of_ble_eq_true rfl) dL_does_211
        · exact absurd h9 (by decide)
    · refine lv_iconst (v := bI (true)) hx hb dL_does_150 (by decide) ?_
      refine lv_goto (tgt := 155) hx hb dL_does_151 (by decide) ?_
      refine lv_istore (lv' := [(6, .int (bI (true))), (5, .int (fI (x5))), (4, .int (nI (a))), (3, .int (nI (q))), (0, .ref (ad 0)), (1, .int (nI (v))), (2, .int (nI (w)))]) hx hb dL_does_155 hl (by decide) rfl (fun ls hl => ?_)
      refine lv_aload_n hx hb dL_does_157 rfl (lv_at hl 4 rfl) ?_
      refine lv_iload hx hb dL_does_158 (lv_at hl 2 rfl) ?_
      refine lv_iload_n hx hb dL_does_160 rfl (lv_at hl 3 rfl) ?_
      refine lv_iload hx hb dL_does_161 (lv_at hl 0 rfl) ?_
      refine k_W (v := .int (bI (sB σ (8 * ix (nI a) + ix (nI q))))) (σ' := nBlk σ (nI a) (nI q) true) ⟨hx, hb, hml, hown, hts⟩ (n_block l hlf g hN hO (q := a) ha (a := q) hq (eMut_0 ha hq (fun z => h6 z.symm)) (v := true)) gL_does_X4_block rfl pX4_block ⟨Nat.le_of_ble_eq_true rfl, Nat.le_of_ble_eq_true rfl⟩ ⟨Nat.le_of_ble_eq_true rfl, Nat.le_of_ble_eq_true rfl⟩ hK hA hE rfl rfl hl.1 rfl (Nat.le_of_ble_eq_true rfl) dL_does_163 (fun H locs hK => ?_)
      have hO1 : OK (nBlk σ (nI a) (nI q) true) := OK_blk hO
      refine lv_pop hx hb dL_does_166 rfl ?_
      refine lv_aload_n hx hb dL_does_167 rfl (lv_at hl 4 rfl) ?_
      refine lv_iload hx hb dL_does_168 (lv_at hl 2 rfl) ?_
      refine lv_iload_n hx hb dL_does_170 rfl (lv_at hl 3 rfl) ?_
      refine lv_iload hx hb dL_does_171 (lv_at hl 0 rfl) ?_
      refine k_W (v := .int (bI (sB (nBlk σ (nI a) (nI q) true) (8 * ix (nI a) + ix (nI q))))) (σ' := nBlk (nBlk σ (nI a) (nI q) true) (nI a) (nI q) true) ⟨hx, hb, hml, hown, hts⟩ (n_block l hlf g hN hO1 (q := a) ha (a := q) hq (eMut_0 ha hq (fun z => h6 z.symm)) (v := true)) gL_does_X4_block rfl pX4_block ⟨Nat.le_of_ble_eq_true rfl, Nat.le_of_ble_eq_true rfl⟩ ⟨Nat.le_of_ble_eq_true rfl, Nat.le_of_ble_eq_true rfl⟩ hK hA hE rfl rfl hl.1 rfl (Nat.le_of_ble_eq_true rfl) dL_does_173 (fun H locs hK => ?_)
      have hO2 : OK (nBlk (nBlk σ (nI a) (nI q) true) (nI a) (nI q) true) := OK_blk hO1
      refine tp_i (congrArg bI blk_B) ?_
      refine lv_iload hx hb dL_does_176 (lv_at hl 0 rfl) ?_
      refine lv_icmp_ne (tgt := 210) hx hb dL_does_178 (by decide) (fun h10 => ?_) (fun h10 => ?_)
      · exact absurd rfl h10
      · refine lv_iload hx hb dL_does_181 (lv_at hl 0 rfl) ?_
        refine br_eqB (tgt := 206) hx hb dL_does_183 (by decide) (fun h11 => ?_) (fun h11 => ?_)
        · exact absurd h11 (by decide)
        · refine lv_aload_n hx hb dL_does_186 rfl (lv_at hl 4 rfl) ?_
          refine lv_iload_n hx hb dL_does_187 rfl (lv_at hl 3 rfl) ?_
          refine lv_iload hx hb dL_does_188 (lv_at hl 2 rfl) ?_
          refine k_R (v := .int (bI (sF (nBlk (nBlk σ (nI a) (nI q) true) (nI a) (nI q) true) (8 * q + a)))) ⟨hx, hb, hml, hown, hts⟩ (n_follows l hlf g hN hO2 (q := q) (by omega) (a := a) (by omega)) gL_does_X4_follows rfl pX4_follows ⟨Nat.le_of_ble_eq_true rfl, Nat.le_of_ble_eq_true rfl⟩ ⟨Nat.le_of_ble_eq_true rfl, Nat.le_of_ble_eq_true rfl⟩ hK hE rfl rfl hl.1 rfl (Nat.le_of_ble_eq_true rfl) dL_does_190 ?_
          refine br_neB (tgt := 210) hx hb dL_does_193 (by decide) (fun h12 => ?_) (fun h12 => ?_)
          · exact absurd h12 (by rw [blkn_F2 hq ha]; decide)
          · refine lv_aload_n hx hb dL_does_196 rfl (lv_at hl 4 rfl) ?_
            refine lv_iload hx hb dL_does_197 (lv_at hl 2 rfl) ?_
            refine lv_iload_n hx hb dL_does_199 rfl (lv_at hl 3 rfl) ?_
            refine k_R (v := .int (bI (sF (nBlk (nBlk σ (nI a) (nI q) true) (nI a) (nI q) true) (8 * a + q)))) ⟨hx, hb, hml, hown, hts⟩ (n_follows l hlf g hN hO2 (q := a) (by omega) (a := q) (by omega)) gL_does_X4_follows rfl pX4_follows ⟨Nat.le_of_ble_eq_true rfl, Nat.le_of_ble_eq_true rfl⟩ ⟨Nat.le_of_ble_eq_true rfl, Nat.le_of_ble_eq_true rfl⟩ hK hE rfl rfl hl.1 rfl (Nat.le_of_ble_eq_true rfl) dL_does_200 ?_
            refine br_neB (tgt := 210) hx hb dL_does_203 (by decide) (fun h13 => ?_) (fun h13 => ?_)
            · exact absurd h13 (by rw [blkn_F1 hq ha]; decide)
            · refine lv_iconst (v := bI (true)) hx hb dL_does_206 (by decide) ?_
              refine lv_goto (tgt := 211) hx hb dL_does_207 (by decide) ?_
              exact lc_ret hx hb hr hlocks hK (fun h => ⟨_, hO2, (by first | rfl | (rw [blk_sr, blk_sr]) | (rw [blk_sr])), h⟩) (Nat.le_of_ble_eq_true rfl) (Nat.le_of_ble_eq_true rfl) dL_does_211
set_option maxHeartbeats 4000000 in
set_option maxRecDepth 100000 in
theorem d_2 {p : Program} {l : Launch} {e : Env} {s : State} {m : MethodId} {below : List Frame} {meth : Method} {c : Code} {g : GT} {ad : Nat → Nat} {σ : St} {v w q a x5 : Nat} (C : dC p l s m ([.ref (ad 0), .int (nI (v)), .int (nI (w))] : List Value).toArray meth c g ad σ) (hw : w < 2 ^ 31) (hq : q < 8) (ha : a < 8) (hx5 : x5 ≤ sn σ) {H : Heap} {locs : List Loc} (hK : cH g ad s (fun q => q ∈ fA ad) σ H locs) {ls : Array Slot} (hl : lv_has ls 8 [(5, .int (fI (x5))), (4, .int (nI (a))), (3, .int (nI (q))), (0, .ref (ad 0)), (1, .int (nI (v))), (2, .int (nI (w)))]) : W p l e ({ frames := 9, cells := 14, slots := 84, locals := 180 } : Room) s m ([.ref (ad 0), .int (nI (v)), .int (nI (w))] : List Value).toArray below meth c H locs 0 0 (vx_MQ below (xwQ 0 (some (.int (bI true))) (dB g ad σ) (fA ad)) (xX 0) ([.ref (ad 0), .int (nI (v)), .int (nI (w))] : List Value).toArray s 14 84 (fun q => q ∈ fA ad)) (F0 m 214 ls []) := by
  obtain ⟨hx, hb, hr, hml, hts, hown, hlocks, hlf, hE, hN, hO⟩ := C
  have hA : ∀ z ∈ fA ad, z ∈ fA ad := fun _ h => h
  have hn150 := hO.1.1
  refine lv_iload_n hx hb dL_does_214 rfl (lv_at hl 2 rfl) ?_
  refine lv_iload hx hb dL_does_215 (lv_at hl 1 rfl) ?_
  refine br_eqN (a := q) (b := a) (tgt := 277) hx hb (by omega) (by omega) dL_does_217 (by decide) (fun h14 => ?_) (fun h14 => ?_)
  · refine lv_iconst (v := bI (true)) hx hb dL_does_277 (by decide) ?_
    exact lc_ret hx hb hr hlocks hK (fun h => ⟨_, hO, (by first | rfl | (rw [blk_sr, blk_sr]) | (rw [blk_sr])), h⟩) (Nat.le_of_ble_eq_true rfl) (Nat.le_of_ble_eq_true rfl) dL_does_278
  · refine lv_aload_n hx hb dL_does_220 rfl (lv_at hl 3 rfl) ?_
    refine lv_iload_n hx hb dL_does_221 rfl (lv_at hl 2 rfl) ?_
    refine lv_iload hx hb dL_does_222 (lv_at hl 1 rfl) ?_
    refine lv_iload_n hx hb dL_does_224 rfl (lv_at hl 5 rfl) ?_
    refine lv_iconst (v := nI (3)) hx hb dL_does_225 (by decide) ?_
    refine n_rem (x := w) (d := 3) (by omega) (by omega) (by omega) hx hb dL_does_226 ?_
    refine br_ne0 (tgt := 234) hx hb (by omega) dL_does_227 (by decide) (fun h15 => ?_) (fun h15 => ?_)
    · refine lv_iconst (v := bI (false)) hx hb dL_does_234 (by decide) ?_
      refine k_W (v := .int (bI (sM σ (8 * ix (nI q) + ix (nI a))))) (σ' := nMut σ (nI q) (nI a) false) ⟨hx, hb, hml, hown, hts⟩ (n_mute l hlf g hN hO (q := q) hq (a := a) ha (eMut_0 hq ha h14) (v := false)) gL_does_X4_mute rfl pX4_mute ⟨Nat.le_of_ble_eq_true rfl, Nat.le_of_ble_eq_true rfl⟩ ⟨Nat.le_of_ble_eq_true rfl, Nat.le_of_ble_eq_true rfl⟩ hK hA hE rfl rfl hl.1 rfl (Nat.le_of_ble_eq_true rfl) dL_does_235 (fun H locs hK => ?_)
      have hO1 : OK (nMut σ (nI q) (nI a) false) := OK_mut hO
      refine lv_pop hx hb dL_does_238 rfl ?_
      refine lv_aload_n hx hb dL_does_239 rfl (lv_at hl 3 rfl) ?_
      refine lv_iload_n hx hb dL_does_240 rfl (lv_at hl 2 rfl) ?_
      refine lv_iload hx hb dL_does_241 (lv_at hl 1 rfl) ?_
      refine lv_iload_n hx hb dL_does_243 rfl (lv_at hl 5 rfl) ?_
      refine lv_iconst (v := nI (3)) hx hb dL_does_244 (by decide) ?_
      refine n_rem (x := w) (d := 3) (by omega) (by omega) (by omega) hx hb dL_does_245 ?_
      refine br_ne0 (tgt := 253) hx hb (by omega) dL_does_246 (by decide) (fun h16 => ?_) (fun h16 => ?_)
      · refine lv_iconst (v := bI (false)) hx hb dL_does_253 (by decide) ?_
        refine k_W (v := .int (bI (sM (nMut σ (nI q) (nI a) false) (8 * ix (nI q) + ix (nI a))))) (σ' := nMut (nMut σ (nI q) (nI a) false) (nI q) (nI a) false) ⟨hx, hb, hml, hown, hts⟩ (n_mute l hlf g hN hO1 (q := q) hq (a := a) ha (eMut_0 hq ha h14) (v := false)) gL_does_X4_mute rfl pX4_mute ⟨Nat.le_of_ble_eq_true rfl, Nat.le_of_ble_eq_true rfl⟩ ⟨Nat.le_of_ble_eq_true rfl, Nat.le_of_ble_eq_true rfl⟩ hK hA hE rfl rfl hl.1 rfl (Nat.le_of_ble_eq_true rfl) dL_does_254 (fun H locs hK => ?_)
        have hO2 : OK (nMut (nMut σ (nI q) (nI a) false) (nI q) (nI a) false) := OK_mut hO1
        refine tp_i (congrArg bI mut_M) ?_
        refine lv_iload_n hx hb dL_does_257 rfl (lv_at hl 5 rfl) ?_
        refine lv_iconst (v := nI (3)) hx hb dL_does_258 (by decide) ?_
        refine n_rem (x := w) (d := 3) (by omega) (by omega) (by omega) hx hb dL_does_259 ?_
        refine br_ne0 (tgt := 267) hx hb (by omega) dL_does_260 (by decide) (fun h17 => ?_) (fun h17 => ?_)
        · refine lv_iconst (v := bI (false)) hx hb dL_does_267 (by decide) ?_
          refine lv_icmp_ne (tgt := 275) hx hb dL_does_268 (by decide) (fun h18 => ?_) (fun h18 => ?_)
          · exact absurd rfl h18
          · refine lv_iconst (v := bI (true)) hx hb dL_does_271 (by decide) ?_
            refine lv_goto (tgt := 276) hx hb dL_does_272 (by decide) ?_
            exact lc_ret hx hb hr hlocks hK (fun h => ⟨_, hO2, (by first | rfl | (rw [blk_sr, blk_sr]) | (rw [blk_sr])), h⟩) (Nat.le_of_ble_eq_true rfl) (Nat.le_of_ble_eq_true rfl) dL_does_276
        · (exfalso; omega)
      · (exfalso; omega)
    · refine lv_iconst (v := bI (true)) hx hb dL_does_230 (by decide) ?_
      refine lv_goto (tgt := 235) hx hb dL_does_231 (by decide) ?_
      refine k_W (v := .int (bI (sM σ (8 * ix (nI q) + ix (nI a))))) (σ' := nMut σ (nI q) (nI a) true) ⟨hx, hb, hml, hown, hts⟩ (n_mute l hlf g hN hO (q := q) hq (a := a) ha (eMut_0 hq ha h14) (v := true)) gL_does_X4_mute rfl pX4_mute ⟨Nat.le_of_ble_eq_true rfl, Nat.le_of_ble_eq_true rfl⟩ ⟨Nat.le_of_ble_eq_true rfl, Nat.le_of_ble_eq_true rfl⟩ hK hA hE rfl rfl hl.1 rfl (Nat.le_of_ble_eq_true rfl) dL_does_235 (fun H locs hK => ?_)
      have hO1 : OK (nMut σ (nI q) (nI a) true) := OK_mut hO
      refine lv_pop hx hb dL_does_238 rfl ?_
      refine lv_aload_n hx hb dL_does_239 rfl (lv_at hl 3 rfl) ?_
      refine lv_iload_n hx hb dL_does_240 rfl (lv_at hl 2 rfl) ?_
      refine lv_iload hx hb dL_does_241 (lv_at hl 1 rfl) ?_
      refine lv_iload_n hx hb dL_does_243 rfl (lv_at hl 5 rfl) ?_
      refine lv_iconst (v := nI (3)) hx hb dL_does_244 (by decide) ?_
      refine n_rem (x := w) (d := 3) (by omega) (by omega) (by omega) hx hb dL_does_245 ?_
      refine br_ne0 (tgt := 253) hx hb (by omega) dL_does_246 (by decide) (fun h19 => ?_) (fun h19 => ?_)
      · (exfalso; omega)
      · refine lv_iconst (v := bI (true)) hx hb dL_does_249 (by decide) ?_
        refine lv_goto (tgt := 254) hx hb dL_does_250 (by decide) ?_
        refine k_W (v := .int (bI (sM (nMut σ (nI q) (nI a) true) (8 * ix (nI q) + ix (nI a))))) (σ' := nMut (nMut σ (nI q) (nI a) true) (nI q) (nI a) true) ⟨hx, hb, hml, hown, hts⟩ (n_mute l hlf g hN hO1 (q := q) hq (a := a) ha (eMut_0 hq ha h14) (v := true)) gL_does_X4_mute rfl pX4_mute ⟨Nat.le_of_ble_eq_true rfl, Nat.le_of_ble_eq_true rfl⟩ ⟨Nat.le_of_ble_eq_true rfl, Nat.le_of_ble_eq_true rfl⟩ hK hA hE rfl rfl hl.1 rfl (Nat.le_of_ble_eq_true rfl) dL_does_254 (fun H locs hK => ?_)
        have hO2 : OK (nMut (nMut σ (nI q) (nI a) true) (nI q) (nI a) true) := OK_mut hO1
        refine tp_i (congrArg bI mut_M) ?_
        refine lv_iload_n hx hb dL_does_257 rfl (lv_at hl 5 rfl) ?_
        refine lv_iconst (v := nI (3)) hx hb dL_does_258 (by decide) ?_
        refine n_rem (x := w) (d := 3) (by omega) (by omega) (by omega) hx hb dL_does_259 ?_
        refine br_ne0 (tgt := 267) hx hb (by omega) dL_does_260 (by decide) (fun h20 => ?_) (fun h20 => ?_)
        · (exfalso; omega)
        · refine lv_iconst (v := bI (true)) hx hb dL_does_263 (by decide) ?_
          refine lv_goto (tgt := 268) hx hb dL_does_264 (by decide) ?_
          refine lv_icmp_ne (tgt := 275) hx hb dL_does_268 (by decide) (fun h21 => ?_) (fun h21 => ?_)
          · exact absurd rfl h21
          · refine lv_iconst (v := bI (true)) hx hb dL_does_271 (by decide) ?_
            refine lv_goto (tgt := 276) hx hb dL_does_272 (by decide) ?_
            exact lc_ret hx hb hr hlocks hK (fun h => ⟨_, hO2, (by first | rfl | (rw [blk_sr, blk_sr]) | (rw [blk_sr])), h⟩) (Nat.le_of_ble_eq_true rfl) (Nat.le_of_ble_eq_true rfl) dL_does_276
set_option maxHeartbeats 4000000 in
set_option maxRecDepth 100000 in
theorem d_3 {p : Program} {l : Launch} {e : Env} {s : State} {m : MethodId} {below : List Frame} {meth : Method} {c : Code} {g : GT} {ad : Nat → Nat} {σ : St} {v w q a x5 : Nat} (C : dC p l s m ([.ref (ad 0), .int (nI (v)), .int (nI (w))] : List Value).toArray meth c g ad σ) (hw : w < 2 ^ 31) (hq : q < 8) (ha : a < 8) (hx5 : x5 ≤ sn σ) {H : Heap} {locs : List Loc} (hK : cH g ad s (fun q => q ∈ fA ad) σ H locs) {ls : Array Slot} (hl : lv_has ls 8 [(5, .int (fI (x5))), (4, .int (nI (a))), (3, .int (nI (q))), (0, .ref (ad 0)), (1, .int (nI (v))), (2, .int (nI (w)))]) : W p l e ({ frames := 9, cells := 14, slots := 84, locals := 180 } : Room) s m ([.ref (ad 0), .int (nI (v)), .int (nI (w))] : List Value).toArray below meth c H locs 0 0 (vx_MQ below (xwQ 0 (some (.int (bI true))) (dB g ad σ) (fA ad)) (xX 0) ([.ref (ad 0), .int (nI (v)), .int (nI (w))] : List Value).toArray s 14 84 (fun q => q ∈ fA ad)) (F0 m 279 ls []) := by
  obtain ⟨hx, hb, hr, hml, hts, hown, hlocks, hlf, hE, hN, hO⟩ := C
  have hA : ∀ z ∈ fA ad, z ∈ fA ad := fun _ h => h
  have hn150 := hO.1.1
  refine lv_iload hx hb dL_does_279 (lv_at hl 0 rfl) ?_
  refine br_lt0F (tgt := 392) hx hb (by omega) dL_does_281 (by decide) (fun h22 => ?_) (fun h22 => ?_)
  · refine lv_iconst (v := bI (true)) hx hb dL_does_392 (by decide) ?_
    exact lc_ret hx hb hr hlocks hK (fun h => ⟨_, hO, (by first | rfl | (rw [blk_sr, blk_sr]) | (rw [blk_sr])), h⟩) (Nat.le_of_ble_eq_true rfl) (Nat.le_of_ble_eq_true rfl) dL_does_393
  · obtain ⟨j5, rfl⟩ : ∃ j5, x5 = j5 + 1 := ⟨x5 - 1, by omega⟩
    rw [fI_succ] at hl
    refine lv_aload_n hx hb dL_does_284 rfl (lv_at hl 3 rfl) ?_
    refine k_D (v := .int (nI (sn σ))) ⟨hx, hb, hml, hown, hts⟩ (n_entries l hlf g hN hO ) gL_does_X4_entries rfl pX4_entries ⟨Nat.le_of_ble_eq_true rfl, Nat.le_of_ble_eq_true rfl⟩ ⟨Nat.le_of_ble_eq_true rfl, Nat.le_of_ble_eq_true rfl⟩ hK hE rfl hl.1 rfl (Nat.le_of_ble_eq_true rfl) dL_does_285 ?_
    refine lv_sipush (v := nI (150)) hx hb dL_does_288 (by decide) ?_
    refine br_geN (a := sn σ) (b := 150) (tgt := 392) hx hb (by omega) (by omega) dL_does_291 (by decide) (fun h23 => ?_) (fun h23 => ?_)
    · refine lv_iconst (v := bI (true)) hx hb dL_does_392 (by decide) ?_
      exact lc_ret hx hb hr hlocks hK (fun h => ⟨_, hO, (by first | rfl | (rw [blk_sr, blk_sr]) | (rw [blk_sr])), h⟩) (Nat.le_of_ble_eq_true rfl) (Nat.le_of_ble_eq_true rfl) dL_does_393
    · refine lv_aload_n hx hb dL_does_294 rfl (lv_at hl 3 rfl) ?_
      refine lv_iload_n hx hb dL_does_295 rfl (lv_at hl 2 rfl) ?_
      refine lv_iload hx hb dL_does_296 (lv_at hl 0 rfl) ?_
      refine k_W (v := .int (bI (shw σ q j5))) (σ' := σ) ⟨hx, hb, hml, hown, hts⟩ (n_shows l hlf g hN hO (q := q) (by omega) (e := j5) (by omega) (by omega)) gL_does_X4_shows rfl pX4_shows ⟨Nat.le_of_ble_eq_true rfl, Nat.le_of_ble_eq_true rfl⟩ ⟨Nat.le_of_ble_eq_true rfl, Nat.le_of_ble_eq_true rfl⟩ hK hA hE rfl rfl hl.1 rfl (Nat.le_of_ble_eq_true rfl) dL_does_298 (fun H locs hK => ?_)
      refine br_eqB (tgt := 392) hx hb dL_does_301 (by decide) (fun h24 => ?_) (fun h24 => ?_)
      · refine lv_iconst (v := bI (true)) hx hb dL_does_392 (by decide) ?_
        exact lc_ret hx hb hr hlocks hK (fun h => ⟨_, hO, (by first | rfl | (rw [blk_sr, blk_sr]) | (rw [blk_sr])), h⟩) (Nat.le_of_ble_eq_true rfl) (Nat.le_of_ble_eq_true rfl) dL_does_393
      · refine lv_aload_n hx hb dL_does_304 rfl (lv_at hl 3 rfl) ?_
        refine lv_iload_n hx hb dL_does_305 rfl (lv_at hl 2 rfl) ?_
        refine lv_iload hx hb dL_does_306 (lv_at hl 0 rfl) ?_
        have hS := h24
        obtain ⟨hh1, hh2, hh3⟩ := hid_at (due_at (shw_due hS)).2.2
        refine k_W (v := .int (nI (sn σ))) (σ' := nRep σ (nI q) (nI j5)) ⟨hx, hb, hml, hown, hts⟩ (n_repost l hlf g hN hO (q := q) hq (e := j5) (by omega) (eRep_n hq (by omega) (by omega) hS)) gL_does_X4_repost rfl pX4_repost ⟨Nat.le_of_ble_eq_true rfl, Nat.le_of_ble_eq_true rfl⟩ ⟨Nat.le_of_ble_eq_true rfl, Nat.le_of_ble_eq_true rfl⟩ hK hA hE rfl rfl hl.1 rfl (Nat.le_of_ble_eq_true rfl) dL_does_308 (fun H locs hK => ?_)
        have hO1 : OK (nRep σ (nI q) (nI j5)) := OK_rep hO hq (by omega) (by omega)
        have hs1 : sn (nRep σ (nI q) (nI j5)) = sn σ + 1 := rfl
        refine lv_istore (lv' := [(6, .int (nI (sn σ))), (5, .int (nI (j5))), (4, .int (nI (a))), (3, .int (nI (q))), (0, .ref (ad 0)), (1, .int (nI (v))), (2, .int (nI (w)))]) hx hb dL_does_311 hl (by decide) rfl (fun ls hl => ?_)
        refine lv_iload hx hb dL_does_313 (lv_at hl 0 rfl) ?_
        refine lv_aload_n hx hb dL_does_315 rfl (lv_at hl 4 rfl) ?_
        refine k_D (v := .int (nI (sn (nRep σ (nI q) (nI j5))))) ⟨hx, hb, hml, hown, hts⟩ (n_entries l hlf g hN hO1 ) gL_does_X4_entries rfl pX4_entries ⟨Nat.le_of_ble_eq_true rfl, Nat.le_of_ble_eq_true rfl⟩ ⟨Nat.le_of_ble_eq_true rfl, Nat.le_of_ble_eq_true rfl⟩ hK hE rfl hl.1 rfl (Nat.le_of_ble_eq_true rfl) dL_does_316 ?_
        refine lv_iconst (v := nI (1)) hx hb dL_does_319 (by decide) ?_
        refine lv_isub hx hb dL_does_320 ?_
        refine tp_i (fI_succ (sn σ)) ?_
        refine br_neN (a := sn σ) (b := sn σ) (tgt := 353) hx hb (by omega) (by omega) dL_does_321 (by decide) (fun h25 => ?_) (fun h25 => ?_)
        · exact absurd rfl h25
        · refine lv_aload_n hx hb dL_does_324 rfl (lv_at hl 4 rfl) ?_
          refine lv_iload hx hb dL_does_325 (lv_at hl 0 rfl) ?_
          refine k_R (v := .int (nI (so (nRep σ (nI q) (nI j5)) (sn σ)))) ⟨hx, hb, hml, hown, hts⟩ (n_originOf l hlf g hN hO1 (e := sn σ) (by omega) (eE_n (by omega) hO1.1.1)) gL_does_X4_originOf rfl pX4_originOf ⟨Nat.le_of_ble_eq_true rfl, Nat.le_of_ble_eq_true rfl⟩ ⟨Nat.le_of_ble_eq_true rfl, Nat.le_of_ble_eq_true rfl⟩ hK hE rfl rfl hl.1 rfl (Nat.le_of_ble_eq_true rfl) dL_does_327 ?_
          refine lv_aload_n hx hb dL_does_330 rfl (lv_at hl 4 rfl) ?_
          refine lv_iload hx hb dL_does_331 (lv_at hl 1 rfl) ?_
          refine k_R (v := .int (nI (so (nRep σ (nI q) (nI j5)) j5))) ⟨hx, hb, hml, hown, hts⟩ (n_originOf l hlf g hN hO1 (e := j5) (by omega) (eE_n (by omega) hO1.1.1)) gL_does_X4_originOf rfl pX4_originOf ⟨Nat.le_of_ble_eq_true rfl, Nat.le_of_ble_eq_true rfl⟩ ⟨Nat.le_of_ble_eq_true rfl, Nat.le_of_ble_eq_true rfl⟩ hK hE rfl rfl hl.1 rfl (Nat.le_of_ble_eq_true rfl) dL_does_333 ?_
          refine br_neN (a := so (nRep σ (nI q) (nI j5)) (sn σ)) (b := so (nRep σ (nI q) (nI j5)) j5) (tgt := 353) hx hb (Nat.lt_of_lt_of_le (hO1.1.2.2.2.2.2.1 _) (by decide)) (Nat.lt_of_lt_of_le (hO1.1.2.2.2.2.2.1 _) (by decide)) dL_does_336 (by decide) (fun h26 => ?_) (fun h26 => ?_)
          · exact absurd (rep_so (by omega) hn150) h26
          · refine lv_aload_n hx hb dL_does_339 rfl (lv_at hl 4 rfl) ?_
            refine lv_iload_n hx hb dL_does_340 rfl (lv_at hl 3 rfl) ?_
            refine lv_iload hx hb dL_does_341 (lv_at hl 1 rfl) ?_
            refine k_W (v := .int (bI (shw (nRep σ (nI q) (nI j5)) q j5))) (σ' := nRep σ (nI q) (nI j5)) ⟨hx, hb, hml, hown, hts⟩ (n_shows l hlf g hN hO1 (q := q) (by omega) (e := j5) (by omega) (by omega)) gL_does_X4_shows rfl pX4_shows ⟨Nat.le_of_ble_eq_true rfl, Nat.le_of_ble_eq_true rfl⟩ ⟨Nat.le_of_ble_eq_true rfl, Nat.le_of_ble_eq_true rfl⟩ hK hA hE rfl rfl hl.1 rfl (Nat.le_of_ble_eq_true rfl) dL_does_343 (fun H locs hK => ?_)
            refine br_eqB (tgt := 353) hx hb dL_does_346 (by decide) (fun h27 => ?_) (fun h27 => ?_)
            · exact absurd h27 (by rw [rep_shw hO hq (by omega) hS]; decide)
            · refine lv_iconst (v := bI (true)) hx hb dL_does_349 (by decide) ?_
              refine lv_goto (tgt := 354) hx hb dL_does_350 (by decide) ?_
              refine lv_istore (lv' := [(7, .int (bI (true))), (6, .int (nI (sn σ))), (5, .int (nI (j5))), (4, .int (nI (a))), (3, .int (nI (q))), (0, .ref (ad 0)), (1, .int (nI (v))), (2, .int (nI (w)))]) hx hb dL_does_354 hl (by decide) rfl (fun ls hl => ?_)
              refine lv_iload hx hb dL_does_356 (lv_at hl 0 rfl) ?_
              refine br_eqB (tgt := 390) hx hb dL_does_358 (by decide) (fun h28 => ?_) (fun h28 => ?_)
              · exact absurd h28 (by decide)
              · refine lv_iload_n hx hb dL_does_361 rfl (lv_at hl 7 rfl) ?_
                refine lv_iconst (v := nI (4)) hx hb dL_does_362 (by decide) ?_
                refine n_rem (x := w) (d := 4) (by omega) (by omega) (by omega) hx hb dL_does_363 ?_
                refine br_gt0 (tgt := 386) hx hb (by omega) dL_does_364 (by decide) (fun h29 => ?_) (fun h29 => ?_)
                · refine lv_iconst (v := bI (true)) hx hb dL_does_386 (by decide) ?_
                  refine lv_goto (tgt := 391) hx hb dL_does_387 (by decide) ?_
                  exact lc_ret hx hb hr hlocks hK (fun h => ⟨_, hO1, (by first | rfl | (rw [blk_sr, blk_sr]) | (rw [blk_sr])), h⟩) (Nat.le_of_ble_eq_true rfl) (Nat.le_of_ble_eq_true rfl) dL_does_391
                · refine lv_aload_n hx hb dL_does_367 rfl (lv_at hl 5 rfl) ?_
                  refine lv_iload hx hb dL_does_368 (lv_at hl 2 rfl) ?_
                  refine k_W (v := .int (nI (rDel (nRep σ (nI q) (nI j5)) (nI j5)))) (σ' := nDel (nRep σ (nI q) (nI j5)) (nI j5)) ⟨hx, hb, hml, hown, hts⟩ (n_delete l hlf g hN hO1 (e := j5) (by omega) (eDel_n (by omega) hO1.1.1 hh1)) gL_does_X4_delete rfl pX4_delete ⟨Nat.le_of_ble_eq_true rfl, Nat.le_of_ble_eq_true rfl⟩ ⟨Nat.le_of_ble_eq_true rfl, Nat.le_of_ble_eq_true rfl⟩ hK hA hE rfl rfl hl.1 rfl (Nat.le_of_ble_eq_true rfl) dL_does_370 (fun H locs hK => ?_)
                  have hO2 : OK (nDel (nRep σ (nI q) (nI j5)) (nI j5)) := OK_del hO1
                  have hs2 : sn (nDel (nRep σ (nI q) (nI j5)) (nI j5)) = sn σ + 1 := rfl
                  refine br_lt0 (tgt := 390) hx hb (Nat.lt_of_le_of_lt (show rDel (nRep σ (nI q) (nI j5)) (nI j5) ≤ sn σ + 1 from cN_le _ _) (by omega)) dL_does_373 (by decide) (fun h30 => ?_) (fun h30 => ?_)
                  · exact h30.elim
                  · refine lv_aload_n hx hb dL_does_376 rfl (lv_at hl 5 rfl) ?_
                    refine lv_iload_n hx hb dL_does_377 rfl (lv_at hl 4 rfl) ?_
                    refine lv_iload hx hb dL_does_378 (lv_at hl 2 rfl) ?_
                    refine k_W (v := .int (bI (shw (nDel (nRep σ (nI q) (nI j5)) (nI j5)) q j5))) (σ' := nDel (nRep σ (nI q) (nI j5)) (nI j5)) ⟨hx, hb, hml, hown, hts⟩ (n_shows l hlf g hN hO2 (q := q) (by omega) (e := j5) (by omega) (by omega)) gL_does_X4_shows rfl pX4_shows ⟨Nat.le_of_ble_eq_true rfl, Nat.le_of_ble_eq_true rfl⟩ ⟨Nat.le_of_ble_eq_true rfl, Nat.le_of_ble_eq_true rfl⟩ hK hA hE rfl rfl hl.1 rfl (Nat.le_of_ble_eq_true rfl) dL_does_380 (fun H locs hK => ?_)
                    refine br_neB (tgt := 390) hx hb dL_does_383 (by decide) (fun h31 => ?_) (fun h31 => ?_)
                    · exact absurd h31 (by rw [del_shw (by omega)]; decide)
                    · refine lv_iconst (v := bI (true)) hx hb dL_does_386 (by decide) ?_
                      refine lv_goto (tgt := 391) hx hb dL_does_387 (by decide) ?_
                      exact lc_ret hx hb hr hlocks hK (fun h => ⟨_, hO2, (by first | rfl | (rw [blk_sr, blk_sr]) | (rw [blk_sr])), h⟩) (Nat.le_of_ble_eq_true rfl) (Nat.le_of_ble_eq_true rfl) dL_does_391
set_option maxHeartbeats 4000000 in
set_option maxRecDepth 100000 in
theorem d_4 {p : Program} {l : Launch} {e : Env} {s : State} {m : MethodId} {below : List Frame} {meth : Method} {c : Code} {g : GT} {ad : Nat → Nat} {σ : St} {v w q a x5 : Nat} (C : dC p l s m ([.ref (ad 0), .int (nI (v)), .int (nI (w))] : List Value).toArray meth c g ad σ) (hw : w < 2 ^ 31) (hq : q < 8) (ha : a < 8) (hx5 : x5 ≤ sn σ) {H : Heap} {locs : List Loc} (hK : cH g ad s (fun q => q ∈ fA ad) σ H locs) {ls : Array Slot} (hl : lv_has ls 8 [(5, .int (fI (x5))), (4, .int (nI (a))), (3, .int (nI (q))), (0, .ref (ad 0)), (1, .int (nI (v))), (2, .int (nI (w)))]) : W p l e ({ frames := 9, cells := 14, slots := 84, locals := 180 } : Room) s m ([.ref (ad 0), .int (nI (v)), .int (nI (w))] : List Value).toArray below meth c H locs 0 0 (vx_MQ below (xwQ 0 (some (.int (bI true))) (dB g ad σ) (fA ad)) (xX 0) ([.ref (ad 0), .int (nI (v)), .int (nI (w))] : List Value).toArray s 14 84 (fun q => q ∈ fA ad)) (F0 m 394 ls []) := by
  obtain ⟨hx, hb, hr, hml, hts, hown, hlocks, hlf, hE, hN, hO⟩ := C
  have hA : ∀ z ∈ fA ad, z ∈ fA ad := fun _ h => h
  have hn150 := hO.1.1
  refine lv_aload_n hx hb dL_does_394 rfl (lv_at hl 3 rfl) ?_
  refine lv_iload_n hx hb dL_does_395 rfl (lv_at hl 5 rfl) ?_
  refine lv_bipush (v := nI (9)) hx hb dL_does_396 (by decide) ?_
  refine n_rem (x := w) (d := 9) (by omega) (by omega) (by omega) hx hb dL_does_398 ?_
  refine k_W (v := .int (nI (rMrk σ (nI (w % 9))))) (σ' := nMrk σ (nI (w % 9))) ⟨hx, hb, hml, hown, hts⟩ (n_setMark l hlf g hN hO (k := w % 9) (by omega) (eR_nI (by decide) (by decide) (Nat.zero_le _) (by omega))) gL_does_X4_setMark rfl pX4_setMark ⟨Nat.le_of_ble_eq_true rfl, Nat.le_of_ble_eq_true rfl⟩ ⟨Nat.le_of_ble_eq_true rfl, Nat.le_of_ble_eq_true rfl⟩ hK hA hE rfl rfl hl.1 rfl (Nat.le_of_ble_eq_true rfl) dL_does_399 (fun H locs hK => ?_)
  have hO1 : OK (nMrk σ (nI (w % 9))) := OK_mrk hO (by omega)
  refine lv_istore (lv' := [(6, .int (nI (rMrk σ (nI (w % 9))))), (5, .int (fI (x5))), (4, .int (nI (a))), (3, .int (nI (q))), (0, .ref (ad 0)), (1, .int (nI (v))), (2, .int (nI (w)))]) hx hb dL_does_402 hl (by decide) rfl (fun ls hl => ?_)
  refine lv_iconst (v := nI (0)) hx hb dL_does_404 (by decide) ?_
  refine lv_istore (lv' := [(7, .int (nI (0))), (6, .int (nI (rMrk σ (nI (w % 9))))), (5, .int (fI (x5))), (4, .int (nI (a))), (3, .int (nI (q))), (0, .ref (ad 0)), (1, .int (nI (v))), (2, .int (nI (w)))]) hx hb dL_does_405 hl (by decide) rfl (fun ls hl => ?_)
  have hr8 : cN (lg (nMrk σ (nI (w % 9)))) 8 ≤ 8 := cN_le _ 8
  have lp32 : ∀ (n9 i x6 : Nat), 8 - i < n9 → i ≤ 8 → x6 + cN (lg (nMrk σ (nI (w % 9)))) i = cN (lg (nMrk σ (nI (w % 9)))) 8 → ∀ ls : Array Slot, lv_has ls 8 [(7, .int (nI (i))), (6, .int (nI (x6))), (5, .int (fI (x5))), (4, .int (nI (a))), (3, .int (nI (q))), (0, .ref (ad 0)), (1, .int (nI (v))), (2, .int (nI (w)))] → W p l e ({ frames := 9, cells := 14, slots := 84, locals := 180 } : Room) s m ([.ref (ad 0), .int (nI (v)), .int (nI (w))] : List Value).toArray below meth c H locs (i + 1) (6 * i + 6) (vx_MQ below (xwQ 0 (some (.int (bI true))) (dB g ad σ) (fA ad)) (xX 0) ([.ref (ad 0), .int (nI (v)), .int (nI (w))] : List Value).toArray s 14 84 (fun q => q ∈ fA ad)) (F0 m 407 ls []) := by
    intro n9
    induction n9 with
    | zero => intro i x6 h; omega
    | succ n9 ihlp32 =>
      intro i x6 h9 hi8 hx6 ls hl
      refine lv_iload hx hb dL_does_407 (lv_at hl 0 rfl) ?_
      refine lv_bipush (v := nI (8)) hx hb dL_does_409 (by decide) ?_
      refine br_geN (a := i) (b := 8) (tgt := 439) hx hb (by omega) (by omega) dL_does_411 (by decide) (fun h33 => ?_) (fun h33 => ?_)
      · refine lv_iload hx hb dL_does_439 (lv_at hl 1 rfl) ?_
        refine br_ne0 (tgt := 448) hx hb (by omega) dL_does_441 (by decide) (fun h34 => ?_) (fun h34 => ?_)
        · (exfalso; have hi9 : i = 8 := (by omega); rw [hi9] at hx6; omega)
        · refine lv_iconst (v := bI (true)) hx hb dL_does_444 (by decide) ?_
          refine lv_goto (tgt := 449) hx hb dL_does_445 (by decide) ?_
          exact lc_ret hx hb hr hlocks hK (fun h => ⟨_, hO1, (by first | rfl | (rw [blk_sr, blk_sr]) | (rw [blk_sr])), h⟩) (by omega) (by omega) dL_does_449
      · refine lv_iload hx hb dL_does_414 (lv_at hl 1 rfl) ?_
        refine lv_aload_n hx hb dL_does_416 rfl (lv_at hl 5 rfl) ?_
        refine lv_iload hx hb dL_does_417 (lv_at hl 0 rfl) ?_
        refine k_R (v := .int (bI (lg (nMrk σ (nI (w % 9))) i))) ⟨hx, hb, hml, hown, hts⟩ (n_isLarge l hlf g hN hO1 (a := i) (by omega)) gL_does_X4_isLarge rfl pX4_isLarge ⟨Nat.le_of_ble_eq_true rfl, Nat.le_of_ble_eq_true rfl⟩ ⟨(show i + 1 + 1 ≤ 14 by omega), (show 6 * i + 6 + 6 ≤ 84 by omega)⟩ hK hE rfl rfl hl.1 rfl (Nat.le_of_ble_eq_true rfl) dL_does_419 ?_
        refine br_eqB (tgt := 429) hx hb dL_does_422 (by decide) (fun h35 => ?_) (fun h35 => ?_)
        · refine lv_iconst (v := nI (0)) hx hb dL_does_429 (by decide) ?_
          refine lv_isub hx hb dL_does_430 ?_
          refine tp_i (pk_sub (a := x6) (b := 0) (Nat.zero_le _)) ?_
          refine lv_istore (lv' := [(6, .int (nI (x6))), (7, .int (nI (i))), (5, .int (fI (x5))), (4, .int (nI (a))), (3, .int (nI (q))), (0, .ref (ad 0)), (1, .int (nI (v))), (2, .int (nI (w)))]) hx hb dL_does_431 hl (by decide) rfl (fun ls hl => ?_)
          refine lv_iinc (v := nI (i + 1)) (lv' := [(7, .int (nI (i + 1))), (6, .int (nI (x6))), (5, .int (fI (x5))), (4, .int (nI (a))), (3, .int (nI (q))), (0, .ref (ad 0)), (1, .int (nI (v))), (2, .int (nI (w)))]) hx hb dL_does_433 hl (k := 1) rfl (inc1 (i)) (by decide) rfl (fun ls hl => ?_)
          refine lv_goto (tgt := 407) hx hb dL_does_436 (by decide) ?_
          have hcn := cN_f h35
          exact ihlp32 (i + 1) (x6) (by omega) (by omega) (by omega) _ (lv_sub hl [0, 1, 2, 3, 4, 5, 6, 7] rfl)
        · have hcn9 := cN_t h35
          have hcm9 := cN_mono (lg (nMrk σ (nI (w % 9)))) (show i + 1 ≤ 8 by omega)
          refine lv_iconst (v := nI (1)) hx hb dL_does_425 (by decide) ?_
          refine lv_goto (tgt := 430) hx hb dL_does_426 (by decide) ?_
          refine lv_isub hx hb dL_does_430 ?_
          refine tp_i (pk_sub (by omega)) ?_
          refine lv_istore (lv' := [(6, .int (nI (x6 - 1))), (7, .int (nI (i))), (5, .int (fI (x5))), (4, .int (nI (a))), (3, .int (nI (q))), (0, .ref (ad 0)), (1, .int (nI (v))), (2, .int (nI (w)))]) hx hb dL_does_431 hl (by decide) rfl (fun ls hl => ?_)
          refine lv_iinc (v := nI (i + 1)) (lv' := [(7, .int (nI (i + 1))), (6, .int (nI (x6 - 1))), (5, .int (fI (x5))), (4, .int (nI (a))), (3, .int (nI (q))), (0, .ref (ad 0)), (1, .int (nI (v))), (2, .int (nI (w)))]) hx hb dL_does_433 hl (k := 1) rfl (inc1 (i)) (by decide) rfl (fun ls hl => ?_)
          refine lv_goto (tgt := 407) hx hb dL_does_436 (by decide) ?_
          have hcn := cN_t h35
          exact ihlp32 (i + 1) (x6 - 1) (by omega) (by omega) (by omega) _ (lv_sub hl [0, 1, 2, 3, 4, 5, 6, 7] rfl)
  exact lp32 (8 + 1) 0 _ (by omega) (Nat.zero_le _) (by rw [mrk_r]; rfl) _ (lv_sub hl [0, 1, 2, 3, 4, 5, 6, 7] rfl)
set_option maxHeartbeats 4000000 in
set_option maxRecDepth 100000 in
theorem d_5 {p : Program} {l : Launch} {e : Env} {s : State} {m : MethodId} {below : List Frame} {meth : Method} {c : Code} {g : GT} {ad : Nat → Nat} {σ : St} {v w q a x5 : Nat} (C : dC p l s m ([.ref (ad 0), .int (nI (v)), .int (nI (w))] : List Value).toArray meth c g ad σ) (hw : w < 2 ^ 31) (hq : q < 8) (ha : a < 8) (hx5 : x5 ≤ sn σ) {H : Heap} {locs : List Loc} (hK : cH g ad s (fun q => q ∈ fA ad) σ H locs) {ls : Array Slot} (hl : lv_has ls 8 [(5, .int (fI (x5))), (4, .int (nI (a))), (3, .int (nI (q))), (0, .ref (ad 0)), (1, .int (nI (v))), (2, .int (nI (w)))]) : W p l e ({ frames := 9, cells := 14, slots := 84, locals := 180 } : Room) s m ([.ref (ad 0), .int (nI (v)), .int (nI (w))] : List Value).toArray below meth c H locs 0 0 (vx_MQ below (xwQ 0 (some (.int (bI true))) (dB g ad σ) (fA ad)) (xX 0) ([.ref (ad 0), .int (nI (v)), .int (nI (w))] : List Value).toArray s 14 84 (fun q => q ∈ fA ad)) (F0 m 450 ls []) := by
  obtain ⟨hx, hb, hr, hml, hts, hown, hlocks, hlf, hE, hN, hO⟩ := C
  have hA : ∀ z ∈ fA ad, z ∈ fA ad := fun _ h => h
  have hn150 := hO.1.1
  refine lv_aload_n hx hb dL_does_450 rfl (lv_at hl 3 rfl) ?_
  refine k_D (v := .int (nI (sn σ))) ⟨hx, hb, hml, hown, hts⟩ (n_entries l hlf g hN hO ) gL_does_X4_entries rfl pX4_entries ⟨Nat.le_of_ble_eq_true rfl, Nat.le_of_ble_eq_true rfl⟩ ⟨Nat.le_of_ble_eq_true rfl, Nat.le_of_ble_eq_true rfl⟩ hK hE rfl hl.1 rfl (Nat.le_of_ble_eq_true rfl) dL_does_451 ?_
  refine lv_sipush (v := nI (150)) hx hb dL_does_454 (by decide) ?_
  refine br_geN (a := sn σ) (b := 150) (tgt := 515) hx hb (by omega) (by omega) dL_does_457 (by decide) (fun h36 => ?_) (fun h36 => ?_)
  · refine lv_iconst (v := bI (true)) hx hb dL_does_515 (by decide) ?_
    exact lc_ret hx hb hr hlocks hK (fun h => ⟨_, hO, (by first | rfl | (rw [blk_sr, blk_sr]) | (rw [blk_sr])), h⟩) (Nat.le_of_ble_eq_true rfl) (Nat.le_of_ble_eq_true rfl) dL_does_516
  · refine lv_aload_n hx hb dL_does_460 rfl (lv_at hl 3 rfl) ?_
    refine lv_iload_n hx hb dL_does_461 rfl (lv_at hl 2 rfl) ?_
    refine k_W (v := .int (nI (sn σ))) (σ' := nPst σ (nI q)) ⟨hx, hb, hml, hown, hts⟩ (n_post l hlf g hN hO (q := q) hq (ePst_n hq (by omega))) gL_does_X4_post rfl pX4_post ⟨Nat.le_of_ble_eq_true rfl, Nat.le_of_ble_eq_true rfl⟩ ⟨Nat.le_of_ble_eq_true rfl, Nat.le_of_ble_eq_true rfl⟩ hK hA hE rfl rfl hl.1 rfl (Nat.le_of_ble_eq_true rfl) dL_does_462 (fun H locs hK => ?_)
    have hO1 : OK (nPst σ (nI q)) := OK_pst hO hq (by omega)
    have hs1 : sn (nPst σ (nI q)) = sn σ + 1 := rfl
    refine lv_istore (lv' := [(7, .int (nI (sn σ))), (5, .int (fI (x5))), (4, .int (nI (a))), (3, .int (nI (q))), (0, .ref (ad 0)), (1, .int (nI (v))), (2, .int (nI (w)))]) hx hb dL_does_465 hl (by decide) rfl (fun ls hl => ?_)
    refine lv_iload hx hb dL_does_467 (lv_at hl 0 rfl) ?_
    refine lv_aload_n hx hb dL_does_469 rfl (lv_at hl 4 rfl) ?_
    refine k_D (v := .int (nI (sn (nPst σ (nI q))))) ⟨hx, hb, hml, hown, hts⟩ (n_entries l hlf g hN hO1 ) gL_does_X4_entries rfl pX4_entries ⟨Nat.le_of_ble_eq_true rfl, Nat.le_of_ble_eq_true rfl⟩ ⟨Nat.le_of_ble_eq_true rfl, Nat.le_of_ble_eq_true rfl⟩ hK hE rfl hl.1 rfl (Nat.le_of_ble_eq_true rfl) dL_does_470 ?_
    refine lv_iconst (v := nI (1)) hx hb dL_does_473 (by decide) ?_
    refine lv_isub hx hb dL_does_474 ?_
    refine tp_i (fI_succ (sn σ)) ?_
    refine br_neN (a := sn σ) (b := sn σ) (tgt := 513) hx hb (by omega) (by omega) dL_does_475 (by decide) (fun h37 => ?_) (fun h37 => ?_)
    · exact absurd rfl h37
    · refine lv_aload_n hx hb dL_does_478 rfl (lv_at hl 4 rfl) ?_
      refine lv_iload hx hb dL_does_479 (lv_at hl 0 rfl) ?_
      refine k_R (v := .int (nI (sa (nPst σ (nI q)) (sn σ)))) ⟨hx, hb, hml, hown, hts⟩ (n_authorOf l hlf g hN hO1 (e := sn σ) (by omega) (eE_n (by omega) hO1.1.1)) gL_does_X4_authorOf rfl pX4_authorOf ⟨Nat.le_of_ble_eq_true rfl, Nat.le_of_ble_eq_true rfl⟩ ⟨Nat.le_of_ble_eq_true rfl, Nat.le_of_ble_eq_true rfl⟩ hK hE rfl rfl hl.1 rfl (Nat.le_of_ble_eq_true rfl) dL_does_481 ?_
      refine lv_iload_n hx hb dL_does_484 rfl (lv_at hl 3 rfl) ?_
      refine br_neN (a := sa (nPst σ (nI q)) (sn σ)) (b := q) (tgt := 513) hx hb (Nat.lt_of_lt_of_le (hO1.1.2.2.2.2.1 _) (by decide)) (by omega) dL_does_485 (by decide) (fun h38 => ?_) (fun h38 => ?_)
      · exact absurd (pst_sa hq) h38
      · refine lv_aload_n hx hb dL_does_488 rfl (lv_at hl 4 rfl) ?_
        refine lv_iload hx hb dL_does_489 (lv_at hl 0 rfl) ?_
        refine k_R (v := .int (nI (so (nPst σ (nI q)) (sn σ)))) ⟨hx, hb, hml, hown, hts⟩ (n_originOf l hlf g hN hO1 (e := sn σ) (by omega) (eE_n (by omega) hO1.1.1)) gL_does_X4_originOf rfl pX4_originOf ⟨Nat.le_of_ble_eq_true rfl, Nat.le_of_ble_eq_true rfl⟩ ⟨Nat.le_of_ble_eq_true rfl, Nat.le_of_ble_eq_true rfl⟩ hK hE rfl rfl hl.1 rfl (Nat.le_of_ble_eq_true rfl) dL_does_491 ?_
        refine lv_iload hx hb dL_does_494 (lv_at hl 0 rfl) ?_
        refine br_neN (a := so (nPst σ (nI q)) (sn σ)) (b := sn σ) (tgt := 513) hx hb (Nat.lt_of_lt_of_le (hO1.1.2.2.2.2.2.1 _) (by decide)) (by omega) dL_does_496 (by decide) (fun h39 => ?_) (fun h39 => ?_)
        · exact absurd pst_so h39
        · refine lv_aload_n hx hb dL_does_499 rfl (lv_at hl 4 rfl) ?_
          refine lv_iload_n hx hb dL_does_500 rfl (lv_at hl 3 rfl) ?_
          refine lv_iload hx hb dL_does_501 (lv_at hl 0 rfl) ?_
          refine k_W (v := .int (bI (shw (nPst σ (nI q)) q (sn σ)))) (σ' := nPst σ (nI q)) ⟨hx, hb, hml, hown, hts⟩ (n_shows l hlf g hN hO1 (q := q) (by omega) (e := sn σ) (by omega) (by omega)) gL_does_X4_shows rfl pX4_shows ⟨Nat.le_of_ble_eq_true rfl, Nat.le_of_ble_eq_true rfl⟩ ⟨Nat.le_of_ble_eq_true rfl, Nat.le_of_ble_eq_true rfl⟩ hK hA hE rfl rfl hl.1 rfl (Nat.le_of_ble_eq_true rfl) dL_does_503 (fun H locs hK => ?_)
          refine br_neB (tgt := 513) hx hb dL_does_506 (by decide) (fun h40 => ?_) (fun h40 => ?_)
          · exact absurd h40 (by rw [pst_shw hO hq]; decide)
          · refine lv_iconst (v := bI (true)) hx hb dL_does_509 (by decide) ?_
            refine lv_goto (tgt := 514) hx hb dL_does_510 (by decide) ?_
            exact lc_ret hx hb hr hlocks hK (fun h => ⟨_, hO1, (by first | rfl | (rw [blk_sr, blk_sr]) | (rw [blk_sr])), h⟩) (Nat.le_of_ble_eq_true rfl) (Nat.le_of_ble_eq_true rfl) dL_does_514
set_option maxHeartbeats 4000000 in
set_option maxRecDepth 100000 in
/-- does(o, v, w) holds -/
theorem c_L_does (l : Launch) (hlf : l.stackTraces = false) (g : GT) {ad : Nat → Nat} {σ : St} (hN : FN ad 31) (hO : OK σ) {v w : Nat} (hv : v < 2 ^ 31) (hw : w < 2 ^ 31) : lcM l g yL_does wsL_does 9 180 14 84 [.ref (ad 0), .int (nI (v)), .int (nI (w))] ad σ (.int (bI true)) (dB g ad σ) := by
  refine lc_of (cc := cL_does) (maxL := 8) (ret := (some .boolean)) (by decide) rfl (Nat.le_of_ble_eq_true rfl) (fun p e s m below meth c ls hx hb hr hml hts hown hlocks hl hE hK => ?_)
  have hl : lv_has ls 8 [(0, .ref (ad 0)), (1, .int (nI (v))), (2, .int (nI (w)))] := hl
  have hown : s.vm.findClass RL = some m.cls := hown
  have hn150 := hO.1.1
  have C : dC p l s m ([.ref (ad 0), .int (nI (v)), .int (nI (w))] : List Value).toArray meth c g ad σ := ⟨hx, hb, hr, hml, hts, hown, hlocks, hlf, hE, hN, hO⟩
  refine lv_iload_n hx hb dL_does_0 rfl (lv_at hl 1 rfl) ?_
  refine lv_bipush (v := nI (16)) hx hb dL_does_1 (by decide) ?_
  refine n_div (x := v) (d := 16) (by omega) (by omega) (by omega) hx hb dL_does_3 ?_
  refine lv_bipush (v := nI (8)) hx hb dL_does_4 (by decide) ?_
  refine n_rem (x := v / 16) (d := 8) (by omega) (by omega) (by omega) hx hb dL_does_6 ?_
  obtain ⟨q, hq9⟩ : ∃ q, v / 16 % 8 = q := ⟨_, rfl⟩
  have hq : q < 8 := by omega
  refine tp_i (by rw [hq9]) ?_
  refine lv_istore_n (lv' := [(3, .int (nI (q))), (0, .ref (ad 0)), (1, .int (nI (v))), (2, .int (nI (w)))]) hx hb dL_does_7 rfl hl (by decide) rfl (fun ls hl => ?_)
  refine lv_iload_n hx hb dL_does_8 rfl (lv_at hl 2 rfl) ?_
  refine lv_sipush (v := nI (128)) hx hb dL_does_9 (by decide) ?_
  refine n_div (x := v) (d := 128) (by omega) (by omega) (by omega) hx hb dL_does_12 ?_
  refine lv_bipush (v := nI (8)) hx hb dL_does_13 (by decide) ?_
  refine n_rem (x := v / 128) (d := 8) (by omega) (by omega) (by omega) hx hb dL_does_15 ?_
  obtain ⟨a, ha9⟩ : ∃ a, v / 128 % 8 = a := ⟨_, rfl⟩
  have ha : a < 8 := by omega
  refine tp_i (by rw [ha9]) ?_
  refine lv_istore (lv' := [(4, .int (nI (a))), (3, .int (nI (q))), (0, .ref (ad 0)), (1, .int (nI (v))), (2, .int (nI (w)))]) hx hb dL_does_16 hl (by decide) rfl (fun ls hl => ?_)
  have jn41 : ∀ x5 : Nat, x5 ≤ sn σ → ∀ ls : Array Slot, lv_has ls 8 [(3, .int (nI (q))), (4, .int (nI (a))), (0, .ref (ad 0)), (1, .int (nI (v))), (2, .int (nI (w)))] → W p l e ({ frames := 9, cells := 14, slots := 84, locals := 180 } : Room) s m ([.ref (ad 0), .int (nI (v)), .int (nI (w))] : List Value).toArray below meth c s.heap [] 0 0 (vx_MQ below (xwQ 0 (some (.int (bI true))) (dB g ad σ) (fA ad)) (xX 0) ([.ref (ad 0), .int (nI (v)), .int (nI (w))] : List Value).toArray s 14 84 (fun q => q ∈ fA ad)) (F0 m 35 ls [.int (fI (x5))]) := by
    intro x5 hx5 ls hl
    refine lv_istore (lv' := [(5, .int (fI (x5))), (3, .int (nI (q))), (4, .int (nI (a))), (0, .ref (ad 0)), (1, .int (nI (v))), (2, .int (nI (w)))]) hx hb dL_does_35 hl (by decide) rfl (fun ls hl => ?_)
    refine lv_iload_n hx hb dL_does_37 rfl (lv_at hl 4 rfl) ?_
    refine lv_bipush (v := nI (8)) hx hb dL_does_38 (by decide) ?_
    refine n_rem (x := v) (d := 8) (by omega) (by omega) (by omega) hx hb dL_does_40 ?_
    rcases (show v % 8 = 0 ∨ v % 8 = 1 ∨ v % 8 = 2 ∨ v % 8 = 3 ∨ v % 8 = 4 ∨ 4 < v % 8 by omega) with h | h | h | h | h | h
    · refine tp_i (show nI (v % 8) = nI 0 from by rw [h]) ?_
      exact lv_tableIn (off := 35) (tgt := 76) hx hb dL_does_41 (by decide) (by decide) (by decide) (by decide) (d_0 C hw hq ha hx5 hK (lv_sub hl [0, 2, 1, 3, 4, 5] rfl))
    · refine tp_i (show nI (v % 8) = nI 1 from by rw [h]) ?_
      exact lv_tableIn (off := 97) (tgt := 138) hx hb dL_does_41 (by decide) (by decide) (by decide) (by decide) (d_1 C hw hq ha hx5 hK (lv_sub hl [0, 2, 1, 3, 4, 5] rfl))
    · refine tp_i (show nI (v % 8) = nI 2 from by rw [h]) ?_
      exact lv_tableIn (off := 173) (tgt := 214) hx hb dL_does_41 (by decide) (by decide) (by decide) (by decide) (d_2 C hw hq ha hx5 hK (lv_sub hl [0, 2, 1, 3, 4, 5] rfl))
    · refine tp_i (show nI (v % 8) = nI 3 from by rw [h]) ?_
      exact lv_tableIn (off := 238) (tgt := 279) hx hb dL_does_41 (by decide) (by decide) (by decide) (by decide) (d_3 C hw hq ha hx5 hK (lv_sub hl [0, 2, 1, 3, 4, 5] rfl))
    · refine tp_i (show nI (v % 8) = nI 4 from by rw [h]) ?_
      exact lv_tableIn (off := 353) (tgt := 394) hx hb dL_does_41 (by decide) (by decide) (by decide) (by decide) (d_4 C hw hq ha hx5 hK (lv_sub hl [0, 2, 1, 3, 4, 5] rfl))
    · exact lv_tableOut (tgt := 450) hx hb dL_does_41 (Or.inr (by rw [nI_toInt (by omega)]; omega)) (by decide) (d_5 C hw hq ha hx5 hK (lv_sub hl [0, 2, 1, 3, 4, 5] rfl))
  refine lv_aload_n hx hb dL_does_18 rfl (lv_at hl 2 rfl) ?_
  refine k_D (v := .int (nI (sn σ))) ⟨hx, hb, hml, hown, hts⟩ (n_entries l hlf g hN hO ) gL_does_X4_entries rfl pX4_entries ⟨Nat.le_of_ble_eq_true rfl, Nat.le_of_ble_eq_true rfl⟩ ⟨Nat.le_of_ble_eq_true rfl, Nat.le_of_ble_eq_true rfl⟩ hK hE rfl hl.1 rfl (Nat.le_of_ble_eq_true rfl) dL_does_19 ?_
  refine br_ne0 (tgt := 29) hx hb (by omega) dL_does_22 (by decide) (fun h42 => ?_) (fun h42 => ?_)
  · refine lv_iload_n hx hb dL_does_29 rfl (lv_at hl 4 rfl) ?_
    refine lv_aload_n hx hb dL_does_30 rfl (lv_at hl 2 rfl) ?_
    refine k_D (v := .int (nI (sn σ))) ⟨hx, hb, hml, hown, hts⟩ (n_entries l hlf g hN hO ) gL_does_X4_entries rfl pX4_entries ⟨Nat.le_of_ble_eq_true rfl, Nat.le_of_ble_eq_true rfl⟩ ⟨Nat.le_of_ble_eq_true rfl, Nat.le_of_ble_eq_true rfl⟩ hK hE rfl hl.1 rfl (Nat.le_of_ble_eq_true rfl) dL_does_31 ?_
    refine n_rem (x := w) (d := sn σ) (by omega) (by omega) (by omega) hx hb dL_does_34 ?_
    refine tp_i nI_fI ?_
    exact jn41 (w % (sn σ) + 1) (Nat.mod_lt _ (by omega)) _ (lv_sub hl [1, 0, 2, 3, 4] rfl)
  · refine lv_iconst (v := fI (0)) hx hb dL_does_25 (by decide) ?_
    refine lv_goto (tgt := 35) hx hb dL_does_26 (by decide) ?_
    exact jn41 0 (Nat.zero_le _) _ (lv_sub hl [1, 0, 2, 3, 4] rfl)
