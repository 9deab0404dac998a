/-! isCut -/
theorem br_ge0F {p : Program} {l : Launch} {e : Env} {R : Room} {s : State} {m : MethodId} {args : Array Value} {below : List Frame} {meth : Method} {c : Code} {H : Heap} {locs : List Loc} {cells slots : Nat} {Q : State → Prop} {pc a tgt : Nat} {off : Int} {rest : List Value} {ls : Array Slot} {cc : ByteArray} (hx : p.tables.exec = Jvm.exec) (hb : c.code = cc) (ha : a < 2 ^ 31) (hdg : decode cc pc = .ok (.ifCond .ge off, 3)) (ht : (pc : Int) + off = (tgt : Int)) (kt : 0 < a → W p l e R s m args below meth c H locs cells slots Q (F0 m tgt ls rest)) (kf : a = 0 → W p l e R s m args below meth c H locs cells slots Q (F0 m (pc + 3) ls rest)) : W p l e R s m args below meth c H locs cells slots Q (F0 m pc ls (.int (fI a) :: rest)) :=
  lv_if_ge hx hb hdg ht (fun h => kt ((fI_nneg ha).mp h)) (fun h => kf (Nat.eq_zero_of_not_pos (fun z => h ((fI_nneg ha).mpr z))))
set_option maxHeartbeats 4000000 in
set_option maxRecDepth 100000 in
/-- isCut(o, person, room) holds -/
theorem c_L_isCut (l : Launch) (hlf : l.stackTraces = false) (g : GT) {ad : Nat → Nat} {σ : St} (hN : FN ad 31) (hO : OK σ) {q : Nat} (hq : q < 8) : lcM l g yL_isCut wsL_isCut 9 154 20 120 [.ref (ad 0), .int (nI (q)), .int (nI (sr σ))] ad σ (.int (bI true)) (fun H1 => FWq g ad σ H1) := by
  refine lc_of (cc := cL_isCut) (maxL := 7) (ret := (some .boolean)) (by decide) rfl (Nat.le_of_ble_eq_true rfl) (fun p e s m below meth c ls hx hb hr hml hts hown hlocks hl hE hK => ?_)
  have hl : lv_has ls 7 [(0, .ref (ad 0)), (1, .int (nI (q))), (2, .int (nI (sr σ)))] := hl
  have hown : s.vm.findClass RL = some m.cls := hown
  have hA : ∀ z ∈ fA ad, z ∈ fA ad := fun _ h => h
  have hn150 := hO.1.1
  have hrm := rcn_le hO hq
  have hsr := hO.1.2.2.2.1
  have hsf := hO.1.2.2.2.2.2.2.2 q hq
  have jn1 : ∀ ls : Array Slot, lv_has ls 7 [(3, .int (nI (rcn σ q))), (0, .ref (ad 0)), (1, .int (nI (q))), (2, .int (nI (sr σ)))] → W p l e ({ frames := 9, cells := 20, slots := 120, locals := 154 } : Room) s m ([.ref (ad 0), .int (nI (q)), .int (nI (sr σ))] : List Value).toArray below meth c s.heap [] 3 18 (vx_MQ below (xwQ 0 (some (.int (bI true))) (fun H1 => FWq g ad σ H1) (fA ad)) (xX 0) ([.ref (ad 0), .int (nI (q)), .int (nI (sr σ))] : List Value).toArray s 20 120 (fun q => q ∈ fA ad)) (F0 m 32 ls [.int (bI (true))]) := by
    intro ls hl
    refine lv_istore (lv' := [(4, .int (bI (true))), (3, .int (nI (rcn σ q))), (0, .ref (ad 0)), (1, .int (nI (q))), (2, .int (nI (sr σ)))]) hx hb dL_isCut_32 hl (by decide) rfl (fun ls hl => ?_)
    refine lv_iload_n hx hb dL_isCut_34 rfl (lv_at hl 1 rfl) ?_
    refine br_le0 (tgt := 150) hx hb (by omega) dL_isCut_35 (by decide) (fun h2 => ?_) (fun h2 => ?_)
    · refine lv_iload hx hb dL_isCut_150 (lv_at hl 0 rfl) ?_
      exact lc_ret hx hb hr hlocks hK (fun h => h) (Nat.le_of_ble_eq_true rfl) (Nat.le_of_ble_eq_true rfl) dL_isCut_152
    · obtain ⟨lo, hlo⟩ := isRow_ex (σ := σ) (q := q) (i := 0) hsf (by omega)
      obtain ⟨hi, hhi⟩ := isRow_ex (σ := σ) (q := q) (i := rcn σ q - 1) hsf (by omega)
      have hlh := row_lh hlo hhi
      have hlo1 := hlo.1
      have hlo2 := hlo.2.1
      have hhi2 := hhi.2.1
      refine lv_aload_n hx hb dL_isCut_38 rfl (lv_at hl 2 rfl) ?_
      refine lv_iload_n hx hb dL_isCut_39 rfl (lv_at hl 3 rfl) ?_
      refine lv_iconst (v := nI (0)) hx hb dL_isCut_40 (by decide) ?_
      refine k_R (v := .int (nI (lo))) ⟨hx, hb, hml, hown, hts⟩ (n_rowAt l hlf g hN hO (q := q) hq (i := 0) (by omega) (by omega) hlo) gL_isCut_X4_rowAt rfl pX4_rowAt ⟨Nat.le_of_ble_eq_true rfl, Nat.le_of_ble_eq_true rfl⟩ ⟨Nat.le_of_ble_eq_true rfl, Nat.le_of_ble_eq_true rfl⟩ hK hE rfl rfl hl.1 rfl (Nat.le_of_ble_eq_true rfl) dL_isCut_41 ?_
      refine lv_istore (lv' := [(5, .int (nI (lo))), (4, .int (bI (true))), (3, .int (nI (rcn σ q))), (0, .ref (ad 0)), (1, .int (nI (q))), (2, .int (nI (sr σ)))]) hx hb dL_isCut_44 hl (by decide) rfl (fun ls hl => ?_)
      refine lv_aload_n hx hb dL_isCut_46 rfl (lv_at hl 3 rfl) ?_
      refine lv_iload_n hx hb dL_isCut_47 rfl (lv_at hl 4 rfl) ?_
      refine lv_iload_n hx hb dL_isCut_48 rfl (lv_at hl 2 rfl) ?_
      refine lv_iconst (v := nI (1)) hx hb dL_isCut_49 (by decide) ?_
      refine lv_isub hx hb dL_isCut_50 ?_
      refine tp_i (pk_sub (by omega)) ?_
      refine k_R (v := .int (nI (hi))) ⟨hx, hb, hml, hown, hts⟩ (n_rowAt l hlf g hN hO (q := q) hq (i := rcn σ q - 1) (by omega) (by omega) hhi) gL_isCut_X4_rowAt rfl pX4_rowAt ⟨Nat.le_of_ble_eq_true rfl, Nat.le_of_ble_eq_true rfl⟩ ⟨Nat.le_of_ble_eq_true rfl, Nat.le_of_ble_eq_true rfl⟩ hK hE rfl rfl hl.1 rfl (Nat.le_of_ble_eq_true rfl) dL_isCut_51 ?_
      refine lv_istore (lv' := [(6, .int (nI (hi))), (5, .int (nI (lo))), (4, .int (bI (true))), (3, .int (nI (rcn σ q))), (0, .ref (ad 0)), (1, .int (nI (q))), (2, .int (nI (sr σ)))]) hx hb dL_isCut_54 hl (by decide) rfl (fun ls hl => ?_)
      refine lv_iload hx hb dL_isCut_56 (lv_at hl 2 rfl) ?_
      refine br_eqB (tgt := 95) hx hb dL_isCut_58 (by decide) (fun h3 => ?_) (fun h3 => ?_)
      · exact absurd h3 (by decide)
      · refine lv_iload hx hb dL_isCut_61 (lv_at hl 1 rfl) ?_
        refine lv_aload_n hx hb dL_isCut_63 rfl (lv_at hl 4 rfl) ?_
        refine lv_iload_n hx hb dL_isCut_64 rfl (lv_at hl 5 rfl) ?_
        refine k_R (v := .int (fI (sf σ q))) ⟨hx, hb, hml, hown, hts⟩ (n_floorOf l hlf g hN hO (q := q) (by omega)) gL_isCut_X4_floorOf rfl pX4_floorOf ⟨Nat.le_of_ble_eq_true rfl, Nat.le_of_ble_eq_true rfl⟩ ⟨Nat.le_of_ble_eq_true rfl, Nat.le_of_ble_eq_true rfl⟩ hK hE rfl rfl hl.1 rfl (Nat.le_of_ble_eq_true rfl) dL_isCut_65 ?_
        refine tp_i2 nI_fI ?_
        refine br_leF (a := lo + 1) (b := sf σ q) (tgt := 95) hx hb (by omega) (by omega) dL_isCut_68 (by decide) (fun h4 => ?_) (fun h4 => ?_)
        · (exfalso; omega)
        · refine lv_iload hx hb dL_isCut_71 (lv_at hl 0 rfl) ?_
          refine lv_iload hx hb dL_isCut_73 (lv_at hl 1 rfl) ?_
          refine lv_iload_n hx hb dL_isCut_75 rfl (lv_at hl 3 rfl) ?_
          refine lv_iadd hx hb dL_isCut_76 ?_
          refine tp_i (nI_add _ _) ?_
          refine lv_iconst (v := nI (1)) hx hb dL_isCut_77 (by decide) ?_
          refine lv_isub hx hb dL_isCut_78 ?_
          refine tp_i (pk_sub (by omega)) ?_
          refine br_ltN (a := hi) (b := lo + rcn σ q - 1) (tgt := 95) hx hb (by omega) (by omega) dL_isCut_79 (by decide) (fun h5 => ?_) (fun h5 => ?_)
          · (exfalso; omega)
          · refine lv_iload hx hb dL_isCut_82 (lv_at hl 0 rfl) ?_
            refine lv_aload_n hx hb dL_isCut_84 rfl (lv_at hl 4 rfl) ?_
            refine k_D (v := .int (nI (sn σ))) ⟨hx, hb, hml, hown, hts⟩ (n_entries l hlf g hN hO ) gL_isCut_X4_entries rfl pX4_entries ⟨Nat.le_of_ble_eq_true rfl, Nat.le_of_ble_eq_true rfl⟩ ⟨Nat.le_of_ble_eq_true rfl, Nat.le_of_ble_eq_true rfl⟩ hK hE rfl hl.1 rfl (Nat.le_of_ble_eq_true rfl) dL_isCut_85 ?_
            refine br_geN (a := hi) (b := sn σ) (tgt := 95) hx hb (by omega) (by omega) dL_isCut_88 (by decide) (fun h6 => ?_) (fun h6 => ?_)
            · (exfalso; omega)
            · refine lv_iconst (v := bI (true)) hx hb dL_isCut_91 (by decide) ?_
              refine lv_goto (tgt := 96) hx hb dL_isCut_92 (by decide) ?_
              refine lv_istore (lv' := [(4, .int (bI (true))), (6, .int (nI (hi))), (5, .int (nI (lo))), (3, .int (nI (rcn σ q))), (0, .ref (ad 0)), (1, .int (nI (q))), (2, .int (nI (sr σ)))]) hx hb dL_isCut_96 hl (by decide) rfl (fun ls hl => ?_)
              refine lv_iload hx hb dL_isCut_98 (lv_at hl 0 rfl) ?_
              refine br_eqB (tgt := 147) hx hb dL_isCut_100 (by decide) (fun h7 => ?_) (fun h7 => ?_)
              · exact absurd h7 (by decide)
              · refine lv_aload_n hx hb dL_isCut_103 rfl (lv_at hl 4 rfl) ?_
                refine lv_iload_n hx hb dL_isCut_104 rfl (lv_at hl 5 rfl) ?_
                refine lv_aload_n hx hb dL_isCut_105 rfl (lv_at hl 4 rfl) ?_
                refine lv_iload hx hb dL_isCut_106 (lv_at hl 2 rfl) ?_
                refine k_R (v := .int (nI (sa σ lo))) ⟨hx, hb, hml, hown, hts⟩ (n_authorOf l hlf g hN hO (e := lo) (by omega) (eE_n (by omega) hO.1.1)) gL_isCut_X4_authorOf rfl pX4_authorOf ⟨Nat.le_of_ble_eq_true rfl, Nat.le_of_ble_eq_true rfl⟩ ⟨Nat.le_of_ble_eq_true rfl, Nat.le_of_ble_eq_true rfl⟩ hK hE rfl rfl hl.1 rfl (Nat.le_of_ble_eq_true rfl) dL_isCut_108 ?_
                refine k_R (v := .int (bI (sF σ (8 * q + (sa σ lo))))) ⟨hx, hb, hml, hown, hts⟩ (n_follows l hlf g hN hO (q := q) (by omega) (a := sa σ lo) (hO.1.2.2.2.2.1 lo)) gL_isCut_X4_follows rfl pX4_follows ⟨Nat.le_of_ble_eq_true rfl, Nat.le_of_ble_eq_true rfl⟩ ⟨Nat.le_of_ble_eq_true rfl, Nat.le_of_ble_eq_true rfl⟩ hK hE rfl rfl hl.1 rfl (Nat.le_of_ble_eq_true rfl) dL_isCut_111 ?_
                refine br_eqB (tgt := 147) hx hb dL_isCut_114 (by decide) (fun h8 => ?_) (fun h8 => ?_)
                · exact absurd h8 (by rw [(row_F hlo).1]; decide)
                · refine lv_aload_n hx hb dL_isCut_117 rfl (lv_at hl 4 rfl) ?_
                  refine lv_aload_n hx hb dL_isCut_118 rfl (lv_at hl 4 rfl) ?_
                  refine lv_iload hx hb dL_isCut_119 (lv_at hl 2 rfl) ?_
                  refine k_R (v := .int (nI (sa σ lo))) ⟨hx, hb, hml, hown, hts⟩ (n_authorOf l hlf g hN hO (e := lo) (by omega) (eE_n (by omega) hO.1.1)) gL_isCut_X4_authorOf rfl pX4_authorOf ⟨Nat.le_of_ble_eq_true rfl, Nat.le_of_ble_eq_true rfl⟩ ⟨Nat.le_of_ble_eq_true rfl, Nat.le_of_ble_eq_true rfl⟩ hK hE rfl rfl hl.1 rfl (Nat.le_of_ble_eq_true rfl) dL_isCut_121 ?_
                  refine k_R (v := .int (bI (lg σ (sa σ lo)))) ⟨hx, hb, hml, hown, hts⟩ (n_isLarge l hlf g hN hO (a := sa σ lo) (hO.1.2.2.2.2.1 lo)) gL_isCut_X4_isLarge rfl pX4_isLarge ⟨Nat.le_of_ble_eq_true rfl, Nat.le_of_ble_eq_true rfl⟩ ⟨Nat.le_of_ble_eq_true rfl, Nat.le_of_ble_eq_true rfl⟩ hK hE rfl rfl hl.1 rfl (Nat.le_of_ble_eq_true rfl) dL_isCut_124 ?_
                  refine br_neB (tgt := 147) hx hb dL_isCut_127 (by decide) (fun h9 => ?_) (fun h9 => ?_)
                  · exact absurd h9 (by rw [(row_F hlo).2]; decide)
                  · refine lv_aload_n hx hb dL_isCut_130 rfl (lv_at hl 4 rfl) ?_
                    refine lv_aload_n hx hb dL_isCut_131 rfl (lv_at hl 4 rfl) ?_
                    refine lv_iload hx hb dL_isCut_132 (lv_at hl 1 rfl) ?_
                    refine k_R (v := .int (nI (sa σ hi))) ⟨hx, hb, hml, hown, hts⟩ (n_authorOf l hlf g hN hO (e := hi) (by omega) (eE_n (by omega) hO.1.1)) gL_isCut_X4_authorOf rfl pX4_authorOf ⟨Nat.le_of_ble_eq_true rfl, Nat.le_of_ble_eq_true rfl⟩ ⟨Nat.le_of_ble_eq_true rfl, Nat.le_of_ble_eq_true rfl⟩ hK hE rfl rfl hl.1 rfl (Nat.le_of_ble_eq_true rfl) dL_isCut_134 ?_
                    refine k_R (v := .int (bI (lg σ (sa σ hi)))) ⟨hx, hb, hml, hown, hts⟩ (n_isLarge l hlf g hN hO (a := sa σ hi) (hO.1.2.2.2.2.1 hi)) gL_isCut_X4_isLarge rfl pX4_isLarge ⟨Nat.le_of_ble_eq_true rfl, Nat.le_of_ble_eq_true rfl⟩ ⟨Nat.le_of_ble_eq_true rfl, Nat.le_of_ble_eq_true rfl⟩ hK hE rfl rfl hl.1 rfl (Nat.le_of_ble_eq_true rfl) dL_isCut_137 ?_
                    refine br_neB (tgt := 147) hx hb dL_isCut_140 (by decide) (fun h10 => ?_) (fun h10 => ?_)
                    · exact absurd h10 (by rw [(row_F hhi).2]; decide)
                    · refine lv_iconst (v := bI (true)) hx hb dL_isCut_143 (by decide) ?_
                      refine lv_goto (tgt := 148) hx hb dL_isCut_144 (by decide) ?_
                      refine lv_istore (lv' := [(4, .int (bI (true))), (6, .int (nI (hi))), (5, .int (nI (lo))), (3, .int (nI (rcn σ q))), (0, .ref (ad 0)), (1, .int (nI (q))), (2, .int (nI (sr σ)))]) hx hb dL_isCut_148 hl (by decide) rfl (fun ls hl => ?_)
                      refine lv_iload hx hb dL_isCut_150 (lv_at hl 0 rfl) ?_
                      exact lc_ret hx hb hr hlocks hK (fun h => h) (Nat.le_of_ble_eq_true rfl) (Nat.le_of_ble_eq_true rfl) dL_isCut_152
  refine lv_aload_n hx hb dL_isCut_0 rfl (lv_at hl 0 rfl) ?_
  refine lv_iload_n hx hb dL_isCut_1 rfl (lv_at hl 1 rfl) ?_
  refine k_R (v := .int (nI (rcn σ q))) ⟨hx, hb, hml, hown, hts⟩ (n_inRow l hlf g hN hO (q := q) (by omega)) gL_isCut_X4_inRow rfl pX4_inRow ⟨Nat.le_of_ble_eq_true rfl, Nat.le_of_ble_eq_true rfl⟩ ⟨Nat.le_of_ble_eq_true rfl, Nat.le_of_ble_eq_true rfl⟩ hK hE rfl rfl hl.1 rfl (Nat.le_of_ble_eq_true rfl) dL_isCut_2 ?_
  refine lv_istore_n (lv' := [(3, .int (nI (rcn σ q))), (0, .ref (ad 0)), (1, .int (nI (q))), (2, .int (nI (sr σ)))]) hx hb dL_isCut_5 rfl hl (by decide) rfl (fun ls hl => ?_)
  refine lv_iload_n hx hb dL_isCut_6 rfl (lv_at hl 0 rfl) ?_
  refine lv_iload_n hx hb dL_isCut_7 rfl (lv_at hl 3 rfl) ?_
  refine br_gtN (a := rcn σ q) (b := sr σ) (tgt := 31) hx hb (by omega) (by omega) dL_isCut_8 (by decide) (fun h11 => ?_) (fun h11 => ?_)
  · (exfalso; omega)
  · refine lv_aload_n hx hb dL_isCut_11 rfl (lv_at hl 1 rfl) ?_
    refine lv_iload_n hx hb dL_isCut_12 rfl (lv_at hl 2 rfl) ?_
    refine k_R (v := .int (fI (sf σ q))) ⟨hx, hb, hml, hown, hts⟩ (n_floorOf l hlf g hN hO (q := q) (by omega)) gL_isCut_X4_floorOf rfl pX4_floorOf ⟨Nat.le_of_ble_eq_true rfl, Nat.le_of_ble_eq_true rfl⟩ ⟨Nat.le_of_ble_eq_true rfl, Nat.le_of_ble_eq_true rfl⟩ hK hE rfl rfl hl.1 rfl (Nat.le_of_ble_eq_true rfl) dL_isCut_13 ?_
    refine br_ge0F (tgt := 27) hx hb (by omega) dL_isCut_16 (by decide) (fun h12 => ?_) (fun h12 => ?_)
    · refine lv_iconst (v := bI (true)) hx hb dL_isCut_27 (by decide) ?_
      refine lv_goto (tgt := 32) hx hb dL_isCut_28 (by decide) ?_
      refine W.widen (k := 3) (n := 18) (Nat.le_of_ble_eq_true rfl) (Nat.le_of_ble_eq_true rfl) ?_
      exact jn1 _ (lv_sub hl [0, 1, 2, 3] rfl)
    · refine lv_aload_n hx hb dL_isCut_19 rfl (lv_at hl 1 rfl) ?_
      refine lv_iload_n hx hb dL_isCut_20 rfl (lv_at hl 2 rfl) ?_
      refine k_R (v := .int (bI (rGap σ q))) ⟨hx, hb, hml, hown, hts⟩ (n_hasGap l hlf g hN hO (q := q) (by omega)) gL_isCut_X4_hasGap rfl pX4_hasGap ⟨Nat.le_of_ble_eq_true rfl, Nat.le_of_ble_eq_true rfl⟩ ⟨Nat.le_of_ble_eq_true rfl, Nat.le_of_ble_eq_true rfl⟩ hK hE rfl rfl hl.1 rfl (Nat.le_of_ble_eq_true rfl) dL_isCut_21 ?_
      refine br_neB (tgt := 31) hx hb dL_isCut_24 (by decide) (fun h13 => ?_) (fun h13 => ?_)
      · exact absurd h13 (by rw [gap_0 h12]; decide)
      · refine lv_iconst (v := bI (true)) hx hb dL_isCut_27 (by decide) ?_
        refine lv_goto (tgt := 32) hx hb dL_isCut_28 (by decide) ?_
        exact jn1 _ (lv_sub hl [0, 1, 2, 3] rfl)
