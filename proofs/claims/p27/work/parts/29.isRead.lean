/-! isRead -/
set_option maxHeartbeats 4000000 in
set_option maxRecDepth 100000 in
/-- isRead(o, person, size) holds -/
theorem c_L_isRead (l : Launch) (hlf : l.stackTraces = false) (g : GT) {ad : Nat → Nat} {σ : St} (hN : FN ad 31) (hO : OK σ) {q z : Nat} (hq : q < 8) (hz1 : 1 ≤ z) (hz2 : z ≤ 20) : lcM l g yL_isRead wsL_isRead 9 158 120 720 [.ref (ad 0), .int (nI (q)), .int (nI (z))] ad σ (.int (bI true)) (fun H1 => FWq g ad σ H1) := by
  refine lc_of (cc := cL_isRead) (maxL := 9) (ret := (some .boolean)) (by decide) rfl (Nat.le_of_ble_eq_true rfl) (fun p e s m below meth c ls hx hb hr hml hts hown hlocks hl hE hK => ?_)
  have hl : lv_has ls 9 [(0, .ref (ad 0)), (1, .int (nI (q))), (2, .int (nI (z)))] := hl
  have hown : s.vm.findClass RL = some m.cls := hown
  have hA : ∀ z ∈ fA ad, z ∈ fA ad := fun _ h => h
  have hn150 := hO.1.1
  have hT150 : cN (shw σ q) (sn σ) ≤ 150 := Nat.le_trans (cN_le _ _) hn150
  have jn1 : ∀ i : Nat, i ≤ 8 → ((i = 8 ∧ 8 ≤ cN (shw σ q) (sn σ)) ∨ (i < 8 ∧ cN (shw σ q) (sn σ) = i)) → ∀ (H : Heap) (locs : List Loc), cH g ad s (fun q => q ∈ fA ad) σ H locs → ∀ ls : Array Slot, lv_has ls 9 [(4, .int (bI (true))), (6, .int (nI (i))), (0, .ref (ad 0)), (1, .int (nI (q))), (2, .int (nI (z))), (3, .int (nI (cN (shw σ q) (sn σ))))] → W p l e ({ frames := 9, cells := 120, slots := 720, locals := 158 } : Room) s m ([.ref (ad 0), .int (nI (q)), .int (nI (z))] : List Value).toArray below meth c H locs 110 660 (vx_MQ below (xwQ 0 (some (.int (bI true))) (fun H1 => FWq g ad σ H1) (fA ad)) (xX 0) ([.ref (ad 0), .int (nI (q)), .int (nI (z))] : List Value).toArray s 120 720 (fun q => q ∈ fA ad)) (F0 m 167 ls []) := by
    intro i hi8 hie H locs hK ls hl
    refine lv_iload hx hb dL_isRead_167 (lv_at hl 0 rfl) ?_
    refine br_eqB (tgt := 198) hx hb dL_isRead_169 (by decide) (fun h2 => ?_) (fun h2 => ?_)
    · exact absurd h2 (by decide)
    · refine lv_iload hx hb dL_isRead_172 (lv_at hl 1 rfl) ?_
      refine lv_bipush (v := nI (8)) hx hb dL_isRead_174 (by decide) ?_
      refine br_neN (a := i) (b := 8) (tgt := 188) hx hb (by omega) (by omega) dL_isRead_176 (by decide) (fun h3 => ?_) (fun h3 => ?_)
      · refine lv_iload_n hx hb dL_isRead_188 rfl (lv_at hl 5 rfl) ?_
        refine lv_iload hx hb dL_isRead_189 (lv_at hl 1 rfl) ?_
        refine br_neN (a := cN (shw σ q) (sn σ)) (b := i) (tgt := 198) hx hb (by omega) (by omega) dL_isRead_191 (by decide) (fun h4 => ?_) (fun h4 => ?_)
        · (exfalso; omega)
        · refine lv_iconst (v := bI (true)) hx hb dL_isRead_194 (by decide) ?_
          refine lv_goto (tgt := 199) hx hb dL_isRead_195 (by decide) ?_
          exact lc_ret hx hb hr hlocks hK (fun h => h) (Nat.le_of_ble_eq_true rfl) (Nat.le_of_ble_eq_true rfl) dL_isRead_199
      · refine lv_iload_n hx hb dL_isRead_179 rfl (lv_at hl 5 rfl) ?_
        refine lv_bipush (v := nI (8)) hx hb dL_isRead_180 (by decide) ?_
        refine br_ltN (a := cN (shw σ q) (sn σ)) (b := 8) (tgt := 198) hx hb (by omega) (by omega) dL_isRead_182 (by decide) (fun h5 => ?_) (fun h5 => ?_)
        · (exfalso; omega)
        · refine lv_goto (tgt := 194) hx hb dL_isRead_185 (by decide) ?_
          refine lv_iconst (v := bI (true)) hx hb dL_isRead_194 (by decide) ?_
          refine lv_goto (tgt := 199) hx hb dL_isRead_195 (by decide) ?_
          exact lc_ret hx hb hr hlocks hK (fun h => h) (Nat.le_of_ble_eq_true rfl) (Nat.le_of_ble_eq_true rfl) dL_isRead_199
  have jn6 : ∀ i : Nat, i < 8 → cN (shw σ q) (sn σ) = i → ∀ (H : Heap) (locs : List Loc), cH g ad s (fun q => q ∈ fA ad) σ H locs → ∀ ls : Array Slot, lv_has ls 9 [(7, .int (nI (i + 1))), (4, .int (bI (true))), (6, .int (nI (i))), (0, .ref (ad 0)), (1, .int (nI (q))), (2, .int (nI (z))), (3, .int (nI (cN (shw σ q) (sn σ))))] → W p l e ({ frames := 9, cells := 120, slots := 720, locals := 158 } : Room) s m ([.ref (ad 0), .int (nI (q)), .int (nI (z))] : List Value).toArray below meth c H locs 110 660 (vx_MQ below (xwQ 0 (some (.int (bI true))) (fun H1 => FWq g ad σ H1) (fA ad)) (xX 0) ([.ref (ad 0), .int (nI (q)), .int (nI (z))] : List Value).toArray s 120 720 (fun q => q ∈ fA ad)) (F0 m 33 ls []) := by
    intro i hi8 hie H locs hK ls hl
    refine lv_iload hx hb dL_isRead_33 (lv_at hl 0 rfl) ?_
    refine lv_bipush (v := nI (8)) hx hb dL_isRead_35 (by decide) ?_
    refine br_geN (a := i + 1) (b := 8) (tgt := 167) hx hb (by omega) (by omega) dL_isRead_37 (by decide) (fun h7 => ?_) (fun h7 => ?_)
    · exact jn1 (i) (by omega) (by omega) _ _ hK _ (lv_sub hl [1, 2, 3, 4, 5, 6] rfl)
    · refine lv_iload hx hb dL_isRead_40 (lv_at hl 1 rfl) ?_
      refine br_eqB (tgt := 167) hx hb dL_isRead_42 (by decide) (fun h8 => ?_) (fun h8 => ?_)
      · exact absurd h8 (by decide)
      · refine lv_iload hx hb dL_isRead_45 (lv_at hl 2 rfl) ?_
        refine lv_iload hx hb dL_isRead_47 (lv_at hl 0 rfl) ?_
        refine br_neN (a := i) (b := i + 1) (tgt := 167) hx hb (by omega) (by omega) dL_isRead_49 (by decide) (fun h9 => ?_) (fun h9 => ?_)
        · exact jn1 (i) (by omega) (by omega) _ _ hK _ (lv_sub hl [1, 2, 3, 4, 5, 6] rfl)
        · (exfalso; omega)
  have lp10 : ∀ (n9 k cu : Nat), 8 - k < n9 → k ≤ 8 → curs σ q k cu → ∀ (H : Heap) (locs : List Loc), cH g ad s (fun q => q ∈ fA ad) σ H locs → ∀ ls : Array Slot, lv_has ls 9 [(7, .int (nI (k))), (6, .int (nI (k))), (5, .int (nI (cu))), (4, .int (bI (true))), (0, .ref (ad 0)), (1, .int (nI (q))), (2, .int (nI (z))), (3, .int (nI (cN (shw σ q) (sn σ))))] → W p l e ({ frames := 9, cells := 120, slots := 720, locals := 158 } : Room) s m ([.ref (ad 0), .int (nI (q)), .int (nI (z))] : List Value).toArray below meth c H locs (13 * k + 2) (78 * k + 12) (vx_MQ below (xwQ 0 (some (.int (bI true))) (fun H1 => FWq g ad σ H1) (fA ad)) (xX 0) ([.ref (ad 0), .int (nI (q)), .int (nI (z))] : List Value).toArray s 120 720 (fun q => q ∈ fA ad)) (F0 m 33 ls []) := by
    intro n9
    induction n9 with
    | zero => intro k cu h; omega
    | succ n9 ihlp10 =>
      intro k cu h9 hk8 hcu H locs hK ls hl
      have hc150 := curs_le hO hcu
      have hcT := hcu.2
      refine lv_iload hx hb dL_isRead_33 (lv_at hl 0 rfl) ?_
      refine lv_bipush (v := nI (8)) hx hb dL_isRead_35 (by decide) ?_
      refine br_geN (a := k) (b := 8) (tgt := 167) hx hb (by omega) (by omega) dL_isRead_37 (by decide) (fun h11 => ?_) (fun h11 => ?_)
      · refine W.widen (k := 110) (n := 660) (by omega) (by omega) ?_
        exact jn1 (k) (by omega) (by omega) _ _ hK _ (lv_sub hl [3, 1, 4, 5, 6, 7] rfl)
      · have hk7 : k < 8 := by omega
        have jn12 : ∀ (H : Heap) (locs : List Loc), cH g ad s (fun q => q ∈ fA ad) σ H locs → ∀ ls : Array Slot, lv_has ls 9 [(4, .int (bI (true))), (8, .int (fI (rNxt σ q cu))), (7, .int (nI (k))), (6, .int (nI (k))), (5, .int (nI (cu))), (0, .ref (ad 0)), (1, .int (nI (q))), (2, .int (nI (z))), (3, .int (nI (cN (shw σ q) (sn σ))))] → W p l e ({ frames := 9, cells := 120, slots := 720, locals := 158 } : Room) s m ([.ref (ad 0), .int (nI (q)), .int (nI (z))] : List Value).toArray below meth c H locs (13 * k + 7) (78 * k + 42) (vx_MQ below (xwQ 0 (some (.int (bI true))) (fun H1 => FWq g ad σ H1) (fA ad)) (xX 0) ([.ref (ad 0), .int (nI (q)), .int (nI (z))] : List Value).toArray s 120 720 (fun q => q ∈ fA ad)) (F0 m 96 ls []) := by
          intro H locs hK ls hl
          refine lv_iload hx hb dL_isRead_96 (lv_at hl 1 rfl) ?_
          refine br_lt0F (tgt := 161) hx hb (by have := laB_le (shw σ q) (cmin cu (sn σ)); have h5 : rNxt σ q cu = laB (shw σ q) (cmin cu (sn σ)) := rfl; have h6 : cmin cu (sn σ) ≤ sn σ := (cmin_le cu (sn σ)).1; omega) dL_isRead_98 (by decide) (fun h13 => ?_) (fun h13 => ?_)
          · have hT := curs_end hcu h13
            have hk7 : k < 8 := by omega
            refine lv_iinc (v := nI (k + 1)) (lv' := [(7, .int (nI (k + 1))), (4, .int (bI (true))), (8, .int (fI (rNxt σ q cu))), (6, .int (nI (k))), (5, .int (nI (cu))), (0, .ref (ad 0)), (1, .int (nI (q))), (2, .int (nI (z))), (3, .int (nI (cN (shw σ q) (sn σ))))]) hx hb dL_isRead_161 hl (k := 2) rfl (inc1 (k)) (by decide) rfl (fun ls hl => ?_)
            refine lv_goto (tgt := 33) hx hb dL_isRead_164 (by decide) ?_
            refine W.widen (k := 110) (n := 660) (by omega) (by omega) ?_
            exact jn6 k hk7 hT _ _ hK _ (lv_sub hl [0, 1, 3, 5, 6, 7, 8] rfl)
          · obtain ⟨r, hr⟩ : ∃ r, rNxt σ q cu = r + 1 := ⟨rNxt σ q cu - 1, by omega⟩
            obtain ⟨hr1, hr2, hr3, hr4⟩ := curs_nx hcu hr
            have hdu := due_at (shw_due hr3)
            have hdu1 := hdu.1
            rw [hr, fI_succ] at hl
            refine lv_iload hx hb dL_isRead_101 (lv_at hl 0 rfl) ?_
            refine br_eqB (tgt := 151) hx hb dL_isRead_103 (by decide) (fun h14 => ?_) (fun h14 => ?_)
            · exact absurd h14 (by decide)
            · refine lv_iload hx hb dL_isRead_106 (lv_at hl 1 rfl) ?_
              refine lv_iload hx hb dL_isRead_108 (lv_at hl 4 rfl) ?_
              refine br_geN (a := r) (b := cu) (tgt := 151) hx hb (by omega) (by omega) dL_isRead_110 (by decide) (fun h15 => ?_) (fun h15 => ?_)
              · (exfalso; omega)
              · refine lv_aload_n hx hb dL_isRead_113 rfl (lv_at hl 5 rfl) ?_
                refine lv_iload_n hx hb dL_isRead_114 rfl (lv_at hl 6 rfl) ?_
                refine lv_iload hx hb dL_isRead_115 (lv_at hl 1 rfl) ?_
                refine k_W (v := .int (bI (shw σ q r))) (σ' := σ) ⟨hx, hb, hml, hown, hts⟩ (n_shows l hlf g hN hO (q := q) (by omega) (e := r) (by omega) (by omega)) gL_isRead_X4_shows rfl pX4_shows ⟨Nat.le_of_ble_eq_true rfl, Nat.le_of_ble_eq_true rfl⟩ ⟨(show 13 * k + 7 + 2 ≤ 120 by omega), (show 78 * k + 42 + 12 ≤ 720 by omega)⟩ hK hA hE rfl rfl hl.1 rfl (Nat.le_of_ble_eq_true rfl) dL_isRead_117 (fun H locs hK => ?_)
                refine br_eqB (tgt := 151) hx hb dL_isRead_120 (by decide) (fun h16 => ?_) (fun h16 => ?_)
                · exact absurd h16 (by rw [hr3]; decide)
                · refine lv_aload_n hx hb dL_isRead_123 rfl (lv_at hl 5 rfl) ?_
                  refine lv_iload_n hx hb dL_isRead_124 rfl (lv_at hl 6 rfl) ?_
                  refine lv_aload_n hx hb dL_isRead_125 rfl (lv_at hl 5 rfl) ?_
                  refine lv_iload hx hb dL_isRead_126 (lv_at hl 1 rfl) ?_
                  refine k_R (v := .int (nI (sa σ r))) ⟨hx, hb, hml, hown, hts⟩ (n_authorOf l hlf g hN hO (e := r) (by omega) (eE_n (by omega) hO.1.1)) gL_isRead_X4_authorOf rfl pX4_authorOf ⟨Nat.le_of_ble_eq_true rfl, Nat.le_of_ble_eq_true rfl⟩ ⟨(show 13 * k + 9 + 1 ≤ 120 by omega), (show 78 * k + 54 + 6 ≤ 720 by omega)⟩ hK hE rfl rfl hl.1 rfl (Nat.le_of_ble_eq_true rfl) dL_isRead_128 ?_
                  refine k_R (v := .int (bI (sF σ (8 * q + (sa σ r))))) ⟨hx, hb, hml, hown, hts⟩ (n_follows l hlf g hN hO (q := q) (by omega) (a := sa σ r) (hO.1.2.2.2.2.1 r)) gL_isRead_X4_follows rfl pX4_follows ⟨Nat.le_of_ble_eq_true rfl, Nat.le_of_ble_eq_true rfl⟩ ⟨(show 13 * k + 10 + 2 ≤ 120 by omega), (show 78 * k + 60 + 12 ≤ 720 by omega)⟩ hK hE rfl rfl hl.1 rfl (Nat.le_of_ble_eq_true rfl) dL_isRead_131 ?_
                  refine br_eqB (tgt := 151) hx hb dL_isRead_134 (by decide) (fun h17 => ?_) (fun h17 => ?_)
                  · exact absurd h17 (by rw [hdu.2.1]; decide)
                  · refine lv_iload hx hb dL_isRead_137 (lv_at hl 1 rfl) ?_
                    refine lv_aload_n hx hb dL_isRead_139 rfl (lv_at hl 5 rfl) ?_
                    refine lv_iload_n hx hb dL_isRead_140 rfl (lv_at hl 6 rfl) ?_
                    refine k_R (v := .int (fI (sf σ q))) ⟨hx, hb, hml, hown, hts⟩ (n_floorOf l hlf g hN hO (q := q) (by omega)) gL_isRead_X4_floorOf rfl pX4_floorOf ⟨Nat.le_of_ble_eq_true rfl, Nat.le_of_ble_eq_true rfl⟩ ⟨(show 13 * k + 12 + 1 ≤ 120 by omega), (show 78 * k + 72 + 6 ≤ 720 by omega)⟩ hK hE rfl rfl hl.1 rfl (Nat.le_of_ble_eq_true rfl) dL_isRead_141 ?_
                    refine tp_i2 nI_fI ?_
                    refine br_leF (a := r + 1) (b := sf σ q) (tgt := 151) hx hb (by omega) (by omega) dL_isRead_144 (by decide) (fun h18 => ?_) (fun h18 => ?_)
                    · (exfalso; omega)
                    · refine lv_iconst (v := bI (true)) hx hb dL_isRead_147 (by decide) ?_
                      refine lv_goto (tgt := 152) hx hb dL_isRead_148 (by decide) ?_
                      refine lv_istore (lv' := [(4, .int (bI (true))), (8, .int (nI (r))), (7, .int (nI (k))), (6, .int (nI (k))), (5, .int (nI (cu))), (0, .ref (ad 0)), (1, .int (nI (q))), (2, .int (nI (z))), (3, .int (nI (cN (shw σ q) (sn σ))))]) hx hb dL_isRead_152 hl (by decide) rfl (fun ls hl => ?_)
                      refine lv_iload hx hb dL_isRead_154 (lv_at hl 1 rfl) ?_
                      refine lv_istore (lv' := [(5, .int (nI (r))), (4, .int (bI (true))), (8, .int (nI (r))), (7, .int (nI (k))), (6, .int (nI (k))), (0, .ref (ad 0)), (1, .int (nI (q))), (2, .int (nI (z))), (3, .int (nI (cN (shw σ q) (sn σ))))]) hx hb dL_isRead_156 hl (by decide) rfl (fun ls hl => ?_)
                      refine lv_iinc (v := nI (k + 1)) (lv' := [(6, .int (nI (k + 1))), (5, .int (nI (r))), (4, .int (bI (true))), (8, .int (nI (r))), (7, .int (nI (k))), (0, .ref (ad 0)), (1, .int (nI (q))), (2, .int (nI (z))), (3, .int (nI (cN (shw σ q) (sn σ))))]) hx hb dL_isRead_158 hl (k := 4) rfl (inc1 (k)) (by decide) rfl (fun ls hl => ?_)
                      refine lv_iinc (v := nI (k + 1)) (lv' := [(7, .int (nI (k + 1))), (6, .int (nI (k + 1))), (5, .int (nI (r))), (4, .int (bI (true))), (8, .int (nI (r))), (0, .ref (ad 0)), (1, .int (nI (q))), (2, .int (nI (z))), (3, .int (nI (cN (shw σ q) (sn σ))))]) hx hb dL_isRead_161 hl (k := 4) rfl (inc1 (k)) (by decide) rfl (fun ls hl => ?_)
                      refine lv_goto (tgt := 33) hx hb dL_isRead_164 (by decide) ?_
                      refine W.widen (k := 13 * (k + 1) + 2) (n := 78 * (k + 1) + 12) (by omega) (by omega) ?_
                      exact ihlp10 (k + 1) r (by omega) (by omega) hr4 _ _ hK _ (lv_sub hl [0, 1, 2, 3, 5, 6, 7, 8] rfl)
        refine lv_iload hx hb dL_isRead_40 (lv_at hl 3 rfl) ?_
        refine br_eqB (tgt := 167) hx hb dL_isRead_42 (by decide) (fun h19 => ?_) (fun h19 => ?_)
        · exact absurd h19 (by decide)
        · refine lv_iload hx hb dL_isRead_45 (lv_at hl 1 rfl) ?_
          refine lv_iload hx hb dL_isRead_47 (lv_at hl 0 rfl) ?_
          refine br_neN (a := k) (b := k) (tgt := 167) hx hb (by omega) (by omega) dL_isRead_49 (by decide) (fun h20 => ?_) (fun h20 => ?_)
          · exact absurd rfl h20
          · refine lv_aload_n hx hb dL_isRead_52 rfl (lv_at hl 4 rfl) ?_
            refine lv_iload_n hx hb dL_isRead_53 rfl (lv_at hl 5 rfl) ?_
            refine lv_iload hx hb dL_isRead_54 (lv_at hl 2 rfl) ?_
            refine k_W (v := .int (fI (rNxt σ q cu))) (σ' := σ) ⟨hx, hb, hml, hown, hts⟩ (n_next l hlf g hN hO (q := q) (by omega) (c := cu) (by omega)) gL_isRead_X4_next rfl pX4_next ⟨Nat.le_of_ble_eq_true rfl, Nat.le_of_ble_eq_true rfl⟩ ⟨(show 13 * k + 2 + 2 ≤ 120 by omega), (show 78 * k + 12 + 12 ≤ 720 by omega)⟩ hK hA hE rfl rfl hl.1 rfl (Nat.le_of_ble_eq_true rfl) dL_isRead_56 (fun H locs hK => ?_)
            refine lv_istore (lv' := [(8, .int (fI (rNxt σ q cu))), (7, .int (nI (k))), (6, .int (nI (k))), (5, .int (nI (cu))), (4, .int (bI (true))), (0, .ref (ad 0)), (1, .int (nI (q))), (2, .int (nI (z))), (3, .int (nI (cN (shw σ q) (sn σ))))]) hx hb dL_isRead_59 hl (by decide) rfl (fun ls hl => ?_)
            refine lv_iload hx hb dL_isRead_61 (lv_at hl 1 rfl) ?_
            refine lv_iload_n hx hb dL_isRead_63 rfl (lv_at hl 7 rfl) ?_
            refine br_neN (a := k) (b := z) (tgt := 96) hx hb (by omega) (by omega) dL_isRead_64 (by decide) (fun h21 => ?_) (fun h21 => ?_)
            · refine W.widen (k := (13 * k + 7)) (n := (78 * k + 42)) (by omega) (by omega) ?_
              exact jn12 _ _ hK _ (lv_sub hl [4, 0, 1, 2, 3, 5, 6, 7, 8] rfl)
            · refine lv_iload hx hb dL_isRead_67 (lv_at hl 3 rfl) ?_
              refine lv_sipush (v := nI (150)) hx hb dL_isRead_69 (by decide) ?_
              refine br_geN (a := cu) (b := 150) (tgt := 96) hx hb (by omega) (by omega) dL_isRead_72 (by decide) (fun h22 => ?_) (fun h22 => ?_)
              · (exfalso; have hkz : k = z := h21; rcases hcu.1 with ⟨g1, g2⟩ | ⟨g1, g2, g3⟩ <;> omega)
              · refine lv_aload_n hx hb dL_isRead_75 rfl (lv_at hl 5 rfl) ?_
                refine lv_iload_n hx hb dL_isRead_76 rfl (lv_at hl 6 rfl) ?_
                refine lv_sipush (v := nI (150)) hx hb dL_isRead_77 (by decide) ?_
                refine lv_iload_n hx hb dL_isRead_80 rfl (lv_at hl 7 rfl) ?_
                have hkz : k = z := h21
                have hpg := curs_pag hO hcu (by omega)
                rw [hkz] at hpg
                refine k_W (v := .int (nI (cu))) (σ' := σ) ⟨hx, hb, hml, hown, hts⟩ (n_pageEnd l hlf g hN hO (q := q) hq (c := 150) (by omega) (z := z) hz2 hz1 (r := cu) hpg) gL_isRead_X4_pageEnd rfl pX4_pageEnd ⟨Nat.le_of_ble_eq_true rfl, Nat.le_of_ble_eq_true rfl⟩ ⟨(show 13 * k + 4 + 3 ≤ 120 by omega), (show 78 * k + 24 + 18 ≤ 720 by omega)⟩ hK hA hE rfl rfl hl.1 rfl (Nat.le_of_ble_eq_true rfl) dL_isRead_81 (fun H locs hK => ?_)
                refine lv_iload hx hb dL_isRead_84 (lv_at hl 3 rfl) ?_
                refine br_neN (a := cu) (b := cu) (tgt := 93) hx hb (by omega) (by omega) dL_isRead_86 (by decide) (fun h23 => ?_) (fun h23 => ?_)
                · exact absurd rfl h23
                · refine lv_iconst (v := bI (true)) hx hb dL_isRead_89 (by decide) ?_
                  refine lv_goto (tgt := 94) hx hb dL_isRead_90 (by decide) ?_
                  refine lv_istore (lv' := [(4, .int (bI (true))), (8, .int (fI (rNxt σ q cu))), (7, .int (nI (k))), (6, .int (nI (k))), (5, .int (nI (cu))), (0, .ref (ad 0)), (1, .int (nI (q))), (2, .int (nI (z))), (3, .int (nI (cN (shw σ q) (sn σ))))]) hx hb dL_isRead_94 hl (by decide) rfl (fun ls hl => ?_)
                  exact jn12 _ _ hK _ (lv_sub hl [0, 1, 2, 3, 4, 5, 6, 7, 8] rfl)
  refine lv_aload_n hx hb dL_isRead_0 rfl (lv_at hl 0 rfl) ?_
  refine lv_iload_n hx hb dL_isRead_1 rfl (lv_at hl 1 rfl) ?_
  refine k_W (v := .int (nI (cN (shw σ q) (sn σ)))) (σ' := σ) ⟨hx, hb, hml, hown, hts⟩ (n_length l hlf g hN hO (q := q) (by omega)) gL_isRead_X4_length rfl pX4_length ⟨Nat.le_of_ble_eq_true rfl, Nat.le_of_ble_eq_true rfl⟩ ⟨Nat.le_of_ble_eq_true rfl, Nat.le_of_ble_eq_true rfl⟩ hK hA hE rfl rfl hl.1 rfl (Nat.le_of_ble_eq_true rfl) dL_isRead_2 (fun H locs hK => ?_)
  refine lv_istore_n (lv' := [(3, .int (nI (cN (shw σ q) (sn σ)))), (0, .ref (ad 0)), (1, .int (nI (q))), (2, .int (nI (z)))]) hx hb dL_isRead_5 rfl hl (by decide) rfl (fun ls hl => ?_)
  refine lv_iload_n hx hb dL_isRead_6 rfl (lv_at hl 0 rfl) ?_
  refine lv_aload_n hx hb dL_isRead_7 rfl (lv_at hl 1 rfl) ?_
  refine lv_iload_n hx hb dL_isRead_8 rfl (lv_at hl 2 rfl) ?_
  refine k_W (v := .int (nI (cN (shw σ q) (sn σ)))) (σ' := σ) ⟨hx, hb, hml, hown, hts⟩ (n_lengthByMerging l hlf g hN hO (q := q) (by omega)) gL_isRead_X4_lengthByMerging rfl pX4_lengthByMerging ⟨Nat.le_of_ble_eq_true rfl, Nat.le_of_ble_eq_true rfl⟩ ⟨Nat.le_of_ble_eq_true rfl, Nat.le_of_ble_eq_true rfl⟩ hK hA hE rfl rfl hl.1 rfl (Nat.le_of_ble_eq_true rfl) dL_isRead_9 (fun H locs hK => ?_)
  refine br_neN (a := cN (shw σ q) (sn σ)) (b := cN (shw σ q) (sn σ)) (tgt := 19) hx hb (by omega) (by omega) dL_isRead_12 (by decide) (fun h24 => ?_) (fun h24 => ?_)
  · exact absurd rfl h24
  · refine lv_iconst (v := bI (true)) hx hb dL_isRead_15 (by decide) ?_
    refine lv_goto (tgt := 20) hx hb dL_isRead_16 (by decide) ?_
    refine lv_istore (lv' := [(4, .int (bI (true))), (3, .int (nI (cN (shw σ q) (sn σ)))), (0, .ref (ad 0)), (1, .int (nI (q))), (2, .int (nI (z)))]) hx hb dL_isRead_20 hl (by decide) rfl (fun ls hl => ?_)
    refine lv_sipush (v := nI (150)) hx hb dL_isRead_22 (by decide) ?_
    refine lv_istore (lv' := [(5, .int (nI (150))), (4, .int (bI (true))), (3, .int (nI (cN (shw σ q) (sn σ)))), (0, .ref (ad 0)), (1, .int (nI (q))), (2, .int (nI (z)))]) hx hb dL_isRead_25 hl (by decide) rfl (fun ls hl => ?_)
    refine lv_iconst (v := nI (0)) hx hb dL_isRead_27 (by decide) ?_
    refine lv_istore (lv' := [(6, .int (nI (0))), (5, .int (nI (150))), (4, .int (bI (true))), (3, .int (nI (cN (shw σ q) (sn σ)))), (0, .ref (ad 0)), (1, .int (nI (q))), (2, .int (nI (z)))]) hx hb dL_isRead_28 hl (by decide) rfl (fun ls hl => ?_)
    refine lv_iconst (v := nI (0)) hx hb dL_isRead_30 (by decide) ?_
    refine lv_istore (lv' := [(7, .int (nI (0))), (6, .int (nI (0))), (5, .int (nI (150))), (4, .int (bI (true))), (3, .int (nI (cN (shw σ q) (sn σ)))), (0, .ref (ad 0)), (1, .int (nI (q))), (2, .int (nI (z)))]) hx hb dL_isRead_31 hl (by decide) rfl (fun ls hl => ?_)
    exact lp10 (8 + 1) 0 150 (by omega) (by omega) (curs_0 hO) _ _ hK _ (lv_sub hl [0, 1, 2, 3, 5, 6, 7, 4] rfl)
