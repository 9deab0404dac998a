/-! the law: its start's follows, and its sixty turns -/
abbrev frA (s : State) : Nat → Prop := fun q => s.heap.size ≤ q
def lwC (p : Program) (l : Launch) (s : State) (m : MethodId) (c : Code) (b L : Nat) (xs : Nat → Int32) (g : GT) (ad : Nat → Nat) : Prop :=
  p.tables.exec = Jvm.exec ∧ c.code = cL_law ∧ c.maxLocals = 7 ∧ s.vm.findClass RL = some m.cls ∧ (∀ w ∈ wsL_law, w.before #[Value.ref b] s = true) ∧ va_X b L xs s s.heap ∧ b < s.heap.size ∧ L ≤ 260 ∧ l.stackTraces = false ∧ gE g s ∧ FN ad 31 ∧ ∀ z ∈ fA ad, frA s z
set_option maxHeartbeats 4000000 in
set_option maxRecDepth 100000 in
/-- the turns, from the loop's head to its end -/
theorem lw_turns {p : Program} {l : Launch} {e : Env} {s : State} {m : MethodId} {below : List Frame} {meth : Method} {c : Code} {b L : Nat} {xs : Nat → Int32} {g : GT} {ad : Nat → Nat} (C : lwC p l s m c b L xs g ad) {Q : State → Prop} (ke : ∀ (H : Heap) (locs : List Loc) (ls : Array Slot) (cells slots : Nat), cells ≤ 20000 → slots ≤ 100000 → va_S (frA s) s.heap H locs → W p l e room_1 s m #[Value.ref b] below meth c H locs cells slots Q (F0 m 235 ls [.int 1])) :
    ∀ (n9 i : Nat) (σ : St) (rm : Nat), 60 - i < n9 → i ≤ 60 → OK σ → sr σ = rm → ∀ (H : Heap) (locs : List Loc), cH g ad s (frA s) σ H locs → ∀ ls : Array Slot, lv_has ls 7 [(4, .int (nI (i))), (3, .int (bI (true))), (2, .int (nI (rm))), (1, .ref (ad 0)), (0, .ref (b))] → W p l e room_1 s m #[Value.ref b] below meth c H locs (155 * i + 300) (930 * i + 3000) Q (F0 m 98 ls []) := by
  obtain ⟨hx, hb, hml, hown, hts, hX, hbl, hL, hlf, hE, hN, hA⟩ := C
  have hbA : ¬ frA s b := fun h => by
    have h8 : s.heap.size ≤ b := h
    omega
  intro n9
  induction n9 with
  | zero => intro i σ rm h; omega
  | succ n9 ih =>
    intro i σ rm h9 hi hO hrm H locs hK ls hl
    refine lv_iload hx hb dL_law_98 (lv_at hl 0 rfl) ?_
    refine lv_bipush (v := nI (60)) hx hb dL_law_100 (by decide) ?_
    refine br_geN (a := i) (b := 60) (tgt := 234) hx hb (by omega) (by omega) dL_law_102 (by decide) (fun h80 => ?_) (fun h80 => ?_)
    · refine lv_iload_n hx hb dL_law_234 rfl (lv_at hl 1 rfl) ?_
      exact ke _ _ _ _ _ (by omega) (by omega) hK.2.2
    · refine lv_iload_n hx hb dL_law_105 rfl (lv_at hl 1 rfl) ?_
      refine br_eqB (tgt := 234) hx hb dL_law_106 (by decide) (fun h81 => ?_) (fun h81 => ?_)
      · exact absurd h81 (by decide)
      · refine lv_aload_n hx hb dL_law_109 rfl (lv_at hl 4 rfl) ?_
        refine lv_iload hx hb dL_law_110 (lv_at hl 0 rfl) ?_
        refine k_T ⟨hx, hb, hml, hown, hts⟩ (c_L_told l hL (k := i) (by omega)) gL_law_L_told ⟨Nat.le_of_ble_eq_true rfl, Nat.le_of_ble_eq_true rfl⟩ ⟨(show 155 * i + 300 ≤ 600130 by omega), (show 930 * i + 3000 ≤ 7301080 by omega)⟩ hX hbl hbA hK.2.2 hl.1 rfl (Nat.le_of_ble_eq_true rfl) dL_law_112 ?_
        obtain ⟨v, hv9⟩ : ∃ z, tld L xs (i) = z := ⟨_, rfl⟩
        have hv : v < 2 ^ 31 := by rw [← hv9]; exact tld_lt
        rw [hv9]
        refine lv_istore (lv' := [(5, .int (nI (v))), (4, .int (nI (i))), (3, .int (bI (true))), (2, .int (nI (rm))), (1, .ref (ad 0)), (0, .ref (b))]) hx hb dL_law_115 hl (by decide) rfl (fun ls hl => ?_)
        have jn82 : ∀ (σ : St) (rm : Nat), OK σ → sr σ = rm → ∀ (H : Heap) (locs : List Loc), cH g ad s (frA s) σ H locs → ∀ ls : Array Slot, lv_has ls 7 [(5, .int (nI (v))), (4, .int (nI (i))), (3, .int (bI (true))), (2, .int (nI (rm))), (1, .ref (ad 0)), (0, .ref (b))] → W p l e room_1 s m #[Value.ref b] below meth c H locs (155 * i + 301) (930 * i + 3006) Q (F0 m 160 ls []) := by
          intro σ rm hO hrm H locs hK ls hl
          refine lv_iload_n hx hb dL_law_160 rfl (lv_at hl 2 rfl) ?_
          refine br_eqB (tgt := 226) hx hb dL_law_161 (by decide) (fun h83 => ?_) (fun h83 => ?_)
          · exact absurd h83 (by decide)
          · refine lv_aload_n hx hb dL_law_164 rfl (lv_at hl 4 rfl) ?_
            refine lv_iload hx hb dL_law_165 (lv_at hl 0 rfl) ?_
            refine lv_aload_n hx hb dL_law_167 rfl (lv_at hl 5 rfl) ?_
            refine lv_iload hx hb dL_law_168 (lv_at hl 1 rfl) ?_
            refine lv_iconst (v := nI (3)) hx hb dL_law_170 (by decide) ?_
            refine lv_iadd hx hb dL_law_171 ?_
            refine tp_i (nI_add _ _) ?_
            refine k_T ⟨hx, hb, hml, hown, hts⟩ (c_L_told l hL (k := i + 3) (by omega)) gL_law_L_told ⟨Nat.le_of_ble_eq_true rfl, Nat.le_of_ble_eq_true rfl⟩ ⟨(show 155 * i + 301 ≤ 600130 by omega), (show 930 * i + 3006 ≤ 7301080 by omega)⟩ hX hbl hbA hK.2.2 hl.1 rfl (Nat.le_of_ble_eq_true rfl) dL_law_172 ?_
            obtain ⟨w, hw9⟩ : ∃ z, tld L xs (i + 3) = z := ⟨_, rfl⟩
            have hw : w < 2 ^ 31 := by rw [← hw9]; exact tld_lt
            rw [hw9]
            refine k_L (v := .int (bI true)) ⟨hx, hb, hml, hown, hts⟩ (c_L_does l hlf g hN hO hv hw) gL_law_L_does rfl qL_does ⟨Nat.le_of_ble_eq_true rfl, Nat.le_of_ble_eq_true rfl⟩ ⟨(show 155 * i + 301 + 14 ≤ 600130 by omega), (show 930 * i + 3006 + 84 ≤ 7301080 by omega)⟩ hK hA hE rfl hl.1 rfl (Nat.le_of_ble_eq_true rfl) dL_law_175 (fun H locs hB hC => ?_)
            obtain ⟨σ1, hO1, hr0, hF1⟩ := hB
            have hr1 : sr σ1 = rm := hr0.trans hrm
            have hK := hC σ1 hF1
            clear hC
            refine br_eqB (tgt := 226) hx hb dL_law_178 (by decide) (fun h84 => ?_) (fun h84 => ?_)
            · exact absurd h84 (by decide)
            · refine lv_aload_n hx hb dL_law_181 rfl (lv_at hl 4 rfl) ?_
              refine lv_iload hx hb dL_law_182 (lv_at hl 0 rfl) ?_
              refine lv_bipush (v := nI (7)) hx hb dL_law_184 (by decide) ?_
              refine n_div (x := v) (d := 7) (by omega) (by omega) (by omega) hx hb dL_law_186 ?_
              refine lv_bipush (v := nI (8)) hx hb dL_law_187 (by decide) ?_
              refine n_rem (x := v / 7) (d := 8) (by omega) (by omega) (by omega) hx hb dL_law_189 ?_
              refine lv_iload_n hx hb dL_law_190 rfl (lv_at hl 3 rfl) ?_
              refine k_L (v := .int (bI true)) ⟨hx, hb, hml, hown, hts⟩ (show lcM l g yL_isCut wsL_isCut 9 154 20 120 [.ref (ad 0), .int (nI ((v / 7) % 8)), .int (nI (rm))] ad σ1 (.int (bI true)) (fun H1 => FWq g ad σ1 H1) from by have h := c_L_isCut l hlf g hN hO1 (q := (v / 7) % 8) (by omega); rw [hr1] at h; exact h) gL_law_L_isCut rfl qL_isCut ⟨Nat.le_of_ble_eq_true rfl, Nat.le_of_ble_eq_true rfl⟩ ⟨(show 155 * i + 315 + 20 ≤ 600130 by omega), (show 930 * i + 3090 + 120 ≤ 7301080 by omega)⟩ hK hA hE rfl hl.1 rfl (Nat.le_of_ble_eq_true rfl) dL_law_191 (fun H locs hB hC => ?_)
              have hK := hC σ1 hB
              clear hC
              refine br_eqB (tgt := 226) hx hb dL_law_194 (by decide) (fun h85 => ?_) (fun h85 => ?_)
              · exact absurd h85 (by decide)
              · refine lv_aload_n hx hb dL_law_197 rfl (lv_at hl 4 rfl) ?_
                refine lv_iload hx hb dL_law_198 (lv_at hl 0 rfl) ?_
                refine lv_bipush (v := nI (11)) hx hb dL_law_200 (by decide) ?_
                refine n_div (x := v) (d := 11) (by omega) (by omega) (by omega) hx hb dL_law_202 ?_
                refine lv_bipush (v := nI (8)) hx hb dL_law_203 (by decide) ?_
                refine n_rem (x := v / 11) (d := 8) (by omega) (by omega) (by omega) hx hb dL_law_205 ?_
                refine lv_iconst (v := nI (1)) hx hb dL_law_206 (by decide) ?_
                refine lv_iload hx hb dL_law_207 (lv_at hl 0 rfl) ?_
                refine lv_bipush (v := nI (88)) hx hb dL_law_209 (by decide) ?_
                refine n_div (x := v) (d := 88) (by omega) (by omega) (by omega) hx hb dL_law_211 ?_
                refine lv_bipush (v := nI (7)) hx hb dL_law_212 (by decide) ?_
                refine n_rem (x := v / 88) (d := 7) (by omega) (by omega) (by omega) hx hb dL_law_214 ?_
                refine lv_iadd hx hb dL_law_215 ?_
                refine tp_i (nI_add _ _) ?_
                refine k_L (v := .int (bI true)) ⟨hx, hb, hml, hown, hts⟩ (c_L_isRead l hlf g hN hO1 (q := (v / 11) % 8) (z := 1 + ((v / 88) % 7)) (by omega) (by omega) (by omega)) gL_law_L_isRead rfl qL_isRead ⟨Nat.le_of_ble_eq_true rfl, Nat.le_of_ble_eq_true rfl⟩ ⟨(show 155 * i + 335 + 120 ≤ 600130 by omega), (show 930 * i + 3210 + 720 ≤ 7301080 by omega)⟩ hK hA hE rfl hl.1 rfl (Nat.le_of_ble_eq_true rfl) dL_law_216 (fun H locs hB hC => ?_)
                have hK := hC σ1 hB
                clear hC
                refine br_eqB (tgt := 226) hx hb dL_law_219 (by decide) (fun h86 => ?_) (fun h86 => ?_)
                · exact absurd h86 (by decide)
                · refine lv_iconst (v := bI (true)) hx hb dL_law_222 (by decide) ?_
                  refine lv_goto (tgt := 227) hx hb dL_law_223 (by decide) ?_
                  refine lv_istore_n (lv' := [(3, .int (bI (true))), (5, .int (nI (v))), (4, .int (nI (i))), (2, .int (nI (rm))), (1, .ref (ad 0)), (0, .ref (b))]) hx hb dL_law_227 rfl hl (by decide) rfl (fun ls hl => ?_)
                  refine lv_iinc (v := nI (i + 1)) (lv' := [(4, .int (nI (i + 1))), (3, .int (bI (true))), (5, .int (nI (v))), (2, .int (nI (rm))), (1, .ref (ad 0)), (0, .ref (b))]) hx hb dL_law_228 hl (k := 2) rfl (inc1 (i)) (by decide) rfl (fun ls hl => ?_)
                  refine lv_goto (tgt := 98) hx hb dL_law_231 (by decide) ?_
                  refine W.widen (k := 155 * (i + 1) + 300) (n := 930 * (i + 1) + 3000) (by omega) (by omega) ?_
                  exact ih (i + 1) σ1 rm (by omega) (by omega) hO1 hr1 _ _ hK _ (lv_sub hl [0, 1, 3, 4, 5] rfl)
        refine lv_iload hx hb dL_law_117 (lv_at hl 0 rfl) ?_
        refine lv_bipush (v := nI (29)) hx hb dL_law_119 (by decide) ?_
        refine n_rem (x := v) (d := 29) (by omega) (by omega) (by omega) hx hb dL_law_121 ?_
        refine br_ne0 (tgt := 160) hx hb (by omega) dL_law_122 (by decide) (fun h87 => ?_) (fun h87 => ?_)
        · refine W.widen (k := (155 * i + 301)) (n := (930 * i + 3006)) (by omega) (by omega) ?_
          exact jn82 _ _ hO hrm _ _ hK _ (lv_sub hl [0, 1, 2, 3, 4, 5] rfl)
        · refine lv_aload_n hx hb dL_law_125 rfl (lv_at hl 4 rfl) ?_
          refine lv_iconst (v := nI (1)) hx hb dL_law_126 (by decide) ?_
          refine lv_iload hx hb dL_law_127 (lv_at hl 0 rfl) ?_
          refine lv_bipush (v := nI (29)) hx hb dL_law_129 (by decide) ?_
          refine n_div (x := v) (d := 29) (by omega) (by omega) (by omega) hx hb dL_law_131 ?_
          refine lv_bipush (v := nI (40)) hx hb dL_law_132 (by decide) ?_
          refine n_rem (x := v / 29) (d := 40) (by omega) (by omega) (by omega) hx hb dL_law_134 ?_
          refine lv_iadd hx hb dL_law_135 ?_
          refine tp_i (nI_add _ _) ?_
          refine k_W (v := .int (nI (sr σ))) (σ' := nRom σ (nI (1 + ((v / 29) % 40)))) ⟨hx, hb, hml, hown, hts⟩ (n_setRoom l hlf g hN hO (k := 1 + ((v / 29) % 40)) (by omega) (eR_nI (by decide) (by decide) (by omega) (by omega))) gL_law_X4_setRoom rfl pX4_setRoom ⟨Nat.le_of_ble_eq_true rfl, Nat.le_of_ble_eq_true rfl⟩ ⟨(show 155 * i + 300 + 1 ≤ 600130 by omega), (show 930 * i + 3000 + 6 ≤ 7301080 by omega)⟩ hK hA hE rfl rfl hl.1 rfl (Nat.le_of_ble_eq_true rfl) dL_law_136 (fun H locs hK => ?_)
          have hO1 : OK (nRom σ (nI (1 + ((v / 29) % 40)))) := OK_rom hO (by omega) (by omega)
          refine tp_i (by rw [hrm]) ?_
          have hrm40 : rm ≤ 40 := by rw [← hrm]; exact hO.1.2.2.2.1
          refine lv_iload_n hx hb dL_law_139 rfl (lv_at hl 3 rfl) ?_
          refine br_neN (a := rm) (b := rm) (tgt := 147) hx hb (by omega) (by omega) dL_law_140 (by decide) (fun h88 => ?_) (fun h88 => ?_)
          · exact absurd rfl h88
          · refine lv_iconst (v := bI (true)) hx hb dL_law_143 (by decide) ?_
            refine lv_goto (tgt := 148) hx hb dL_law_144 (by decide) ?_
            refine lv_istore_n (lv' := [(3, .int (bI (true))), (5, .int (nI (v))), (4, .int (nI (i))), (2, .int (nI (rm))), (1, .ref (ad 0)), (0, .ref (b))]) hx hb dL_law_148 rfl hl (by decide) rfl (fun ls hl => ?_)
            refine lv_iconst (v := nI (1)) hx hb dL_law_149 (by decide) ?_
            refine lv_iload hx hb dL_law_150 (lv_at hl 1 rfl) ?_
            refine lv_bipush (v := nI (29)) hx hb dL_law_152 (by decide) ?_
            refine n_div (x := v) (d := 29) (by omega) (by omega) (by omega) hx hb dL_law_154 ?_
            refine lv_bipush (v := nI (40)) hx hb dL_law_155 (by decide) ?_
            refine n_rem (x := v / 29) (d := 40) (by omega) (by omega) (by omega) hx hb dL_law_157 ?_
            refine lv_iadd hx hb dL_law_158 ?_
            refine tp_i (nI_add _ _) ?_
            refine lv_istore_n (lv' := [(2, .int (nI (1 + ((v / 29) % 40)))), (3, .int (bI (true))), (5, .int (nI (v))), (4, .int (nI (i))), (1, .ref (ad 0)), (0, .ref (b))]) hx hb dL_law_159 rfl hl (by decide) rfl (fun ls hl => ?_)
            exact jn82 _ _ hO1 (rom_sr (by omega)) _ _ hK _ (lv_sub hl [2, 3, 1, 0, 4, 5] rfl)
set_option maxHeartbeats 4000000 in
set_option maxRecDepth 100000 in
/-- the follows, from the loop's head to the turns -/
theorem lw_follows {p : Program} {l : Launch} {e : Env} {s : State} {m : MethodId} {below : List Frame} {meth : Method} {c : Code} {b L : Nat} {xs : Nat → Int32} {g : GT} {ad : Nat → Nat} (C : lwC p l s m c b L xs g ad) {Q : State → Prop} (kb : ∀ (σ : St) (H : Heap) (locs : List Loc) (ls : Array Slot), OK σ → sr σ = 10 → cH g ad s (frA s) σ H locs → lv_has ls 7 [(3, .int (bI (true))), (2, .int (nI (10))), (1, .ref (ad 0)), (0, .ref (b))] → W p l e room_1 s m #[Value.ref b] below meth c H locs 300 3000 Q (F0 m 95 ls [])) :
    ∀ (n9 pe : Nat) (σ : St), 8 - pe < n9 → pe ≤ 8 → OK σ → (∀ j, sB σ j = false) → sr σ = 10 → ∀ (H : Heap) (locs : List Loc), cH g ad s (frA s) σ H locs → ∀ ls : Array Slot, lv_has ls 7 [(4, .int (nI (pe))), (3, .int (bI (true))), (2, .int (nI (10))), (1, .ref (ad 0)), (0, .ref (b))] → W p l e room_1 s m #[Value.ref b] below meth c H locs (18 * pe + 100) (108 * pe + 1400) Q (F0 m 16 ls []) := by
  obtain ⟨hx, hb, hml, hown, hts, hX, hbl, hL, hlf, hE, hN, hA⟩ := C
  have hbA : ¬ frA s b := fun h => by
    have h8 : s.heap.size ≤ b := h
    omega
  intro n9
  induction n9 with
  | zero => intro pe σ h; omega
  | succ n9 ih =>
    intro pe σ h9 hpe8 hO hB0 hr0 H locs hK ls hl
    refine lv_iload hx hb dL_law_16 (lv_at hl 0 rfl) ?_
    refine lv_bipush (v := nI (8)) hx hb dL_law_18 (by decide) ?_
    refine br_geN (a := pe) (b := 8) (tgt := 95) hx hb (by omega) (by omega) dL_law_20 (by decide) (fun h89 => ?_) (fun h89 => ?_)
    · refine W.widen (k := 300) (n := 3000) (by omega) (by omega) ?_
      exact kb _ _ _ _ hO hr0 hK (lv_sub hl [1, 2, 3, 4] rfl)
    · have hpe : pe < 8 := by omega
      have lp90 : ∀ (n8 k : Nat) (σ : St), 3 - k < n8 → k ≤ 3 → OK σ → (∀ j, sB σ j = false) → sr σ = 10 → ∀ (H : Heap) (locs : List Loc), cH g ad s (frA s) σ H locs → ∀ ls : Array Slot, lv_has ls 7 [(5, .int (nI (k))), (4, .int (nI (pe))), (3, .int (bI (true))), (2, .int (nI (10))), (1, .ref (ad 0)), (0, .ref (b))] → W p l e room_1 s m #[Value.ref b] below meth c H locs (18 * pe + 6 * k + 100) (108 * pe + 36 * k + 1400) Q (F0 m 26 ls []) := by
        intro n8
        induction n8 with
        | zero => intro k σ h; omega
        | succ n8 ih8 =>
          intro k σ h8 hk3 hO hB0 hr0 H locs hK ls hl
          refine lv_iload hx hb dL_law_26 (lv_at hl 0 rfl) ?_
          refine lv_iconst (v := nI (3)) hx hb dL_law_28 (by decide) ?_
          refine br_geN (a := k) (b := 3) (tgt := 89) hx hb (by omega) (by omega) dL_law_29 (by decide) (fun h91 => ?_) (fun h91 => ?_)
          · refine lv_iinc (v := nI (pe + 1)) (lv' := [(4, .int (nI (pe + 1))), (5, .int (nI (k))), (3, .int (bI (true))), (2, .int (nI (10))), (1, .ref (ad 0)), (0, .ref (b))]) hx hb dL_law_89 hl (k := 1) rfl (inc1 (pe)) (by decide) rfl (fun ls hl => ?_)
            refine lv_goto (tgt := 16) hx hb dL_law_92 (by decide) ?_
            refine W.widen (k := 18 * (pe + 1) + 100) (n := 108 * (pe + 1) + 1400) (by omega) (by omega) ?_
            exact ih (pe + 1) _ (by omega) (by omega) hO hB0 hr0 _ _ hK _ (lv_sub hl [0, 2, 3, 4, 5] rfl)
          · refine lv_iload hx hb dL_law_32 (lv_at hl 1 rfl) ?_
            refine lv_iconst (v := nI (1)) hx hb dL_law_34 (by decide) ?_
            refine lv_iadd hx hb dL_law_35 ?_
            refine tp_i (nI_add _ _) ?_
            refine lv_aload_n hx hb dL_law_36 rfl (lv_at hl 5 rfl) ?_
            refine lv_iload hx hb dL_law_37 (lv_at hl 1 rfl) ?_
            refine k_T ⟨hx, hb, hml, hown, hts⟩ (c_L_told l hL (k := pe) (by omega)) gL_law_L_told ⟨Nat.le_of_ble_eq_true rfl, Nat.le_of_ble_eq_true rfl⟩ ⟨(show 18 * pe + 6 * k + 100 ≤ 600130 by omega), (show 108 * pe + 36 * k + 1400 ≤ 7301080 by omega)⟩ hX hbl hbA hK.2.2 hl.1 rfl (Nat.le_of_ble_eq_true rfl) dL_law_39 ?_
            obtain ⟨t1, ht19⟩ : ∃ z, tld L xs (pe) = z := ⟨_, rfl⟩
            have ht1 : t1 < 2 ^ 31 := by rw [← ht19]; exact tld_lt
            rw [ht19]
            refine lv_bipush (v := nI (8)) hx hb dL_law_42 (by decide) ?_
            refine n_div (x := t1) (d := 8) (by omega) (by omega) (by omega) hx hb dL_law_44 ?_
            refine lv_iconst (v := nI (5)) hx hb dL_law_45 (by decide) ?_
            refine n_rem (x := t1 / 8) (d := 5) (by omega) (by omega) (by omega) hx hb dL_law_46 ?_
            refine lv_iadd hx hb dL_law_47 ?_
            refine tp_i (nI_add _ _) ?_
            refine lv_iload hx hb dL_law_48 (lv_at hl 0 rfl) ?_
            refine lv_iadd hx hb dL_law_50 ?_
            refine tp_i (nI_add _ _) ?_
            refine lv_bipush (v := nI (8)) hx hb dL_law_51 (by decide) ?_
            refine n_rem (x := pe + 1 + ((t1 / 8) % 5) + k) (d := 8) (by omega) (by omega) (by omega) hx hb dL_law_53 ?_
            obtain ⟨a, ha9⟩ : ∃ a, ((pe + 1 + ((t1 / 8) % 5) + k) % 8) = a := ⟨_, rfl⟩
            have ha : a < 8 := by omega
            refine tp_i (by rw [ha9]) ?_
            refine lv_istore (lv' := [(6, .int (nI (a))), (5, .int (nI (k))), (4, .int (nI (pe))), (3, .int (bI (true))), (2, .int (nI (10))), (1, .ref (ad 0)), (0, .ref (b))]) hx hb dL_law_54 hl (by decide) rfl (fun ls hl => ?_)
            refine lv_iload hx hb dL_law_56 (lv_at hl 0 rfl) ?_
            refine lv_iload hx hb dL_law_58 (lv_at hl 2 rfl) ?_
            refine br_eqN (a := a) (b := pe) (tgt := 83) hx hb (by omega) (by omega) dL_law_60 (by decide) (fun h92 => ?_) (fun h92 => ?_)
            · refine lv_iinc (v := nI (k + 1)) (lv' := [(5, .int (nI (k + 1))), (6, .int (nI (a))), (4, .int (nI (pe))), (3, .int (bI (true))), (2, .int (nI (10))), (1, .ref (ad 0)), (0, .ref (b))]) hx hb dL_law_83 hl (k := 1) rfl (inc1 (k)) (by decide) rfl (fun ls hl => ?_)
              refine lv_goto (tgt := 26) hx hb dL_law_86 (by decide) ?_
              refine W.widen (k := 18 * pe + 6 * (k + 1) + 100) (n := 108 * pe + 36 * (k + 1) + 1400) (by omega) (by omega) ?_
              exact ih8 (k + 1) σ (by omega) (by omega) hO hB0 hr0 _ _ hK _ (lv_sub hl [0, 2, 3, 4, 5, 6] rfl)
            · refine lv_aload_n hx hb dL_law_63 rfl (lv_at hl 5 rfl) ?_
              refine lv_iload hx hb dL_law_64 (lv_at hl 2 rfl) ?_
              refine lv_iload hx hb dL_law_66 (lv_at hl 0 rfl) ?_
              refine k_R (v := .int (bI (sF σ (8 * pe + a)))) ⟨hx, hb, hml, hown, hts⟩ (n_follows l hlf g hN hO (q := pe) (by omega) (a := a) (by omega)) gL_law_X4_follows rfl pX4_follows ⟨Nat.le_of_ble_eq_true rfl, Nat.le_of_ble_eq_true rfl⟩ ⟨(show 18 * pe + 6 * k + 100 + 2 ≤ 600130 by omega), (show 108 * pe + 36 * k + 1400 + 12 ≤ 7301080 by omega)⟩ hK hE rfl rfl hl.1 rfl (Nat.le_of_ble_eq_true rfl) dL_law_68 ?_
              refine br_neB (tgt := 83) hx hb dL_law_71 (by decide) (fun h93 => ?_) (fun h93 => ?_)
              · refine lv_iinc (v := nI (k + 1)) (lv' := [(5, .int (nI (k + 1))), (6, .int (nI (a))), (4, .int (nI (pe))), (3, .int (bI (true))), (2, .int (nI (10))), (1, .ref (ad 0)), (0, .ref (b))]) hx hb dL_law_83 hl (k := 1) rfl (inc1 (k)) (by decide) rfl (fun ls hl => ?_)
                refine lv_goto (tgt := 26) hx hb dL_law_86 (by decide) ?_
                refine W.widen (k := 18 * pe + 6 * (k + 1) + 100) (n := 108 * pe + 36 * (k + 1) + 1400) (by omega) (by omega) ?_
                exact ih8 (k + 1) σ (by omega) (by omega) hO hB0 hr0 _ _ hK _ (lv_sub hl [0, 2, 3, 4, 5, 6] rfl)
              · refine lv_aload_n hx hb dL_law_74 rfl (lv_at hl 5 rfl) ?_
                refine lv_iload hx hb dL_law_75 (lv_at hl 2 rfl) ?_
                refine lv_iload hx hb dL_law_77 (lv_at hl 0 rfl) ?_
                refine k_W (v := .int (nI (rFol σ (nI pe) (nI a)))) (σ' := nFol σ (nI pe) (nI a)) ⟨hx, hb, hml, hown, hts⟩ (n_follow l hlf g hN hO (q := pe) hpe (a := a) ha (eFol_0 hpe ha (fun z => h92 z.symm) h93 hB0)) gL_law_X4_follow rfl pX4_follow ⟨Nat.le_of_ble_eq_true rfl, Nat.le_of_ble_eq_true rfl⟩ ⟨(show 18 * pe + 6 * k + 102 + 4 ≤ 600130 by omega), (show 108 * pe + 36 * k + 1412 + 24 ≤ 7301080 by omega)⟩ hK hA hE rfl rfl hl.1 rfl (Nat.le_of_ble_eq_true rfl) dL_law_79 (fun H locs hK => ?_)
                have hO1 : OK (nFol σ (nI pe) (nI a)) := OK_fol hO hpe ha (fun z => h92 z.symm)
                refine lv_pop hx hb dL_law_82 rfl ?_
                refine lv_iinc (v := nI (k + 1)) (lv' := [(5, .int (nI (k + 1))), (6, .int (nI (a))), (4, .int (nI (pe))), (3, .int (bI (true))), (2, .int (nI (10))), (1, .ref (ad 0)), (0, .ref (b))]) hx hb dL_law_83 hl (k := 1) rfl (inc1 (k)) (by decide) rfl (fun ls hl => ?_)
                refine lv_goto (tgt := 26) hx hb dL_law_86 (by decide) ?_
                refine W.widen (k := 18 * pe + 6 * (k + 1) + 100) (n := 108 * pe + 36 * (k + 1) + 1400) (by omega) (by omega) ?_
                exact ih8 (k + 1) (nFol σ (nI pe) (nI a)) (by omega) (by omega) hO1 hB0 hr0 _ _ hK _ (lv_sub hl [0, 2, 3, 4, 5, 6] rfl)
      refine lv_iconst (v := nI (0)) hx hb dL_law_23 (by decide) ?_
      refine lv_istore (lv' := [(5, .int (nI (0))), (4, .int (nI (pe))), (3, .int (bI (true))), (2, .int (nI (10))), (1, .ref (ad 0)), (0, .ref (b))]) hx hb dL_law_24 hl (by decide) rfl (fun ls hl => ?_)
      exact lp90 (3 + 1) 0 σ (by omega) (by omega) hO hB0 hr0 _ _ hK _ (lv_sub hl [0, 1, 2, 3, 4, 5] rfl)
