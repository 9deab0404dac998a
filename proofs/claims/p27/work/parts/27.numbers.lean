/-! The class's contracts where nothing is thrown, in numbers. -/
theorem n_entries (l : Launch) (hlf : l.stackTraces = false) (g : GT) {ad : Nat → Nat} {σ : St} (hN : FN ad 31) (hO : OK σ) : ∀ τ : Sc, rdM l g yX4_entries wsX4_entries 1 20 [.ref (ad 0)] (wF g ad σ τ) (some (.int (nI (sn σ)))) := by
  intro τ
  exact c_X4_entries l g hO.1
theorem n_authorOf (l : Launch) (hlf : l.stackTraces = false) (g : GT) {ad : Nat → Nat} {σ : St} (hN : FN ad 31) (hO : OK σ) {e : Nat} (he : e < 150) (hs : eE (sn σ) (nI e) = 0) : ∀ τ : Sc, rowsOk σ τ 8 → tc τ ≤ 150 → xrM l g yX4_authorOf wsX4_authorOf 7 111 1 6 [.ref (ad 0), .int (nI e)] (wF g ad σ τ) 0 (some (.int (nI (sa σ e)))) := by
  intro τ hR hT
  have h := c_X4_authorOf l hlf g (ad := ad) (τ := τ) hO.1 (x := nI e)
  rw [hs] at h
  rw [ix_nI (j := e) (by omega)] at h
  exact h
theorem n_originOf (l : Launch) (hlf : l.stackTraces = false) (g : GT) {ad : Nat → Nat} {σ : St} (hN : FN ad 31) (hO : OK σ) {e : Nat} (he : e < 150) (hs : eE (sn σ) (nI e) = 0) : ∀ τ : Sc, rowsOk σ τ 8 → tc τ ≤ 150 → xrM l g yX4_originOf wsX4_originOf 7 111 1 6 [.ref (ad 0), .int (nI e)] (wF g ad σ τ) 0 (some (.int (nI (so σ e)))) := by
  intro τ hR hT
  have h := c_X4_originOf l hlf g (ad := ad) (τ := τ) hO.1 (x := nI e)
  rw [hs] at h
  rw [ix_nI (j := e) (by omega)] at h
  exact h
theorem n_follows (l : Launch) (hlf : l.stackTraces = false) (g : GT) {ad : Nat → Nat} {σ : St} (hN : FN ad 31) (hO : OK σ) {q : Nat} (hq : q < 8) {a : Nat} (ha : a < 8) : ∀ τ : Sc, rowsOk σ τ 8 → tc τ ≤ 150 → xrM l g yX4_follows wsX4_follows 7 110 2 12 [.ref (ad 0), .int (nI q), .int (nI a)] (wF g ad σ τ) 0 (some (.int (bI (sF σ (8 * q + a))))) := by
  intro τ hR hT
  have h := c_X4_follows l hlf g (ad := ad) (τ := τ) hO.1 (x := nI q) (y := nI a)
  rw [eFls_n hq ha] at h
  rw [ix_nI (j := q) (by omega)] at h
  rw [ix_nI (j := a) (by omega)] at h
  exact h
theorem n_followers (l : Launch) (hlf : l.stackTraces = false) (g : GT) {ad : Nat → Nat} {σ : St} (hN : FN ad 31) (hO : OK σ) {a : Nat} (ha : a < 8) : ∀ τ : Sc, rowsOk σ τ 8 → tc τ ≤ 150 → xrM l g yX4_followers wsX4_followers 7 110 1 6 [.ref (ad 0), .int (nI a)] (wF g ad σ τ) 0 (some (.int (nI (fcnt (sF σ) a)))) := by
  intro τ hR hT
  have h := c_X4_followers l hlf g (ad := ad) (τ := τ) hO.1 (x := nI a)
  rw [eP_n ha] at h
  rw [ix_nI (j := a) (by omega)] at h
  exact h
theorem n_isLarge (l : Launch) (hlf : l.stackTraces = false) (g : GT) {ad : Nat → Nat} {σ : St} (hN : FN ad 31) (hO : OK σ) {a : Nat} (ha : a < 8) : ∀ τ : Sc, rowsOk σ τ 8 → tc τ ≤ 150 → xrM l g yX4_isLarge wsX4_isLarge 7 110 1 6 [.ref (ad 0), .int (nI a)] (wF g ad σ τ) 0 (some (.int (bI (lg σ a)))) := by
  intro τ hR hT
  have h := c_X4_isLarge l hlf g (ad := ad) (τ := τ) hO.1 (x := nI a)
  rw [eP_n ha] at h
  rw [ix_nI (j := a) (by omega)] at h
  exact h
theorem n_inRow (l : Launch) (hlf : l.stackTraces = false) (g : GT) {ad : Nat → Nat} {σ : St} (hN : FN ad 31) (hO : OK σ) {q : Nat} (hq : q < 8) : ∀ τ : Sc, rowsOk σ τ 8 → tc τ ≤ 150 → xrM l g yX4_inRow wsX4_inRow 8 131 1 6 [.ref (ad 0), .int (nI q)] (wF g ad σ τ) 0 (some (.int (nI (rcn σ q)))) := by
  intro τ hR hT
  have h := c_X4_inRow l hlf g (ad := ad) (τ := τ) hO.1 hR (x := nI q)
  rw [eP_n hq] at h
  rw [ix_nI (j := q) (by omega)] at h
  exact h
theorem n_floorOf (l : Launch) (hlf : l.stackTraces = false) (g : GT) {ad : Nat → Nat} {σ : St} (hN : FN ad 31) (hO : OK σ) {q : Nat} (hq : q < 8) : ∀ τ : Sc, rowsOk σ τ 8 → tc τ ≤ 150 → xrM l g yX4_floorOf wsX4_floorOf 8 131 1 6 [.ref (ad 0), .int (nI q)] (wF g ad σ τ) 0 (some (.int (fI (sf σ q)))) := by
  intro τ hR hT
  have h := c_X4_floorOf l hlf g (ad := ad) (τ := τ) hO.1 (x := nI q)
  rw [eP_n hq] at h
  rw [ix_nI (j := q) (by omega)] at h
  exact h
theorem n_hasGap (l : Launch) (hlf : l.stackTraces = false) (g : GT) {ad : Nat → Nat} {σ : St} (hN : FN ad 31) (hO : OK σ) {q : Nat} (hq : q < 8) : ∀ τ : Sc, rowsOk σ τ 8 → tc τ ≤ 150 → xrM l g yX4_hasGap wsX4_hasGap 8 131 1 6 [.ref (ad 0), .int (nI q)] (wF g ad σ τ) 0 (some (.int (bI (rGap σ q)))) := by
  intro τ hR hT
  have h := c_X4_hasGap l hlf g (ad := ad) (τ := τ) hO.1 (x := nI q)
  rw [eP_n hq] at h
  rw [ix_nI (j := q) (by omega)] at h
  exact h
theorem n_rowAt (l : Launch) (hlf : l.stackTraces = false) (g : GT) {ad : Nat → Nat} {σ : St} (hN : FN ad 31) (hO : OK σ) {q : Nat} (hq : q < 8) {i : Nat} (hi : i < 150) (hr : i < rcn σ q) {v : Nat} (hv : isRow σ q i v) : ∀ τ : Sc, rowsOk σ τ 8 → tc τ ≤ 150 → xrM l g yX4_rowAt wsX4_rowAt 8 131 2 12 [.ref (ad 0), .int (nI q), .int (nI i)] (wF g ad σ τ) 0 (some (.int (nI v))) := by
  intro τ hR hT
  have h := c_X4_rowAt l hlf g (ad := ad) (τ := τ) hO.1 hR hO.2.1 (x := nI q) (y := nI i) (v9 := v) (fun _ => by rw [ix_nI (by omega), ix_nI (by omega)]; exact hv)
  rw [eRow_n hq hr (by have h9 := rcn_le hO hq; have h8 := hO.1.2.2.2.1; omega)] at h
  exact h
theorem n_length (l : Launch) (hlf : l.stackTraces = false) (g : GT) {ad : Nat → Nat} {σ : St} (hN : FN ad 31) (hO : OK σ) {q : Nat} (hq : q < 8) : ∀ τ : Sc, rowsOk σ τ 8 → tc τ ≤ 150 → xwM l g yX4_length wsX4_length 8 133 1 6 [.ref (ad 0), .int (nI q)] (wF g ad σ τ) 0 (some (.int (nI (cN (shw σ q) (sn σ))))) (fun H1 => FWq g ad (σ) H1) (fA ad) := by
  intro τ hR hT
  have h := c_X4_length l hlf g (ad := ad) (τ := τ) hO.1 hN hR hO.2.1 hT (x := nI q)
  rw [eP_n hq] at h
  rw [ix_nI (j := q) (by omega)] at h
  exact h
theorem n_lengthByMerging (l : Launch) (hlf : l.stackTraces = false) (g : GT) {ad : Nat → Nat} {σ : St} (hN : FN ad 31) (hO : OK σ) {q : Nat} (hq : q < 8) : ∀ τ : Sc, rowsOk σ τ 8 → tc τ ≤ 150 → xwM l g yX4_lengthByMerging wsX4_lengthByMerging 8 131 1 6 [.ref (ad 0), .int (nI q)] (wF g ad σ τ) 0 (some (.int (nI (cN (shw σ q) (sn σ))))) (fun H1 => FWq g ad (σ) H1) (fA ad) := by
  intro τ hR hT
  have h := c_X4_lengthByMerging l hlf g (ad := ad) (τ := τ) hO.1 hN hR hO.2.1 hT (x := nI q)
  rw [eP_n hq] at h
  rw [ix_nI (j := q) (by omega)] at h
  exact h
theorem n_next (l : Launch) (hlf : l.stackTraces = false) (g : GT) {ad : Nat → Nat} {σ : St} (hN : FN ad 31) (hO : OK σ) {q : Nat} (hq : q < 8) {c : Nat} (hc : c ≤ 150) : ∀ τ : Sc, rowsOk σ τ 8 → tc τ ≤ 150 → xwM l g yX4_next wsX4_next 8 133 2 12 [.ref (ad 0), .int (nI q), .int (nI c)] (wF g ad σ τ) 0 (some (.int (fI (rNxt σ q c)))) (fun H1 => FWq g ad (σ) H1) (fA ad) := by
  intro τ hR hT
  have h := c_X4_next l hlf g (ad := ad) (τ := τ) hO.1 hN hR hO.2.1 hT (x := nI q) (y := nI c)
  rw [eNxt_n hq hc] at h
  rw [ix_nI (j := q) (by omega)] at h
  rw [ix_nI (j := c) (by omega)] at h
  exact h
theorem n_shows (l : Launch) (hlf : l.stackTraces = false) (g : GT) {ad : Nat → Nat} {σ : St} (hN : FN ad 31) (hO : OK σ) {q : Nat} (hq : q < 8) {e : Nat} (he : e < 150) (hs : e < sn σ) : ∀ τ : Sc, rowsOk σ τ 8 → tc τ ≤ 150 → xwM l g yX4_shows wsX4_shows 8 133 2 12 [.ref (ad 0), .int (nI q), .int (nI e)] (wF g ad σ τ) 0 (some (.int (bI (shw σ q e)))) (fun H1 => FWq g ad (σ) H1) (fA ad) := by
  intro τ hR hT
  have h := c_X4_shows l hlf g (ad := ad) (τ := τ) hO.1 hN hR hO.2.1 hT (x := nI q) (y := nI e)
  rw [eShw_n hq hs hO.1.1] at h
  rw [ix_nI (j := q) (by omega)] at h
  rw [ix_nI (j := e) (by omega)] at h
  exact h
theorem n_pageEnd (l : Launch) (hlf : l.stackTraces = false) (g : GT) {ad : Nat → Nat} {σ : St} (hN : FN ad 31) (hO : OK σ) {q : Nat} (hq : q < 8) {c : Nat} (hc : c ≤ 150) {z : Nat} (hz : z ≤ 20) (h1 : 1 ≤ z) {r : Nat} (hv : isPag (shw σ q) (cmin c (sn σ)) z (r + 1)) : ∀ τ : Sc, rowsOk σ τ 8 → tc τ ≤ 150 → xwM l g yX4_pageEnd wsX4_pageEnd 8 133 3 18 [.ref (ad 0), .int (nI q), .int (nI c), .int (nI z)] (wF g ad σ τ) 0 (some (.int (nI r))) (fun H1 => FWq g ad (σ) H1) (fA ad) := by
  intro τ hR hT
  have h := c_X4_pageEnd l hlf g (ad := ad) (τ := τ) hO.1 hN hR hO.2.1 hT (x := nI q) (y := nI c) (z := nI z) (r9 := r + 1) (fun _ => by rw [ix_nI (by omega), ix_nI (by omega), ix_nI (by omega)]; exact hv)
  rw [ePag_n hq hc h1 hz] at h
  rw [fI_succ] at h
  exact h
theorem n_follow (l : Launch) (hlf : l.stackTraces = false) (g : GT) {ad : Nat → Nat} {σ : St} (hN : FN ad 31) (hO : OK σ) {q : Nat} (hq : q < 8) {a : Nat} (ha : a < 8) (hs : eFol σ (nI q) (nI a) = 0) : ∀ τ : Sc, rowsOk σ τ 8 → tc τ ≤ 150 → xwM l g yX4_follow wsX4_follow 7 156 4 24 [.ref (ad 0), .int (nI q), .int (nI a)] (wF g ad σ τ) 0 (some (.int (nI (rFol σ (nI q) (nI a))))) (fun H1 => FWq g ad (nFol σ (nI q) (nI a)) H1) (fA ad) := by
  intro τ hR hT
  have h := c_X4_follow l hlf g (ad := ad) (τ := τ) hO.1 hN hR hO.2.1 hT (x := nI q) (y := nI a)
  rw [hs] at h
  exact h
theorem n_unfollow (l : Launch) (hlf : l.stackTraces = false) (g : GT) {ad : Nat → Nat} {σ : St} (hN : FN ad 31) (hO : OK σ) {q : Nat} (hq : q < 8) {a : Nat} (ha : a < 8) (hs : eUnf σ (nI q) (nI a) = 0) : ∀ τ : Sc, rowsOk σ τ 8 → tc τ ≤ 150 → xwM l g yX4_unfollow wsX4_unfollow 7 156 3 18 [.ref (ad 0), .int (nI q), .int (nI a)] (wF g ad σ τ) 0 (some (.int (nI (rUnf σ (nI q) (nI a))))) (fun H1 => FWq g ad (nUnf σ (nI q) (nI a)) H1) (fA ad) := by
  intro τ hR hT
  have h := c_X4_unfollow l hlf g (ad := ad) (τ := τ) hO.1 hN hR hO.2.1 hT (x := nI q) (y := nI a)
  rw [hs] at h
  exact h
theorem n_mute (l : Launch) (hlf : l.stackTraces = false) (g : GT) {ad : Nat → Nat} {σ : St} (hN : FN ad 31) (hO : OK σ) {q : Nat} (hq : q < 8) {a : Nat} (ha : a < 8) (hs : eMut (nI q) (nI a) = 0) {v : Bool} : ∀ τ : Sc, rowsOk σ τ 8 → tc τ ≤ 150 → xwM l g yX4_mute wsX4_mute 7 111 3 18 [.ref (ad 0), .int (nI q), .int (nI a), .int (bI v)] (wF g ad σ τ) 0 (some (.int (bI (sM σ (8 * ix (nI q) + ix (nI a)))))) (fun H1 => FWq g ad (nMut σ (nI q) (nI a) v) H1) (fA ad) := by
  intro τ hR hT
  have h := c_X4_mute l hlf g (ad := ad) (τ := τ) hO.1 hN hR hO.2.1 hT (x := nI q) (y := nI a) (v := v)
  rw [hs] at h
  exact h
theorem n_block (l : Launch) (hlf : l.stackTraces = false) (g : GT) {ad : Nat → Nat} {σ : St} (hN : FN ad 31) (hO : OK σ) {q : Nat} (hq : q < 8) {a : Nat} (ha : a < 8) (hs : eMut (nI q) (nI a) = 0) {v : Bool} : ∀ τ : Sc, rowsOk σ τ 8 → tc τ ≤ 150 → xwM l g yX4_block wsX4_block 7 156 3 18 [.ref (ad 0), .int (nI q), .int (nI a), .int (bI v)] (wF g ad σ τ) 0 (some (.int (bI (sB σ (8 * ix (nI q) + ix (nI a)))))) (fun H1 => FWq g ad (nBlk σ (nI q) (nI a) v) H1) (fA ad) := by
  intro τ hR hT
  have h := c_X4_block l hlf g (ad := ad) (τ := τ) hO.1 hN hR hO.2.1 hT (x := nI q) (y := nI a) (v := v)
  rw [hs] at h
  exact h
theorem n_post (l : Launch) (hlf : l.stackTraces = false) (g : GT) {ad : Nat → Nat} {σ : St} (hN : FN ad 31) (hO : OK σ) {q : Nat} (hq : q < 8) (hs : ePst σ (nI q) = 0) : ∀ τ : Sc, rowsOk σ τ 8 → tc τ ≤ 150 → xwM l g yX4_post wsX4_post 7 156 2 12 [.ref (ad 0), .int (nI q)] (wF g ad σ τ) 0 (some (.int (nI (sn σ)))) (fun H1 => FWq g ad (nPst σ (nI q)) H1) (fA ad) := by
  intro τ hR hT
  have h := c_X4_post l hlf g (ad := ad) (τ := τ) hO.1 hN hR hO.2.1 hT (x := nI q)
  rw [hs] at h
  exact h
theorem n_repost (l : Launch) (hlf : l.stackTraces = false) (g : GT) {ad : Nat → Nat} {σ : St} (hN : FN ad 31) (hO : OK σ) {q : Nat} (hq : q < 8) {e : Nat} (he : e < 150) (hs : eRep σ (nI q) (nI e) = 0) : ∀ τ : Sc, rowsOk σ τ 8 → tc τ ≤ 150 → xwM l g yX4_repost wsX4_repost 7 156 4 24 [.ref (ad 0), .int (nI q), .int (nI e)] (wF g ad σ τ) 0 (some (.int (nI (sn σ)))) (fun H1 => FWq g ad (nRep σ (nI q) (nI e)) H1) (fA ad) := by
  intro τ hR hT
  have h := c_X4_repost l hlf g (ad := ad) (τ := τ) hO.1 hN hR hO.2.1 hT (x := nI q) (y := nI e)
  rw [hs] at h
  exact h
theorem n_delete (l : Launch) (hlf : l.stackTraces = false) (g : GT) {ad : Nat → Nat} {σ : St} (hN : FN ad 31) (hO : OK σ) {e : Nat} (he : e < 150) (hs : eDel σ (nI e) = 0) : ∀ τ : Sc, rowsOk σ τ 8 → tc τ ≤ 150 → xwM l g yX4_delete wsX4_delete 7 156 2 12 [.ref (ad 0), .int (nI e)] (wF g ad σ τ) 0 (some (.int (nI (rDel σ (nI e))))) (fun H1 => FWq g ad (nDel σ (nI e)) H1) (fA ad) := by
  intro τ hR hT
  have h := c_X4_delete l hlf g (ad := ad) (τ := τ) hO.1 hN hR hO.2.1 hT (x := nI e)
  rw [hs] at h
  exact h
theorem n_setMark (l : Launch) (hlf : l.stackTraces = false) (g : GT) {ad : Nat → Nat} {σ : St} (hN : FN ad 31) (hO : OK σ) {k : Nat} (hk : k ≤ 40) (hs : eR 0 8 (nI k) = 0) : ∀ τ : Sc, rowsOk σ τ 8 → tc τ ≤ 150 → xwM l g yX4_setMark wsX4_setMark 7 156 1 6 [.ref (ad 0), .int (nI k)] (wF g ad σ τ) 0 (some (.int (nI (rMrk σ (nI k))))) (fun H1 => FWq g ad (nMrk σ (nI k)) H1) (fA ad) := by
  intro τ hR hT
  have h := c_X4_setMark l hlf g (ad := ad) (τ := τ) hO.1 hN hR hO.2.1 hT (x := nI k)
  rw [hs] at h
  exact h
theorem n_setRoom (l : Launch) (hlf : l.stackTraces = false) (g : GT) {ad : Nat → Nat} {σ : St} (hN : FN ad 31) (hO : OK σ) {k : Nat} (hk : k ≤ 40) (hs : eR 1 40 (nI k) = 0) : ∀ τ : Sc, rowsOk σ τ 8 → tc τ ≤ 150 → xwM l g yX4_setRoom wsX4_setRoom 7 156 1 6 [.ref (ad 0), .int (nI k)] (wF g ad σ τ) 0 (some (.int (nI (sr σ)))) (fun H1 => FWq g ad (nRom σ (nI k)) H1) (fA ad) := by
  intro τ hR hT
  have h := c_X4_setRoom l hlf g (ad := ad) (τ := τ) hO.1 hN hR hO.2.1 hT (x := nI k)
  rw [hs] at h
  exact h
