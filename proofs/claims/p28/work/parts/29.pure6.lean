/-! ===== a whole step ===== -/
def zInv (n : Nat) (t : Int) (M : zM) : Prop := zc10 M = n ∧ n ≤ 8 ∧ zPh n M ∧ (M 5 0).toInt ≤ 500 ∧ (∀ f, f < zc11 M → zFa n M f) ∧ (∀ w, w < zc12 M → zWl n M w ∧ zWd t M w) ∧ (∀ s, s < zc13 M → zSp n M s) ∧ zS (fun s => (M (70 + s) 5).toInt) (zc13 M) = (M 13 0).toInt ∧ (0 ≤ (M 7 3).toInt ∧ 0 ≤ (M 7 4).toInt ∧ zTot n 0 M + (M 7 3).toInt + (M 7 4).toInt = (M 11 0).toInt ∧ zTot n 2 M = (M 11 2).toInt ∧ zTot n 3 M = (M 11 3).toInt ∧ (M 11 0).toInt ≤ 10000) ∧ ((0 ≤ (M 6 0).toInt ∧ (M 6 0).toInt ≤ 99) ∧ (M 6 1 = 0 ∨ M 6 1 = 1) ∧ (0 ≤ (M 6 4).toInt ∧ (M 6 4).toInt ≤ 999) ∧ (M 6 3).toInt = 2 * (M 7 3).toInt ∧ (M 6 2).toInt ≤ 2 * zS (fun w => (M (60 + w) 6).toInt) (zc12 M))
def zAf (M M' : zM) : Prop := (∃ u : Int32, 0 ≤ u.toInt ∧ u.toInt ≤ (M 6 0).toInt ∧ M' 6 2 = 2 * u ∧ M' 6 3 = M 6 3 + 2 * u ∧ M' 7 3 = M 7 3 + u) ∧ M' 6 0 = M 6 0 ∧ M' 6 4 = M 6 4 ∧ (M' 6 5).toInt ≤ (M 6 4).toInt ∧ 0 ≤ (rX3_lastShock M').toInt ∧ (∀ q, M' 11 q = M 11 q) ∧ (∀ k, k ≠ 14 → M' 0 k = M 0 k) ∧ (∀ w, w < zc12 M → (M' (60 + w) 1 = M (60 + w) 1 ∧ M' (60 + w) 2 = M (60 + w) 2) ∧ (M (60 + w) 1 = 0 ∨ ((M' (60 + w) 5).toInt ≤ zMost (rX3_light M) ((M (60 + w) 2).toInt) ∧ M' (60 + w) 6 = 0)) ∧ ((M (60 + w) 2).toInt = 0 → (M' (60 + w) 5).toInt = 0))
theorem q_light {M S : zM} (h : ∀ k, S 9 k = M 9 k) : rX3_light S = rX3_light M := by
  have : bX3_light_4 S = bX3_light_4 M := by
    funext k st
    unfold bX3_light_4
    rw [h k]
  unfold rX3_light
  rw [this]
set_option maxHeartbeats 8000000 in
theorem q_step (n : Nat) (t : Int) (M : zM) (hOk : z_Ok M) (h : zInv n t M) (ht : 0 ≤ t ∧ t ≤ 99) : zInv n (t + 1) (fX3_step M) ∧ zAf M (fX3_step M) := by
  obtain ⟨hc, hn, hP, h500, hF, hW, hS, hsum, ⟨hu, hv, ht0, ht2, ht3, hT⟩, hsz, hrun, hneed, hpow, hlast⟩ := h
  obtain ⟨x1, e1, x2, e2, M3, e3, x4, e4, M8, e8, M17, e17, a18, e18, M28, e28, M29, e29, M30, e30, M34, e34, a35, e35, x45, e45, x46, e46, M47, e47, M51, e51, M57, e57, M58, e58, eM⟩ := e_X3_step M
  rw [eM]
  clear eM
  have n11 := hOk.n11
  have n12 := hOk.n12
  have n13 := hOk.n13
  generalize hnf : zc11 M = nf at *
  generalize hnw : zc12 M = nw at *
  generalize hns : zc13 M = ns at *
  have f3 : ∀ i k, ¬ (i = 0 ∧ k = 14) → M3 i k = M i k := fun i k h => by rw [e3, zu, if_neg h]
  have e4 : x4 = rX3_light M := by rw [e4]; exact q_light (fun k => f3 9 k (by omega))
  have P3 := hP.same (M' := M3) hn (fun i q _ => f3 i q (by omega))
  obtain ⟨P8, T8, F8, G8⟩ := q_faces n hn M3 P3.1 nf n11 (fun f hf => (hF f hf).of (fun q _ => f3 _ _ (by omega))) nf (Nat.le_refl _)
  rw [← e8] at P8 T8 F8 G8
  have g8 : ∀ i k, ¬ (i = 0 ∧ k = 14) → i ≠ 10 → ¬ (30 ≤ i ∧ i < 38) → ¬ (40 ≤ i ∧ i < 52 ∧ (k = 2 ∨ k = 3)) → M8 i k = M i k := fun i k h1 h2 h3 h4 => by rw [G8 i k h2 h3 h4, f3 i k h1]
  have w8 : ∀ w q, w < 6 → M8 (60 + w) q = M (60 + w) q := fun w q hw => g8 _ _ (by omega) (by omega) (by omega) (by omega)
  obtain ⟨P17, a18p, T17, T17', W17, D17, A17, R17, G17⟩ := q_prods n hn t ⟨ht.1, by omega⟩ M8 P8 nw n12 (fun w hw => ((hW w hw).1).of (fun q _ => w8 w q (by omega))) (fun w hw => ((hW w hw).2).of (fun q _ => w8 w q (by omega))) nw (Nat.le_refl _) M17 a18 (by rw [e17, e18])
  have hT8 : zTot n 0 M8 = zTot n 0 M := (T8 0 (by decide)).trans (P3.2 0 (by decide))
  have ha18 : a18.toInt ≤ 10000 := by
    have h1 : 0 ≤ zTot n 0 M17 := by
      have h2 := (P17.S (q := 0) (by decide))
      have h3 := h2.2.2.2 (by decide)
      unfold zTot
      rw [if_neg (by decide)]
      omega
    have h2 : zTot n 0 M ≤ 10000 := hP.2.2.2.2 0 (by decide)
    omega
  -- the plant
  have s17 : ∀ k, M17 6 k = M 6 k ∧ M17 7 k = M 7 k := fun k => ⟨by rw [G17 6 k (by omega) (by omega) (by omega) (by omega), g8 6 k (by omega) (by omega) (by omega) (by omega)], by rw [G17 7 k (by omega) (by omega) (by omega) (by omega), g8 7 k (by omega) (by omega) (by omega) (by omega)]⟩
  obtain ⟨⟨u, u0, u1, u2, u3, u4, u5, u6⟩, Dr, G28⟩ := q_drive M17 a18 a18p (by rw [(s17 0).1]; exact hsz.1)
  rw [← e28] at u3 u4 u5 u6 Dr G28
  rw [(s17 0).1] at u2
  rw [(s17 3).1] at u4
  rw [(s17 3).2] at u5
  rw [(s17 4).2] at u6
  rw [(s17 1).1] at Dr
  have P28 := P17.same (M' := M28) hn (fun i q hi => G28 i q (by omega) (by omega))
  have c64 : M28 6 4 = M 6 4 := by rw [G28 6 4 (by omega) (by omega), (s17 4).1]
  obtain ⟨P29, T29, N29, G29⟩ := q_town n hn M28 P28.1 (by rw [c64]; exact hneed.1)
  rw [← e29] at P29 T29 N29 G29
  rw [c64] at N29
  obtain ⟨P30, T30, M500, G30⟩ := q_spill n hn M29 P29
  rw [← e30] at P30 T30 M500 G30
  have g30 : ∀ i k, i ≠ 5 → i ≠ 6 → i ≠ 7 → i ≠ 10 → i ≠ 12 → M30 i k = M17 i k := fun i k h1 h2 h3 h4 h5 => by rw [G30 i k h4 h1 h5, G29 i k (by omega) (by omega), G28 i k (by omega) (by omega)]
  have w30 : ∀ w q, w < 6 → M30 (60 + w) q = M17 (60 + w) q := fun w q hw => g30 _ _ (by omega) (by omega) (by omega) (by omega) (by omega)
  have k17 : ∀ w, w < 6 → M17 (60 + w) 1 = M (60 + w) 1 ∧ M17 (60 + w) 2 = M (60 + w) 2 := fun w hw => ⟨by rw [G17 _ _ (by omega) (by omega) (by omega) (by omega), w8 w 1 hw], by rw [G17 _ _ (by omega) (by omega) (by omega) (by omega), w8 w 2 hw]⟩
  have k30 : ∀ w, w < 6 → M30 (60 + w) 1 = M (60 + w) 1 ∧ M30 (60 + w) 2 = M (60 + w) 2 := fun w hw => by rw [w30 w 1 hw, w30 w 2 hw]; exact k17 w hw
  obtain ⟨P34, A34, T34, L34, W34, D34, R34, G34⟩ := q_injs n hn t ⟨ht.1, by omega⟩ x4 M30 P30 nw n12 (fun w hw => (W17 w hw).of (fun q _ => w30 w q (by omega))) (fun w hw hi => by
    rw [(k30 w (by omega)).1] at hi
    refine ((hW w hw).2).of (fun q _ => ?_)
    rw [w30 w q (by omega), R17 w (Or.inr (by rw [w8 w 1 (by omega)]; exact hi)) (by omega) q, w8 w q (by omega)]) nw (Nat.le_refl _) M34 a35 (by rw [e34, e35])
  have f47 : ∀ i k, i ≠ 9 → M47 i k = M34 i k := fun i k h => by rw [e47, zu, if_neg (by omega)]
  have P47 := P34.same (M' := M47) hn (fun i q hi => f47 i q (by omega))
  have g47 : ∀ i k, i ≠ 5 → i ≠ 6 → i ≠ 7 → i ≠ 9 → i ≠ 10 → i ≠ 12 → ¬ (i = 0 ∧ k = 14) → ¬ (30 ≤ i ∧ i < 38) → ¬ (40 ≤ i ∧ i < 52 ∧ (k = 2 ∨ k = 3)) → ¬ (60 ≤ i ∧ i < 66 ∧ 3 ≤ k ∧ k < 9) → M47 i k = M i k := fun i k h1 h2 h3 h4 h5 h6 h7 h8 h9 h10 => by
    rw [f47 i k h4, G34 i k h5 h1 h8 (by omega), g30 i k h1 h2 h3 h5 h6, G17 i k h5 h1 h8 h10, g8 i k h7 h5 h8 h9]
  have s47 : ∀ s q, s < 3 → M47 (70 + s) q = M (70 + s) q := fun s q hs => g47 _ _ (by omega) (by omega) (by omega) (by omega) (by omega) (by omega) (by omega) (by omega) (by omega) (by omega)
  have hsum47 : zS (fun s => (M47 (70 + s) 5).toInt) ns = (M47 13 0).toInt := by
    rw [iv_of (g47 13 0 (by omega) (by omega) (by omega) (by omega) (by omega) (by omega) (by omega) (by omega) (by omega) (by omega)), ← hsum]
    exact zS_congr (fun s hs => iv_of (s47 s 5 (by omega)))
  obtain ⟨P51, T51, S51, Q51, G51⟩ := q_springs n hn M47 P47.1 ns n13 (fun s hs => (hS s hs).of (fun q _ => s47 s q (by omega))) hsum47 ns (Nat.le_refl _)
  rw [← e51] at P51 T51 S51 Q51 G51
  have f58 : ∀ i k, i ≠ 8 → M58 i k = M51 i k := fun i k h => by rw [e58, q_pay M57 i k h, e57, q_shareOut M51 i k h]
  have P58 := P51.same (M' := M58) hn (fun i q hi => f58 i q (by omega))
  have g58 : ∀ i k, i ≠ 8 → i ≠ 9 → i ≠ 10 → i ≠ 13 → ¬ (30 ≤ i ∧ i < 38) → ¬ (70 ≤ i ∧ i < 73 ∧ 3 ≤ k ∧ k < 7) → M58 i k = M34 i k := fun i k h1 h2 h3 h4 h5 h6 => by rw [f58 i k h1, G51 i k h3 h4 h5 h6, f47 i k h2]
  have w58 : ∀ w q, w < 6 → M58 (60 + w) q = M34 (60 + w) q := fun w q hw => g58 _ _ (by omega) (by omega) (by omega) (by omega) (by omega) (by omega)
  have g0 : ∀ i k, i = 0 ∨ i = 11 → ¬ (i = 0 ∧ k = 14) → M58 i k = M i k := fun i k hi hk => by rw [f58 i k (by omega), G51 i k (by omega) (by omega) (by omega) (by omega), g47 i k (by omega) (by omega) (by omega) (by omega) (by omega) (by omega) hk (by omega) (by omega) (by omega)]
  have c58 : ∀ k, M58 6 k = M29 6 k ∧ M58 7 k = M29 7 k := fun k => ⟨by rw [g58 6 k (by omega) (by omega) (by omega) (by omega) (by omega) (by omega), G34 6 k (by omega) (by omega) (by omega) (by omega), G30 6 k (by omega) (by omega) (by omega)], by rw [g58 7 k (by omega) (by omega) (by omega) (by omega) (by omega) (by omega), G34 7 k (by omega) (by omega) (by omega) (by omega), G30 7 k (by omega) (by omega) (by omega)]⟩
  have c6 : ∀ k, k ≠ 5 → M58 6 k = M28 6 k := fun k hk => by rw [(c58 k).1, G29 6 k (by omega) (by omega)]
  have c7 : ∀ k, M58 7 k = M28 7 k := fun k => by rw [(c58 k).2, G29 7 k (by omega) (by omega)]
  have c60 : M58 6 0 = M 6 0 := by rw [c6 0 (by omega), G28 6 0 (by omega) (by omega), (s17 0).1]
  have c62 : M58 6 2 = 2 * u := by rw [c6 2 (by omega), u3]
  have c63 : M58 6 3 = M 6 3 + 2 * u := by rw [c6 3 (by omega), u4]
  have c73 : M58 7 3 = M 7 3 + u := by rw [c7, u5]
  have c74 : M58 7 4 = M 7 4 + (a18 - u) := by rw [c7, u6]
  have i2u : ((2 : Int32) * u).toInt = 2 * u.toInt := fb_mulI (by rw [show (2 : Int32).toInt = 2 from rfl]; omega) (by rw [show (2 : Int32).toInt = 2 from rfl]; omega)
  have hTn : 0 ≤ zTot n 0 M := by
    have h2 := (hP.S (q := 0) (by decide))
    have h3 := h2.2.2.2 (by decide)
    unfold zTot
    rw [if_neg (by decide)]
    omega
  have j73 : (M58 7 3).toInt = (M 7 3).toInt + u.toInt := by rw [c73, fb_addI (by omega) (by omega)]
  have jau : (a18 - u).toInt = a18.toInt - u.toInt := fb_subI (by omega) (by omega)
  have j74 : (M58 7 4).toInt = (M 7 4).toInt + (a18.toInt - u.toInt) := by rw [c74, fb_addI (by omega) (by omega), jau]
  have j63 : (M58 6 3).toInt = (M 6 3).toInt + 2 * u.toInt := by rw [c63, fb_addI (by omega) (by omega), i2u]
  have tt : ∀ q, q < 4 → q ≠ 1 → zTot n q M58 = zTot n q M17 := fun q hq h1 => by rw [P58.2 q hq, T51 q hq h1, P47.2 q hq, T34 q hq, T30 q hq h1, T29 q hq h1, P28.2 q hq]
  have tt23 : ∀ q, q < 4 → q ≠ 0 → q ≠ 1 → zTot n q M58 = zTot n q M := fun q hq h0 h1 => by rw [tt q hq h1, T17' q hq h0 h1, T8 q hq, P3.2 q hq]
  have tt0 : zTot n 0 M58 = zTot n 0 M - a18.toInt := by rw [tt 0 (by decide) (by decide), T17, hT8]
  have k58 : ∀ w, w < 6 → M58 (60 + w) 1 = M (60 + w) 1 ∧ M58 (60 + w) 2 = M (60 + w) 2 := fun w hw => by
    rw [w58 w 1 hw, w58 w 2 hw, G34 _ 1 (by omega) (by omega) (by omega) (by omega), G34 _ 2 (by omega) (by omega) (by omega) (by omega)]
    exact k30 w hw
  -- a producer's row is what it was behind the producers' loop
  have wp : ∀ w, w < nw → M (60 + w) 1 = 0 → ∀ q, M58 (60 + w) q = M17 (60 + w) q := fun w hw h0 q => by
    rw [w58 w q (by omega), R34 w (Or.inr (by rw [(k30 w (by omega)).1]; exact h0)) (by omega) q, w30 w q (by omega)]
  have hwell : ∀ w, w < nw → (zWl n M58 w ∧ zWd (t + 1) M58 w) ∧ (M (60 + w) 1 = 0 ∨ ((M58 (60 + w) 5).toInt ≤ zMost (rX3_light M) ((M (60 + w) 2).toInt) ∧ M58 (60 + w) 6 = 0)) ∧ ((M (60 + w) 2).toInt = 0 → (M58 (60 + w) 5).toInt = 0) := fun w hw => by
    refine ⟨⟨(W34 w hw).of (fun q _ => w58 w q (by omega)), ?_⟩, ?_⟩
    · by_cases h0 : M (60 + w) 1 = 0
      · exact ((D17 w hw (by rw [w8 w 1 (by omega)]; exact h0)).1).of (fun q _ => wp w hw h0 q)
      · exact ((D34 w hw (by rw [(k30 w (by omega)).1]; exact h0)).1).of (fun q _ => w58 w q (by omega))
    · by_cases h0 : M (60 + w) 1 = 0
      · refine ⟨Or.inl h0, fun hz => ?_⟩
        rw [wp w hw h0 5]
        exact (D17 w hw (by rw [w8 w 1 (by omega)]; exact h0)).2 (by rw [w8 w 2 (by omega)]; exact hz)
      · obtain ⟨d1, d2, d3⟩ := D34 w hw (by rw [(k30 w (by omega)).1]; exact h0)
        rw [(k30 w (by omega)).2, e4] at d2
        refine ⟨Or.inr ⟨by rw [w58 w 5 (by omega)]; exact d2, by rw [w58 w 6 (by omega)]; exact d3⟩, fun hz => ?_⟩
        have hm : zMost (rX3_light M) ((M (60 + w) 2).toInt) = 0 := by
          rw [hz]
          unfold zMost
          split
          · rfl
          · split <;> rfl
        rw [hm] at d2
        rw [w58 w 5 (by omega)]
        have := d1.1
        omega
  have hsteam : a18.toInt = zS (fun w => (M58 (60 + w) 6).toInt) nw := by
    rw [A17]
    refine zS_congr (fun w hw => ?_)
    rw [w8 w 1 (by omega)]
    by_cases h0 : M (60 + w) 1 = 0
    · rw [if_pos h0, wp w hw h0 6]
    · rw [if_neg h0]
      rcases (hwell w hw).2.1 with h1 | h1
      · exact absurd h1 h0
      · rw [h1.2, Int32.toInt_zero]
  have zz : ∀ k, k ≠ 14 → M58 0 k = M 0 k := fun k hk => g0 0 k (Or.inl rfl) (by omega)
  have z11 : zc11 M58 = nf := by rw [← hnf]; unfold zc11; rw [zz 11 (by decide)]
  have z12 : zc12 M58 = nw := by rw [← hnw]; unfold zc12; rw [zz 12 (by decide)]
  have z13 : zc13 M58 = ns := by rw [← hns]; unfold zc13; rw [zz 13 (by decide)]
  refine ⟨⟨?_, hn, P58.1, ?_, ?_, ?_, ?_, ?_, ⟨by omega, by omega, ?_, ?_, ?_, ?_⟩, ?_, ?_, ?_, by omega, ?_⟩, ⟨u, u0, u2, c62, c63, c73⟩, c60, ?_, ?_, ?_, fun q => g0 11 q (Or.inr rfl) (by omega), zz, fun w hw => ⟨k58 w (by omega), (hwell w (by omega)).2⟩⟩
  · rw [← hc]; unfold zc10; rw [zz 10 (by decide)]
  · rw [iv_of (f58 5 0 (by decide)), iv_of (G51 5 0 (by omega) (by omega) (by omega) (by omega)), iv_of (f47 5 0 (by omega))]
    omega
  · intro f hf
    rw [z11] at hf
    refine (F8 f hf).of (fun q _ => ?_)
    rw [f58 _ _ (by omega), G51 _ _ (by omega) (by omega) (by omega) (by omega), f47 _ _ (by omega), G34 _ _ (by omega) (by omega) (by omega) (by omega), g30 _ _ (by omega) (by omega) (by omega) (by omega) (by omega), G17 _ _ (by omega) (by omega) (by omega) (by omega)]
  · intro w hw
    rw [z12] at hw
    exact (hwell w hw).1
  · intro s hs
    rw [z13] at hs
    exact (S51 s hs).of (fun q _ => f58 _ _ (by omega))
  · rw [z13, iv_of (f58 13 0 (by omega)), ← Q51]
    exact zS_congr (fun s hs => iv_of (f58 _ _ (by omega)))
  · rw [tt0, iv_of (g0 11 0 (Or.inr rfl) (by omega))]; omega
  · rw [tt23 2 (by decide) (by decide) (by decide), iv_of (g0 11 2 (Or.inr rfl) (by omega))]; exact ht2
  · rw [tt23 3 (by decide) (by decide) (by decide), iv_of (g0 11 3 (Or.inr rfl) (by omega))]; exact ht3
  · rw [iv_of (g0 11 0 (Or.inr rfl) (by omega))]; exact hT
  · rw [iv_of c60]; exact hsz
  · rw [c6 1 (by omega)]
    rcases Dr with d | d
    · exact Or.inl d
    · rw [d]; exact hrun
  · rw [c6 4 (by omega), c64]; exact hneed
  · rw [z12, ← hsteam, c62, i2u]; omega
  · rw [c6 4 (by omega), c64]
  · rw [(c58 5).1]; exact N29.2
  · unfold rX3_lastShock
    have h1 : M58 0 14 = M34 0 14 := g58 0 14 (by omega) (by omega) (by omega) (by omega) (by omega) (by omega)
    dsimp only
    rw [h1, f58 9 _ (by omega), G51 9 _ (by omega) (by omega) (by omega) (by omega), e47, e46, e45, zu_self]
    exact A34.1
