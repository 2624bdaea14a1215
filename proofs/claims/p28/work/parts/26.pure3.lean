/-! ===== wells, springs, the plant ===== -/
theorem q_note (M : zM) (v j : Nat) (a0 : Int32) (hj : j ≠ 60 + v) : fX7_note M v j a0 (60 + v) 5 = M j 0 ∧ fX7_note M v j a0 (60 + v) 6 = a0 ∧ fX7_note M v j a0 (60 + v) 7 = M j 3 ∧ fX7_note M v j a0 (60 + v) 8 = M (60 + v) 8 + M j 0 ∧ (∀ i k, ¬ (i = 60 + v ∧ 5 ≤ k ∧ k < 9) → fX7_note M v j a0 i k = M i k) := by
  refine ⟨?_, ?_, ?_, ?_, fun i k h => ?_⟩
  · simp [fX7_note, zu]
  · simp [fX7_note, zu]
  · simp [fX7_note, zu, hj]
  · simp [fX7_note, zu, hj]
  · simp only [fX7_note, zu]
    rw [if_neg (by omega), if_neg (by omega), if_neg (by omega), if_neg (by omega)]
theorem q_crust (M : zM) (v : Nat) (h3 : 0 ≤ (M (60 + v) 3).toInt ∧ (M (60 + v) 3).toInt ≤ 9) (h4 : 0 ≤ (M (60 + v) 4).toInt ∧ (M (60 + v) 4).toInt ≤ 4) : (0 ≤ ((fX7_growCrust M v) (60 + v) 3).toInt ∧ ((fX7_growCrust M v) (60 + v) 3).toInt ≤ 9) ∧ (0 ≤ ((fX7_growCrust M v) (60 + v) 4).toInt ∧ ((fX7_growCrust M v) (60 + v) 4).toInt ≤ 4) ∧ (∀ i k, ¬ (i = 60 + v ∧ (k = 3 ∨ k = 4)) → fX7_growCrust M v i k = M i k) := by
  obtain ⟨x1, e1, x2, e2, M3, e3, x4, e4, M6, e6, eM⟩ := e_X7_growCrust M v
  rw [eM]
  have i2 : x2.toInt = (M (60 + v) 4).toInt + 1 := by rw [e2, e1, fb_addI] <;> rw [Int32.toInt_one] <;> omega
  have i4 : x4 = x2 := by rw [e4, e3, zu_self]
  have f3 : ∀ i k, ¬ (i = 60 + v ∧ k = 4) → M3 i k = M i k := fun i k h => by rw [e3, zu, if_neg h]
  by_cases h : x4 < 5
  · rw [if_pos h] at e6
    rw [i4, Int32.lt_iff_toInt_lt, i2, show (5 : Int32).toInt = 5 from rfl] at h
    subst e6
    refine ⟨?_, ?_, fun i k hk => f3 i k (by omega)⟩
    · rw [iv_of (f3 (60 + v) 3 (by omega))]; exact h3
    · rw [e3, zu_self]; omega
  · rw [if_neg h] at e6
    dsimp only at e6
    have i3 : M3 (60 + v) 3 = M (60 + v) 3 := f3 _ _ (by omega)
    have n3 : zu M3 (60 + v) 4 0 (60 + v) 3 = M (60 + v) 3 := by rw [zu, if_neg (by omega), i3]
    rw [n3] at e6
    have a3 : (M (60 + v) 3 + 1).toInt = (M (60 + v) 3).toInt + 1 := by rw [fb_addI] <;> rw [Int32.toInt_one] <;> omega
    refine ⟨?_, ?_, fun i k hk => ?_⟩
    · rw [e6, zu_self, q_ite, a3, show (9 : Int32).toInt = 9 from rfl]
      simp only [Int32.lt_iff_toInt_lt, a3, show (9 : Int32).toInt = 9 from rfl]
      split <;> omega
    · rw [e6, zu, if_neg (by omega), zu_self, Int32.toInt_zero]; omega
    · rw [e6, zu, if_neg (by omega), zu, if_neg (by omega), f3 i k (by omega)]
/-- what goes from the pond into the load -/
theorem q_drain (M : zM) (a0 : Int32) (hp : ∀ q, q < 4 → 0 ≤ (M 5 q).toInt ∧ (M 5 q).toInt ≤ 5000000) (ha : 0 ≤ a0.toInt) (ha2 : a0.toInt ≤ (M 5 0).toInt) :
    (∀ q, q < 4 → 0 ≤ ((fX3_drain M a0) 10 q).toInt ∧ ((fX3_drain M a0) 10 q).toInt ≤ (M 5 q).toInt) ∧
    (∀ q, q < 4 → ((fX3_drain M a0) 5 q).toInt = (M 5 q).toInt - ((fX3_drain M a0) 10 q).toInt) ∧
    fX3_drain M a0 10 0 = a0 ∧ (∀ i k, i ≠ 10 → i ≠ 5 → fX3_drain M a0 i k = M i k) := by
  obtain ⟨M1, e1, x2, e2, x3, e3, M4, e4, x5, e5, x6, e6, M7, e7, x8, e8, x9, e9, M10, e10, M11, e11, eM⟩ := e_X3_drain M a0
  rw [eM]
  have p0 := hp 0 (by decide)
  have p1 := hp 1 (by decide)
  have p2 := hp 2 (by decide)
  have p3 := hp 3 (by decide)
  have d2 : x2 = M 5 1 := by rw [e2, e1]; simp [zu]
  have d5 : x5 = M 5 2 := by rw [e5, e4, e1]; simp [zu]
  have d8 : x8 = M 5 3 := by rw [e8, e7, e4, e1]; simp [zu]
  have m1 : (M1 5 0).toInt = (M 5 0).toInt := by rw [e1]; simp [zu]
  have m4 : (M4 5 0).toInt = (M 5 0).toInt := by rw [e4, e1]; simp [zu]
  have m7 : (M7 5 0).toInt = (M 5 0).toInt := by rw [e7, e4, e1]; simp [zu]
  have i3 : x3.toInt = a0.toInt * (M 5 1).toInt / (M 5 0).toInt := by
    rw [e3, q_share M1 5 x2 a0 (by omega) (by rw [d2]; omega) ha (by omega), m1, d2]
  have i6 : x6.toInt = a0.toInt * (M 5 2).toInt / (M 5 0).toInt := by
    rw [e6, q_share M4 5 x5 a0 (by omega) (by rw [d5]; omega) ha (by omega), m4, d5]
  have i9 : x9.toInt = a0.toInt * (M 5 3).toInt / (M 5 0).toInt := by
    rw [e9, q_share M7 5 x8 a0 (by omega) (by rw [d8]; omega) ha (by omega), m7, d8]
  have b3 := q_part p1.1 ha ha2
  have b6 := q_part p2.1 ha ha2
  have b9 := q_part p3.1 ha ha2
  rw [← i3] at b3
  rw [← i6] at b6
  rw [← i9] at b9
  have hr := q_rem M10 (i := 5) (j := 10) (by decide)
  rw [← e11] at hr
  have r0 : M10 10 0 = a0 := by rw [e10, e7, e4, e1]; simp [zu]
  have r1 : M10 10 1 = x3 := by rw [e10, e7, e4, e1]; simp [zu]
  have r2 : M10 10 2 = x6 := by rw [e10, e7, e4, e1]; simp [zu]
  have r3 : M10 10 3 = x9 := by rw [e10, e7, e4, e1]; simp [zu]
  have rf : ∀ i k, i ≠ 10 → M10 i k = M i k := fun i k hi => by rw [e10, e7, e4, e1]; simp [zu, hi]
  have s0 : M11 10 0 = a0 := by rw [hr.2 10 0 (by decide), r0]
  have s1 : M11 10 1 = x3 := by rw [hr.2 10 1 (by decide), r1]
  have s2 : M11 10 2 = x6 := by rw [hr.2 10 2 (by decide), r2]
  have s3 : M11 10 3 = x9 := by rw [hr.2 10 3 (by decide), r3]
  refine ⟨q4 ?_ ?_ ?_ ?_, q4 ?_ ?_ ?_ ?_, s0, ?_⟩
  · rw [s0]; omega
  · rw [s1]; omega
  · rw [s2]; omega
  · rw [s3]; omega
  · rw [hr.1 0 (by decide), r0, s0, rf _ _ (by decide), fb_subI (by omega) (by omega)]
  · rw [hr.1 1 (by decide), r1, s1, rf _ _ (by decide), fb_subI (by omega) (by omega)]
  · rw [hr.1 2 (by decide), r2, s2, rf _ _ (by decide), fb_subI (by omega) (by omega)]
  · rw [hr.1 3 (by decide), r3, s3, rf _ _ (by decide), fb_subI (by omega) (by omega)]
  · intro i k hi hi2
    rw [hr.2 i k hi2, rf i k hi]
theorem zPh.pond {n : Nat} {M : zM} (h : zPh n M) : ∀ q, q < 4 → 0 ≤ (M 5 q).toInt ∧ (M 5 q).toInt ≤ 5000000 := fun q hq => by
  have h1 := h.S hq
  have h2 := zB_le q
  omega
theorem q_spill (n : Nat) (hn : n ≤ 8) (M : zM) (hP : zPh n M) : zPh n (fX3_spill M) ∧ (∀ q, q < 4 → q ≠ 1 → zTot n q (fX3_spill M) = zTot n q M) ∧ ((fX3_spill M) 5 0).toInt ≤ 500 ∧ (∀ i k, i ≠ 10 → i ≠ 5 → i ≠ 12 → fX3_spill M i k = M i k) := by
  obtain ⟨x1, e1, x2, e2, x3, e3, M4, e4, M5, e5, eM⟩ := e_X3_spill M
  rw [eM]
  have hp := hP.pond
  have p0 := hp 0 (by decide)
  have i2 : x2.toInt = (M 5 0).toInt - 500 := by rw [e2, e1, fb_subI] <;> rw [show (500 : Int32).toInt = 500 from rfl] <;> omega
  have i3 : x3.toInt = if (M 5 0).toInt - 500 < 0 then 0 else (M 5 0).toInt - 500 := by
    rw [e3, q_ite, i2, Int32.toInt_zero]
    simp only [Int32.lt_iff_toInt_lt, i2, Int32.toInt_zero]
  have b3 : 0 ≤ x3.toInt ∧ x3.toInt ≤ (M 5 0).toInt ∧ (M 5 0).toInt - x3.toInt ≤ 500 := by rw [i3]; split <;> omega
  have D := q_drain M x3 hp b3.1 b3.2.1
  rw [← e4] at D
  obtain ⟨D1, D2, D3, D4⟩ := D
  have A := q_add M4 (i := 12) (j := 10) (by decide)
  rw [← e5] at A
  have c5 : ∀ q, q < 4 → (M5 5 q).toInt = (M 5 q).toInt - (M4 10 q).toInt := fun q hq => by rw [iv_of (A.2 5 q (by decide)), D2 q hq]
  have c12 : ∀ q, q < 4 → q ≠ 1 → (M5 12 q).toInt = (M 12 q).toInt + (M4 10 q).toInt := fun q hq h1 => by
    have s1 := (hP.S hq).2.2.2 h1
    have s2 := (hP.S hq).1
    have s3 := D1 q hq
    have s4 := zB_le q
    rw [A.1 q hq, D4 12 q (by decide) (by decide), fb_addI (by omega) (by omega)]
  have c : ∀ i k, i ≠ 10 → i ≠ 5 → i ≠ 12 → M5 i k = M i k := fun i k k1 k2 k3 => by rw [A.2 i k k3, D4 i k k1 k2]
  have ht : ∀ q, q < 4 → zTot n q M5 ≤ zTot n q M ∧ (q ≠ 1 → zTot n q M5 = zTot n q M) := fun q hq => by
    have r0 := zTot_none (n := n) (q := q) (M := M) (M' := M5) (fun k hk => c _ _ (by omega) (by omega) (by omega))
    have r1 := c5 q hq
    have r2 := iv_of (c 13 q (by decide) (by decide) (by decide))
    have r3 := D1 q hq
    by_cases h1 : q = 1
    · rw [if_pos h1] at r0
      exact ⟨by omega, fun h => absurd h1 h⟩
    · rw [if_neg h1] at r0
      have r4 := c12 q hq h1
      exact ⟨by omega, fun _ => by omega⟩
  refine ⟨hP.move (fun b hb => c _ _ (by omega) (by omega) (by omega)) (fun b hb q hq => ?_) (fun q hq => ?_) (fun q hq h1 => ?_) (fun q hq => (ht q hq).1), fun q hq => (ht q hq).2, ?_, c⟩
  · rw [iv_of (c _ _ (by omega) (by omega) (by omega))]; exact hP.2.1 b hb q hq
  · have r1 := c5 q hq
    have r3 := D1 q hq
    omega
  · have r4 := c12 q hq h1
    have r3 := D1 q hq
    have r5 := hP.2.2.2.1 q hq h1
    rw [iv_of (c 13 q (by decide) (by decide) (by decide))]
    omega
  · rw [c5 0 (by decide), D3]
    exact b3.2.2
theorem q_town (n : Nat) (hn : n ≤ 8) (M : zM) (hP : zPh n M) (hne : 0 ≤ (M 6 4).toInt) : zPh n (fX3_warmTheTown M) ∧ (∀ q, q < 4 → q ≠ 1 → zTot n q (fX3_warmTheTown M) = zTot n q M) ∧ (0 ≤ ((fX3_warmTheTown M) 6 5).toInt ∧ ((fX3_warmTheTown M) 6 5).toInt ≤ (M 6 4).toInt) ∧ (∀ i k, ¬ (i = 5 ∧ k = 1) → ¬ (i = 6 ∧ k = 5) → fX3_warmTheTown M i k = M i k) := by
  obtain ⟨x1, e1, x2, e2, x3, e3, x4, e4, x5, e5, x6, e6, x7, e7, M8, e8, x9, e9, x10, e10, x11, e11, M12, e12, eM⟩ := e_X3_warmTheTown M
  rw [eM]
  have hp := hP.pond
  have p0 := hp 0 (by decide)
  have p1 := hp 1 (by decide)
  have p0' := (hP.S (q := 0) (by decide)).2.2.1
  have s0 := (hP.S (q := 0) (by decide)).1
  have z0 : zB 0 = 10000 := rfl
  have i3 : x3.toInt = 30 * (M 5 0).toInt := by rw [e3, e2, fb_mulI] <;> rw [show (30 : Int32).toInt = 30 from rfl] <;> omega
  have i4 : x4.toInt = (M 5 1).toInt - 30 * (M 5 0).toInt := by rw [e4, e1, fb_subI (by omega) (by omega), i3]
  have b5 : 0 ≤ x5.toInt ∧ x5.toInt ≤ (M 5 1).toInt := by
    rw [e5, q_ite, i4, Int32.toInt_zero]
    simp only [Int32.lt_iff_toInt_lt, i4, Int32.toInt_zero]
    split <;> omega
  have b7 : 0 ≤ x7.toInt ∧ x7.toInt ≤ (M 6 4).toInt ∧ x7.toInt ≤ (M 5 1).toInt := by
    rw [e7, q_ite, e6]
    simp only [Int32.lt_iff_toInt_lt]
    split <;> omega
  have d9 : x9 = M 5 1 := by rw [e9, e8]; simp [zu]
  have d10 : x10 = x7 := by rw [e10, e8]; simp [zu]
  have i11 : x11.toInt = (M 5 1).toInt - x7.toInt := by rw [e11, d9, d10, fb_subI (by omega) (by omega)]
  have c : ∀ i k, ¬ (i = 5 ∧ k = 1) → ¬ (i = 6 ∧ k = 5) → M12 i k = M i k := fun i k k1 k2 => by rw [e12, zu, if_neg k1, e8, zu, if_neg k2]
  have c51 : (M12 5 1).toInt = (M 5 1).toInt - x7.toInt := by rw [e12, zu_self, i11]
  have c65 : (M12 6 5).toInt = x7.toInt := by rw [e12, zu, if_neg (by decide), e8, zu_self]
  have ht : ∀ q, q < 4 → zTot n q M12 ≤ zTot n q M ∧ (q ≠ 1 → zTot n q M12 = zTot n q M) := fun q hq => by
    by_cases h1 : q = 1
    · subst h1
      have r0 := zTot_none (n := n) (q := 1) (M := M) (M' := M12) (fun k hk => c _ _ (by omega) (by omega))
      rw [if_pos rfl] at r0
      exact ⟨by omega, fun h => absurd rfl h⟩
    · have := zTot_same (n := n) (q := q) (M := M) (M' := M12) (fun k hk => c _ _ (by omega) (by omega)) (c _ _ (by omega) (by omega)) (c _ _ (by omega) (by omega)) (c _ _ (by omega) (by omega))
      exact ⟨Int.le_of_eq this, fun _ => this⟩
  refine ⟨hP.move (fun b hb => c _ _ (by omega) (by omega)) (fun b hb q hq => ?_) (fun q hq => ?_) (fun q hq h1 => ?_) (fun q hq => (ht q hq).1), fun q hq => (ht q hq).2, ?_, c⟩
  · rw [iv_of (c _ _ (by omega) (by omega))]; exact hP.2.1 b hb q hq
  · by_cases h1 : q = 1
    · subst h1; omega
    · rw [iv_of (c _ _ (by omega) (by omega))]; exact hP.2.2.1 q hq
  · rw [iv_of (c 12 _ (by omega) (by omega)), iv_of (c 13 _ (by omega) (by omega))]; exact hP.2.2.2.1 q hq h1
  · rw [c65]; omega
theorem q_drive (M : zM) (a0 : Int32) (ha : 0 ≤ a0.toInt) (hs : 0 ≤ (M 6 0).toInt) : (∃ u : Int32, 0 ≤ u.toInt ∧ u.toInt ≤ a0.toInt ∧ u.toInt ≤ (M 6 0).toInt ∧ fX3_drive M a0 6 2 = 2 * u ∧ fX3_drive M a0 6 3 = M 6 3 + 2 * u ∧ fX3_drive M a0 7 3 = M 7 3 + u ∧ fX3_drive M a0 7 4 = M 7 4 + (a0 - u)) ∧ (fX3_drive M a0 6 1 = 0 ∨ fX3_drive M a0 6 1 = M 6 1) ∧ (∀ i k, ¬ (i = 6 ∧ 1 ≤ k ∧ k ≤ 3) → ¬ (i = 7 ∧ (k = 3 ∨ k = 4)) → fX3_drive M a0 i k = M i k) := by
  obtain ⟨x1, e1, x3, e3, x5, e5, M6, e6, x7, e7, x8, e8, x9, e9, M10, e10, x11, e11, x12, e12, M13, e13, x14, e14, x15, e15, x16, e16, M17, e17, x18, e18, x19, e19, M21, e21, eM⟩ := e_X3_drive M a0
  rw [eM]
  have b3 : 0 ≤ x3.toInt ∧ x3.toInt ≤ a0.toInt ∧ x3.toInt ≤ (M 6 0).toInt := by
    rw [e3]
    by_cases h : x1 = 0
    · rw [if_pos h, Int32.toInt_zero]; omega
    · rw [if_neg h]
      dsimp only
      rw [q_ite]
      simp only [Int32.lt_iff_toInt_lt]
      split <;> omega
  have d17 : ∀ i k, ¬ (i = 6 ∧ 2 ≤ k ∧ k ≤ 3) → ¬ (i = 7 ∧ (k = 3 ∨ k = 4)) → M17 i k = M i k := fun i k k1 k2 => by
    rw [e17, zu, if_neg (by omega), e13, zu, if_neg (by omega), e10, zu, if_neg (by omega), e6, zu, if_neg (by omega)]
  have c62 : M17 6 2 = 2 * x3 := by rw [e17, e13, e10, e6]; simp [zu, e5]
  have c63 : M17 6 3 = M 6 3 + 2 * x3 := by rw [e17, e13, e10]; simp [zu, e9, e7, e8, e6, e5]
  have c73 : M17 7 3 = M 7 3 + x3 := by rw [e17, e13]; simp [zu, e12, e11, e10, e6]
  have c74 : M17 7 4 = M 7 4 + (a0 - x3) := by rw [e17]; simp [zu, e16, e15, e14, e13, e10, e6]
  have d21 : M21 = M17 ∨ M21 = zu M17 6 1 0 := by
    rw [e21]
    by_cases h : a0 ≤ x19
    · exact Or.inl (if_pos h)
    · rw [if_neg h]
      dsimp only
      by_cases h2 : M17 6 0 ≤ 0
      · exact Or.inl (if_pos h2)
      · exact Or.inr (if_neg h2)
  rcases d21 with h | h
  · rw [h]
    exact ⟨⟨x3, b3.1, b3.2.1, b3.2.2, c62, c63, c73, c74⟩, Or.inr (d17 6 1 (by decide) (by decide)), fun i k k1 k2 => d17 i k (by omega) k2⟩
  · rw [h]
    refine ⟨⟨x3, b3.1, b3.2.1, b3.2.2, ?_, ?_, ?_, ?_⟩, Or.inl (zu_self _ _ _ _), fun i k k1 k2 => ?_⟩
    · rw [zu, if_neg (by decide), c62]
    · rw [zu, if_neg (by decide), c63]
    · rw [zu, if_neg (by decide), c73]
    · rw [zu, if_neg (by decide), c74]
    · rw [zu, if_neg (by omega), d17 i k (by omega) k2]
