/-! ===== a producer, an injector, a spring ===== -/
set_option maxHeartbeats 4000000 in
theorem q_prod (n : Nat) (hn : n ≤ 8) (M : zM) (v : Nat) (hv : v < 6) (hP : zPh n M) (hb : (M (60 + v) 0).toNatClampNeg < n) (hva : 0 ≤ (M (60 + v) 2).toInt ∧ (M (60 + v) 2).toInt ≤ 9) (hsc : 0 ≤ (M (60 + v) 3).toInt ∧ (M (60 + v) 3).toInt ≤ 9) (hcr : 0 ≤ (M (60 + v) 4).toInt ∧ (M (60 + v) 4).toInt ≤ 4) :
    zPh n (fX3_produce M v) ∧ 0 ≤ (rX3_produce M v).toInt ∧ zTot n 0 (fX3_produce M v) = zTot n 0 M - (rX3_produce M v).toInt ∧ (∀ q, q < 4 → q ≠ 0 → q ≠ 1 → zTot n q (fX3_produce M v) = zTot n q M) ∧
    (0 ≤ ((fX3_produce M v) (60 + v) 5).toInt ∧ ((fX3_produce M v) (60 + v) 5).toInt ≤ 10000) ∧ fX3_produce M v (60 + v) 6 = rX3_produce M v ∧ (rX3_produce M v).toInt ≤ ((fX3_produce M v) (60 + v) 5).toInt ∧ 0 ≤ ((fX3_produce M v) (60 + v) 7).toInt ∧ fX3_produce M v (60 + v) 8 = M (60 + v) 8 + fX3_produce M v (60 + v) 5 ∧ ((M (60 + v) 2).toInt = 0 → ((fX3_produce M v) (60 + v) 5).toInt = 0) ∧
    (0 ≤ ((fX3_produce M v) (60 + v) 3).toInt ∧ ((fX3_produce M v) (60 + v) 3).toInt ≤ 9) ∧ (0 ≤ ((fX3_produce M v) (60 + v) 4).toInt ∧ ((fX3_produce M v) (60 + v) 4).toInt ≤ 4) ∧
    (∀ i k, i ≠ 10 → i ≠ 5 → ¬ (30 ≤ i ∧ i < 38) → ¬ (i = 60 + v ∧ 3 ≤ k ∧ k < 9) → fX3_produce M v i k = M i k) := by
  obtain ⟨x1, e1, x2, e2, x3, e3, x4, e4, x5, e5, x6, e6, x7, e7, x8, e8, x9, e9, x10, e10, x11, e11, M12, e12, x13, e13, x14, e14, x15, e15, x16, e16, x17, e17, x18, e18, x19, e19, x20, e20, x21, e21, M22, e22, x23, e23, x24, e24, x25, e25, M27, e27, M29, e29, x30, e30, x31, e31, M32, e32, M33, e33, eM, eR⟩ := e_X3_produce M v
  rw [eM, eR]
  clear eM eR
  rw [← e1] at hb
  generalize hb1 : x1.toNatClampNeg = b at *
  clear hb1 e1
  have hk := hP.bk hb
  have hw := hk.warm_b
  have hwu := hk.warm_u
  have p3 := q_press_b M b hk.1 hk.2.1
  rw [← e3] at p3
  rw [← e2] at hw hwu
  have i4 : x4.toInt = x3.toInt - 40 := by rw [e4, fb_subI] <;> rw [show (40 : Int32).toInt = 40 from rfl] <;> omega
  have i6 : x6.toInt = 3 * (M (60 + v) 3).toInt := by rw [e6, e5, fb_mulI] <;> rw [show (3 : Int32).toInt = 3 from rfl] <;> omega
  have i7 : x7.toInt = x4.toInt - x6.toInt := by rw [e7, fb_subI (by omega) (by omega)]
  have b8 : 0 ≤ x8.toInt ∧ x8.toInt ≤ 10000 := by
    rw [e8, q_ite, Int32.toInt_zero]
    simp only [Int32.lt_iff_toInt_lt, Int32.toInt_zero]
    split <;> omega
  have b10 := q_mul_b b8.1 b8.2 hva.1 hva.2
  have i10 : x10.toInt = x8.toInt * (M (60 + v) 2).toInt := by rw [e10, e9, fb_mulI (by omega) (by omega)]
  have i11 : x11.toInt = x10.toInt / 20 := by rw [e11, q_div (by omega) (by decide), show (20 : Int32).toInt = 20 from rfl]
  have T := q_take M b x11 (by omega) hk (by omega)
  rw [← e12] at T
  obtain ⟨T1, T2, T3, T4, T5⟩ := T
  rw [← e2] at T4
  have l0 := T1 0 (by decide)
  have l1 := T1 1 (by decide)
  have i14 : x14.toInt = x2.toInt - 100 := by rw [e14, fb_subI] <;> rw [show (100 : Int32).toInt = 100 from rfl] <;> omega
  have b15 : 0 ≤ x15.toInt ∧ x15.toInt ≤ x2.toInt := by
    rw [e15, q_ite, Int32.toInt_zero]
    simp only [Int32.lt_iff_toInt_lt, Int32.toInt_zero]
    split <;> omega
  have hk1 := hk.2.2.1
  have hk0 := hk.2.1
  have b16 := q_mul_b l0.1 (Int.le_refl _) b15.1 b15.2
  rw [← T4] at b16
  have i16 : x16.toInt = (M12 10 0).toInt * x15.toInt := by rw [e16, e13, fb_mulI (by omega) (by omega)]
  have i17 : x17.toInt = x16.toInt / 400 := by rw [e17, q_div (by omega) (by decide), show (400 : Int32).toInt = 400 from rfl]
  have b19 : 0 ≤ x19.toInt ∧ x19.toInt ≤ (M12 10 0).toInt := by
    rw [e19, q_ite, e18]
    simp only [Int32.lt_iff_toInt_lt]
    split <;> omega
  have i21 : x21.toInt = (M12 10 0).toInt - x19.toInt := by rw [e21, e20, fb_subI (by omega) (by omega)]
  have N := q_note M12 v 10 x19 (by omega)
  rw [← e22] at N
  obtain ⟨N5, N6, N7, N8, N9⟩ := N
  have s22 : (0 ≤ (M22 (60 + v) 3).toInt ∧ (M22 (60 + v) 3).toInt ≤ 9) ∧ (0 ≤ (M22 (60 + v) 4).toInt ∧ (M22 (60 + v) 4).toInt ≤ 4) := by
    rw [iv_of (N9 (60 + v) 3 (by omega)), iv_of (N9 (60 + v) 4 (by omega)), iv_of (T5 (60 + v) 3 (by omega) (by omega)), iv_of (T5 (60 + v) 4 (by omega) (by omega))]
    exact ⟨hsc, hcr⟩
  have C : (0 ≤ (M27 (60 + v) 3).toInt ∧ (M27 (60 + v) 3).toInt ≤ 9) ∧ (0 ≤ (M27 (60 + v) 4).toInt ∧ (M27 (60 + v) 4).toInt ≤ 4) ∧ (∀ i k, ¬ (i = 60 + v ∧ (k = 3 ∨ k = 4)) → M27 i k = M22 i k) := by
    by_cases h : x24 ≤ x25
    · rw [if_pos h] at e27
      rw [e27]
      exact ⟨s22.1, s22.2, fun _ _ _ => rfl⟩
    · rw [if_neg h] at e27
      dsimp only at e27
      rw [e27]
      exact q_crust M22 v s22.1 s22.2
  obtain ⟨C3, C4, C9⟩ := C
  have b30 : 0 ≤ x30.toInt ∧ x30.toInt ≤ x2.toInt := by
    rw [e30, q_ite, show (100 : Int32).toInt = 100 from rfl]
    simp only [Int32.lt_iff_toInt_lt, show (100 : Int32).toInt = 100 from rfl]
    split <;> omega
  have b31 := q_mul_b (show 0 ≤ x21.toInt by omega) (show x21.toInt ≤ (M12 10 0).toInt by omega) b30.1 b30.2
  rw [← T4] at b31
  have i31 : x31.toInt = x21.toInt * x30.toInt := by rw [e31, fb_mulI (by omega) (by omega)]
  rw [← i31] at b31
  have A := q_add M32 (i := 5) (j := 10) (by decide)
  rw [← e33] at A
  have d32 : ∀ i k, ¬ (i = 10 ∧ (k = 0 ∨ k = 1)) → M32 i k = M27 i k := fun i k hk => by rw [e32, zu, if_neg (by omega), e29, zu, if_neg (by omega)]
  have c32 : ∀ i k, ¬ (i = 10 ∧ (k = 0 ∨ k = 1)) → ¬ (i = 60 + v ∧ 3 ≤ k ∧ k < 9) → M32 i k = M12 i k := fun i k k1 k2 => by rw [d32 i k k1, C9 i k (by omega), N9 i k (by omega)]
  have L0 : M32 10 0 = x21 := by rw [e32, zu, if_neg (by decide), e29, zu_self]
  have L1 : M32 10 1 = x31 := by rw [e32, zu_self]
  have c : ∀ i k, i ≠ 10 → i ≠ 5 → i ≠ 30 + b → ¬ (i = 60 + v ∧ 3 ≤ k ∧ k < 9) → M33 i k = M i k := fun i k k1 k2 k3 k4 => by rw [A.2 i k k2, c32 i k (by omega) k4, T5 i k k1 k3]
  have cb : ∀ q, q < 4 → (M33 (30 + b) q).toInt = (M (30 + b) q).toInt - (M12 10 q).toInt := fun q hq => by rw [iv_of (A.2 (30 + b) q (by omega)), iv_of (c32 (30 + b) q (by omega) (by omega)), T2 q hq]
  have g5 : ∀ q, q < 4 → M32 5 q = M 5 q := fun q hq => by rw [c32 5 q (by omega) (by omega), T5 5 q (by decide) (by omega)]
  have hS := fun q (hq : q < 4) => hP.S hq
  have hle := fun q (hq : q < 4) => zS_le (f := fun b => (M (30 + b) q).toInt) hb (fun k hk => hP.2.1 k hk q hq)
  have hB := zB_le
  have p0 : (M33 5 0).toInt = (M 5 0).toInt + x21.toInt := by
    have h1 := hS 0 (by decide); have h2 := hle 0 (by decide); have h3 := hB 0
    rw [A.1 0 (by decide), g5 0 (by decide), L0, fb_addI (by omega) (by omega)]
  have p1 : (M33 5 1).toInt = (M 5 1).toInt + x31.toInt := by
    have h1 := hS 1 (by decide); have h2 := hle 1 (by decide); have h3 := hB 1
    rw [A.1 1 (by decide), g5 1 (by decide), L1, fb_addI (by omega) (by omega)]
  have p23 : ∀ q, q < 4 → q ≠ 0 → q ≠ 1 → (M33 5 q).toInt = (M 5 q).toInt + (M12 10 q).toInt := fun q hq h0 h1' => by
    have h1 := hS q hq; have h2 := hle q hq; have h3 := hB q; have h4 := T1 q hq
    rw [A.1 q hq, g5 q hq, c32 10 q (by omega) (by omega), fb_addI (by omega) (by omega)]
  have t0 := fun q => zTot_one (n := n) (q := q) (M := M) (M' := M33) hb (fun k hk h1 => c _ _ (by omega) (by omega) (by omega) (by omega))
  have r12 := fun q => iv_of (c 12 q (by omega) (by omega) (by omega) (by omega))
  have r13 := fun q => iv_of (c 13 q (by omega) (by omega) (by omega) (by omega))
  have tt0 : zTot n 0 M33 = zTot n 0 M - x19.toInt := by
    have h1 := t0 0
    rw [if_neg (by decide), r12 0, r13 0, cb 0 (by decide), p0] at h1
    omega
  have tt1 : zTot n 1 M33 ≤ zTot n 1 M := by
    have h1 := t0 1
    rw [if_pos rfl, cb 1 (by decide), p1] at h1
    omega
  have tt : ∀ q, q < 4 → q ≠ 0 → q ≠ 1 → zTot n q M33 = zTot n q M := fun q hq h0 h1' => by
    have h1 := t0 q
    rw [if_neg h1', r12 q, r13 q, cb q hq, p23 q hq h0 h1'] at h1
    omega
  have w5 : M33 (60 + v) 5 = M12 10 0 := by rw [A.2 _ _ (by omega), d32 _ _ (by omega), C9 _ _ (by omega), N5]
  have w6 : M33 (60 + v) 6 = x19 := by rw [A.2 _ _ (by omega), d32 _ _ (by omega), C9 _ _ (by omega), N6]
  have w7 : M33 (60 + v) 7 = M12 10 3 := by rw [A.2 _ _ (by omega), d32 _ _ (by omega), C9 _ _ (by omega), N7]
  have w8 : M33 (60 + v) 8 = M (60 + v) 8 + M12 10 0 := by rw [A.2 _ _ (by omega), d32 _ _ (by omega), C9 _ _ (by omega), N8, T5 _ _ (by omega) (by omega)]
  have w3 : M33 (60 + v) 3 = M27 (60 + v) 3 := by rw [A.2 _ _ (by omega), d32 _ _ (by omega)]
  have w4 : M33 (60 + v) 4 = M27 (60 + v) 4 := by rw [A.2 _ _ (by omega), d32 _ _ (by omega)]
  refine ⟨hP.move (fun b' hb' => c _ _ (by omega) (by omega) (by omega) (by omega)) (fun b' hb' q hq => ?_) (fun q hq => ?_) (fun q hq h1 => ?_) (fun q hq => ?_), b19.1, tt0, tt, ?_, w6, ?_, ?_, ?_, ?_, ?_, ?_, fun i k k1 k2 k3 k4 => c i k k1 k2 (by omega) k4⟩
  · by_cases h : b' = b
    · subst h
      have h1 := cb q hq; have h2 := T1 q hq
      omega
    · rw [iv_of (c _ _ (by omega) (by omega) (by omega) (by omega))]
      exact hP.2.1 b' hb' q hq
  · have h1 := (hS q hq).2.1
    by_cases h0 : q = 0
    · subst h0; omega
    · by_cases h2 : q = 1
      · subst h2; omega
      · have h3 := p23 q hq h0 h2; have h4 := T1 q hq
        omega
  · rw [r12 q, r13 q]; exact hP.2.2.2.1 q hq h1
  · by_cases h0 : q = 0
    · subst h0; omega
    · by_cases h2 : q = 1
      · subst h2; exact tt1
      · exact Int.le_of_eq (tt q hq h0 h2)
  · rw [w5]; omega
  · rw [w5]; exact b19.2
  · rw [w7]; exact (T1 3 (by decide)).1
  · rw [w8, w5]
  · intro h
    rw [h, Int.mul_zero] at i10
    rw [w5]
    omega
  · rw [w3]; exact C3
  · rw [w4]; exact C4
/-- what an injector may put in -/
def zMost (lt : Int32) (v : Int) : Int := if lt = 0 then 4 * v else if lt = 1 then 2 * v else 0
set_option maxHeartbeats 4000000 in
theorem q_inj (n : Nat) (hn : n ≤ 8) (M : zM) (v : Nat) (lt : Int32) (hv : v < 6) (hP : zPh n M) (hb : (M (60 + v) 0).toNatClampNeg < n) (hva : 0 ≤ (M (60 + v) 2).toInt ∧ (M (60 + v) 2).toInt ≤ 9) :
    zPh n (fX3_inject M v lt) ∧ (0 ≤ (rX3_inject M v lt).toInt ∧ (rX3_inject M v lt).toInt ≤ 10000) ∧ (∀ q, q < 4 → zTot n q (fX3_inject M v lt) = zTot n q M) ∧ ((fX3_inject M v lt) 5 0).toInt ≤ (M 5 0).toInt ∧
    (0 ≤ ((fX3_inject M v lt) (60 + v) 5).toInt ∧ ((fX3_inject M v lt) (60 + v) 5).toInt ≤ 10000) ∧ fX3_inject M v lt (60 + v) 6 = 0 ∧ ((fX3_inject M v lt) (60 + v) 5).toInt ≤ zMost lt ((M (60 + v) 2).toInt) ∧ 0 ≤ ((fX3_inject M v lt) (60 + v) 7).toInt ∧ fX3_inject M v lt (60 + v) 8 = M (60 + v) 8 + fX3_inject M v lt (60 + v) 5 ∧
    (∀ i k, i ≠ 10 → i ≠ 5 → ¬ (30 ≤ i ∧ i < 38) → ¬ (i = 60 + v ∧ 5 ≤ k ∧ k < 9) → fX3_inject M v lt i k = M i k) := by
  obtain ⟨x1, e1, x2, e2, x4, e4, x6, e6, x7, e7, M8, e8, x9, e9, x10, e10, M11, e11, M12, e12, x13, e13, x14, e14, x16, e16, eM, eR⟩ := e_X3_inject M v lt
  rw [eM, eR]
  clear eM eR
  have i2 : x2.toInt = 4 * (M (60 + v) 2).toInt := by rw [e2, e1, fb_mulI] <;> rw [show (4 : Int32).toInt = 4 from rfl] <;> omega
  have i4 : x4.toInt = zMost lt ((M (60 + v) 2).toInt) := by
    rw [e4]
    unfold zMost
    by_cases h : lt = 0
    · rw [if_pos h, if_pos h, i2]
    · rw [if_neg h, if_neg h]
      dsimp only
      by_cases h2 : lt = 1
      · rw [if_neg (not_not_intro h2), if_pos h2, q_div (by omega) (by decide), i2, show (2 : Int32).toInt = 2 from rfl]
        omega
      · rw [if_pos h2, if_neg h2, Int32.toInt_zero]
  have b4 : 0 ≤ x4.toInt := by
    rw [i4]
    unfold zMost
    split
    · omega
    · split <;> omega
  have hp := hP.pond
  have hp0 := hp 0 (by decide)
  have b7 : 0 ≤ x7.toInt ∧ x7.toInt ≤ x4.toInt ∧ x7.toInt ≤ (M 5 0).toInt := by
    rw [e7, q_ite, e6]
    simp only [Int32.lt_iff_toInt_lt]
    split <;> omega
  have D := q_drain M x7 hp b7.1 b7.2.2
  rw [← e8] at D
  obtain ⟨D1, D2, D3, D4⟩ := D
  have i9 : x9 = M (60 + v) 0 := by rw [e9, D4 _ _ (by omega) (by omega)]
  rw [← i9] at hb
  generalize hb1 : x9.toNatClampNeg = b at *
  clear hb1 e9 i9
  have A := q_add M8 (i := 30 + b) (j := 10) (by omega)
  rw [← e11] at A
  have N := q_note M11 v 10 0 (by omega)
  rw [← e12] at N
  obtain ⟨N5, N6, N7, N8, N9⟩ := N
  have c10 : ∀ q, M11 10 q = M8 10 q := fun q => A.2 10 q (by omega)
  have hS := fun q (hq : q < 4) => hP.S hq
  have hle := fun q (hq : q < 4) => zS_le (f := fun b => (M (30 + b) q).toInt) hb (fun k hk => hP.2.1 k hk q hq)
  have hB := zB_le
  have c5 : ∀ q, q < 4 → (M12 5 q).toInt = (M 5 q).toInt - (M8 10 q).toInt := fun q hq => by rw [iv_of (N9 5 q (by omega)), iv_of (A.2 5 q (by omega)), D2 q hq]
  have cb : ∀ q, q < 4 → (M12 (30 + b) q).toInt = (M (30 + b) q).toInt + (M8 10 q).toInt := fun q hq => by
    have h1 := hS q hq; have h2 := hle q hq; have h3 := hB q; have h4 := D1 q hq; have h5 := hP.2.1 b hb q hq
    rw [iv_of (N9 (30 + b) q (by omega)), A.1 q hq, D4 _ _ (by omega) (by omega), fb_addI (by omega) (by omega)]
  have c : ∀ i k, i ≠ 10 → i ≠ 5 → i ≠ 30 + b → ¬ (i = 60 + v ∧ 5 ≤ k ∧ k < 9) → M12 i k = M i k := fun i k k1 k2 k3 k4 => by rw [N9 i k k4, A.2 i k k3, D4 i k k1 k2]
  have r12 := fun q => iv_of (c 12 q (by omega) (by omega) (by omega) (by omega))
  have r13 := fun q => iv_of (c 13 q (by omega) (by omega) (by omega) (by omega))
  have tt : ∀ q, q < 4 → zTot n q M12 = zTot n q M := fun q hq => by
    have h1 := zTot_one (n := n) (q := q) (M := M) (M' := M12) hb (fun k hk h1 => c _ _ (by omega) (by omega) (by omega) (by omega))
    rw [r12 q, r13 q, cb q hq, c5 q hq] at h1
    split at h1 <;> omega
  have hP' : zPh n M12 := by
    refine hP.move (fun b' hb' => c _ _ (by omega) (by omega) (by omega) (by omega)) (fun b' hb' q hq => ?_) (fun q hq => ?_) (fun q hq h1 => ?_) (fun q hq => Int.le_of_eq (tt q hq))
    · by_cases h : b' = b
      · subst h
        have h1 := cb q hq; have h2 := D1 q hq; have h3 := hP.2.1 b' hb' q hq
        omega
      · rw [iv_of (c _ _ (by omega) (by omega) (by omega) (by omega))]
        exact hP.2.1 b' hb' q hq
    · have h1 := c5 q hq; have h2 := D1 q hq
      omega
    · rw [r12 q, r13 q]; exact hP.2.2.2.1 q hq h1
  have hk8 : zBk M b := hP.bk hb
  have q10 : rX0_pressure M8 b = rX0_pressure M b := by
    unfold rX0_pressure
    rw [D4 (20 + b) 1 (by omega) (by omega), D4 (30 + b) 0 (by omega) (by omega)]
  have p10 := q_press_b M b hk8.1 hk8.2.1
  have p13 := q_press_b M12 b (hP'.bk hb).1 (hP'.bk hb).2.1
  rw [← q10, ← e10] at p10
  rw [← e13] at p13
  have i14 : x14.toInt = x13.toInt - x10.toInt := by rw [e14, fb_subI (by omega) (by omega)]
  have w5 : M12 (60 + v) 5 = x7 := by rw [N5, c10, D3]
  refine ⟨hP', ?_, tt, ?_, ?_, N6, ?_, ?_, ?_, fun i k k1 k2 k3 k4 => c i k k1 k2 (by omega) k4⟩
  · rw [e16, q_ite, Int32.toInt_zero]
    simp only [Int32.lt_iff_toInt_lt, show (5 : Int32).toInt = 5 from rfl]
    split <;> omega
  · have h1 := c5 0 (by decide); have h2 := D1 0 (by decide)
    omega
  · rw [w5]
    have h1 := hB 0; have h2 := hS 0 (by decide); have h3 : zB 0 = 10000 := rfl
    omega
  · rw [w5, ← i4]; exact b7.2.1
  · rw [N7, c10]; exact (D1 3 (by decide)).1
  · rw [N8, w5, A.2 _ _ (by omega), D4 _ _ (by omega) (by omega), c10, D3]
theorem q_snote (M : zM) (s0 : Nat) (a0 : Int32) (h0 : 0 ≤ a0.toInt ∧ a0.toInt ≤ 10000) (hp : 0 ≤ (M (70 + s0) 2).toInt ∧ (M (70 + s0) 2).toInt ≤ 50) : fX5_note M s0 a0 (70 + s0) 3 = a0 ∧ (0 ≤ ((fX5_note M s0 a0) (70 + s0) 4).toInt ∧ ((fX5_note M s0 a0) (70 + s0) 4).toInt ≤ 50) ∧ fX5_note M s0 a0 (70 + s0) 5 = M (70 + s0) 5 + a0 ∧ (∀ i k, ¬ (i = 70 + s0 ∧ 3 ≤ k ∧ k < 7) → fX5_note M s0 a0 i k = M i k) := by
  obtain ⟨M1, e1, x2, e2, x3, e3, x4, e4, M5, e5, x6, e6, x7, e7, x8, e8, M9, e9, x10, e10, x11, e11, x12, e12, M13, e13, eM⟩ := e_X5_note M s0 a0
  rw [eM]
  have d2 : x2 = M (70 + s0) 2 := by rw [e2, e1]; simp [zu]
  have i3 : x3.toInt = (M (70 + s0) 2).toInt - a0.toInt := by rw [e3, d2, fb_subI (by omega) (by omega)]
  have b4 : 0 ≤ x4.toInt ∧ x4.toInt ≤ 50 := by
    rw [e4, q_ite, Int32.toInt_zero]
    simp only [Int32.lt_iff_toInt_lt, Int32.toInt_zero]
    split <;> omega
  have d6 : x6 = M (70 + s0) 5 := by rw [e6, e5, e1]; simp [zu]
  have d7 : x7 = a0 := by rw [e7, e5, e1]; simp [zu]
  refine ⟨?_, ?_, ?_, fun i k h => ?_⟩
  · rw [e13, e9, e5, e1]; simp [zu]
  · have : M13 (70 + s0) 4 = x4 := by rw [e13, e9, e5]; simp [zu]
    rw [this]; exact b4
  · rw [e13, e9]; simp [zu, e8, d6, d7]
  · rw [e13, zu, if_neg (by omega), e9, zu, if_neg (by omega), e5, zu, if_neg (by omega), e1, zu, if_neg (by omega)]
set_option maxHeartbeats 4000000 in
theorem q_spr (n : Nat) (hn : n ≤ 8) (M : zM) (s0 : Nat) (hs : s0 < 3) (hP : zPh n M) (hb : (M (70 + s0) 0).toNatClampNeg < n) (hl : 0 ≤ (M (70 + s0) 1).toInt ∧ (M (70 + s0) 1).toInt ≤ 300) (hp : 0 ≤ (M (70 + s0) 2).toInt ∧ (M (70 + s0) 2).toInt ≤ 50) :
    zPh n (fX3_letFlow M s0) ∧ (∀ q, q < 4 → q ≠ 1 → zTot n q (fX3_letFlow M s0) = zTot n q M) ∧ (0 ≤ ((fX3_letFlow M s0) (70 + s0) 3).toInt ∧ ((fX3_letFlow M s0) (70 + s0) 3).toInt ≤ 10000) ∧ (0 ≤ ((fX3_letFlow M s0) (70 + s0) 4).toInt ∧ ((fX3_letFlow M s0) (70 + s0) 4).toInt ≤ 50) ∧ fX3_letFlow M s0 (70 + s0) 5 = M (70 + s0) 5 + fX3_letFlow M s0 (70 + s0) 3 ∧ ((fX3_letFlow M s0) 13 0).toInt = (M 13 0).toInt + ((fX3_letFlow M s0) (70 + s0) 3).toInt ∧
    (∀ i k, i ≠ 10 → i ≠ 13 → ¬ (30 ≤ i ∧ i < 38) → ¬ (i = 70 + s0 ∧ 3 ≤ k ∧ k < 7) → fX3_letFlow M s0 i k = M i k) := by
  obtain ⟨x1, e1, x2, e2, x3, e3, x4, e4, x5, e5, x6, e6, M7, e7, M8, e8, x9, e9, M10, e10, eM⟩ := e_X3_letFlow M s0
  rw [eM]
  clear eM
  rw [← e1] at hb
  generalize hb1 : x1.toNatClampNeg = b at *
  clear hb1 e1
  have hk := hP.bk hb
  have p2 := q_press_b M b hk.1 hk.2.1
  rw [← e2] at p2
  have i4 : x4.toInt = x2.toInt - (M (70 + s0) 1).toInt := by rw [e4, e3, fb_subI (by omega) (by omega)]
  have b5 : 0 ≤ x5.toInt := by
    rw [e5, q_ite, Int32.toInt_zero]
    simp only [Int32.lt_iff_toInt_lt, Int32.toInt_zero]
    split <;> omega
  have i6 : x6.toInt = x5.toInt / 5 := by rw [e6, q_div b5 (by decide), show (5 : Int32).toInt = 5 from rfl]
  have T := q_take M b x6 (by omega) hk (by omega)
  rw [← e7] at T
  obtain ⟨T1, T2, T3, T4, T5⟩ := T
  have A := q_add M7 (i := 13) (j := 10) (by decide)
  rw [← e8] at A
  have l0 := T1 0 (by decide)
  have d9 : x9 = M7 10 0 := by rw [e9, A.2 10 0 (by decide)]
  have hk0 := hk.2.1
  have m2 : M8 (70 + s0) 2 = M (70 + s0) 2 := by rw [A.2 _ _ (by omega), T5 _ _ (by omega) (by omega)]
  have N := q_snote M8 s0 x9 (by rw [d9]; omega) (by rw [m2]; exact hp)
  rw [← e10] at N
  obtain ⟨N3, N4, N5, N9⟩ := N
  have hS := fun q (hq : q < 4) => hP.S hq
  have hle := fun q (hq : q < 4) => zS_le (f := fun b => (M (30 + b) q).toInt) hb (fun k hk => hP.2.1 k hk q hq)
  have hB := zB_le
  have c : ∀ i k, i ≠ 10 → i ≠ 13 → i ≠ 30 + b → ¬ (i = 70 + s0 ∧ 3 ≤ k ∧ k < 7) → M10 i k = M i k := fun i k k1 k2 k3 k4 => by rw [N9 i k k4, A.2 i k k2, T5 i k k1 k3]
  have cb : ∀ q, q < 4 → (M10 (30 + b) q).toInt = (M (30 + b) q).toInt - (M7 10 q).toInt := fun q hq => by rw [iv_of (N9 (30 + b) q (by omega)), iv_of (A.2 (30 + b) q (by omega)), T2 q hq]
  have c13 : ∀ q, q < 4 → q ≠ 1 → (M10 13 q).toInt = (M 13 q).toInt + (M7 10 q).toInt := fun q hq h1 => by
    have s1 := (hS q hq).2.2.2 h1; have s2 := hle q hq; have s3 := T1 q hq; have s4 := hB q; have s5 := (hS q hq).2.1
    rw [iv_of (N9 13 q (by omega)), A.1 q hq, T5 _ _ (by omega) (by omega), fb_addI (by omega) (by omega)]
  have r12 := fun q => iv_of (c 12 q (by omega) (by omega) (by omega) (by omega))
  have r5 := fun q => iv_of (c 5 q (by omega) (by omega) (by omega) (by omega))
  have tt : ∀ q, q < 4 → zTot n q M10 ≤ zTot n q M ∧ (q ≠ 1 → zTot n q M10 = zTot n q M) := fun q hq => by
    have h1 := zTot_one (n := n) (q := q) (M := M) (M' := M10) hb (fun k hk h1 => c _ _ (by omega) (by omega) (by omega) (by omega))
    have h2 := T1 q hq
    rw [r12 q, r5 q, cb q hq] at h1
    by_cases h3 : q = 1
    · rw [if_pos h3] at h1
      exact ⟨by omega, fun h => absurd h3 h⟩
    · rw [if_neg h3, c13 q hq h3] at h1
      exact ⟨by omega, fun _ => by omega⟩
  refine ⟨hP.move (fun b' hb' => c _ _ (by omega) (by omega) (by omega) (by omega)) (fun b' hb' q hq => ?_) (fun q hq => ?_) (fun q hq h1 => ?_) (fun q hq => (tt q hq).1), fun q hq => (tt q hq).2, ?_, N4, ?_, ?_, fun i k k1 k2 k3 k4 => c i k k1 k2 (by omega) k4⟩
  · by_cases h : b' = b
    · subst h
      have h1 := cb q hq; have h2 := T1 q hq
      omega
    · rw [iv_of (c _ _ (by omega) (by omega) (by omega) (by omega))]
      exact hP.2.1 b' hb' q hq
  · rw [r5 q]; exact hP.2.2.1 q hq
  · have h2 := c13 q hq h1; have h3 := T1 q hq; have h4 := hP.2.2.2.1 q hq h1
    rw [r12 q]
    omega
  · rw [N3, d9]; omega
  · rw [N5, N3, A.2 _ _ (by omega), T5 _ _ (by omega) (by omega)]
  · rw [c13 0 (by decide) (by decide), N3, d9]
