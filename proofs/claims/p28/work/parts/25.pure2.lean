theorem zS_two {f g : Nat → Int} {n b d : Nat} (hb : b < n) (hd : d < n) (hne : b ≠ d) (h : ∀ k, k < n → k ≠ b → k ≠ d → g k = f k) : zS g n = zS f n + (g b - f b) + (g d - f d) := by
  have h1 := zS_upd (f := f) (g := fun k => if k = b then g b else f k) hb (fun k _ h2 => if_neg h2)
  have h2 := zS_upd (f := fun k => if k = b then g b else f k) (g := g) hd (fun k h3 h4 => by
    show g k = if k = b then g b else f k
    by_cases h5 : k = b
    · rw [if_pos h5, h5]
    · rw [if_neg h5]; exact h k h3 h5 h4)
  simp only [if_true, if_neg (Ne.symm hne)] at h1 h2
  omega
/-! ===== what is in blocks, the pond and the books: bounds that every part of a step keeps ===== -/
def zB (q : Nat) : Int := if q = 0 then 10000 else if q = 1 then 5000000 else if q = 2 then 50000 else 5000
theorem zB_le (q : Nat) : zB q ≤ 5000000 := by
  unfold zB
  repeat (split; decide)
  decide
def zTot (n q : Nat) (M : zM) : Int := zS (fun b => (M (30 + b) q).toInt) n + (M 5 q).toInt + (if q = 1 then 0 else (M 12 q).toInt + (M 13 q).toInt)
def zPh (n : Nat) (M : zM) : Prop := (∀ b, b < n → 10 ≤ (M (20 + b) 1).toInt ∧ (M (20 + b) 1).toInt ≤ 99) ∧ (∀ b, b < n → ∀ q, q < 4 → 0 ≤ (M (30 + b) q).toInt) ∧ (∀ q, q < 4 → 0 ≤ (M 5 q).toInt) ∧ (∀ q, q < 4 → q ≠ 1 → 0 ≤ (M 12 q).toInt ∧ 0 ≤ (M 13 q).toInt) ∧ (∀ q, q < 4 → zTot n q M ≤ zB q)
theorem zPh.S {n : Nat} {M : zM} (h : zPh n M) {q : Nat} (hq : q < 4) : 0 ≤ zS (fun b => (M (30 + b) q).toInt) n ∧ 0 ≤ (M 5 q).toInt ∧ zS (fun b => (M (30 + b) q).toInt) n + (M 5 q).toInt ≤ zB q ∧ (q ≠ 1 → 0 ≤ (M 12 q).toInt ∧ 0 ≤ (M 13 q).toInt ∧ zS (fun b => (M (30 + b) q).toInt) n + (M 5 q).toInt + (M 12 q).toInt + (M 13 q).toInt ≤ zB q) := by
  obtain ⟨-, h2, h3, h4, h5⟩ := h
  have h6 := zS_nn (f := fun b => (M (30 + b) q).toInt) (n := n) (fun k hk => h2 k hk q hq)
  have h7 := h5 q hq
  have h8 := h3 q hq
  unfold zTot at h7
  by_cases h9 : q = 1
  · rw [if_pos h9] at h7
    exact ⟨h6, h8, by omega, fun h => absurd h9 h⟩
  · rw [if_neg h9] at h7
    have h10 := h4 q hq h9
    exact ⟨h6, h8, by omega, fun _ => ⟨h10.1, h10.2, by omega⟩⟩
theorem zPh.bk {n : Nat} {M : zM} (h : zPh n M) {b : Nat} (hb : b < n) : zBk M b := by
  have hs : ∀ q, q < 4 → 0 ≤ (M (30 + b) q).toInt ∧ (M (30 + b) q).toInt ≤ zB q := fun q hq => by
    have h1 := h.S hq
    have h2 := zS_le (f := fun b => (M (30 + b) q).toInt) hb (fun k hk => h.2.1 k hk q hq)
    exact ⟨h.2.1 b hb q hq, by omega⟩
  exact ⟨h.1 b hb, hs 0 (by decide), hs 1 (by decide), hs 2 (by decide), hs 3 (by decide)⟩
theorem zPh.move {n : Nat} {M M' : zM} (h : zPh n M) (hv : ∀ b, b < n → M' (20 + b) 1 = M (20 + b) 1) (hb : ∀ b, b < n → ∀ q, q < 4 → 0 ≤ (M' (30 + b) q).toInt) (hp : ∀ q, q < 4 → 0 ≤ (M' 5 q).toInt) (hs : ∀ q, q < 4 → q ≠ 1 → 0 ≤ (M' 12 q).toInt ∧ 0 ≤ (M' 13 q).toInt) (ht : ∀ q, q < 4 → zTot n q M' ≤ zTot n q M) : zPh n M' :=
  ⟨fun b h1 => by rw [hv b h1]; exact h.1 b h1, hb, hp, hs, fun q hq => Int.le_trans (ht q hq) (h.2.2.2.2 q hq)⟩
theorem iv_of {M M' : zM} {i k : Nat} (h : M' i k = M i k) : (M' i k).toInt = (M i k).toInt := congrArg Int32.toInt h
theorem zTot_two {n q b d : Nat} {M M' : zM} (hb : b < n) (hd : d < n) (hne : b ≠ d) (hk : ∀ k, k < n → k ≠ b → k ≠ d → M' (30 + k) q = M (30 + k) q) (h5 : M' 5 q = M 5 q) (h12 : M' 12 q = M 12 q) (h13 : M' 13 q = M 13 q) : zTot n q M' = zTot n q M + ((M' (30 + b) q).toInt - (M (30 + b) q).toInt) + ((M' (30 + d) q).toInt - (M (30 + d) q).toInt) := by
  have h1 := zS_two (f := fun b => (M (30 + b) q).toInt) (g := fun b => (M' (30 + b) q).toInt) hb hd hne (fun k h1 h2 h3 => iv_of (hk k h1 h2 h3))
  have e5 := iv_of h5
  have e12 := iv_of h12
  have e13 := iv_of h13
  unfold zTot
  rw [h1, e5, e12, e13]
  omega
theorem zTot_one {n q b : Nat} {M M' : zM} (hb : b < n) (hk : ∀ k, k < n → k ≠ b → M' (30 + k) q = M (30 + k) q) : zTot n q M' = zTot n q M + ((M' (30 + b) q).toInt - (M (30 + b) q).toInt) + ((M' 5 q).toInt - (M 5 q).toInt) + (if q = 1 then 0 else ((M' 12 q).toInt - (M 12 q).toInt) + ((M' 13 q).toInt - (M 13 q).toInt)) := by
  have h1 := zS_upd (f := fun b => (M (30 + b) q).toInt) (g := fun b => (M' (30 + b) q).toInt) hb (fun k h1 h2 => iv_of (hk k h1 h2))
  unfold zTot
  rw [h1]
  by_cases h : q = 1
  · rw [if_pos h, if_pos h, if_pos h]; omega
  · rw [if_neg h, if_neg h, if_neg h]; omega
theorem zTot_none {n q : Nat} {M M' : zM} (hk : ∀ k, k < n → M' (30 + k) q = M (30 + k) q) : zTot n q M' = zTot n q M + ((M' 5 q).toInt - (M 5 q).toInt) + (if q = 1 then 0 else ((M' 12 q).toInt - (M 12 q).toInt) + ((M' 13 q).toInt - (M 13 q).toInt)) := by
  have h1 := zS_congr (f := fun b => (M' (30 + b) q).toInt) (g := fun b => (M (30 + b) q).toInt) (n := n) (fun k h1 => iv_of (hk k h1))
  unfold zTot
  rw [h1]
  by_cases h : q = 1
  · rw [if_pos h, if_pos h, if_pos h]; omega
  · rw [if_neg h, if_neg h, if_neg h]; omega
/-- nothing that counts is changed -/
theorem zTot_same {n q : Nat} {M M' : zM} (h1 : ∀ b, b < n → M' (30 + b) q = M (30 + b) q) (h2 : M' 5 q = M 5 q) (h3 : M' 12 q = M 12 q) (h4 : M' 13 q = M 13 q) : zTot n q M' = zTot n q M := by
  rw [zTot_none h1, iv_of h2, iv_of h3, iv_of h4]
  by_cases h : q = 1
  · rw [if_pos h]; omega
  · rw [if_neg h]; omega
theorem zPh.same {n : Nat} {M M' : zM} (h : zPh n M) (hn : n ≤ 8) (hf : ∀ i q, (i = 5 ∨ i = 12 ∨ i = 13 ∨ (20 ≤ i ∧ i < 28) ∨ (30 ≤ i ∧ i < 38)) → M' i q = M i q) : zPh n M' ∧ ∀ q, q < 4 → zTot n q M' = zTot n q M := by
  have ht : ∀ q, q < 4 → zTot n q M' = zTot n q M := fun q _ => zTot_same (fun b hb => hf _ _ (by omega)) (hf _ _ (by omega)) (hf _ _ (by omega)) (hf _ _ (by omega))
  refine ⟨h.move (fun b hb => hf _ _ (by omega)) (fun b hb q hq => ?_) (fun q hq => ?_) (fun q hq h1 => ?_) (fun q hq => Int.le_of_eq (ht q hq)), ht⟩
  · rw [hf _ _ (by omega)]; exact h.2.1 b hb q hq
  · rw [hf _ _ (by omega)]; exact h.2.2.1 q hq
  · rw [hf 12 q (by omega), hf 13 q (by omega)]; exact h.2.2.2.1 q hq h1
/-! ===== a face ===== -/
set_option maxHeartbeats 4000000 in
theorem q_flow (n : Nat) (hn : n ≤ 8) (M : zM) (f : Nat) (hf : f < 12) (hP : zPh n M) (h1 : (M (40 + f) 0).toNatClampNeg < n) (h2 : (M (40 + f) 1).toNatClampNeg < n) (hne : (M (40 + f) 0).toNatClampNeg ≠ (M (40 + f) 1).toNatClampNeg) (ho : 1 ≤ (M (40 + f) 2).toInt ∧ (M (40 + f) 2).toInt ≤ 9) :
    zPh n (fX3_flowThrough M f) ∧ (∀ q, q < 4 → zTot n q (fX3_flowThrough M f) = zTot n q M) ∧ (1 ≤ ((fX3_flowThrough M f) (40 + f) 2).toInt ∧ ((fX3_flowThrough M f) (40 + f) 2).toInt ≤ 9) ∧
    (∀ i k, i ≠ 10 → ¬ (30 ≤ i ∧ i < 38) → ¬ (i = 40 + f ∧ (k = 2 ∨ k = 3)) → fX3_flowThrough M f i k = M i k) := by
  obtain ⟨x1, e1, x2, e2, x3, e3, x4, e4, x5, e5, u7, e7, u10, e10, x12, e12, x13, e13, x14, e14, x15, e15, M16, e16, M17, e17, x19, e19, M21, e21, x22, e22, x23, e23, x24, e24, x25, e25, x26, e26, x27, e27, x28, e28, M29, e29, x30, e30, x31, e31, M32, e32, M34, e34, eM⟩ := e_X3_flowThrough M f
  rw [eM]
  rw [← e1] at h1 hne
  rw [← e2] at h2 hne
  generalize hb1 : x1.toNatClampNeg = b1 at *
  generalize hb2 : x2.toNatClampNeg = b2 at *
  clear hb1 hb2 e1 e2 eM
  have p1 := q_press_b M b1 (hP.bk h1).1 (hP.bk h1).2.1
  have p2 := q_press_b M b2 (hP.bk h2).1 (hP.bk h2).2.1
  rw [← e3] at p1
  rw [← e4] at p2
  have i5 : x5.toInt = x3.toInt - x4.toInt := by rw [e5, fb_subI (by omega) (by omega)]
  have hu : u7 < n ∧ u10 < n ∧ u7 ≠ u10 := by
    rw [e7, e10]
    by_cases h : x5 < 0
    · rw [if_pos h, if_pos h]; exact ⟨h2, h1, Ne.symm hne⟩
    · rw [if_neg h, if_neg h]; exact ⟨h1, h2, hne⟩
  clear e7 e10
  obtain ⟨hu7, hu10, hun⟩ := hu
  have i12 : 0 ≤ x12.toInt ∧ x12.toInt ≤ 10000 := by
    rw [e12, q_ite, fb_subI (by rw [Int32.toInt_zero]; omega) (by rw [Int32.toInt_zero]; omega), Int32.toInt_zero]
    simp only [Int32.le_iff_toInt_le, Int32.toInt_zero]
    split <;> omega
  have i14 := q_mul_b i12.1 i12.2 (show 0 ≤ x13.toInt by rw [e13]; omega) (show x13.toInt ≤ 9 by rw [e13]; omega)
  have j14 : x14.toInt = x12.toInt * x13.toInt := by rw [e14, fb_mulI (by omega) (by omega)]
  have i15 : 0 ≤ x15.toInt := by
    rw [e15, q_div (by omega) (by decide), show (20 : Int32).toInt = 20 from rfl]
    omega
  have T := q_take M u7 x15 (by omega) (hP.bk hu7) i15
  rw [← e16] at T
  obtain ⟨T1, T2, -, -, T5⟩ := T
  have A := q_add M16 (i := 30 + u10) (j := 10) (by omega)
  rw [← e17] at A
  -- the ints behind the flow
  have c1 : ∀ q, q < 4 → (M17 (30 + u7) q).toInt = (M (30 + u7) q).toInt - (M16 10 q).toInt := fun q hq => by rw [A.2 _ _ (by omega), ← T2 q hq]
  have c2 : ∀ q, q < 4 → (M17 (30 + u10) q).toInt = (M (30 + u10) q).toInt + (M16 10 q).toInt := fun q hq => by
    have s1 := hP.S hq
    have s2 := zS_le2 (f := fun b => (M (30 + b) q).toInt) hu7 hu10 hun (fun k hk => hP.2.1 k hk q hq)
    have s3 := zB_le q
    have s4 := T1 q hq
    have s5 := hP.2.1 _ hu10 q hq
    rw [A.1 q hq, T5 _ _ (by omega) (by omega), fb_addI (by omega) (by omega)]
  have c3 : ∀ i k, i ≠ 10 → i ≠ 30 + u7 → i ≠ 30 + u10 → M17 i k = M i k := fun i k k1 k2 k3 => by rw [A.2 _ _ k3, T5 _ _ k1 k2]
  have d1 : ∀ i k, ¬ (i = 40 + f ∧ k = 3) → M21 i k = M17 i k := fun i k hk => by rw [e21]; simp only [zu, if_neg hk]
  have t21 : ∀ q, q < 4 → zTot n q M21 = zTot n q M := fun q hq => by
    have r0 := zTot_two (M := M) (M' := M21) (q := q) hu7 hu10 hun (fun k hk h3 h4 => by rw [d1 _ _ (by omega), c3 _ _ (by omega) (by omega) (by omega)]) (by rw [d1 _ _ (by omega), c3 _ _ (by omega) (by omega) (by omega)]) (by rw [d1 _ _ (by omega), c3 _ _ (by omega) (by omega) (by omega)]) (by rw [d1 _ _ (by omega), c3 _ _ (by omega) (by omega) (by omega)])
    have r1 := c1 q hq
    have r2 := c2 q hq
    have r3 : (M21 (30 + u7) q).toInt = (M17 (30 + u7) q).toInt := iv_of (d1 _ _ (by omega))
    have r4 : (M21 (30 + u10) q).toInt = (M17 (30 + u10) q).toInt := iv_of (d1 _ _ (by omega))
    omega
  have hP2 : zPh n M21 := by
    refine hP.move (fun b hb => ?_) (fun b hb q hq => ?_) (fun q hq => ?_) (fun q hq hq1 => ?_) (fun q hq => Int.le_of_eq (t21 q hq))
    · rw [d1 _ _ (by omega), c3 _ _ (by omega) (by omega) (by omega)]
    · rw [d1 _ _ (by omega)]
      have s1 := T1 q hq
      by_cases g1 : b = u7
      · subst g1
        have := c1 q hq
        omega
      · by_cases g2 : b = u10
        · subst g2
          have := c2 q hq
          have := hP.2.1 b hb q hq
          omega
        · rw [c3 _ _ (by omega) (by omega) (by omega)]
          exact hP.2.1 b hb q hq
    · rw [d1 _ _ (by omega), c3 _ _ (by omega) (by omega) (by omega)]
      exact hP.2.2.1 q hq
    · rw [d1 12 _ (by omega), d1 13 _ (by omega), c3 12 _ (by omega) (by omega) (by omega), c3 13 _ (by omega) (by omega) (by omega)]
      exact hP.2.2.2.1 q hq hq1
  have f21 : ∀ i k, i ≠ 10 → ¬ (30 ≤ i ∧ i < 38) → ¬ (i = 40 + f ∧ (k = 2 ∨ k = 3)) → M21 i k = M i k := fun i k k1 k2 k3 => by rw [d1 _ _ (by omega), c3 _ _ k1 (by omega) (by omega)]
  have o25 : x25.toInt = (M (40 + f) 2).toInt := by rw [e25, d1 _ _ (by omega), c3 _ _ (by omega) (by omega) (by omega)]
  clear T1 T2 T5 A c1 c2 c3 d1 e16 e17 e19 e21
  -- heat goes on its own
  have w1 := (hP2.bk h1).warm_b
  have w2 := (hP2.bk h2).warm_b
  have v1 := (hP2.bk h1).warm_u
  have v2 := (hP2.bk h2).warm_u
  have y1 := Int.mul_le_mul_of_nonneg_left (show (10 : Int) ≤ (M21 (20 + b1) 1).toInt + (M21 (30 + b1) 0).toInt by have := (hP2.bk h1).1; have := (hP2.bk h1).2.1; omega) w1.1
  have y2 := Int.mul_le_mul_of_nonneg_left (show (10 : Int) ≤ (M21 (20 + b2) 1).toInt + (M21 (30 + b2) 0).toInt by have := (hP2.bk h2).1; have := (hP2.bk h2).2.1; omega) w2.1
  rw [← e22] at w1 v1 y1
  rw [← e23] at w2 v2 y2
  have z1 : x22.toInt * 10 ≤ (M21 (30 + b1) 1).toInt := by omega
  have z2 : x23.toInt * 10 ≤ (M21 (30 + b2) 1).toInt := by omega
  have i24 : x24.toInt = x22.toInt - x23.toInt := by rw [e24, fb_subI (by omega) (by omega)]
  have hbnd : -(M21 (30 + b2) 1).toInt ≤ x24.toInt * x25.toInt ∧ x24.toInt * x25.toInt ≤ (M21 (30 + b1) 1).toInt := by
    rw [o25, i24]
    generalize (M (40 + f) 2).toInt = o at ho ⊢
    rcases (show o = 1 ∨ o = 2 ∨ o = 3 ∨ o = 4 ∨ o = 5 ∨ o = 6 ∨ o = 7 ∨ o = 8 ∨ o = 9 by omega) with h | h | h | h | h | h | h | h | h <;> subst h <;> omega
  have hu1 := (hP2.bk h1).2.2.1
  have hu2 := (hP2.bk h2).2.2.1
  have i26 : x26.toInt = x24.toInt * x25.toInt := by rw [e26, fb_mulI (by omega) (by omega)]
  rw [← i26] at hbnd
  have hs2 := zS_le2 (f := fun b => (M21 (30 + b) 1).toInt) h1 h2 hne (fun k hk => hP2.2.1 k hk 1 (by decide))
  have hs3 := (hP2.S (q := 1) (by decide)).2.2.1
  have hs4 := (hP2.S (q := 1) (by decide)).2.1
  have hs5 : zB 1 = 5000000 := rfl
  have i28 : x28.toInt = (M21 (30 + b1) 1).toInt - x26.toInt := by rw [e28, e27, fb_subI (by omega) (by omega)]
  have n12 : ¬ (30 + b2 = 30 + b1 ∧ (1 : Nat) = 1) := by omega
  have i30 : x30 = M21 (30 + b2) 1 := by rw [e30, e29, zu, if_neg n12]
  have i31 : x31.toInt = (M21 (30 + b2) 1).toInt + x26.toInt := by rw [e31, i30, fb_addI (by omega) (by omega)]
  have g1 : (M32 (30 + b1) 1).toInt = (M21 (30 + b1) 1).toInt - x26.toInt := by
    rw [e32, zu, if_neg (by omega), e29, zu_self, i28]
  have g2 : (M32 (30 + b2) 1).toInt = (M21 (30 + b2) 1).toInt + x26.toInt := by
    rw [e32, zu_self, i31]
  have g3 : ∀ i k, ¬ (i = 30 + b1 ∧ k = 1) → ¬ (i = 30 + b2 ∧ k = 1) → M32 i k = M21 i k := fun i k k1 k2 => by
    rw [e32, zu, if_neg k2, e29, zu, if_neg k1]
  have g4 : ∀ i k, ¬ (i = 40 + f ∧ k = 2) → M34 i k = M32 i k := fun i k hk => by
    rw [e34]
    by_cases h : x12 < 50
    · rw [if_pos h]
    · rw [if_neg h]; simp only [zu, if_neg hk]
  have g5 : 1 ≤ (M34 (40 + f) 2).toInt ∧ (M34 (40 + f) 2).toInt ≤ 9 := by
    have s1 : M32 (40 + f) 2 = x25 := by rw [g3 _ _ (by omega) (by omega), e25]
    rw [e34]
    by_cases h : x12 < 50
    · rw [if_pos h, s1, o25]; exact ho
    · rw [if_neg h]
      simp only [zu_self, s1]
      have s2 : (x25 + 1).toInt = x25.toInt + 1 := fb_addI (by rw [o25, Int32.toInt_one]; omega) (by rw [o25, Int32.toInt_one]; omega)
      rw [q_ite, s2, o25, show (9 : Int32).toInt = 9 from rfl]
      simp only [Int32.lt_iff_toInt_lt, s2, o25, show (9 : Int32).toInt = 9 from rfl]
      split <;> omega
  have t34 : ∀ q, q < 4 → zTot n q M34 = zTot n q M21 := fun q hq => by
    by_cases hq1 : q = 1
    · subst hq1
      have r0 := zTot_two (M := M21) (M' := M34) (q := 1) h1 h2 hne (fun k hk h3 h4 => by rw [g4 _ _ (by omega), g3 _ _ (by omega) (by omega)]) (by rw [g4 _ _ (by omega), g3 _ _ (by omega) (by omega)]) (by rw [g4 _ _ (by omega), g3 _ _ (by omega) (by omega)]) (by rw [g4 _ _ (by omega), g3 _ _ (by omega) (by omega)])
      have r3 : (M34 (30 + b1) 1).toInt = (M32 (30 + b1) 1).toInt := iv_of (g4 _ _ (by omega))
      have r4 : (M34 (30 + b2) 1).toInt = (M32 (30 + b2) 1).toInt := iv_of (g4 _ _ (by omega))
      omega
    · exact zTot_same (fun b hb => by rw [g4 _ _ (by omega), g3 _ _ (by omega) (by omega)]) (by rw [g4 _ _ (by omega), g3 _ _ (by omega) (by omega)]) (by rw [g4 _ _ (by omega), g3 _ _ (by omega) (by omega)]) (by rw [g4 _ _ (by omega), g3 _ _ (by omega) (by omega)])
  refine ⟨hP2.move (fun b hb => ?_) (fun b hb q hq => ?_) (fun q hq => ?_) (fun q hq hq1 => ?_) (fun q hq => Int.le_of_eq (t34 q hq)), fun q hq => (t34 q hq).trans (t21 q hq), g5, fun i k k1 k2 k3 => ?_⟩
  · rw [g4 _ _ (by omega), g3 _ _ (by omega) (by omega)]
  · rw [g4 _ _ (by omega)]
    by_cases hq1 : q = 1
    · subst hq1
      by_cases k1 : b = b1
      · rw [k1]
        show 0 ≤ (M32 (30 + b1) 1).toInt
        omega
      · by_cases k2 : b = b2
        · rw [k2]
          show 0 ≤ (M32 (30 + b2) 1).toInt
          omega
        · rw [g3 _ _ (by omega) (by omega)]
          exact hP2.2.1 b hb 1 hq
    · rw [g3 _ _ (by omega) (by omega)]
      exact hP2.2.1 b hb q hq
  · rw [g4 _ _ (by omega), g3 _ _ (by omega) (by omega)]
    exact hP2.2.2.1 q hq
  · rw [g4 12 _ (by omega), g4 13 _ (by omega), g3 12 _ (by omega) (by omega), g3 13 _ (by omega) (by omega)]
    exact hP2.2.2.2.1 q hq hq1
  · rw [g4 _ _ (by omega), g3 _ _ (by omega) (by omega), f21 i k k1 k2 k3]
