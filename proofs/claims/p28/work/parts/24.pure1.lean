/-! ===== numbers (the family fb_ of COUNTS, turned) ===== -/
theorem fb_rng (x : Int32) : -2147483648 ≤ x.toInt ∧ x.toInt < 2147483648 := by
  have h1 := Int32.le_toInt x
  have h2 := Int32.toInt_lt x
  omega
theorem fb_bmod {z : Int} (h1 : -2147483648 ≤ z) (h2 : z < 2147483648) : z.bmod (2 ^ 32) = z := by
  rw [Int.bmod_eq_of_le (by omega) (by omega)]
theorem fb_addI {x y : Int32} (h1 : -2147483648 ≤ x.toInt + y.toInt) (h2 : x.toInt + y.toInt < 2147483648) : (x + y).toInt = x.toInt + y.toInt := by
  rw [Int32.toInt_add, fb_bmod h1 h2]
theorem fb_subI {x y : Int32} (h1 : -2147483648 ≤ x.toInt - y.toInt) (h2 : x.toInt - y.toInt < 2147483648) : (x - y).toInt = x.toInt - y.toInt := by
  rw [Int32.toInt_sub, fb_bmod h1 h2]
theorem fb_mulI {x y : Int32} (h1 : -2147483648 ≤ x.toInt * y.toInt) (h2 : x.toInt * y.toInt < 2147483648) : (x * y).toInt = x.toInt * y.toInt := by
  rw [Int32.toInt_mul, fb_bmod h1 h2]
theorem fb_bmodL {z : Int} (h1 : -9223372036854775808 ≤ z) (h2 : z < 9223372036854775808) : z.bmod (2 ^ 64) = z := by
  rw [Int.bmod_eq_of_le (by omega) (by omega)]
theorem fb_addL {x y : Int64} (h1 : -9223372036854775808 ≤ x.toInt + y.toInt) (h2 : x.toInt + y.toInt < 9223372036854775808) : (x + y).toInt = x.toInt + y.toInt := by
  rw [Int64.toInt_add, fb_bmodL h1 h2]
theorem fb_mulL {x y : Int64} (h1 : -9223372036854775808 ≤ x.toInt * y.toInt) (h2 : x.toInt * y.toInt < 9223372036854775808) : (x * y).toInt = x.toInt * y.toInt := by
  rw [Int64.toInt_mul, fb_bmodL h1 h2]
theorem q_ite {c : Prop} [Decidable c] (a b : Int32) : (if c then a else b).toInt = if c then a.toInt else b.toInt := by
  split <;> rfl
theorem q_div {x y : Int32} (hx : 0 ≤ x.toInt) (hy : 0 < y.toInt) : (x / y).toInt = x.toInt / y.toInt := by
  have h := fb_rng x
  have h1 : x.toInt / y.toInt ≤ x.toInt := Int.ediv_le_self _ hx
  have h2 : 0 ≤ x.toInt / y.toInt := Int.ediv_nonneg hx (Int.le_of_lt hy)
  rw [Int32.toInt_div, Int.tdiv_eq_ediv_of_nonneg hx, fb_bmod (by omega) (by omega)]
theorem q_divL {x y : Int64} (hx : 0 ≤ x.toInt) (hy : 0 < y.toInt) : (x / y).toInt = x.toInt / y.toInt := by
  have h1 : x.toInt / y.toInt ≤ x.toInt := Int.ediv_le_self _ hx
  have h2 : 0 ≤ x.toInt / y.toInt := Int.ediv_nonneg hx (Int.le_of_lt hy)
  have h3 := Int64.toInt_lt x
  rw [Int64.toInt_div, Int.tdiv_eq_ediv_of_nonneg hx, fb_bmodL (by omega) (by omega)]
/-- a product's bounds -/
theorem q_mul_b {a b A B : Int} (h1 : 0 ≤ a) (h2 : a ≤ A) (h3 : 0 ≤ b) (h4 : b ≤ B) : 0 ≤ a * b ∧ a * b ≤ A * B :=
  ⟨Int.mul_nonneg h1 h3, Int.le_trans (Int.mul_le_mul_of_nonneg_right h2 h3) (Int.mul_le_mul_of_nonneg_left h4 (Int.le_trans h1 h2))⟩
/-- a share of h, m of n: a * m / n with m ≤ n -/
theorem q_part {a m n : Int} (ha : 0 ≤ a) (hm : 0 ≤ m) (hmn : m ≤ n) : 0 ≤ m * a / n ∧ m * a / n ≤ a := by
  have hn : 0 ≤ n := Int.le_trans hm hmn
  refine ⟨Int.ediv_nonneg (Int.mul_nonneg hm ha) hn, ?_⟩
  rcases Int.lt_or_eq_of_le hn with h | h
  · refine Int.ediv_le_of_le_mul h ?_
    rw [Int.mul_comm a n]
    exact Int.mul_le_mul_of_nonneg_right hmn ha
  · rw [← h, Int.ediv_zero]
    exact ha
/-! ===== the ints of a world as whole numbers; sums ===== -/
def zS (f : Nat → Int) : Nat → Int
  | 0 => 0
  | n + 1 => zS f n + f n
theorem zS_congr {f g : Nat → Int} : ∀ {n : Nat}, (∀ k, k < n → f k = g k) → zS f n = zS g n
  | 0, _ => rfl
  | n + 1, h => by
    rw [zS, zS, zS_congr (n := n) (fun k hk => h k (by omega)), h n (by omega)]
theorem zS_upd {f g : Nat → Int} {b : Nat} : ∀ {n : Nat}, b < n → (∀ k, k < n → k ≠ b → g k = f k) → zS g n = zS f n + (g b - f b)
  | 0, h, _ => absurd h (Nat.not_lt_zero b)
  | n + 1, h, hk => by
    rw [zS, zS]
    by_cases hb : b = n
    · subst hb
      rw [zS_congr (n := b) (f := g) (g := f) (fun k h1 => hk k (by omega) (by omega))]
      omega
    · rw [zS_upd (n := n) (by omega) (fun k h1 h2 => hk k (by omega) h2), hk n (by omega) (fun e => hb e.symm)]
      omega
theorem zS_nn {f : Nat → Int} : ∀ {n : Nat}, (∀ k, k < n → 0 ≤ f k) → 0 ≤ zS f n
  | 0, _ => Int.le_refl 0
  | n + 1, h => by
    have h1 := zS_nn (n := n) (fun k hk => h k (by omega))
    have h2 := h n (by omega)
    rw [zS]
    omega
theorem zS_le {f : Nat → Int} {b : Nat} : ∀ {n : Nat}, b < n → (∀ k, k < n → 0 ≤ f k) → f b ≤ zS f n
  | 0, h, _ => absurd h (Nat.not_lt_zero b)
  | n + 1, h, hk => by
    rw [zS]
    have h2 := hk n (by omega)
    by_cases hb : b = n
    · subst hb
      have h1 := zS_nn (f := f) (n := b) (fun k hk2 => hk k (by omega))
      omega
    · have h1 := zS_le (n := n) (b := b) (by omega) (fun k hk2 => hk k (by omega))
      omega
theorem zS_le2 {f : Nat → Int} {b d n : Nat} (hb : b < n) (hd : d < n) (hbd : b ≠ d) (h : ∀ k, k < n → 0 ≤ f k) : f b + f d ≤ zS f n := by
  have h1 := zS_upd (f := f) (g := fun k => if k = b then 0 else f k) hb (fun k _ h2 => if_neg h2)
  have h2 := zS_le (f := fun k => if k = b then 0 else f k) hd (fun k hk => by
    show 0 ≤ if k = b then 0 else f k
    by_cases h3 : k = b
    · rw [if_pos h3]; exact Int.le_refl 0
    · rw [if_neg h3]; exact h k hk)
  simp only [if_true, if_neg (Ne.symm hbd)] at h1 h2
  omega
theorem zS_add (f g : Nat → Int) : ∀ n, zS (fun k => f k + g k) n = zS f n + zS g n
  | 0 => rfl
  | n + 1 => by
    rw [zS, zS, zS, zS_add f g n]
    omega
theorem q4 {P : Nat → Prop} (h0 : P 0) (h1 : P 1) (h2 : P 2) (h3 : P 3) : ∀ q, q < 4 → P q := by
  intro q hq
  rcases (show q = 0 ∨ q = 1 ∨ q = 2 ∨ q = 3 by omega) with h | h | h | h <;> subst h <;> assumption
/-! ===== what carries water: add, remove, share ===== -/
theorem q_add (M : zM) {i j : Nat} (hij : i ≠ j) : (∀ q, q < 4 → fX6_add M i j i q = M i q + M j q) ∧ (∀ a k, a ≠ i → fX6_add M i j a k = M a k) := by
  have hji := Ne.symm hij
  refine ⟨q4 ?_ ?_ ?_ ?_, fun a k ha => ?_⟩
  · simp [fX6_add, zu]
  · simp [fX6_add, zu, hji]
  · simp [fX6_add, zu, hji]
  · simp [fX6_add, zu, hji]
  · simp [fX6_add, zu, ha]
theorem q_add_hi (M : zM) (i j : Nat) {a k : Nat} (hk : 4 ≤ k) : fX6_add M i j a k = M a k := by
  simp [fX6_add, zu, show k ≠ 0 by omega, show k ≠ 1 by omega, show k ≠ 2 by omega, show k ≠ 3 by omega]
theorem q_rem (M : zM) {i j : Nat} (hij : i ≠ j) : (∀ q, q < 4 → fX6_remove M i j i q = M i q - M j q) ∧ (∀ a k, a ≠ i → fX6_remove M i j a k = M a k) := by
  have hji := Ne.symm hij
  refine ⟨q4 ?_ ?_ ?_ ?_, fun a k ha => ?_⟩
  · simp [fX6_remove, zu]
  · simp [fX6_remove, zu, hji]
  · simp [fX6_remove, zu, hji]
  · simp [fX6_remove, zu, hji]
  · simp [fX6_remove, zu, ha]
theorem q_share (M : zM) (i : Nat) (a0 a1 : Int32) (hm : 0 ≤ (M i 0).toInt) (h0 : 0 ≤ a0.toInt) (h1 : 0 ≤ a1.toInt) (h2 : a1.toInt ≤ (M i 0).toInt) : (rX6_shareOf M i a0 a1).toInt = a1.toInt * a0.toInt / (M i 0).toInt := by
  unfold rX6_shareOf
  dsimp only
  have ea := fb_rng a0
  have eb := fb_rng a1
  have ec := fb_rng (M i 0)
  have hp := q_part h0 h1 h2
  by_cases h : M i 0 ≤ 0
  · rw [if_pos h]
    rw [Int32.le_iff_toInt_le] at h
    have h3 : (M i 0).toInt = 0 := Int.le_antisymm h hm
    rw [h3, Int.ediv_zero]
    rfl
  · rw [if_neg h]
    rw [Int32.le_iff_toInt_le] at h
    have h3 : 0 < (M i 0).toInt := Int.lt_of_not_ge h
    have hb := q_mul_b h1 (Int.le_of_lt eb.2) h0 (Int.le_of_lt ea.2)
    have hm1 : (a1.toInt64 * a0.toInt64).toInt = a1.toInt * a0.toInt := by
      rw [fb_mulL] <;> rw [Int32.toInt_toInt64, Int32.toInt_toInt64] <;> omega
    have hd : (a1.toInt64 * a0.toInt64 / (M i 0).toInt64).toInt = a1.toInt * a0.toInt / (M i 0).toInt := by
      rw [q_divL (by rw [hm1]; exact hb.1) (by rw [Int32.toInt_toInt64]; exact h3), hm1, Int32.toInt_toInt64]
    rw [Int64.toInt_toInt32, hd, fb_bmod (by omega) (by omega)]
theorem q_warm (M : zM) (b : Nat) (hV : 10 ≤ (M (20 + b) 1).toInt ∧ (M (20 + b) 1).toInt ≤ 99) (hm : 0 ≤ (M (30 + b) 0).toInt ∧ (M (30 + b) 0).toInt ≤ 10000) (hh : 0 ≤ (M (30 + b) 1).toInt) : (rX0_warmth M b).toInt = (M (30 + b) 1).toInt / ((M (20 + b) 1).toInt + (M (30 + b) 0).toInt) := by
  unfold rX0_warmth
  dsimp only
  have ha : (M (20 + b) 1 + M (30 + b) 0).toInt = (M (20 + b) 1).toInt + (M (30 + b) 0).toInt := fb_addI (by omega) (by omega)
  rw [if_neg (by rw [Int32.le_iff_toInt_le, ha, Int32.toInt_zero]; omega)]
  rw [q_div hh (by rw [ha]; omega), ha]
theorem q_press (M : zM) (b : Nat) (hV : 10 ≤ (M (20 + b) 1).toInt ∧ (M (20 + b) 1).toInt ≤ 99) (hm : 0 ≤ (M (30 + b) 0).toInt ∧ (M (30 + b) 0).toInt ≤ 10000) : (rX0_pressure M b).toInt = 10 * (M (30 + b) 0).toInt / (M (20 + b) 1).toInt := by
  unfold rX0_pressure
  dsimp only
  have ha : ((10 : Int32) * M (30 + b) 0).toInt = 10 * (M (30 + b) 0).toInt := fb_mulI (by show -2147483648 ≤ 10 * (M (30 + b) 0).toInt; omega) (by show 10 * (M (30 + b) 0).toInt < _; omega)
  rw [if_neg (by rw [Int32.le_iff_toInt_le, Int32.toInt_zero]; omega)]
  rw [q_div (by rw [ha]; omega) (by omega), ha]
theorem q_press_b (M : zM) (b : Nat) (hV : 10 ≤ (M (20 + b) 1).toInt ∧ (M (20 + b) 1).toInt ≤ 99) (hm : 0 ≤ (M (30 + b) 0).toInt ∧ (M (30 + b) 0).toInt ≤ 10000) : 0 ≤ (rX0_pressure M b).toInt ∧ (rX0_pressure M b).toInt ≤ 10000 := by
  rw [q_press M b hV hm]
  refine ⟨Int.ediv_nonneg (by omega) (by omega), ?_⟩
  refine Int.ediv_le_of_le_mul (by omega) ?_
  have := Int.mul_le_mul_of_nonneg_left hV.1 (show (0 : Int) ≤ 10000 by decide)
  omega
/-! ===== a block's numbers are in their bounds ===== -/
def zBk (M : zM) (b : Nat) : Prop := (10 ≤ (M (20 + b) 1).toInt ∧ (M (20 + b) 1).toInt ≤ 99) ∧ (0 ≤ (M (30 + b) 0).toInt ∧ (M (30 + b) 0).toInt ≤ 10000) ∧ (0 ≤ (M (30 + b) 1).toInt ∧ (M (30 + b) 1).toInt ≤ 5000000) ∧ (0 ≤ (M (30 + b) 2).toInt ∧ (M (30 + b) 2).toInt ≤ 50000) ∧ (0 ≤ (M (30 + b) 3).toInt ∧ (M (30 + b) 3).toInt ≤ 5000)
theorem zBk.warm {M : zM} {b : Nat} (h : zBk M b) : (rX0_warmth M b).toInt = (M (30 + b) 1).toInt / ((M (20 + b) 1).toInt + (M (30 + b) 0).toInt) := q_warm M b h.1 h.2.1 h.2.2.1.1
/-- warmth times volume and mass is the heat, cut -/
theorem zBk.warm_b {M : zM} {b : Nat} (h : zBk M b) : 0 ≤ (rX0_warmth M b).toInt ∧ (rX0_warmth M b).toInt * ((M (20 + b) 1).toInt + (M (30 + b) 0).toInt) ≤ (M (30 + b) 1).toInt := by
  rw [h.warm]
  obtain ⟨h1, h2, h3, -⟩ := h
  exact ⟨Int.ediv_nonneg h3.1 (by omega), Int.ediv_mul_le _ (by omega)⟩
theorem zBk.warm_u {M : zM} {b : Nat} (h : zBk M b) : (rX0_warmth M b).toInt ≤ 500000 := by
  have h1 := h.warm_b
  obtain ⟨h2, h3, h4, -⟩ := h
  have h5 := Int.mul_le_mul_of_nonneg_left (show (10 : Int) ≤ (M (20 + b) 1).toInt + (M (30 + b) 0).toInt by omega) h1.1
  omega
/-- what is taken: into the load at id 10, out of the block -/
theorem q_take (M : zM) (b : Nat) (a0 : Int32) (hb : b < 8) (h : zBk M b) (ha : 0 ≤ a0.toInt) :
    (∀ q, q < 4 → 0 ≤ ((fX0_take M b a0 10) 10 q).toInt ∧ ((fX0_take M b a0 10) 10 q).toInt ≤ (M (30 + b) q).toInt) ∧
    (∀ q, q < 4 → ((fX0_take M b a0 10) (30 + b) q).toInt = (M (30 + b) q).toInt - ((fX0_take M b a0 10) 10 q).toInt) ∧
    (((fX0_take M b a0 10) 10 0).toInt ≤ a0.toInt ∧ 4 * ((fX0_take M b a0 10) 10 0).toInt ≤ (M (30 + b) 0).toInt) ∧
    ((fX0_take M b a0 10) 10 1).toInt = ((fX0_take M b a0 10) 10 0).toInt * (rX0_warmth M b).toInt ∧
    (∀ i k, i ≠ 10 → i ≠ 30 + b → fX0_take M b a0 10 i k = M i k) := by
  obtain ⟨x1, e1, x2, e2, x3, e3, M4, e4, x5, e5, x6, e6, M7, e7, x8, e8, x9, e9, M10, e10, x11, e11, x12, e12, M13, e13, M14, e14, eM⟩ := e_X0_take M b a0 10
  rw [eM]
  have n1 : 30 + b ≠ 10 := by omega
  have n2 : 20 + b ≠ 10 := by omega
  have h4 : (4 : Int32).toInt = 4 := rfl
  have hw := h.warm_b
  have hwu := h.warm_u
  obtain ⟨g1, g2, g3, g4, g5⟩ := id h
  have i2 : x2.toInt = (M (30 + b) 0).toInt / 4 := by
    rw [e2, e1, q_div g2.1 (by decide), h4]
  have i3 : x3.toInt = if (M (30 + b) 0).toInt / 4 < a0.toInt then (M (30 + b) 0).toInt / 4 else a0.toInt := by
    rw [e3, q_ite]
    simp only [Int32.lt_iff_toInt_lt, i2]
  have b3 : 0 ≤ x3.toInt ∧ x3.toInt ≤ a0.toInt ∧ 4 * x3.toInt ≤ (M (30 + b) 0).toInt := by
    rw [i3]
    split <;> omega
  clear i3 e3
  have e5 : x5 = rX0_warmth M b := by
    rw [e5, e4]
    simp [rX0_warmth, zu, n1, n2]
  have hle : x3.toInt * x5.toInt ≤ (M (30 + b) 1).toInt := by
    rw [e5, Int.mul_comm]
    exact Int.le_trans (Int.mul_le_mul_of_nonneg_left (show x3.toInt ≤ (M (20 + b) 1).toInt + (M (30 + b) 0).toInt by omega) hw.1) hw.2
  have hnn : 0 ≤ x3.toInt * x5.toInt := Int.mul_nonneg b3.1 (by rw [e5]; exact hw.1)
  have i6 : x6.toInt = x3.toInt * x5.toInt := by
    rw [e6, fb_mulI (by omega) (by omega)]
  have e8 : x8 = M (30 + b) 2 := by rw [e8, e7, e4]; simp [zu, n1]
  have m7 : (M7 (30 + b) 0).toInt = (M (30 + b) 0).toInt := by rw [e7, e4]; simp [zu, n1]
  have i9 : x9.toInt = x3.toInt * (M (30 + b) 2).toInt / (M (30 + b) 0).toInt := by
    rw [e9, q_share M7 (30 + b) x8 x3 (by omega) (by rw [e8]; omega) b3.1 (by omega), m7, e8]
  have b9 := q_part g4.1 b3.1 (show x3.toInt ≤ (M (30 + b) 0).toInt by omega)
  rw [← i9] at b9
  have e11 : x11 = M (30 + b) 3 := by rw [e11, e10, e7, e4]; simp [zu, n1]
  have m10 : (M10 (30 + b) 0).toInt = (M (30 + b) 0).toInt := by rw [e10, e7, e4]; simp [zu, n1]
  have i12 : x12.toInt = x3.toInt * (M (30 + b) 3).toInt / (M (30 + b) 0).toInt := by
    rw [e12, q_share M10 (30 + b) x11 x3 (by omega) (by rw [e11]; omega) b3.1 (by omega), m10, e11]
  have b12 := q_part g5.1 b3.1 (show x3.toInt ≤ (M (30 + b) 0).toInt by omega)
  rw [← i12] at b12
  have hr := q_rem M13 (i := 30 + b) (j := 10) n1
  have r0 : M13 10 0 = x3 := by rw [e13, e10, e7, e4]; simp [zu]
  have r1 : M13 10 1 = x6 := by rw [e13, e10, e7, e4]; simp [zu]
  have r2 : M13 10 2 = x9 := by rw [e13, e10, e7, e4]; simp [zu]
  have r3 : M13 10 3 = x12 := by rw [e13, e10, e7, e4]; simp [zu]
  have rf : ∀ i k, i ≠ 10 → M13 i k = M i k := fun i k hi => by rw [e13, e10, e7, e4]; simp [zu, hi]
  rw [← e14] at hr
  have s0 : M14 10 0 = x3 := by rw [hr.2 10 0 (Ne.symm n1), r0]
  have s1 : M14 10 1 = x6 := by rw [hr.2 10 1 (Ne.symm n1), r1]
  have s2 : M14 10 2 = x9 := by rw [hr.2 10 2 (Ne.symm n1), r2]
  have s3 : M14 10 3 = x12 := by rw [hr.2 10 3 (Ne.symm n1), r3]
  refine ⟨q4 ?_ ?_ ?_ ?_, q4 ?_ ?_ ?_ ?_, ?_, ?_, ?_⟩
  · rw [s0]; omega
  · rw [s1]; omega
  · rw [s2]; omega
  · rw [s3]; omega
  · rw [hr.1 0 (by decide), r0, s0, rf _ _ n1, fb_subI (by omega) (by omega)]
  · rw [hr.1 1 (by decide), r1, s1, rf _ _ n1, fb_subI (by omega) (by omega)]
  · rw [hr.1 2 (by decide), r2, s2, rf _ _ n1, fb_subI (by omega) (by omega)]
  · rw [hr.1 3 (by decide), r3, s3, rf _ _ n1, fb_subI (by omega) (by omega)]
  · rw [s0]; omega
  · rw [s0, s1, i6, e5]
  · intro i k hi hi2
    rw [hr.2 i k hi2, rf i k hi]
