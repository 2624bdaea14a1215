/-! ===== the loops of a step ===== -/
def zFa (n : Nat) (M : zM) (f : Nat) : Prop := (M (40 + f) 0).toNatClampNeg < n ∧ (M (40 + f) 1).toNatClampNeg < n ∧ (M (40 + f) 0).toNatClampNeg ≠ (M (40 + f) 1).toNatClampNeg ∧ (1 ≤ (M (40 + f) 2).toInt ∧ (M (40 + f) 2).toInt ≤ 9)
def zWl (n : Nat) (M : zM) (w : Nat) : Prop := (M (60 + w) 0).toNatClampNeg < n ∧ (M (60 + w) 1 = 0 ∨ M (60 + w) 1 = 1) ∧ (0 ≤ (M (60 + w) 2).toInt ∧ (M (60 + w) 2).toInt ≤ 9) ∧ (0 ≤ (M (60 + w) 3).toInt ∧ (M (60 + w) 3).toInt ≤ 9) ∧ (0 ≤ (M (60 + w) 4).toInt ∧ (M (60 + w) 4).toInt ≤ 4)
def zWd (t : Int) (M : zM) (w : Nat) : Prop := 0 ≤ (M (60 + w) 5).toInt ∧ 0 ≤ (M (60 + w) 6).toInt ∧ (M (60 + w) 6).toInt ≤ (M (60 + w) 5).toInt ∧ 0 ≤ (M (60 + w) 7).toInt ∧ (M (60 + w) 5).toInt ≤ (M (60 + w) 8).toInt ∧ (M (60 + w) 8).toInt ≤ 10000 * t
def zSp (n : Nat) (M : zM) (s : Nat) : Prop := (M (70 + s) 0).toNatClampNeg < n ∧ (0 ≤ (M (70 + s) 1).toInt ∧ (M (70 + s) 1).toInt ≤ 300) ∧ (0 ≤ (M (70 + s) 2).toInt ∧ (M (70 + s) 2).toInt ≤ 50) ∧ 0 ≤ (M (70 + s) 3).toInt ∧ (0 ≤ (M (70 + s) 4).toInt ∧ (M (70 + s) 4).toInt ≤ 50) ∧ (M (70 + s) 3).toInt ≤ (M (70 + s) 5).toInt
theorem zFa.of {n : Nat} {M S : zM} {f : Nat} (h : zFa n M f) (e : ∀ q, q < 3 → S (40 + f) q = M (40 + f) q) : zFa n S f := by
  unfold zFa
  rw [e 0 (by decide), e 1 (by decide), e 2 (by decide)]
  exact h
theorem zWl.of {n : Nat} {M S : zM} {w : Nat} (h : zWl n M w) (e : ∀ q, q < 5 → S (60 + w) q = M (60 + w) q) : zWl n S w := by
  unfold zWl
  rw [e 0 (by decide), e 1 (by decide), e 2 (by decide), e 3 (by decide), e 4 (by decide)]
  exact h
theorem zWd.of {t : Int} {M S : zM} {w : Nat} (h : zWd t M w) (e : ∀ q, q < 9 → S (60 + w) q = M (60 + w) q) : zWd t S w := by
  unfold zWd
  rw [e 5 (by decide), e 6 (by decide), e 7 (by decide), e 8 (by decide)]
  exact h
theorem zSp.of {n : Nat} {M S : zM} {s : Nat} (h : zSp n M s) (e : ∀ q, q < 6 → S (70 + s) q = M (70 + s) q) : zSp n S s := by
  unfold zSp
  rw [e 0 (by decide), e 1 (by decide), e 2 (by decide), e 3 (by decide), e 4 (by decide), e 5 (by decide)]
  exact h
theorem q_faces (n : Nat) (hn : n ≤ 8) (M : zM) (hP : zPh n M) (nf : Nat) (hnf : nf ≤ 12) (hF : ∀ f, f < nf → zFa n M f) : ∀ k, k ≤ nf →
    zPh n (zit bX3_step_17 k M) ∧ (∀ q, q < 4 → zTot n q (zit bX3_step_17 k M) = zTot n q M) ∧ (∀ f, f < nf → zFa n (zit bX3_step_17 k M) f) ∧
    (∀ i q, i ≠ 10 → ¬ (30 ≤ i ∧ i < 38) → ¬ (40 ≤ i ∧ i < 52 ∧ (q = 2 ∨ q = 3)) → zit bX3_step_17 k M i q = M i q) := by
  intro k
  induction k with
  | zero =>
    intro _
    rw [zit_0]
    exact ⟨hP, fun _ _ => rfl, hF, fun _ _ _ _ _ => rfl⟩
  | succ k ih =>
    intro hk
    obtain ⟨a1, a2, a3, a4⟩ := ih (by omega)
    rw [zit_s]
    generalize zit bX3_step_17 k M = S at a1 a2 a3 a4 ⊢
    rw [show bX3_step_17 k S = fX3_flowThrough S k from rfl]
    obtain ⟨g1, g2, g3, g4⟩ := a3 k (by omega)
    obtain ⟨b1, b2, b3, b4⟩ := q_flow n hn S k (by omega) a1 g1 g2 g3 g4
    refine ⟨b1, fun q hq => (b2 q hq).trans (a2 q hq), fun f hf => ?_, fun i q h1 h2 h3 => ?_⟩
    · by_cases h : f = k
      · subst h
        unfold zFa
        rw [b4 (40 + f) 0 (by omega) (by omega) (by omega), b4 (40 + f) 1 (by omega) (by omega) (by omega)]
        exact ⟨g1, g2, g3, b3⟩
      · exact (a3 f hf).of (fun q _ => b4 _ _ (by omega) (by omega) (by omega))
    · rw [b4 i q h1 h2 (by omega), a4 i q h1 h2 h3]
theorem e_b45 (k : Nat) (S : zM) (a : Int32) : bX3_step_45 k (S, a) = if S (60 + k) 1 = 0 then (fX3_produce S k, a + rX3_produce S k) else (S, a) := by
  unfold bX3_step_45
  dsimp only
  by_cases h : S (60 + k) 1 = 0
  · rw [if_neg (not_not_intro h), if_neg (not_not_intro h), if_pos h]
  · rw [if_pos h, if_pos h, if_neg h]
theorem e_b102 (lt : Int32) (k : Nat) (S : zM) (a : Int32) : bX3_step_102 lt k (S, a) = if S (60 + k) 1 = 0 then (S, a) else (fX3_inject S k lt, a + rX3_inject S k lt) := by
  unfold bX3_step_102
  dsimp only
  by_cases h : S (60 + k) 1 = 0
  · rw [if_pos h, if_pos h, if_pos h]
  · rw [if_neg h, if_neg h, if_neg h]
set_option maxHeartbeats 4000000 in
theorem q_prods (n : Nat) (hn : n ≤ 8) (t : Int) (ht : 0 ≤ t ∧ t ≤ 100) (M : zM) (hP : zPh n M) (nw : Nat) (hnw : nw ≤ 6) (hW : ∀ w, w < nw → zWl n M w) (hD : ∀ w, w < nw → zWd t M w) : ∀ k, k ≤ nw → ∀ S a, zit bX3_step_45 k (M, 0) = (S, a) →
    zPh n S ∧ 0 ≤ a.toInt ∧ zTot n 0 S = zTot n 0 M - a.toInt ∧ (∀ q, q < 4 → q ≠ 0 → q ≠ 1 → zTot n q S = zTot n q M) ∧ (∀ w, w < nw → zWl n S w) ∧
    (∀ w, w < k → M (60 + w) 1 = 0 → zWd (t + 1) S w ∧ ((M (60 + w) 2).toInt = 0 → (S (60 + w) 5).toInt = 0)) ∧
    a.toInt = zS (fun w => if M (60 + w) 1 = 0 then (S (60 + w) 6).toInt else 0) k ∧
    (∀ w, (k ≤ w ∨ ¬ M (60 + w) 1 = 0) → w < 6 → ∀ q, S (60 + w) q = M (60 + w) q) ∧
    (∀ i q, i ≠ 10 → i ≠ 5 → ¬ (30 ≤ i ∧ i < 38) → ¬ (60 ≤ i ∧ i < 66 ∧ 3 ≤ q ∧ q < 9) → S i q = M i q) := by
  intro k
  induction k with
  | zero =>
    intro _ S a h
    rw [zit_0] at h
    obtain ⟨rfl, rfl⟩ := Prod.mk.inj h
    exact ⟨hP, Int.le_refl _, by rw [Int32.toInt_zero, Int.sub_zero], fun _ _ _ _ => rfl, hW, fun w hw => absurd hw (Nat.not_lt_zero w), rfl, fun _ _ _ _ => rfl, fun _ _ _ _ _ _ => rfl⟩
  | succ k ih =>
    intro hk S' a' h
    obtain ⟨S, a, hSa⟩ : ∃ S a, zit bX3_step_45 k (M, 0) = (S, a) := ⟨_, _, rfl⟩
    obtain ⟨a1, a2, a3, a4, a5, a6, a7, a8, a9⟩ := ih (by omega) S a hSa
    rw [zit_s, hSa, e_b45] at h
    have hk1 : S (60 + k) 1 = M (60 + k) 1 := a9 _ _ (by omega) (by omega) (by omega) (by omega)
    rw [hk1] at h
    by_cases hp : M (60 + k) 1 = 0
    · rw [if_pos hp] at h
      obtain ⟨rfl, rfl⟩ := Prod.mk.inj h
      obtain ⟨g1, g2, g3, g4, g5⟩ := a5 k (by omega)
      obtain ⟨b1, b2, b3, b4, b5, b6, b7, b8, b9, b10, b11, b12, b13⟩ := q_prod n hn S k (by omega) a1 g1 g3 g4 g5
      have hold : zWd t S k := (hD k (by omega)).of (fun q _ => a8 k (Or.inl (Nat.le_refl _)) (by omega) q)
      have hval : S (60 + k) 2 = M (60 + k) 2 := a8 k (Or.inl (Nat.le_refl _)) (by omega) 2
      have hz := (b1.S (q := 0) (by decide))
      have hz0 : 0 ≤ zTot n 0 (fX3_produce S k) := by
        unfold zTot
        rw [if_neg (by decide)]
        have := hz.2.2.2 (by decide)
        omega
      have hz1 : zTot n 0 M ≤ 10000 := hP.2.2.2.2 0 (by decide)
      have hadd : (a + rX3_produce S k).toInt = a.toInt + (rX3_produce S k).toInt := fb_addI (by omega) (by omega)
      refine ⟨b1, by rw [hadd]; omega, by rw [b3, a3, hadd]; omega, fun q h1 h2 h3 => (b4 q h1 h2 h3).trans (a4 q h1 h2 h3), fun w hw => ?_, fun w hw hw1 => ?_, ?_, fun w hw hw6 q => ?_, fun i q h1 h2 h3 h4 => ?_⟩
      · by_cases e : w = k
        · subst e
          unfold zWl
          rw [b13 (60 + w) 0 (by omega) (by omega) (by omega) (by omega), b13 (60 + w) 1 (by omega) (by omega) (by omega) (by omega), b13 (60 + w) 2 (by omega) (by omega) (by omega) (by omega)]
          exact ⟨g1, g2, g3, b11, b12⟩
        · exact (a5 w hw).of (fun q _ => b13 _ _ (by omega) (by omega) (by omega) (by omega))
      · by_cases e : w = k
        · subst e
          obtain ⟨d1, d2, d3, d4, d5, d6⟩ := hold
          have e8 : ((fX3_produce S w) (60 + w) 8).toInt = (S (60 + w) 8).toInt + ((fX3_produce S w) (60 + w) 5).toInt := by
            rw [b9, fb_addI (by omega) (by omega)]
          refine ⟨⟨b5.1, by rw [b6]; exact b2, by rw [b6]; exact b7, b8, by omega, by omega⟩, fun h0 => b10 (by rw [hval]; exact h0)⟩
        · obtain ⟨c1, c2⟩ := a6 w (by omega) hw1
          refine ⟨c1.of (fun q _ => b13 _ _ (by omega) (by omega) (by omega) (by omega)), fun h0 => ?_⟩
          rw [iv_of (b13 (60 + w) 5 (by omega) (by omega) (by omega) (by omega))]
          exact c2 h0
      · rw [hadd, zS, if_pos hp, b6, a7]
        congr 1
        refine zS_congr (fun w hw => ?_)
        rw [iv_of (b13 (60 + w) 6 (by omega) (by omega) (by omega) (by omega))]
      · have hne : w ≠ k := by
          intro e
          subst e
          rcases hw with h9 | h9
          · omega
          · exact h9 hp
        rw [b13 _ _ (by omega) (by omega) (by omega) (by omega), a8 w (by rcases hw with h9 | h9; exact Or.inl (by omega); exact Or.inr h9) hw6 q]
      · rw [b13 i q h1 h2 h3 (by omega), a9 i q h1 h2 h3 h4]
    · rw [if_neg hp] at h
      obtain ⟨rfl, rfl⟩ := Prod.mk.inj h
      refine ⟨a1, a2, a3, a4, a5, fun w hw hw1 => ?_, ?_, fun w hw hw6 q => ?_, a9⟩
      · have : w ≠ k := fun e => hp (e ▸ hw1)
        exact a6 w (by omega) hw1
      · rw [zS, if_neg hp, ← a7, Int.add_zero]
      · by_cases e : w = k
        · subst e
          exact a8 w (Or.inl (Nat.le_refl _)) hw6 q
        · exact a8 w (by rcases hw with h9 | h9; exact Or.inl (by omega); exact Or.inr h9) hw6 q
set_option maxHeartbeats 4000000 in
theorem q_injs (n : Nat) (hn : n ≤ 8) (t : Int) (ht : 0 ≤ t ∧ t ≤ 100) (lt : Int32) (M : zM) (hP : zPh n M) (nw : Nat) (hnw : nw ≤ 6) (hW : ∀ w, w < nw → zWl n M w) (hD : ∀ w, w < nw → ¬ M (60 + w) 1 = 0 → zWd t M w) : ∀ k, k ≤ nw → ∀ S a, zit (bX3_step_102 lt) k (M, 0) = (S, a) →
    zPh n S ∧ (0 ≤ a.toInt ∧ a.toInt ≤ 10000 * (k : Int)) ∧ (∀ q, q < 4 → zTot n q S = zTot n q M) ∧ (S 5 0).toInt ≤ (M 5 0).toInt ∧ (∀ w, w < nw → zWl n S w) ∧
    (∀ w, w < k → ¬ M (60 + w) 1 = 0 → zWd (t + 1) S w ∧ (S (60 + w) 5).toInt ≤ zMost lt ((M (60 + w) 2).toInt) ∧ S (60 + w) 6 = 0) ∧
    (∀ w, (k ≤ w ∨ M (60 + w) 1 = 0) → w < 6 → ∀ q, S (60 + w) q = M (60 + w) q) ∧
    (∀ i q, i ≠ 10 → i ≠ 5 → ¬ (30 ≤ i ∧ i < 38) → ¬ (60 ≤ i ∧ i < 66 ∧ 5 ≤ q ∧ q < 9) → S i q = M i q) := by
  intro k
  induction k with
  | zero =>
    intro _ S a h
    rw [zit_0] at h
    obtain ⟨rfl, rfl⟩ := Prod.mk.inj h
    exact ⟨hP, ⟨Int.le_refl _, Int.le_refl _⟩, fun _ _ => rfl, Int.le_refl _, hW, fun w hw => absurd hw (Nat.not_lt_zero w), fun _ _ _ _ => rfl, fun _ _ _ _ _ _ => rfl⟩
  | succ k ih =>
    intro hk S' a' h
    obtain ⟨S, a, hSa⟩ : ∃ S a, zit (bX3_step_102 lt) k (M, 0) = (S, a) := ⟨_, _, rfl⟩
    obtain ⟨a1, a2, a3, a4, a5, a6, a7, a8⟩ := ih (by omega) S a hSa
    rw [zit_s, hSa, e_b102] at h
    have hk1 : S (60 + k) 1 = M (60 + k) 1 := a8 _ _ (by omega) (by omega) (by omega) (by omega)
    rw [hk1] at h
    by_cases hp : M (60 + k) 1 = 0
    · rw [if_pos hp] at h
      obtain ⟨rfl, rfl⟩ := Prod.mk.inj h
      refine ⟨a1, ⟨a2.1, by omega⟩, a3, a4, a5, fun w hw hw1 => ?_, fun w hw hw6 q => ?_, a8⟩
      · have : w ≠ k := fun e => hw1 (e ▸ hp)
        exact a6 w (by omega) hw1
      · by_cases e : w = k
        · subst e
          exact a7 w (Or.inl (Nat.le_refl _)) hw6 q
        · exact a7 w (by rcases hw with h9 | h9; exact Or.inl (by omega); exact Or.inr h9) hw6 q
    · rw [if_neg hp] at h
      obtain ⟨rfl, rfl⟩ := Prod.mk.inj h
      obtain ⟨g1, g2, g3, g4, g5⟩ := a5 k (by omega)
      obtain ⟨b1, b2, b3, b4, b5, b6, b7, b8, b9, b10⟩ := q_inj n hn S k lt (by omega) a1 g1 g3
      have hold : zWd t S k := (hD k (by omega) hp).of (fun q _ => a7 k (Or.inl (Nat.le_refl _)) (by omega) q)
      have hval : S (60 + k) 2 = M (60 + k) 2 := a7 k (Or.inl (Nat.le_refl _)) (by omega) 2
      have hadd : (a + rX3_inject S k lt).toInt = a.toInt + (rX3_inject S k lt).toInt := fb_addI (by omega) (by omega)
      refine ⟨b1, by rw [hadd]; omega, fun q hq => (b3 q hq).trans (a3 q hq), by omega, fun w hw => ?_, fun w hw hw1 => ?_, fun w hw hw6 q => ?_, fun i q h1 h2 h3 h4 => ?_⟩
      · exact (a5 w hw).of (fun q _ => b10 _ _ (by omega) (by omega) (by omega) (by omega))
      · by_cases e : w = k
        · subst e
          obtain ⟨d1, d2, d3, d4, d5, d6⟩ := hold
          have e8 : ((fX3_inject S w lt) (60 + w) 8).toInt = (S (60 + w) 8).toInt + ((fX3_inject S w lt) (60 + w) 5).toInt := by
            rw [b9, fb_addI (by omega) (by omega)]
          have e6 : ((fX3_inject S w lt) (60 + w) 6).toInt = 0 := by rw [b6, Int32.toInt_zero]
          refine ⟨⟨b5.1, by omega, by omega, b8, by omega, by omega⟩, by rw [← hval]; exact b7, b6⟩
        · obtain ⟨c1, c2, c3⟩ := a6 w (by omega) hw1
          refine ⟨c1.of (fun q _ => b10 _ _ (by omega) (by omega) (by omega) (by omega)), ?_, ?_⟩
          · rw [iv_of (b10 (60 + w) 5 (by omega) (by omega) (by omega) (by omega))]
            exact c2
          · rw [b10 (60 + w) 6 (by omega) (by omega) (by omega) (by omega)]
            exact c3
      · have hne : w ≠ k := by
          intro e
          subst e
          rcases hw with h9 | h9
          · omega
          · exact hp h9
        rw [b10 _ _ (by omega) (by omega) (by omega) (by omega), a7 w (by rcases hw with h9 | h9; exact Or.inl (by omega); exact Or.inr h9) hw6 q]
      · rw [b10 i q h1 h2 h3 (by omega), a8 i q h1 h2 h3 h4]
theorem q_springs (n : Nat) (hn : n ≤ 8) (M : zM) (hP : zPh n M) (ns : Nat) (hns : ns ≤ 3) (hS : ∀ s, s < ns → zSp n M s) (hsum : zS (fun s => (M (70 + s) 5).toInt) ns = (M 13 0).toInt) : ∀ k, k ≤ ns →
    zPh n (zit bX3_step_160 k M) ∧ (∀ q, q < 4 → q ≠ 1 → zTot n q (zit bX3_step_160 k M) = zTot n q M) ∧ (∀ s, s < ns → zSp n (zit bX3_step_160 k M) s) ∧ zS (fun s => ((zit bX3_step_160 k M) (70 + s) 5).toInt) ns = ((zit bX3_step_160 k M) 13 0).toInt ∧
    (∀ i q, i ≠ 10 → i ≠ 13 → ¬ (30 ≤ i ∧ i < 38) → ¬ (70 ≤ i ∧ i < 73 ∧ 3 ≤ q ∧ q < 7) → zit bX3_step_160 k M i q = M i q) := by
  intro k
  induction k with
  | zero =>
    intro _
    rw [zit_0]
    exact ⟨hP, fun _ _ _ => rfl, hS, hsum, fun _ _ _ _ _ _ => rfl⟩
  | succ k ih =>
    intro hk
    obtain ⟨a1, a2, a3, a4, a5⟩ := ih (by omega)
    rw [zit_s]
    generalize zit bX3_step_160 k M = S at a1 a2 a3 a4 a5 ⊢
    rw [show bX3_step_160 k S = fX3_letFlow S k from rfl]
    obtain ⟨g1, g2, g3, g4, g5, g6⟩ := a3 k (by omega)
    obtain ⟨b1, b2, b3, b4, b5, b6, b7⟩ := q_spr n hn S k (by omega) a1 g1 g2 g3
    have hle := zS_le (f := fun s => (S (70 + s) 5).toInt) (n := ns) (b := k) (by omega) (fun s hs => by have h1 := (a3 s hs).2.2.2; show 0 ≤ (S (70 + s) 5).toInt; omega)
    have h13 := (a1.S (q := 0) (by decide)).2.2.2 (by decide)
    have h12 := (a1.S (q := 0) (by decide))
    have hz : zB 0 = 10000 := rfl
    have e5 : ((fX3_letFlow S k) (70 + k) 5).toInt = (S (70 + k) 5).toInt + ((fX3_letFlow S k) (70 + k) 3).toInt := by
      rw [b5, fb_addI (by omega) (by omega)]
    refine ⟨b1, fun q hq h1 => (b2 q hq h1).trans (a2 q hq h1), fun s hs => ?_, ?_, fun i q h1 h2 h3 h4 => ?_⟩
    · by_cases e : s = k
      · subst e
        unfold zSp
        rw [b7 (70 + s) 0 (by omega) (by omega) (by omega) (by omega), b7 (70 + s) 1 (by omega) (by omega) (by omega) (by omega), b7 (70 + s) 2 (by omega) (by omega) (by omega) (by omega)]
        exact ⟨g1, g2, g3, b3.1, b4, by omega⟩
      · exact (a3 s hs).of (fun q _ => b7 _ _ (by omega) (by omega) (by omega) (by omega))
    · have h1 := zS_upd (f := fun s => (S (70 + s) 5).toInt) (g := fun s => ((fX3_letFlow S k) (70 + s) 5).toInt) (n := ns) (b := k) (by omega) (fun s hs hne => iv_of (b7 _ _ (by omega) (by omega) (by omega) (by omega)))
      omega
    · rw [b7 i q h1 h2 h3 (by omega), a5 i q h1 h2 h3 h4]
theorem q_shareOut (M : zM) : ∀ i k, i ≠ 8 → fX3_shareOut M i k = M i k := by
  intro i k hi
  obtain ⟨x1, e1, x2, e2, x3, e3, x4, e4, x5, e5, x6, e6, x7, e7, x8, e8, x10, e10, x12, e12, x13, e13, M14, e14, x15, e15, x16, e16, x17, e17, M18, e18, eM⟩ := e_X3_shareOut M
  rw [eM, e18, zu, if_neg (by omega), e14, zu, if_neg (by omega)]
theorem q_pay (M : zM) : ∀ i k, i ≠ 8 → fX3_payForLacks M i k = M i k := by
  intro i k hi
  show zit bX3_payForLacks_2 (zc13 M) M i k = M i k
  generalize zc13 M = n
  induction n with
  | zero => rw [zit_0]
  | succ n ih =>
    rw [zit_s]
    generalize zit bX3_payForLacks_2 n M = S at ih ⊢
    rw [← ih]
    unfold bX3_payForLacks_2
    rw [zu, if_neg (by omega), zu, if_neg (by omega)]
