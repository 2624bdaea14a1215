/-! ===== what the law's looks see of a field whose invariant holds ===== -/
theorem q_ob {M N : zM} {x : Int32} {k : Nat} (hx : x = nI k) (hk : k < 8) : rX8_ofBlock M N x 0 = M (30 + k) 0 ∧ rX8_ofBlock M N x 3 = M (30 + k) 3 ∧ rX8_ofBlock M N x 5 = rX0_warmth M k := by
  subst hx
  have h := nI_clamp (n := k) (by omega)
  refine ⟨?_, ?_, ?_⟩
  · unfold rX8_ofBlock rX6_part
    rw [h]
    rfl
  · unfold rX8_ofBlock rX6_part
    rw [h]
    rfl
  · unfold rX8_ofBlock
    rw [h]
    rfl
theorem q_ob_nn {n : Nat} {t : Int} {M N : zM} {x y : Int32} {k w : Nat} (hI : zInv n t M) (hx : x = nI k) (hk : k < n) (hy : y = nI w) (hw : w < 6) : (0 : Int32) ≤ rX8_ofBlock M N x y := by
  obtain ⟨-, hn, hP, -⟩ := hI
  subst hx hy
  have h := nI_clamp (n := k) (by omega)
  have hb := hP.bk hk
  rw [Int32.le_iff_toInt_le, Int32.toInt_zero]
  have h4 := (q_press_b M k hb.1 hb.2.1).1
  have h5 := hb.warm_b.1
  have hp := hP.2.1 k hk
  rcases (show w = 0 ∨ w = 1 ∨ w = 2 ∨ w = 3 ∨ w = 4 ∨ w = 5 by omega) with e | e | e | e | e | e <;> subst e <;> unfold rX8_ofBlock rX6_part <;> rw [h]
  · exact hp 0 (by decide)
  · exact hp 1 (by decide)
  · exact hp 2 (by decide)
  · exact hp 3 (by decide)
  · exact h4
  · exact h5
theorem q_ow {M N : zM} {x : Int32} {k : Nat} (hx : x = nI k) (hk : k < 6) : rX8_ofWell M N x 0 = M (60 + k) 0 ∧ rX8_ofWell M N x 1 = (if M (60 + k) 1 = 0 then 0 else 1) ∧ rX8_ofWell M N x 2 = M (60 + k) 2 ∧ rX8_ofWell M N x 3 = M (60 + k) 3 ∧ rX8_ofWell M N x 4 = M (60 + k) 4 ∧ rX8_ofWell M N x 5 = M (60 + k) 5 ∧ rX8_ofWell M N x 6 = M (60 + k) 6 ∧ rX8_ofWell M N x 7 = M (60 + k) 7 ∧ rX8_ofWell M N x 8 = M (60 + k) 8 := by
  subst hx
  have h := nI_clamp (n := k) (by omega)
  unfold rX8_ofWell
  rw [h]
  exact ⟨rfl, rfl, rfl, rfl, rfl, rfl, rfl, rfl, rfl⟩
theorem q_os {M N : zM} {x : Int32} {k : Nat} (hx : x = nI k) (hk : k < 3) : rX8_ofSpring M N x 0 = M (70 + k) 3 ∧ rX8_ofSpring M N x 1 = M (70 + k) 4 ∧ rX8_ofSpring M N x 2 = M (70 + k) 5 ∧ rX8_ofSpring M N x 3 = M (70 + k) 6 := by
  subst hx
  have h := nI_clamp (n := k) (by omega)
  unfold rX8_ofSpring
  rw [h]
  exact ⟨rfl, rfl, rfl, rfl⟩
theorem q_of {M N : zM} {x : Int32} {k : Nat} (hx : x = nI k) (hk : k < 12) : rX8_ofFace M N x 0 = M (40 + k) 2 := by
  subst hx
  have h := nI_clamp (n := k) (by omega)
  unfold rX8_ofFace
  rw [h]
  rfl
theorem q_pd_nn {n : Nat} {t : Int} {M N : zM} {y : Int32} {w : Nat} (hI : zInv n t M) (hy : y = nI w) (hw : w < 4) : (0 : Int32) ≤ rX8_pond M N y := by
  obtain ⟨-, hn, hP, -⟩ := hI
  subst hy
  rw [Int32.le_iff_toInt_le, Int32.toInt_zero]
  have hp := hP.2.2.1
  rcases (show w = 0 ∨ w = 1 ∨ w = 2 ∨ w = 3 by omega) with e | e | e | e <;> subst e
  · exact hp 0 (by decide)
  · exact hp 1 (by decide)
  · exact hp 2 (by decide)
  · exact hp 3 (by decide)
theorem q_ma (M N : zM) : rX8_mass M N 0 = M 11 0 ∧ rX8_mass M N 1 = rX3_inBlocks M 0 ∧ rX8_mass M N 2 = M 5 0 ∧ rX8_mass M N 3 = M 7 3 ∧ rX8_mass M N 6 = M 13 0 := ⟨rfl, rfl, rfl, rfl, rfl⟩
theorem q_mn (M N : zM) : rX8_many M N 0 = M 0 10 ∧ rX8_many M N 1 = M 0 11 ∧ rX8_many M N 2 = M 0 12 ∧ rX8_many M N 3 = M 0 13 ∧ rX8_many M N 5 = rX3_light M ∧ rX8_many M N 6 = rX3_lastShock M ∧ rX8_many M N 7 = (if M 6 1 = 0 then 0 else 1) ∧ rX8_many M N 8 = M 6 0 ∧ rX8_many M N 9 = M 6 2 ∧ rX8_many M N 10 = M 6 3 ∧ rX8_many M N 11 = M 6 5 ∧ rX8_many M N 12 = rX3_lackedEver M := ⟨rfl, rfl, rfl, rfl, rfl, rfl, rfl, rfl, rfl, rfl, rfl, rfl⟩
theorem q_pd (M N : zM) : rX8_pond M N 0 = M 5 0 := rfl
theorem q_inB {n : Nat} {M : zM} (hP : zPh n M) {q : Nat} {a : Int32} (ha : ∀ k, rX6_part M (30 + k) a = M (30 + k) q) (hq : q < 4) : ∀ k, k ≤ n → (zit (bX3_inBlocks_4 M a) k 0).toInt = zS (fun b => (M (30 + b) q).toInt) k := by
  intro k
  induction k with
  | zero => intro _; rw [zit_0]; rfl
  | succ k ih =>
    intro hk
    have ih := ih (by omega)
    rw [zit_s]
    generalize zit (bX3_inBlocks_4 M a) k 0 = st at ih ⊢
    have h1 : zS (fun b => (M (30 + b) q).toInt) (k + 1) ≤ zB q := by
      have h2 := (hP.S hq)
      have h3 : zS (fun b => (M (30 + b) q).toInt) (k + 1) ≤ zS (fun b => (M (30 + b) q).toInt) n := by
        have : ∀ m, k + 1 ≤ m → m ≤ n → zS (fun b => (M (30 + b) q).toInt) (k + 1) ≤ zS (fun b => (M (30 + b) q).toInt) m := by
          intro m
          induction m with
          | zero => intro h; omega
          | succ m ih =>
            intro h4 h5
            rcases Nat.lt_or_ge k m with h6 | h6
            · have h7 := ih (by omega) (by omega)
              have h8 := hP.2.1 m (by omega) q hq
              rw [zS.eq_2 _ m]
              show _ ≤ zS _ m + (M (30 + m) q).toInt
              omega
            · have : m = k := by omega
              subst this
              exact Int.le_refl _
        exact this n hk (Nat.le_refl _)
      omega
    have h2 := zS_nn (f := fun b => (M (30 + b) q).toInt) (n := k) (fun b hb => hP.2.1 b (by omega) q hq)
    have h3 := hP.2.1 k (by omega) q hq
    have h4 := zB_le q
    unfold bX3_inBlocks_4
    dsimp only
    rw [zS] at h1 ⊢
    rw [ha, fb_addI (by rw [ih]; omega) (by rw [ih]; omega), ih]
theorem q_acc {n : Nat} {M : zM} (hP : zPh n M) (hn : zc10 M = n) {q : Nat} {a : Int32} (ha : ∀ i, rX6_part M i a = M i q) (hq : q < 4) (h1 : q ≠ 1) : (rX3_accountedFor M a).toInt = zTot n q M := by
  have hb := q_inB hP (q := q) (a := a) (fun k => ha _) hq n (Nat.le_refl _)
  have hs := hP.S hq
  have hs2 := hs.2.2.2 h1
  have hB := zB_le q
  unfold rX3_accountedFor rX3_inBlocks
  dsimp only
  rw [hn, ha 5, ha 12, ha 13]
  have e1 : (zit (bX3_inBlocks_4 M a) n 0 + M 5 q).toInt = zS (fun b => (M (30 + b) q).toInt) n + (M 5 q).toInt := by rw [fb_addI (by omega) (by omega), hb]
  have e2 : (zit (bX3_inBlocks_4 M a) n 0 + M 5 q + M 12 q).toInt = zS (fun b => (M (30 + b) q).toInt) n + (M 5 q).toInt + (M 12 q).toInt := by rw [fb_addI (by omega) (by omega), e1]
  rw [fb_addI (by omega) (by omega), e2]
  unfold zTot
  rw [if_neg h1]
  omega
theorem q_closed {n : Nat} {t : Int} {M N : zM} (hI : zInv n t M) : rX8_isClosed M N = 1 := by
  obtain ⟨hc, hn, hP, h500, hF, hW, hS, hsum, ⟨hu, hv, ht0, ht2, ht3, hT⟩, -⟩ := hI
  have a0 := q_acc hP hc (q := 0) (a := 0) (fun _ => rfl) (by decide) (by decide)
  have a2 := q_acc hP hc (q := 2) (a := 2) (fun _ => rfl) (by decide) (by decide)
  have a3 := q_acc hP hc (q := 3) (a := 3) (fun _ => rfl) (by decide) (by decide)
  have hTn : 0 ≤ zTot n 0 M := by
    have h2 := (hP.S (q := 0) (by decide))
    have h3 := h2.2.2.2 (by decide)
    unfold zTot
    rw [if_neg (by decide)]
    omega
  have e1 : (M 7 3 + M 7 4).toInt = (M 7 3).toInt + (M 7 4).toInt := fb_addI (by omega) (by omega)
  have e2 : (rX3_accountedFor M 0 + (M 7 3 + M 7 4)).toInt = zTot n 0 M + ((M 7 3).toInt + (M 7 4).toInt) := by rw [fb_addI (by omega) (by omega), a0, e1]
  unfold rX8_isClosed
  dsimp only
  rw [if_neg (not_not_intro (Int32.toInt_inj.mp (by rw [e2]; omega))), if_neg (not_not_intro (Int32.toInt_inj.mp (by rw [a2]; omega))), if_neg (not_not_intro (Int32.toInt_inj.mp (by rw [a3]; omega)))]
theorem q_half {n : Nat} {t : Int} {M : zM} (hI : zInv n t M) : M 7 3 * 2 = M 6 3 := by
  obtain ⟨hc, hn, hP, h500, hF, hW, hS, hsum, ⟨hu, hv, ht0, ht2, ht3, hT⟩, -, -, -, hpow, -⟩ := hI
  have hTn : 0 ≤ zTot n 0 M := by
    have h2 := (hP.S (q := 0) (by decide))
    have h3 := h2.2.2.2 (by decide)
    unfold zTot
    rw [if_neg (by decide)]
    omega
  apply Int32.toInt_inj.mp
  have h2 : (2 : Int32).toInt = 2 := rfl
  rw [fb_mulI (by rw [h2]; omega) (by rw [h2]; omega), h2]
  omega
theorem q_light_le (M : zM) : ¬ (2 : Int32) < rX3_light M := by
  unfold rX3_light
  dsimp only
  split
  · split <;> decide
  · decide
theorem zS_mul_le {f g : Nat → Int} {L : Int} : ∀ {n : Nat}, (∀ b, b < n → L ≤ f b) → (∀ b, b < n → 0 ≤ g b) → L * zS g n ≤ zS (fun b => f b * g b) n
  | 0, _, _ => by rw [zS, zS, Int.mul_zero]; exact Int.le_refl _
  | n + 1, h, hg => by
    have h1 := zS_mul_le (f := f) (g := g) (L := L) (n := n) (fun b hb => h b (by omega)) (fun b hb => hg b (by omega))
    have h2 := Int.mul_le_mul_of_nonneg_right (h n (by omega)) (hg n (by omega))
    rw [zS, zS, Int.mul_add]
    omega
theorem zS_le_mul {f g : Nat → Int} {L : Int} : ∀ {n : Nat}, (∀ b, b < n → f b ≤ L) → (∀ b, b < n → 0 ≤ g b) → zS (fun b => f b * g b) n ≤ L * zS g n
  | 0, _, _ => by rw [zS, zS, Int.mul_zero]; exact Int.le_refl _
  | n + 1, h, hg => by
    have h1 := zS_le_mul (f := f) (g := g) (L := L) (n := n) (fun b hb => h b (by omega)) (fun b hb => hg b (by omega))
    have h2 := Int.mul_le_mul_of_nonneg_right (h n (by omega)) (hg n (by omega))
    rw [zS, zS, Int.mul_add]
    omega
theorem zS_bnd {f : Nat → Int} {A B : Int} : ∀ {n : Nat}, (∀ b, b < n → A ≤ f b ∧ f b ≤ B) → A * (n : Int) ≤ zS f n ∧ zS f n ≤ B * (n : Int)
  | 0, _ => by rw [zS]; simp
  | n + 1, h => by
    have h1 := zS_bnd (f := f) (A := A) (B := B) (n := n) (fun b hb => h b (by omega))
    have h2 := h n (by omega)
    rw [zS, Int.natCast_add, Int.mul_add, Int.mul_add, show ((1 : Nat) : Int) = 1 from rfl, Int.mul_one, Int.mul_one]
    omega
/-- the mean warmth's numbers -/
theorem q_mean {n : Nat} {t : Int} {M : zM} (hI : zInv n t M) (h1 : 1 ≤ n) {S V : Int64} (hS : S.toInt = zS (fun b => (rX0_warmth M b).toInt * (M (20 + b) 1).toInt) n) (hV : V.toInt = zS (fun b => (M (20 + b) 1).toInt) n) : (0 ≤ S.toInt ∧ S.toInt ≤ 9007199254740992) ∧ (0 < V.toInt ∧ V.toInt ≤ 9007199254740992) := by
  obtain ⟨-, hn, hP, -⟩ := hI
  have hv := zS_bnd (f := fun b => (M (20 + b) 1).toInt) (A := 10) (B := 99) (n := n) (fun b hb => (hP.bk hb).1)
  have hs := zS_bnd (f := fun b => (rX0_warmth M b).toInt * (M (20 + b) 1).toInt) (A := 0) (B := 500000 * 99) (n := n) (fun b hb => by
    have k := hP.bk hb
    exact q_mul_b k.warm_b.1 k.warm_u (by have := k.1; omega) k.1.2)
  omega
