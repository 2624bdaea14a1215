/-! ===== a step, and what the questions on the trial answer ===== -/
theorem zR.it {f g : Nat → zM → zM} (hf : ∀ k A B, zR A B → zR (f k A) (g k B)) : ∀ (n : Nat) {A B : zM}, zR A B → zR (zit f n A) (zit g n B)
  | 0, A, B, h => by rw [zit_0, zit_0]; exact h
  | n + 1, A, B, h => by rw [zit_s, zit_s]; exact hf n _ _ (zR.it hf n h)
theorem zR.itp {f g : Nat → zM × Int32 → zM × Int32} (hf : ∀ k A B a, zR A B → zR (f k (A, a)).1 (g k (B, a)).1 ∧ (f k (A, a)).2 = (g k (B, a)).2) : ∀ (n : Nat) {A B : zM} (a : Int32), zR A B → zR (zit f n (A, a)).1 (zit g n (B, a)).1 ∧ (zit f n (A, a)).2 = (zit g n (B, a)).2
  | 0, A, B, a, h => by rw [zit_0, zit_0]; exact ⟨h, rfl⟩
  | n + 1, A, B, a, h => by
    rw [zit_s, zit_s]
    have ih := zR.itp hf n a h
    generalize hp : zit f n (A, a) = p at ih ⊢
    generalize hq : zit g n (B, a) = q at ih ⊢
    obtain ⟨p1, p2⟩ := p
    obtain ⟨q1, q2⟩ := q
    obtain ⟨i1, i2⟩ := ih
    have i2 : p2 = q2 := i2
    subst i2
    exact hf n p1 q1 p2 i1
theorem c_pay {A B : zM} (h : zR A B) : zR (fX3_payForLacks A) (fX3_payForLacks B) := by
  unfold fX3_payForLacks zc13
  rw [h 0 13 (by decide)]
  exact zR.it (fun k A B h => c_payb h k) _ h
theorem c_turn {A B : zM} (h : zR A B) (a0 a1 : Int32) : zR (fX3_turnAll A a0 a1) (fX3_turnAll B a0 a1) := by
  unfold fX3_turnAll zc12
  rw [h 0 12 (by decide)]
  refine zR.it (fun k A B h => ?_) _ h
  unfold bX3_turnAll_2
  dsimp only
  rw [h (60 + k) 1 (by omega)]
  exact h.u _ _ _
set_option maxHeartbeats 2000000 in
theorem c_step {A B : zM} (h : zR A B) : zR (fX3_step A) (fX3_step B) := by
  obtain ⟨x1, e1, x2, e2, M3, e3, x4, e4, M8, e8, M17, e17, a18, e18, M28, e28, M29, e29, M30, e30, M34, e34, a35, e35, x45, e45, x46, e46, M47, e47, M51, e51, M57, e57, M58, e58, eM⟩ := e_X3_step A
  obtain ⟨y1, d1, y2, d2, N3, d3, y4, d4, N8, d8, N17, d17, b18, d18, N28, d28, N29, d29, N30, d30, N34, d34, b35, d35, y45, d45, y46, d46, N47, d47, N51, d51, N57, d57, N58, d58, dM⟩ := e_X3_step B
  rw [eM, dM]
  have z11 : zc11 B = zc11 A := by unfold zc11; rw [h 0 11 (by decide)]
  have z12 : zc12 B = zc12 A := by unfold zc12; rw [h 0 12 (by decide)]
  have z13 : zc13 B = zc13 A := by unfold zc13; rw [h 0 13 (by decide)]
  rw [z11] at d8
  rw [z12] at d17 d18 d34 d35
  rw [z13] at d51
  have q1 : y1 = x1 := d1.trans ((h _ _ (by decide)).symm.trans e1.symm)
  subst q1
  have q2 : y2 = x2 := by rw [d2, e2]
  subst q2
  have r3 : zR M3 N3 := by rw [e3, d3]; exact h.u _ _ _
  have q4 : y4 = x4 := d4.trans ((c_light r3).symm.trans e4.symm)
  subst q4
  have r8 : zR M8 N8 := by rw [e8, d8]; exact zR.it (fun k A B h => c_flow h k) _ r3
  have pr := zR.itp (f := bX3_step_45) (g := bX3_step_45) (fun k A B a h => by
    rw [e_b45, e_b45, h (60 + k) 1 (by omega)]
    by_cases c : B (60 + k) 1 = 0
    · rw [if_pos c, if_pos c]
      obtain ⟨p1, p2⟩ := c_prod h k
      exact ⟨p1, by show a + _ = a + _; rw [p2]⟩
    · rw [if_neg c, if_neg c]
      exact ⟨h, rfl⟩) (zc12 A) 0 r8
  rw [← e17, ← d17, ← e18, ← d18] at pr
  obtain ⟨r17, q18⟩ := pr
  subst q18
  have r28 : zR M28 N28 := by rw [e28, d28]; exact c_drive r17 _
  have r29 : zR M29 N29 := by rw [e29, d29]; exact c_town r28
  have r30 : zR M30 N30 := by rw [e30, d30]; exact c_spill r29
  have pi := zR.itp (f := bX3_step_102 y4) (g := bX3_step_102 y4) (fun k A B a h => by
    rw [e_b102, e_b102, h (60 + k) 1 (by omega)]
    by_cases c : B (60 + k) 1 = 0
    · rw [if_pos c, if_pos c]
      exact ⟨h, rfl⟩
    · rw [if_neg c, if_neg c]
      obtain ⟨p1, p2⟩ := c_inj h k y4
      exact ⟨p1, by show a + _ = a + _; rw [p2]⟩) (zc12 A) 0 r30
  rw [← e34, ← d34, ← e35, ← d35] at pi
  obtain ⟨r34, q35⟩ := pi
  subst q35
  have q45 : y45 = x45 := d45.trans ((r34 _ _ (by decide)).symm.trans e45.symm)
  subst q45
  have q46 : y46 = x46 := by rw [d46, e46]
  subst q46
  have r47 : zR M47 N47 := by rw [e47, d47]; exact r34.u _ _ _
  have r51 : zR M51 N51 := by rw [e51, d51]; exact zR.it (fun k A B h => c_let h k) _ r47
  have r57 : zR M57 N57 := by rw [e57, d57]; exact c_shareOut r51
  rw [e58, d58]
  exact c_pay r57
theorem c_power {A B : zM} (h : zR A B) (a0 : Int32) : zR (fX8_powerIn A a0) (fX8_powerIn B a0) ∧ rX8_powerIn A a0 = rX8_powerIn B a0 := by
  obtain ⟨x1, e1, M5, e5, x10, e10, x11, e11, eF, eR⟩ := e_X8_powerIn A a0
  obtain ⟨y1, d1, N5, d5, y10, d10, y11, d11, dF, dR⟩ := e_X8_powerIn B a0
  have q1 : y1 = x1 := d1.trans ((h _ _ (by decide)).symm.trans e1.symm)
  subst q1
  have r5 : zR M5 N5 := by rw [e5, d5]; exact zR.it (fun k A B h => c_step h) _ h
  have q10 : y10 = x10 := d10.trans ((r5 _ _ (by decide)).symm.trans e10.symm)
  subst q10
  exact ⟨by rw [eF, dF]; exact r5, by rw [eR, dR, e11, d11]⟩
theorem c_copy (N N' M : zM) : zR (fX3_copyTo N M) (fX3_copyTo N' M) := fun i k hi => (if_neg hi).trans (if_neg hi).symm
theorem k_would (M N N' : zM) (a0 : Int32) : rX8_wouldGiveQ M N a0 = rX8_wouldGiveQ M N' a0 := (c_power (c_copy N N' M) a0).2
theorem k_caused (M N N' : zM) (a0 a1 a2 : Int32) : rX8_causedByQ M N a0 a1 a2 = rX8_causedByQ M N' a0 a1 a2 := by
  unfold rX8_causedByQ
  dsimp only
  have p1 := (c_power (c_copy N N' M) a2).1
  have p2 := (c_power ((c_copy (fX8_powerIn (fX3_copyTo N M) a2) (fX8_powerIn (fX3_copyTo N' M) a2) M).u (60 + a1.toNatClampNeg) 2 0) a2).1
  rw [p1 (70 + a0.toNatClampNeg) 5 (by omega), p2 (70 + a0.toNatClampNeg) 5 (by omega)]
theorem zit2 {α : Type} {f : Nat → zM × α → zM × α} (hf : ∀ k A B y, (f k (A, y)).2 = (f k (B, y)).2) : ∀ (n : Nat) (A B : zM) (y : α), (zit f n (A, y)).2 = (zit f n (B, y)).2
  | 0, A, B, y => by rw [zit_0, zit_0]
  | n + 1, A, B, y => by
    rw [zit_s, zit_s]
    have ih := zit2 hf n A B y
    generalize zit f n (A, y) = p at ih ⊢
    generalize zit f n (B, y) = q at ih ⊢
    obtain ⟨p1, p2⟩ := p
    obtain ⟨q1, q2⟩ := q
    have ih : p2 = q2 := ih
    subst ih
    exact hf n p1 q1 p2
theorem k_best (M N N' : zM) (a0 : Int32) : rX8_bestValvesQ M N a0 = rX8_bestValvesQ M N' a0 := by
  have hi : ∀ (x1 i3 : Int32) (k : Nat) (A B : zM) (y : Int32 × Int32), (bX8_bestValvesQ_33 M a0 x1 i3 k (A, y)).2 = (bX8_bestValvesQ_33 M a0 x1 i3 k (B, y)).2 := fun x1 i3 k A B y => by
    have p := c_power (c_turn (c_copy A B M) i3 (nI (3 * k))) a0
    have l := c_lacked p.1
    unfold bX8_bestValvesQ_33
    dsimp only
    rw [p.2, l]
  have ho : ∀ (x1 : Int32) (k : Nat) (A B : zM) (y : Int32 × Int32), (bX8_bestValvesQ_23 M a0 x1 k (A, y)).2 = (bX8_bestValvesQ_23 M a0 x1 k (B, y)).2 := fun x1 k A B y => by
    have := zit2 (hi x1 (nI (3 * k))) 4 A B y
    exact Prod.ext (congrArg Prod.fst this) (congrArg Prod.snd this)
  exact congrArg Prod.fst (zit2 (ho (rX3_lackedEver M)) 4 N N' ((-1), 0))
theorem c_wh {c : zM × Int32 → Bool} {f : zM × Int32 → zM × Int32} (hc : ∀ A B a, zR A B → c (A, a) = c (B, a)) (hf : ∀ A B a, zR A B → zR (f (A, a)).1 (f (B, a)).1 ∧ (f (A, a)).2 = (f (B, a)).2) : ∀ (n : Nat) (A B : zM) (a : Int32), zR A B → zR (zwh c f n (A, a)).1 (zwh c f n (B, a)).1 ∧ (zwh c f n (A, a)).2 = (zwh c f n (B, a)).2
  | 0, A, B, a, h => by rw [zwh_0, zwh_0]; exact ⟨h, rfl⟩
  | n + 1, A, B, a, h => by
    have e := hc A B a h
    cases h1 : c (A, a) with
    | true =>
      rw [zwh_t _ _ _ _ h1, zwh_t _ _ _ _ (by rw [← e]; exact h1)]
      exact ⟨h, rfl⟩
    | false =>
      have h2 : c (B, a) = false := by rw [← e]; exact h1
      rw [zwh_f c f (n + 1) (A, a) h1 (Nat.succ_pos n), zwh_f c f (n + 1) (B, a) h2 (Nat.succ_pos n), Nat.add_sub_cancel]
      have g := hf A B a h
      generalize f (A, a) = p at g ⊢
      generalize f (B, a) = q at g ⊢
      obtain ⟨p1, p2⟩ := p
      obtain ⟨q1, q2⟩ := q
      obtain ⟨g1, g2⟩ := g
      have g2 : p2 = q2 := g2
      subst g2
      exact c_wh hc hf n p1 q1 p2 g1
theorem k_cold (M N N' : zM) (a0 a1 : Int32) : rX8_coldInQ M N a0 a1 = rX8_coldInQ M N' a0 a1 := by
  have h := c_copy N N' M
  have e := h (60 + a0.toNatClampNeg) 0 (by omega)
  have w := c_wh (c := fun st : zM × Int32 => decide (rX0_warmth st.1 (fX3_copyTo N' M (60 + a0.toNatClampNeg) 0).toNatClampNeg ≤ a1)) (f := fun st : zM × Int32 => (fX3_step st.1, st.2 + 1)) (fun A B a h => by
    show decide (rX0_warmth A _ ≤ a1) = decide (rX0_warmth B _ ≤ a1)
    rw [c_warm h]) (fun A B a h => ⟨c_step h, rfl⟩) 30 _ _ 0 h
  have v := c_warm w.1 (fX3_copyTo N' M (60 + a0.toNatClampNeg) 0).toNatClampNeg
  unfold rX8_coldInQ
  dsimp only
  rw [e, w.2, v]
theorem k_dig (M N N' : zM) : rX8_digestQ M N = rX8_digestQ M N' := by
  have h83 : ∀ (k : Nat) (A B : zM) (y : Int64), (bX8_digestQ_83 M k (A, y)).2 = (bX8_digestQ_83 M k (B, y)).2 := fun k A B y => by
    have e : bX8_digestQ_97 M (nI k) A = bX8_digestQ_97 M (nI k) B := rfl
    unfold bX8_digestQ_83
    dsimp only
    rw [e, k_cold M A B]
  have h239 : ∀ (i : Int32) (k : Nat) (A B : zM) (y : Int64), (bX8_digestQ_239 M i k (A, y)).2 = (bX8_digestQ_239 M i k (B, y)).2 := fun i k A B y => by
    unfold bX8_digestQ_239
    dsimp only
    rw [k_caused M A B]
  have h195 : ∀ (k : Nat) (A B : zM) (y : Int64), (bX8_digestQ_195 M k (A, y)).2 = (bX8_digestQ_195 M k (B, y)).2 := fun k A B y => by
    have e : bX8_digestQ_209 M (nI k) A = bX8_digestQ_209 M (nI k) B := rfl
    unfold bX8_digestQ_195
    dsimp only
    rw [e]
    exact zit2 (h239 (nI k)) _ _ _ _
  have e6 : bX8_digestQ_6 M N = bX8_digestQ_6 M N' := rfl
  have e33 : bX8_digestQ_33 M N = bX8_digestQ_33 M N' := rfl
  have E83 := fun y => zit2 h83 (zc12 M) N N' y
  have E195 := fun A B y => zit2 h195 (zc13 M) A B y
  have e148 : ∀ A B : zM, bX8_digestQ_148 M A = bX8_digestQ_148 M B := fun A B => rfl
  have e281 : ∀ A B : zM, bX8_digestQ_281 M A = bX8_digestQ_281 M B := fun A B => rfl
  have e307 : ∀ A B : zM, bX8_digestQ_307 M A = bX8_digestQ_307 M B := fun A B => rfl
  have e350 : ∀ A B : zM, bX8_digestQ_350 M A = bX8_digestQ_350 M B := fun A B => rfl
  have eC : ∀ A B : zM, rX8_isClosed M A = rX8_isClosed M B := fun A B => rfl
  unfold rX8_digestQ
  dsimp only
  rw [e6, e33]
  generalize zit (bX8_digestQ_33 M N') (zc10 M) (zit (bX8_digestQ_6 M N') 13 58177) = y15
  have q35 := E83 y15
  generalize zit (bX8_digestQ_83 M) (zc12 M) (N, y15) = p34 at q35 ⊢
  generalize zit (bX8_digestQ_83 M) (zc12 M) (N', y15) = q34 at q35 ⊢
  obtain ⟨A34, y35⟩ := p34
  obtain ⟨B34, z35⟩ := q34
  have q35 : y35 = z35 := q35
  subst q35
  dsimp only
  rw [e148 A34 B34]
  generalize zit (bX8_digestQ_148 M B34) (zc11 M) y35 = y59
  have q76 := E195 A34 B34 y59
  generalize zit (bX8_digestQ_195 M) (zc13 M) (A34, y59) = p75 at q76 ⊢
  generalize zit (bX8_digestQ_195 M) (zc13 M) (B34, y59) = q75 at q76 ⊢
  obtain ⟨A75, y76⟩ := p75
  obtain ⟨B75, z76⟩ := q75
  have q76 : y76 = z76 := q76
  subst q76
  dsimp only
  rw [e281 A75 B75, e307 A75 B75, e350 A75 B75, eC A75 B75, k_would M A75 B75, k_best M (gX8_wouldGiveQ M A75 4) (gX8_wouldGiveQ M B75 4)]
