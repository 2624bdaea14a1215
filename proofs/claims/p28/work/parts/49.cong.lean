/-! ===== what a land does is free of its load ===== -/
def zR (A B : zM) : Prop := ∀ i k, i ≠ 10 → A i k = B i k
def zR2 (A B : zM) : Prop := zR A B ∧ ∀ k, k < 4 → A 10 k = B 10 k
theorem zR.rf {A : zM} : zR A A := fun _ _ _ => rfl
theorem zR.tr {A B C : zM} (h : zR A B) (h2 : zR B C) : zR A C := fun i k hi => (h i k hi).trans (h2 i k hi)
theorem zR.sy {A B : zM} (h : zR A B) : zR B A := fun i k hi => (h i k hi).symm
theorem zR.u {A B : zM} (h : zR A B) (i k : Nat) (v : Int32) : zR (zu A i k v) (zu B i k v) := fun a q ha => by
  by_cases c : a = i ∧ q = k
  · obtain ⟨rfl, rfl⟩ := c
    rw [zu_self, zu_self]
  · rw [zu, if_neg c, zu, if_neg c]
    exact h a q ha
theorem zR2.u {A B : zM} (h : zR2 A B) (i k : Nat) (v : Int32) : zR2 (zu A i k v) (zu B i k v) := ⟨h.1.u i k v, fun q hq => by
  by_cases c : 10 = i ∧ q = k
  · obtain ⟨rfl, rfl⟩ := c
    rw [zu_self, zu_self]
  · rw [zu, if_neg c, zu, if_neg c]
    exact h.2 q hq⟩
theorem zR2.at {A B : zM} (h : zR2 A B) {j q : Nat} (hq : q < 4) : A j q = B j q := by
  by_cases c : j = 10
  · subst c; exact h.2 q hq
  · exact h.1 j q c
theorem q_rem_hi (M : zM) (i j : Nat) {a k : Nat} (hk : 4 ≤ k) : fX6_remove M i j a k = M a k := by
  simp (disch := omega) only [fX6_remove, zu_fd]
theorem c_add {A B : zM} (h : zR2 A B) {i : Nat} (hi : i ≠ 10) : zR2 (fX6_add A i 10) (fX6_add B i 10) := by
  obtain ⟨a1, a2⟩ := q_add A (i := i) (j := 10) hi
  obtain ⟨b1, b2⟩ := q_add B (i := i) (j := 10) hi
  refine ⟨fun a k ha => ?_, fun k hk => by rw [a2 10 k (Ne.symm hi), b2 10 k (Ne.symm hi)]; exact h.2 k hk⟩
  by_cases c : a = i
  · subst c
    rcases Nat.lt_or_ge k 4 with hk | hk
    · rw [a1 k hk, b1 k hk, h.1 a k ha, h.2 k hk]
    · rw [q_add_hi A a 10 hk, q_add_hi B a 10 hk]; exact h.1 a k ha
  · rw [a2 a k c, b2 a k c]; exact h.1 a k ha
theorem c_rem {A B : zM} (h : zR2 A B) {i : Nat} (hi : i ≠ 10) : zR2 (fX6_remove A i 10) (fX6_remove B i 10) := by
  obtain ⟨a1, a2⟩ := q_rem A (i := i) (j := 10) hi
  obtain ⟨b1, b2⟩ := q_rem B (i := i) (j := 10) hi
  refine ⟨fun a k ha => ?_, fun k hk => by rw [a2 10 k (Ne.symm hi), b2 10 k (Ne.symm hi)]; exact h.2 k hk⟩
  by_cases c : a = i
  · subst c
    rcases Nat.lt_or_ge k 4 with hk | hk
    · rw [a1 k hk, b1 k hk, h.1 a k ha, h.2 k hk]
    · rw [q_rem_hi A a 10 hk, q_rem_hi B a 10 hk]; exact h.1 a k ha
  · rw [a2 a k c, b2 a k c]; exact h.1 a k ha
theorem c_press {A B : zM} (h : zR A B) (b : Nat) : rX0_pressure A b = rX0_pressure B b := by
  unfold rX0_pressure
  rw [h (20 + b) 1 (by omega), h (30 + b) 0 (by omega)]
theorem c_warm {A B : zM} (h : zR A B) (b : Nat) : rX0_warmth A b = rX0_warmth B b := by
  unfold rX0_warmth
  rw [h (20 + b) 1 (by omega), h (30 + b) 0 (by omega), h (30 + b) 1 (by omega)]
theorem c_part {A B : zM} (h : zR A B) {i : Nat} (hi : i ≠ 10) (a0 a1 : Int32) : rX6_shareOf A i a0 a1 = rX6_shareOf B i a0 a1 := by
  unfold rX6_shareOf
  rw [h i 0 hi]
theorem c_light {A B : zM} (h : zR A B) : rX3_light A = rX3_light B := q_light (fun k => h 9 k (by decide))
theorem c_share {A B : zM} (h : zR A B) (a0 : Int32) : rX3_shareOf A a0 = rX3_shareOf B a0 := by
  have e : bX3_shareOf_4 A a0 = bX3_shareOf_4 B a0 := by
    funext k st
    unfold bX3_shareOf_4
    rw [h (20 + k) 2 (by omega), h (20 + k) 1 (by omega)]
  unfold rX3_shareOf zc10
  rw [e, h 0 10 (by decide)]
theorem c_lacked {A B : zM} (h : zR A B) : rX3_lackedEver A = rX3_lackedEver B := by
  have e : bX3_lackedEver_4 A = bX3_lackedEver_4 B := by
    funext k st
    unfold bX3_lackedEver_4
    rw [h (70 + k) 6 (by omega)]
  unfold rX3_lackedEver zc13
  rw [e, h 0 13 (by decide)]
theorem c_take {A B : zM} (h : zR A B) (b : Nat) (a0 : Int32) : zR2 (fX0_take A b a0 10) (fX0_take B b a0 10) := by
  obtain ⟨x1, e1, x2, e2, x3, e3, M4, e4, x5, e5, x6, e6, M7, e7, x8, e8, x9, e9, M10, e10, x11, e11, x12, e12, M13, e13, M14, e14, eF⟩ := e_X0_take A b a0 10
  obtain ⟨y1, d1, y2, d2, y3, d3, N4, d4, y5, d5, y6, d6, N7, d7, y8, d8, y9, d9, N10, d10, y11, d11, y12, d12, N13, d13, N14, d14, dF⟩ := e_X0_take B b a0 10
  rw [eF, dF, e14, d14]
  have q1 : y1 = x1 := d1.trans ((h _ _ (by omega)).symm.trans e1.symm)
  subst q1
  have q2 : y2 = x2 := by rw [d2, e2]
  subst q2
  have q3 : y3 = x3 := by rw [d3, e3]
  subst q3
  have r4 : zR M4 N4 := by rw [e4, d4]; exact h.u _ _ _
  have q5 : y5 = x5 := d5.trans ((c_warm r4 _).symm.trans e5.symm)
  subst q5
  have q6 : y6 = x6 := by rw [d6, e6]
  subst q6
  have r7 : zR M7 N7 := by rw [e7, d7]; exact r4.u _ _ _
  have q8 : y8 = x8 := d8.trans ((r7 _ _ (by omega)).symm.trans e8.symm)
  subst q8
  have q9 : y9 = x9 := d9.trans ((c_part r7 (by omega) _ _).symm.trans e9.symm)
  subst q9
  have r10 : zR M10 N10 := by rw [e10, d10]; exact r7.u _ _ _
  have q11 : y11 = x11 := d11.trans ((r10 _ _ (by omega)).symm.trans e11.symm)
  subst q11
  have q12 : y12 = x12 := d12.trans ((c_part r10 (by omega) _ _).symm.trans e12.symm)
  subst q12
  have r13 : zR M13 N13 := by rw [e13, d13]; exact r10.u _ _ _
  refine c_rem ⟨r13, q4 ?_ ?_ ?_ ?_⟩ (by omega)
  · rw [e13, d13, zu, if_neg (by decide), zu, if_neg (by decide), e10, d10, zu, if_neg (by decide), zu, if_neg (by decide), e7, d7, zu, if_neg (by decide), zu, if_neg (by decide), e4, d4, zu_self, zu_self]
  · rw [e13, d13, zu, if_neg (by decide), zu, if_neg (by decide), e10, d10, zu, if_neg (by decide), zu, if_neg (by decide), e7, d7, zu_self, zu_self]
  · rw [e13, d13, zu, if_neg (by decide), zu, if_neg (by decide), e10, d10, zu_self, zu_self]
  · rw [e13, d13, zu_self, zu_self]
theorem c_drain {A B : zM} (h : zR A B) (a0 : Int32) : zR2 (fX3_drain A a0) (fX3_drain B a0) := by
  obtain ⟨M1, e1, x2, e2, x3, e3, M4, e4, x5, e5, x6, e6, M7, e7, x8, e8, x9, e9, M10, e10, M11, e11, eF⟩ := e_X3_drain A a0
  obtain ⟨N1, d1, y2, d2, y3, d3, N4, d4, y5, d5, y6, d6, N7, d7, y8, d8, y9, d9, N10, d10, N11, d11, dF⟩ := e_X3_drain B a0
  rw [eF, dF, e11, d11]
  have r1 : zR M1 N1 := by rw [e1, d1]; exact h.u _ _ _
  have q2 : y2 = x2 := d2.trans ((r1 _ _ (by decide)).symm.trans e2.symm)
  subst q2
  have q3 : y3 = x3 := d3.trans ((c_part r1 (by decide) _ _).symm.trans e3.symm)
  subst q3
  have r4 : zR M4 N4 := by rw [e4, d4]; exact r1.u _ _ _
  have q5 : y5 = x5 := d5.trans ((r4 _ _ (by decide)).symm.trans e5.symm)
  subst q5
  have q6 : y6 = x6 := d6.trans ((c_part r4 (by decide) _ _).symm.trans e6.symm)
  subst q6
  have r7 : zR M7 N7 := by rw [e7, d7]; exact r4.u _ _ _
  have q8 : y8 = x8 := d8.trans ((r7 _ _ (by decide)).symm.trans e8.symm)
  subst q8
  have q9 : y9 = x9 := d9.trans ((c_part r7 (by decide) _ _).symm.trans e9.symm)
  subst q9
  have r10 : zR M10 N10 := by rw [e10, d10]; exact r7.u _ _ _
  refine c_rem ⟨r10, q4 ?_ ?_ ?_ ?_⟩ (by decide)
  · rw [e10, d10, zu, if_neg (by decide), zu, if_neg (by decide), e7, d7, zu, if_neg (by decide), zu, if_neg (by decide), e4, d4, zu, if_neg (by decide), zu, if_neg (by decide), e1, d1, zu_self, zu_self]
  · rw [e10, d10, zu, if_neg (by decide), zu, if_neg (by decide), e7, d7, zu, if_neg (by decide), zu, if_neg (by decide), e4, d4, zu_self, zu_self]
  · rw [e10, d10, zu, if_neg (by decide), zu, if_neg (by decide), e7, d7, zu_self, zu_self]
  · rw [e10, d10, zu_self, zu_self]
theorem c_note {A B : zM} (h : zR2 A B) (v : Nat) (a0 : Int32) : zR2 (fX7_note A v 10 a0) (fX7_note B v 10 a0) := by
  obtain ⟨x1, e1, M2, e2, M3, e3, x4, e4, M5, e5, x6, e6, x7, e7, x8, e8, M9, e9, eF⟩ := e_X7_note A v 10 a0
  obtain ⟨y1, d1, N2, d2, N3, d3, y4, d4, N5, d5, y6, d6, y7, d7, y8, d8, N9, d9, dF⟩ := e_X7_note B v 10 a0
  have q1 : y1 = x1 := d1.trans ((h.2 _ (by decide)).symm.trans e1.symm)
  subst q1
  have r2 : zR2 M2 N2 := by rw [e2, d2]; exact h.u _ _ _
  have r3 : zR2 M3 N3 := by rw [e3, d3]; exact r2.u _ _ _
  have q4 : y4 = x4 := d4.trans ((r3.2 _ (by decide)).symm.trans e4.symm)
  subst q4
  have r5 : zR2 M5 N5 := by rw [e5, d5]; exact r3.u _ _ _
  have q6 : y6 = x6 := d6.trans ((r5.1 _ _ (by omega)).symm.trans e6.symm)
  subst q6
  have q7 : y7 = x7 := d7.trans ((r5.2 _ (by decide)).symm.trans e7.symm)
  subst q7
  have q8 : y8 = x8 := by rw [d8, e8]
  subst q8
  have r9 : zR2 M9 N9 := by rw [e9, d9]; exact r5.u _ _ _
  rw [eF, dF]
  exact r9
theorem c_crust {A B : zM} (h : zR A B) (v : Nat) : zR (fX7_growCrust A v) (fX7_growCrust B v) := by
  obtain ⟨x1, e1, x2, e2, M3, e3, x4, e4, M6, e6, eF⟩ := e_X7_growCrust A v
  obtain ⟨y1, d1, y2, d2, N3, d3, y4, d4, N6, d6, dF⟩ := e_X7_growCrust B v
  have q1 : y1 = x1 := d1.trans ((h _ _ (by omega)).symm.trans e1.symm)
  subst q1
  have q2 : y2 = x2 := by rw [d2, e2]
  subst q2
  have r3 : zR M3 N3 := by rw [e3, d3]; exact h.u _ _ _
  have q4 : y4 = x4 := d4.trans ((r3 _ _ (by omega)).symm.trans e4.symm)
  subst q4
  have r6 : zR M6 N6 := by
    rw [e6, d6]
    by_cases c : y4 < 5
    · rw [if_pos c, if_pos c]; exact r3
    · rw [if_neg c, if_neg c]
      have r7 := r3.u (60 + v) 4 0
      have q7 := r7 (60 + v) 3 (by omega)
      dsimp only
      rw [q7]
      exact r7.u _ _ _
  rw [eF, dF]
  exact r6
theorem c_crust2 {A B : zM} (h : zR2 A B) (v : Nat) : zR2 (fX7_growCrust A v) (fX7_growCrust B v) := by
  obtain ⟨x1, e1, x2, e2, M3, e3, x4, e4, M6, e6, eF⟩ := e_X7_growCrust A v
  obtain ⟨y1, d1, y2, d2, N3, d3, y4, d4, N6, d6, dF⟩ := e_X7_growCrust B v
  have q1 : y1 = x1 := d1.trans ((h.1 _ _ (by omega)).symm.trans e1.symm)
  subst q1
  have q2 : y2 = x2 := by rw [d2, e2]
  subst q2
  have r3 : zR2 M3 N3 := by rw [e3, d3]; exact h.u _ _ _
  have q4 : y4 = x4 := d4.trans ((r3.1 _ _ (by omega)).symm.trans e4.symm)
  subst q4
  have r6 : zR2 M6 N6 := by
    rw [e6, d6]
    by_cases c : y4 < 5
    · rw [if_pos c, if_pos c]; exact r3
    · rw [if_neg c, if_neg c]
      have r7 := r3.u (60 + v) 4 0
      have q7 := r7.1 (60 + v) 3 (by omega)
      dsimp only
      rw [q7]
      exact r7.u _ _ _
  rw [eF, dF]
  exact r6
theorem c_snote {A B : zM} (h : zR A B) (s0 : Nat) (a0 : Int32) : zR (fX5_note A s0 a0) (fX5_note B s0 a0) := by
  obtain ⟨M1, e1, x2, e2, x3, e3, x4, e4, M5, e5, x6, e6, x7, e7, x8, e8, M9, e9, x10, e10, x11, e11, x12, e12, M13, e13, eF⟩ := e_X5_note A s0 a0
  obtain ⟨N1, d1, y2, d2, y3, d3, y4, d4, N5, d5, y6, d6, y7, d7, y8, d8, N9, d9, y10, d10, y11, d11, y12, d12, N13, d13, dF⟩ := e_X5_note B s0 a0
  have r1 : zR M1 N1 := by rw [e1, d1]; exact h.u _ _ _
  have q2 : y2 = x2 := d2.trans ((r1 _ _ (by omega)).symm.trans e2.symm)
  subst q2
  have q3 : y3 = x3 := by rw [d3, e3]
  subst q3
  have q4 : y4 = x4 := by rw [d4, e4]
  subst q4
  have r5 : zR M5 N5 := by rw [e5, d5]; exact r1.u _ _ _
  have q6 : y6 = x6 := d6.trans ((r5 _ _ (by omega)).symm.trans e6.symm)
  subst q6
  have q7 : y7 = x7 := d7.trans ((r5 _ _ (by omega)).symm.trans e7.symm)
  subst q7
  have q8 : y8 = x8 := by rw [d8, e8]
  subst q8
  have r9 : zR M9 N9 := by rw [e9, d9]; exact r5.u _ _ _
  have q10 : y10 = x10 := d10.trans ((r9 _ _ (by omega)).symm.trans e10.symm)
  subst q10
  have q11 : y11 = x11 := d11.trans ((r9 _ _ (by omega)).symm.trans e11.symm)
  subst q11
  have q12 : y12 = x12 := by rw [d12, e12]
  subst q12
  have r13 : zR M13 N13 := by rw [e13, d13]; exact r9.u _ _ _
  rw [eF, dF]
  exact r13
theorem c_drive {A B : zM} (h : zR A B) (a0 : Int32) : zR (fX3_drive A a0) (fX3_drive B a0) := by
  obtain ⟨x1, e1, x3, e3, x5, e5, M6, e6, x7, e7, x8, e8, x9, e9, M10, e10, x11, e11, x12, e12, M13, e13, x14, e14, x15, e15, x16, e16, M17, e17, x18, e18, x19, e19, M21, e21, eF⟩ := e_X3_drive A a0
  obtain ⟨y1, d1, y3, d3, y5, d5, N6, d6, y7, d7, y8, d8, y9, d9, N10, d10, y11, d11, y12, d12, N13, d13, y14, d14, y15, d15, y16, d16, N17, d17, y18, d18, y19, d19, N21, d21, dF⟩ := e_X3_drive B a0
  have q1 : y1 = x1 := d1.trans ((h _ _ (by omega)).symm.trans e1.symm)
  subst q1
  have q3 : y3 = x3 := by rw [d3, e3, h 6 0 (by decide)]
  subst q3
  have q5 : y5 = x5 := by rw [d5, e5]
  subst q5
  have r6 : zR M6 N6 := by rw [e6, d6]; exact h.u _ _ _
  have q7 : y7 = x7 := d7.trans ((r6 _ _ (by omega)).symm.trans e7.symm)
  subst q7
  have q8 : y8 = x8 := d8.trans ((r6 _ _ (by omega)).symm.trans e8.symm)
  subst q8
  have q9 : y9 = x9 := by rw [d9, e9]
  subst q9
  have r10 : zR M10 N10 := by rw [e10, d10]; exact r6.u _ _ _
  have q11 : y11 = x11 := d11.trans ((r10 _ _ (by omega)).symm.trans e11.symm)
  subst q11
  have q12 : y12 = x12 := by rw [d12, e12]
  subst q12
  have r13 : zR M13 N13 := by rw [e13, d13]; exact r10.u _ _ _
  have q14 : y14 = x14 := d14.trans ((r13 _ _ (by omega)).symm.trans e14.symm)
  subst q14
  have q15 : y15 = x15 := by rw [d15, e15]
  subst q15
  have q16 : y16 = x16 := by rw [d16, e16]
  subst q16
  have r17 : zR M17 N17 := by rw [e17, d17]; exact r13.u _ _ _
  have q18 : y18 = x18 := d18.trans ((r17 _ _ (by omega)).symm.trans e18.symm)
  subst q18
  have q19 : y19 = x19 := by rw [d19, e19]
  subst q19
  have r21 : zR M21 N21 := by
    have q22 := r17 6 0 (by decide)
    rw [e21, d21]
    by_cases c : a0 ≤ y19
    · rw [if_pos c, if_pos c]; exact r17
    · rw [if_neg c, if_neg c]
      dsimp only
      rw [q22]
      by_cases c2 : N17 6 0 ≤ 0
      · rw [if_pos c2, if_pos c2]; exact r17
      · rw [if_neg c2, if_neg c2]; exact r17.u _ _ _
  rw [eF, dF]
  exact r21
theorem c_town {A B : zM} (h : zR A B)  : zR (fX3_warmTheTown A) (fX3_warmTheTown B) := by
  obtain ⟨x1, e1, x2, e2, x3, e3, x4, e4, x5, e5, x6, e6, x7, e7, M8, e8, x9, e9, x10, e10, x11, e11, M12, e12, eF⟩ := e_X3_warmTheTown A
  obtain ⟨y1, d1, y2, d2, y3, d3, y4, d4, y5, d5, y6, d6, y7, d7, N8, d8, y9, d9, y10, d10, y11, d11, N12, d12, dF⟩ := e_X3_warmTheTown B
  have q1 : y1 = x1 := d1.trans ((h _ _ (by omega)).symm.trans e1.symm)
  subst q1
  have q2 : y2 = x2 := d2.trans ((h _ _ (by omega)).symm.trans e2.symm)
  subst q2
  have q3 : y3 = x3 := by rw [d3, e3]
  subst q3
  have q4 : y4 = x4 := by rw [d4, e4]
  subst q4
  have q5 : y5 = x5 := by rw [d5, e5]
  subst q5
  have q6 : y6 = x6 := d6.trans ((h _ _ (by omega)).symm.trans e6.symm)
  subst q6
  have q7 : y7 = x7 := by rw [d7, e7]
  subst q7
  have r8 : zR M8 N8 := by rw [e8, d8]; exact h.u _ _ _
  have q9 : y9 = x9 := d9.trans ((r8 _ _ (by omega)).symm.trans e9.symm)
  subst q9
  have q10 : y10 = x10 := d10.trans ((r8 _ _ (by omega)).symm.trans e10.symm)
  subst q10
  have q11 : y11 = x11 := by rw [d11, e11]
  subst q11
  have r12 : zR M12 N12 := by rw [e12, d12]; exact r8.u _ _ _
  rw [eF, dF]
  exact r12
theorem c_spill {A B : zM} (h : zR A B)  : zR (fX3_spill A) (fX3_spill B) := by
  obtain ⟨x1, e1, x2, e2, x3, e3, M4, e4, M5, e5, eF⟩ := e_X3_spill A
  obtain ⟨y1, d1, y2, d2, y3, d3, N4, d4, N5, d5, dF⟩ := e_X3_spill B
  have q1 : y1 = x1 := d1.trans ((h _ _ (by omega)).symm.trans e1.symm)
  subst q1
  have q2 : y2 = x2 := by rw [d2, e2]
  subst q2
  have q3 : y3 = x3 := by rw [d3, e3]
  subst q3
  have r4 : zR2 M4 N4 := by rw [e4, d4]; exact c_drain h _
  have r5 : zR2 M5 N5 := by rw [e5, d5]; exact c_add r4 (by omega)
  rw [eF, dF]
  exact r5.1
theorem c_flow {A B : zM} (h : zR A B) (f : Nat) : zR (fX3_flowThrough A f) (fX3_flowThrough B f) := by
  obtain ⟨x1, e1, x2, e2, x3, e3, x4, e4, x5, e5, u7, e7u, u10, e10u, x12, e12, x13, e13, x14, e14, x15, e15, M16, e16, M17, e17, x19, e19, M21, e21, x22, e22, x23, e23, x24, e24, x25, e25, x26, e26, x27, e27, x28, e28, M29, e29, x30, e30, x31, e31, M32, e32, M34, e34, eF⟩ := e_X3_flowThrough A f
  obtain ⟨y1, d1, y2, d2, y3, d3, y4, d4, y5, d5, w7, d7u, w10, d10u, y12, d12, y13, d13, y14, d14, y15, d15, N16, d16, N17, d17, y19, d19, N21, d21, y22, d22, y23, d23, y24, d24, y25, d25, y26, d26, y27, d27, y28, d28, N29, d29, y30, d30, y31, d31, N32, d32, N34, d34, dF⟩ := e_X3_flowThrough B f
  have q1 : y1 = x1 := d1.trans ((h _ _ (by omega)).symm.trans e1.symm)
  subst q1
  have q2 : y2 = x2 := d2.trans ((h _ _ (by omega)).symm.trans e2.symm)
  subst q2
  have q3 : y3 = x3 := d3.trans ((c_press h _).symm.trans e3.symm)
  subst q3
  have q4 : y4 = x4 := d4.trans ((c_press h _).symm.trans e4.symm)
  subst q4
  have q5 : y5 = x5 := by rw [d5, e5]
  subst q5
  have q7 : w7 = u7 := by rw [d7u, e7u]
  subst q7
  have q10 : w10 = u10 := by rw [d10u, e10u]
  subst q10
  have q12 : y12 = x12 := by rw [d12, e12]
  subst q12
  have q13 : y13 = x13 := d13.trans ((h _ _ (by omega)).symm.trans e13.symm)
  subst q13
  have q14 : y14 = x14 := by rw [d14, e14]
  subst q14
  have q15 : y15 = x15 := by rw [d15, e15]
  subst q15
  have r16 : zR2 M16 N16 := by rw [e16, d16]; exact c_take h _ _
  have r17 : zR2 M17 N17 := by rw [e17, d17]; exact c_add r16 (by omega)
  have q19 : y19 = x19 := by rw [d19, e19, r17.2 0 (by decide)]
  subst q19
  have r21 : zR2 M21 N21 := by rw [e21, d21]; exact r17.u _ _ _
  have q22 : y22 = x22 := d22.trans ((c_warm r21.1 _).symm.trans e22.symm)
  subst q22
  have q23 : y23 = x23 := d23.trans ((c_warm r21.1 _).symm.trans e23.symm)
  subst q23
  have q24 : y24 = x24 := by rw [d24, e24]
  subst q24
  have q25 : y25 = x25 := d25.trans ((r21.1 _ _ (by omega)).symm.trans e25.symm)
  subst q25
  have q26 : y26 = x26 := by rw [d26, e26]
  subst q26
  have q27 : y27 = x27 := d27.trans ((r21.1 _ _ (by omega)).symm.trans e27.symm)
  subst q27
  have q28 : y28 = x28 := by rw [d28, e28]
  subst q28
  have r29 : zR2 M29 N29 := by rw [e29, d29]; exact r21.u _ _ _
  have q30 : y30 = x30 := d30.trans ((r29.1 _ _ (by omega)).symm.trans e30.symm)
  subst q30
  have q31 : y31 = x31 := by rw [d31, e31]
  subst q31
  have r32 : zR2 M32 N32 := by rw [e32, d32]; exact r29.u _ _ _
  have r34 : zR2 M34 N34 := by
    have q34 := r32.1 (40 + f) 2 (by omega)
    rw [e34, d34]
    by_cases c : y12 < 50
    · rw [if_pos c, if_pos c]; exact r32
    · rw [if_neg c, if_neg c]
      dsimp only
      rw [q34]
      exact r32.u _ _ _
  rw [eF, dF]
  exact r34.1
theorem c_prod {A B : zM} (h : zR A B) (v : Nat) : zR (fX3_produce A v) (fX3_produce B v) ∧ rX3_produce A v = rX3_produce B v := by
  obtain ⟨x1, e1, x2, e2, x3, e3, x4, e4, x5, e5, x6, e6, x7, e7, x8, e8, x9, e9, x10, e10, x11, e11, M12, e12, x13, e13, x14, e14, x15, e15, x16, e16, x17, e17, x18, e18, x19, e19, x20, e20, x21, e21, M22, e22, x23, e23, x24, e24, x25, e25, M27, e27, M29, e29, x30, e30, x31, e31, M32, e32, M33, e33, eF, eR⟩ := e_X3_produce A v
  obtain ⟨y1, d1, y2, d2, y3, d3, y4, d4, y5, d5, y6, d6, y7, d7, y8, d8, y9, d9, y10, d10, y11, d11, N12, d12, y13, d13, y14, d14, y15, d15, y16, d16, y17, d17, y18, d18, y19, d19, y20, d20, y21, d21, N22, d22, y23, d23, y24, d24, y25, d25, N27, d27, N29, d29, y30, d30, y31, d31, N32, d32, N33, d33, dF, dR⟩ := e_X3_produce B v
  have q1 : y1 = x1 := d1.trans ((h _ _ (by omega)).symm.trans e1.symm)
  subst q1
  have q2 : y2 = x2 := d2.trans ((c_warm h _).symm.trans e2.symm)
  subst q2
  have q3 : y3 = x3 := d3.trans ((c_press h _).symm.trans e3.symm)
  subst q3
  have q4 : y4 = x4 := by rw [d4, e4]
  subst q4
  have q5 : y5 = x5 := d5.trans ((h _ _ (by omega)).symm.trans e5.symm)
  subst q5
  have q6 : y6 = x6 := by rw [d6, e6]
  subst q6
  have q7 : y7 = x7 := by rw [d7, e7]
  subst q7
  have q8 : y8 = x8 := by rw [d8, e8]
  subst q8
  have q9 : y9 = x9 := d9.trans ((h _ _ (by omega)).symm.trans e9.symm)
  subst q9
  have q10 : y10 = x10 := by rw [d10, e10]
  subst q10
  have q11 : y11 = x11 := by rw [d11, e11]
  subst q11
  have r12 : zR2 M12 N12 := by rw [e12, d12]; exact c_take h _ _
  have q13 : y13 = x13 := d13.trans ((r12.2 _ (by decide)).symm.trans e13.symm)
  subst q13
  have q14 : y14 = x14 := by rw [d14, e14]
  subst q14
  have q15 : y15 = x15 := by rw [d15, e15]
  subst q15
  have q16 : y16 = x16 := by rw [d16, e16]
  subst q16
  have q17 : y17 = x17 := by rw [d17, e17]
  subst q17
  have q18 : y18 = x18 := d18.trans ((r12.2 _ (by decide)).symm.trans e18.symm)
  subst q18
  have q19 : y19 = x19 := by rw [d19, e19]
  subst q19
  have q20 : y20 = x20 := d20.trans ((r12.2 _ (by decide)).symm.trans e20.symm)
  subst q20
  have q21 : y21 = x21 := by rw [d21, e21]
  subst q21
  have r22 : zR2 M22 N22 := by rw [e22, d22]; exact c_note r12 _ _
  have q23 : y23 = x23 := d23.trans ((r22.2 _ (by decide)).symm.trans e23.symm)
  subst q23
  have q24 : y24 = x24 := by rw [d24, e24]
  subst q24
  have q25 : y25 = x25 := by rw [d25, e25]
  subst q25
  have r27 : zR2 M27 N27 := by
    rw [e27, d27]
    by_cases c : y24 ≤ y25
    · rw [if_pos c, if_pos c]; exact r22
    · rw [if_neg c, if_neg c]; exact c_crust2 r22 _
  have r29 : zR2 M29 N29 := by rw [e29, d29]; exact r27.u _ _ _
  have q30 : y30 = x30 := by rw [d30, e30]
  subst q30
  have q31 : y31 = x31 := by rw [d31, e31]
  subst q31
  have r32 : zR2 M32 N32 := by rw [e32, d32]; exact r29.u _ _ _
  have r33 : zR2 M33 N33 := by rw [e33, d33]; exact c_add r32 (by omega)
  exact ⟨by rw [eF, dF]; exact r33.1, by rw [eR, dR]⟩
theorem c_inj {A B : zM} (h : zR A B) (v : Nat) (a0 : Int32) : zR (fX3_inject A v a0) (fX3_inject B v a0) ∧ rX3_inject A v a0 = rX3_inject B v a0 := by
  obtain ⟨x1, e1, x2, e2, x4, e4, x6, e6, x7, e7, M8, e8, x9, e9, x10, e10, M11, e11, M12, e12, x13, e13, x14, e14, x16, e16, eF, eR⟩ := e_X3_inject A v a0
  obtain ⟨y1, d1, y2, d2, y4, d4, y6, d6, y7, d7, N8, d8, y9, d9, y10, d10, N11, d11, N12, d12, y13, d13, y14, d14, y16, d16, dF, dR⟩ := e_X3_inject B v a0
  have q1 : y1 = x1 := d1.trans ((h _ _ (by omega)).symm.trans e1.symm)
  subst q1
  have q2 : y2 = x2 := by rw [d2, e2]
  subst q2
  have q4 : y4 = x4 := by rw [d4, e4]
  subst q4
  have q6 : y6 = x6 := d6.trans ((h _ _ (by omega)).symm.trans e6.symm)
  subst q6
  have q7 : y7 = x7 := by rw [d7, e7]
  subst q7
  have r8 : zR2 M8 N8 := by rw [e8, d8]; exact c_drain h _
  have q9 : y9 = x9 := d9.trans ((r8.1 _ _ (by omega)).symm.trans e9.symm)
  subst q9
  have q10 : y10 = x10 := d10.trans ((c_press r8.1 _).symm.trans e10.symm)
  subst q10
  have r11 : zR2 M11 N11 := by rw [e11, d11]; exact c_add r8 (by omega)
  have r12 : zR2 M12 N12 := by rw [e12, d12]; exact c_note r11 _ _
  have q13 : y13 = x13 := d13.trans ((c_press r12.1 _).symm.trans e13.symm)
  subst q13
  have q14 : y14 = x14 := by rw [d14, e14]
  subst q14
  have q16 : y16 = x16 := by rw [d16, e16]
  subst q16
  exact ⟨by rw [eF, dF]; exact r12.1, by rw [eR, dR]⟩
theorem c_let {A B : zM} (h : zR A B) (s0 : Nat) : zR (fX3_letFlow A s0) (fX3_letFlow B s0) := by
  obtain ⟨x1, e1, x2, e2, x3, e3, x4, e4, x5, e5, x6, e6, M7, e7, M8, e8, x9, e9, M10, e10, eF⟩ := e_X3_letFlow A s0
  obtain ⟨y1, d1, y2, d2, y3, d3, y4, d4, y5, d5, y6, d6, N7, d7, N8, d8, y9, d9, N10, d10, dF⟩ := e_X3_letFlow B s0
  have q1 : y1 = x1 := d1.trans ((h _ _ (by omega)).symm.trans e1.symm)
  subst q1
  have q2 : y2 = x2 := d2.trans ((c_press h _).symm.trans e2.symm)
  subst q2
  have q3 : y3 = x3 := d3.trans ((h _ _ (by omega)).symm.trans e3.symm)
  subst q3
  have q4 : y4 = x4 := by rw [d4, e4]
  subst q4
  have q5 : y5 = x5 := by rw [d5, e5]
  subst q5
  have q6 : y6 = x6 := by rw [d6, e6]
  subst q6
  have r7 : zR2 M7 N7 := by rw [e7, d7]; exact c_take h _ _
  have r8 : zR2 M8 N8 := by rw [e8, d8]; exact c_add r7 (by omega)
  have q9 : y9 = x9 := d9.trans ((r8.2 _ (by decide)).symm.trans e9.symm)
  subst q9
  have r10 : zR M10 N10 := by rw [e10, d10]; exact c_snote r8.1 _ _
  rw [eF, dF]
  exact r10
theorem c_shareOut {A B : zM} (h : zR A B)  : zR (fX3_shareOut A) (fX3_shareOut B) := by
  obtain ⟨x1, e1, x2, e2, x3, e3, x4, e4, x5, e5, x6, e6, x7, e7, x8, e8, x10, e10, x12, e12, x13, e13, M14, e14, x15, e15, x16, e16, x17, e17, M18, e18, eF⟩ := e_X3_shareOut A
  obtain ⟨y1, d1, y2, d2, y3, d3, y4, d4, y5, d5, y6, d6, y7, d7, y8, d8, y10, d10, y12, d12, y13, d13, N14, d14, y15, d15, y16, d16, y17, d17, N18, d18, dF⟩ := e_X3_shareOut B
  have q1 : y1 = x1 := d1.trans ((h _ _ (by omega)).symm.trans e1.symm)
  subst q1
  have q2 : y2 = x2 := by rw [d2, e2]
  subst q2
  have q3 : y3 = x3 := d3.trans ((h _ _ (by omega)).symm.trans e3.symm)
  subst q3
  have q4 : y4 = x4 := by rw [d4, e4]
  subst q4
  have q5 : y5 = x5 := by rw [d5, e5]
  subst q5
  have q6 : y6 = x6 := d6.trans ((c_share h _).symm.trans e6.symm)
  subst q6
  have q7 : y7 = x7 := d7.trans ((c_share h _).symm.trans e7.symm)
  subst q7
  have q8 : y8 = x8 := by rw [d8, e8]
  subst q8
  have q10 : y10 = x10 := by rw [d10, e10]
  subst q10
  have q12 : y12 = x12 := d12.trans ((h _ _ (by omega)).symm.trans e12.symm)
  subst q12
  have q13 : y13 = x13 := by rw [d13, e13]
  subst q13
  have r14 : zR M14 N14 := by rw [e14, d14]; exact h.u _ _ _
  have q15 : y15 = x15 := d15.trans ((r14 _ _ (by omega)).symm.trans e15.symm)
  subst q15
  have q16 : y16 = x16 := by rw [d16, e16]
  subst q16
  have q17 : y17 = x17 := by rw [d17, e17]
  subst q17
  have r18 : zR M18 N18 := by rw [e18, d18]; exact r14.u _ _ _
  rw [eF, dF]
  exact r18
theorem c_payb {A B : zM} (h : zR A B) (k1 : Nat) : zR (bX3_payForLacks_2 k1 A) (bX3_payForLacks_2 k1 B) := by
  obtain ⟨M4, e4, i2, e2i, x6, e6, x8, e8, x9, e9, x10, e10, x11, e11, x12, e12, x13, e13, M14, e14, x15, e15, x16, e16, x17, e17, x18, e18, M19, e19, eF⟩ := e_bX3_payForLacks_2 k1 A
  obtain ⟨N4, d4, j2, d2i, y6, d6, y8, d8, y9, d9, y10, d10, y11, d11, y12, d12, y13, d13, N14, d14, y15, d15, y16, d16, y17, d17, y18, d18, N19, d19, dF⟩ := e_bX3_payForLacks_2 k1 B
  have r4 : zR M4 N4 := by rw [e4, d4]; exact h
  have q2 : j2 = i2 := by rw [d2i, e2i]
  subst q2
  have q6 : y6 = x6 := d6.trans ((r4 _ _ (by omega)).symm.trans e6.symm)
  subst q6
  have q8 : y8 = x8 := d8.trans ((r4 _ _ (by omega)).symm.trans e8.symm)
  subst q8
  have q9 : y9 = x9 := d9.trans ((r4 _ _ (by omega)).symm.trans e9.symm)
  subst q9
  have q10 : y10 = x10 := d10.trans ((r4 _ _ (by omega)).symm.trans e10.symm)
  subst q10
  have q11 : y11 = x11 := d11.trans ((r4 _ _ (by omega)).symm.trans e11.symm)
  subst q11
  have q12 : y12 = x12 := by rw [d12, e12]
  subst q12
  have q13 : y13 = x13 := by rw [d13, e13]
  subst q13
  have r14 : zR M14 N14 := by rw [e14, d14]; exact r4.u _ _ _
  have q15 : y15 = x15 := by rw [d15, e15]
  subst q15
  have q16 : y16 = x16 := d16.trans ((r14 _ _ (by omega)).symm.trans e16.symm)
  subst q16
  have q17 : y17 = x17 := d17.trans ((r14 _ _ (by omega)).symm.trans e17.symm)
  subst q17
  have q18 : y18 = x18 := by rw [d18, e18]
  subst q18
  have r19 : zR M19 N19 := by rw [e19, d19]; exact r14.u _ _ _
  rw [eF, dF]
  exact r19
