/-! ===== tracer, cleaning, steps ===== -/
section LI3
variable {nb nw ns t : Nat} {td si pw nd : Int32} {M : zM}
theorem zLi.nb8 (h : zLi nb nw ns t td si pw nd M) : nb ≤ 8 := h.inv.2.1
theorem zLi.blk (h : zLi nb nw ns t td si pw nd M) {k : Nat} (hk : k < nw) : ∃ b, b < nb ∧ M (60 + k) 0 = nI b := by
  have l6 := h.nw6
  exact ⟨_, (h.well hk).1, (h.ok.wblock (f := k) (by omega)).eq⟩
set_option maxHeartbeats 4000000 in
theorem zLi.trace (h : zLi nb nw ns t td si pw nd M) (N : zM) (ht : t < 70) {k b : Nat} (hk : k < nw) (hbb : b < nb) (hb : M (60 + k) 0 = nI b) {a0 a1 : Int32} (e0 : a0 = nI k) (r1 : 1 ≤ a1.toInt ∧ a1.toInt ≤ 50) (hok : z_Ok (fX8_trace M N a0 a1)) : zLi nb nw ns (t + 1) td si pw nd (fX8_trace M N a0 a1) ∧ rX8_trace M N a0 a1 = fX8_trace M N a0 a1 (30 + b) 3 ∧ fX8_trace M N a0 a1 (60 + k) 0 = nI b := by
  have l6 := h.nw6
  have l8 := h.nb8
  obtain ⟨x1, e1, x2, e2, x3, e3, x5, e5, x6, e6, M7, e7, x8, e8, x9, e9, M10, e10, x11, e11, eF, eR⟩ := e_X8_trace M N a0 a1
  rw [eF] at hok ⊢
  rw [eR]
  clear eF eR
  subst e0
  rw [q_nIn (by omega), hb] at e2
  subst e2
  rw [q_nIn (by omega)] at e5 e7 e11
  have fr : ∀ i q, ¬ (i = 30 + b ∧ q = 3) → ¬ (i = 11 ∧ q = 3) → M10 i q = M i q := fun i q n1 n2 => by
    rw [e10, zu, if_neg n2, e7, zu, if_neg n1]
  have v3 : M10 (30 + b) 3 = M (30 + b) 3 + a1 := by rw [e10, zu, if_neg (by omega), e7, zu_self, e6, e5]
  have v11 : M10 11 3 = M 11 3 + a1 := by rw [e10, zu_self, e9, e8, e7, zu, if_neg (by omega)]
  obtain ⟨-, hinv, h12, h13, htd, hsi, hpw, hnd, htr⟩ := h
  obtain ⟨hc, hn, hP, h500, hF, hW, hS, hsum, ⟨hu, hv, ht0, ht2, ht3, hT⟩, hsz, hrun, hneed, hpow, hlast⟩ := hinv
  obtain ⟨-, -, -, -, bk3⟩ := hP.bk hbb
  have T3 : 0 ≤ zTot nb 3 M := by
    have h2 := (hP.S (q := 3) (by decide))
    have h3 := h2.2.2.2 (by decide)
    unfold zTot
    rw [if_neg (by decide)]
    omega
  have i3 : (M10 (30 + b) 3).toInt = (M (30 + b) 3).toInt + a1.toInt := by rw [v3, fb_addI (by omega) (by omega)]
  have i11 : (M10 11 3).toInt = (M 11 3).toInt + a1.toInt := by rw [v11, fb_addI (by omega) (by omega)]
  have tot : ∀ q, q < 4 → zTot nb q M10 = zTot nb q M + (if q = 3 then a1.toInt else 0) := fun q hq => by
    rw [zTot_one hbb (M := M) (M' := M10) (fun k' hk' hne => fr _ _ (by omega) (by omega)), fr 5 q (by omega) (by omega), fr 12 q (by omega) (by omega), fr 13 q (by omega) (by omega)]
    by_cases e3 : q = 3
    · subst e3; rw [i3, if_neg (by decide), if_pos rfl]; omega
    · rw [fr (30 + b) q (by omega) (by omega), if_neg e3]
      split <;> omega
  have k0 : ∀ q, M10 0 q = M 0 q := fun q => fr _ _ (by omega) (by omega)
  have z10 : zc10 M10 = zc10 M := by unfold zc10; rw [k0]
  have z11 : zc11 M10 = zc11 M := by unfold zc11; rw [k0]
  have z12 : zc12 M10 = zc12 M := by unfold zc12; rw [k0]
  have z13 : zc13 M10 = zc13 M := by unfold zc13; rw [k0]
  have n11 := hok.n11
  have n13 := hok.n13
  rw [z11] at n11
  rw [z13] at n13
  have hP' : zPh nb M10 := by
    refine ⟨fun b' hb' => by rw [fr _ _ (by omega) (by omega)]; exact hP.1 b' hb', fun b' hb' q hq => ?_, fun q hq => by rw [fr _ _ (by omega) (by omega)]; exact hP.2.2.1 q hq, fun q hq h1 => by rw [fr _ _ (by omega) (by omega), fr _ _ (by omega) (by omega)]; exact hP.2.2.2.1 q hq h1, fun q hq => ?_⟩
    · by_cases e : b' = b ∧ q = 3
      · obtain ⟨rfl, rfl⟩ := e
        have := hP.2.1 b' hb' 3 (by decide)
        omega
      · rw [fr _ _ (by omega) (by omega)]; exact hP.2.1 b' hb' q hq
    · rw [tot q hq]
      by_cases e3 : q = 3
      · subst e3
        have : zB 3 = 5000 := rfl
        rw [if_pos rfl]
        omega
      · rw [if_neg e3]; have := hP.2.2.2.2 q hq; omega
  refine ⟨⟨hok, ⟨by rw [z10]; exact hc, hn, hP', by rw [fr _ _ (by omega) (by omega)]; exact h500, ?_, ?_, ?_, ?_, ⟨?_, ?_, ?_, ?_, ?_, ?_⟩, ?_, ?_, ?_, ?_, ?_⟩, by rw [z12]; exact h12, by rw [z13]; exact h13, by rw [fr _ _ (by omega) (by omega)]; exact htd, by rw [fr _ _ (by omega) (by omega)]; exact hsi, by rw [fr _ _ (by omega) (by omega)]; exact hpw, by rw [fr _ _ (by omega) (by omega)]; exact hnd, by omega⟩, e11, by rw [fr _ _ (by omega) (by omega)]; exact hb⟩
  · rw [z11]; exact fun f hf => (hF f hf).of (fun q _ => fr _ _ (by omega) (by omega))
  · rw [z12]
    intro w hw
    obtain ⟨g1, a1', a2, a3, a4, a5, a6⟩ := hW w hw
    refine ⟨g1.of (fun q _ => fr _ _ (by omega) (by omega)), ?_⟩
    unfold zWd
    rw [fr (60 + w) 5 (by omega) (by omega), fr (60 + w) 6 (by omega) (by omega), fr (60 + w) 7 (by omega) (by omega), fr (60 + w) 8 (by omega) (by omega)]
    exact ⟨a1', a2, a3, a4, a5, by omega⟩
  · rw [z13]; exact fun s hs => (hS s hs).of (fun q _ => fr _ _ (by omega) (by omega))
  · rw [z13, fr 13 0 (by omega) (by omega), ← hsum]
    exact zS_congr (fun s hs => by rw [fr _ _ (by omega) (by omega)])
  · rw [fr _ _ (by omega) (by omega)]; exact hu
  · rw [fr _ _ (by omega) (by omega)]; exact hv
  · rw [tot 0 (by decide), if_neg (by decide), fr _ _ (by omega) (by omega), fr _ _ (by omega) (by omega), fr _ _ (by omega) (by omega)]; omega
  · rw [tot 2 (by decide), if_neg (by decide), fr _ _ (by omega) (by omega)]; omega
  · rw [tot 3 (by decide), if_pos rfl]; omega
  · rw [fr _ _ (by omega) (by omega)]; exact hT
  · rw [fr _ _ (by omega) (by omega)]; exact hsz
  · rw [fr _ _ (by omega) (by omega)]; exact hrun
  · rw [fr _ _ (by omega) (by omega)]; exact hneed
  · rw [fr _ _ (by omega) (by omega), fr _ _ (by omega) (by omega)]; exact hpow
  · rw [z12, fr 6 2 (by omega) (by omega)]
    have : zS (fun w => (M10 (60 + w) 6).toInt) (zc12 M) = zS (fun w => (M (60 + w) 6).toInt) (zc12 M) := zS_congr (fun w hw => by rw [fr _ _ (by omega) (by omega)])
    rw [this]
    exact hlast
theorem q_sub1 (a b p : Int32) : a - p + b = a + b - p := by
  rw [Int32.sub_eq_add_neg, Int32.sub_eq_add_neg, Int32.add_assoc, Int32.add_comm (-p) b, ← Int32.add_assoc]
theorem q_sub2 (a b p : Int32) : a + (b - p) = a + b - p := by
  rw [Int32.sub_eq_add_neg, Int32.sub_eq_add_neg, Int32.add_assoc]
theorem zLi.clean (h : zLi nb nw ns t td si pw nd M) (N : zM) {k : Nat} (hk : k < nw) {a0 : Int32} (e0 : a0 = nI k) (hok : z_Ok (fX8_clean M N a0)) : zLi nb nw ns (t + 1) td si pw nd (fX8_clean M N a0) ∧ rX8_clean M N a0 = M (60 + k) 3 ∧ fX8_clean M N a0 (60 + k) 3 = 0 ∧ fX8_clean M N a0 (60 + k) 4 = 0 ∧ fX8_clean M N a0 8 0 + fX8_clean M N a0 8 1 = M 8 0 + M 8 1 - 5 * M (60 + k) 3 := by
  have l6 := h.nw6
  have l8 := h.nb8
  obtain ⟨b, hbb, hb⟩ := h.blk hk
  obtain ⟨x1, e1, x2, e2, x3, e3, x4, e4, x5, e5, x6, e6, x8, e8, x9, e9, x10, e10, M11, e11, M12, e12, M13, e13, eF, eR⟩ := e_X8_clean M N a0
  rw [eF] at hok ⊢
  rw [eR]
  clear eF eR
  subst e0
  rw [q_nIn (by omega), hb] at e2
  subst e2
  rw [q_nIn (by omega)] at e3 e4 e8 e12 e13
  have ow := h.ok.owner (f := b) (by omega)
  rw [← e3] at ow
  obtain ⟨o, ho, ho31, eo⟩ := ow
  rw [eo, q_nIn ho31] at e6 e9 e11
  have g := h.well hk
  have fr : ∀ i q, ¬ (i = 8 ∧ q = o) → ¬ (i = 60 + k ∧ (q = 3 ∨ q = 4)) → M13 i q = M i q := fun i q n1 n2 => by
    rw [e13, zu, if_neg (by omega), e12, zu, if_neg (by omega), e11, zu, if_neg n1]
  have v3 : M13 (60 + k) 3 = 0 := by rw [e13, zu, if_neg (by omega), e12, zu_self]
  have v4 : M13 (60 + k) 4 = 0 := by rw [e13, zu_self]
  have vo : M13 8 o = M 8 o - 5 * M (60 + k) 3 := by rw [e13, zu, if_neg (by omega), e12, zu, if_neg (by omega), e11, zu_self, e10, e9, e5, e4]
  refine ⟨h.dry0 hok (fun i q n1 n2 => fr i q (by omega) (by omega)) (fun w hw => ?_), e8, v3, v4, ?_⟩
  · by_cases e : w = k
    · subst e
      unfold zWl
      rw [v3, v4, fr _ 0 (by omega) (by omega), fr _ 1 (by omega) (by omega), fr _ 2 (by omega) (by omega)]
      exact ⟨g.1, g.2.1, g.2.2.1, by decide, by decide⟩
    · exact (h.well hw).of (fun q _ => fr _ _ (by omega) (by omega))
  · rcases (show o = 0 ∨ o = 1 by omega) with e | e <;> subst e
    · rw [vo, fr 8 1 (by omega) (by omega)]; exact q_sub1 _ _ _
    · rw [vo, fr 8 0 (by omega) (by omega)]; exact q_sub2 _ _ _
/-- what most an injector may take, as the law says it -/
def zMs (lt v : Int32) : Int32 := if lt = 0 then 4 * v else if lt = 1 then 2 * v else 0
theorem q_most {lt v : Int32} (h : 0 ≤ v.toInt ∧ v.toInt ≤ 9) : (zMs lt v).toInt = zMost lt v.toInt := by
  have h4 : (4 : Int32).toInt = 4 := rfl
  have h2 : (2 : Int32).toInt = 2 := rfl
  unfold zMs zMost
  by_cases c : lt = 0
  · rw [if_pos c, if_pos c, fb_mulI (by rw [h4]; omega) (by rw [h4]; omega), h4]
  · rw [if_neg c, if_neg c]
    by_cases d : lt = 1
    · rw [if_pos d, if_pos d, fb_mulI (by rw [h2]; omega) (by rw [h2]; omega), h2]
    · rw [if_neg d, if_neg d]; rfl
theorem q_run1 (M N : zM) : fX8_run M N 1 = fX3_step M := by
  unfold fX8_run fX8_powerIn
  show zit bX8_powerIn_10 1 M = fX3_step M
  rw [zit_s, zit_0]
  rfl
theorem q_runr (M N : zM) : rX8_run M N 1 = fX3_step M 6 3 - M 6 3 := by
  have h := q_run1 M N
  unfold fX8_run at h
  unfold rX8_run
  rw [← h]
  rfl
/-- what the law sees behind a step -/
def zSeen (nw : Nat) (M M' N : zM) (si nd r : Int32) : Prop := r = 2 * (M' 7 3 - M 7 3) ∧ ¬ 2 * si < r ∧ M' 6 2 = r ∧ ¬ nd < M' 6 5 ∧ ¬ rX3_lastShock M' < 0 ∧ ∀ k, k < nw → (¬ M' (60 + k) 1 = 0 → ¬ zMs (rX3_light M) (M' (60 + k) 2) < M' (60 + k) 5 ∧ M' (60 + k) 6 = 0) ∧ (M' (60 + k) 2 = 0 → M' (60 + k) 5 = 0)
set_option maxHeartbeats 4000000 in
theorem zLi.run (h : zLi nb nw ns t td si pw nd M) (N : zM) (ht : t < 70) (hok : z_Ok (fX8_run M N 1)) : zLi nb nw ns (t + 1) td si (pw + rX8_run M N 1) nd (fX8_run M N 1) ∧ zSeen nw M (fX8_run M N 1) N si nd (rX8_run M N 1) := by
  have hs := q_step nb t M h.ok h.inv (by omega)
  have er := q_runr M N
  rw [q_run1] at hok ⊢
  obtain ⟨S, eS⟩ : ∃ S, S = fX3_step M := ⟨_, rfl⟩
  rw [← eS] at hs hok er ⊢
  obtain ⟨hinv, ⟨u, u0, u1, u2, u3, u4⟩, a60, a64, a65, ash, a11, a0, aw⟩ := hs
  have h2 : (2 : Int32).toInt = 2 := rfl
  have hsz := h.s6.1
  have i2u : ((2 : Int32) * u).toInt = 2 * u.toInt := by rw [fb_mulI (by rw [h2]; omega) (by rw [h2]; omega), h2]
  have er2 : rX8_run M N 1 = 2 * u := by rw [er, u3, Int32.add_comm (M 6 3), Int32.add_sub_cancel]
  have c : ∀ q, q ≠ 14 → S 0 q = M 0 q := a0
  refine ⟨⟨hok, hinv, ?_, ?_, ?_, ?_, ?_, ?_, ?_⟩, ?_, ?_, ?_, ?_, ?_, ?_⟩
  · rw [← h.c12]; unfold zc12; rw [c 12 (by decide)]
  · rw [← h.c13]; unfold zc13; rw [c 13 (by decide)]
  · rw [a11]; exact h.told
  · rw [a60]; exact h.size
  · rw [u3, er2, h.pow]
  · rw [a64]; exact h.need
  · rw [a11]; have := h.tr; omega
  · rw [er2, u4, Int32.add_comm (M 7 3), Int32.add_sub_cancel]
  · rw [er2, Int32.lt_iff_toInt_lt, i2u, ← h.size, fb_mulI (by rw [h2]; omega) (by rw [h2]; omega), h2]; omega
  · rw [er2, u2]
  · rw [Int32.lt_iff_toInt_lt, ← h.need]; omega
  · rw [Int32.lt_iff_toInt_lt, Int32.toInt_zero]; omega
  · intro k hk
    obtain ⟨⟨w1, w2⟩, w3, w4⟩ := aw k (by rw [h.c12]; exact hk)
    have g := h.well hk
    refine ⟨fun n1 => ?_, fun n2 => ?_⟩
    · rcases w3 with w3 | ⟨w5, w6⟩
      · exact absurd (by rw [w1]; exact w3) n1
      · refine ⟨?_, w6⟩
        rw [Int32.lt_iff_toInt_lt, w2, q_most g.2.2.1]
        omega
    · rw [w2] at n2
      apply Int32.toInt_inj.mp
      rw [w4 (by rw [n2]; rfl)]
      rfl
end LI3
