/-! ===== what the law keeps from call to call ===== -/
theorem z_Ok.fr {M M' : zM} (h : z_Ok M) (e : ∀ i q, (i = 0 ∧ 10 ≤ q ∧ q < 14) ∨ (40 ≤ i ∧ i < 52 ∧ q < 2) ∨ (60 ≤ i ∧ i < 66 ∧ q < 2) ∨ (70 ≤ i ∧ i < 73 ∧ q = 0) ∨ (20 ≤ i ∧ i < 28 ∧ q = 2) → M' i q = M i q) : z_Ok M' := by
  obtain ⟨⟨o1, o2, o3, o4⟩, p1, p2, p3, p4, p5, p6⟩ := h
  refine ⟨⟨?_, ?_, ?_, ?_⟩, fun f hf => ?_, fun f hf => ?_, fun f hf => ?_, fun f hf => ?_, fun f hf => ?_, fun f hf => ?_⟩
  · rw [e _ _ (by omega)]; exact o1
  · rw [e _ _ (by omega)]; exact o2
  · rw [e _ _ (by omega)]; exact o3
  · rw [e _ _ (by omega)]; exact o4
  · rw [e _ _ (by omega)]; exact p1 f hf
  · rw [e _ _ (by omega)]; exact p2 f hf
  · rw [e _ _ (by omega)]; exact p3 f hf
  · rw [e _ _ (by omega)]; exact p4 f hf
  · rw [e _ _ (by omega)]; exact p5 f hf
  · rw [e _ _ (by omega)]; exact p6 f hf
theorem zInv.mono {n : Nat} {t t' : Int} {M : zM} (h : zInv n t M) (ht : t ≤ t') : zInv n t' M := by
  obtain ⟨hc, hn, hP, h500, hF, hW, hS, hsum, hb, hp⟩ := h
  refine ⟨hc, hn, hP, h500, hF, fun w hw => ⟨(hW w hw).1, ?_⟩, hS, hsum, hb, hp⟩
  obtain ⟨a1, a2, a3, a4, a5, a6⟩ := (hW w hw).2
  exact ⟨a1, a2, a3, a4, a5, by omega⟩
set_option maxHeartbeats 4000000 in
/-- a call that touches no mass -/
theorem zInv.dry {n : Nat} {t : Int} {M M' : zM} (h : zInv n t M) (hw6 : zc12 M ≤ 6) (hf12 : zc11 M ≤ 12) (hs3 : zc13 M ≤ 3) (fr : ∀ i q, ¬ (60 ≤ i ∧ i < 66 ∧ (q = 2 ∨ q = 3 ∨ q = 4)) → i ≠ 8 → ¬ (i = 6 ∧ (q = 0 ∨ q = 1 ∨ q = 4)) → M' i q = M i q) (hw : ∀ w, w < zc12 M → zWl n M' w) (h0 : 0 ≤ (M' 6 0).toInt ∧ (M' 6 0).toInt ≤ 99) (h1 : M' 6 1 = 0 ∨ M' 6 1 = 1) (h4 : 0 ≤ (M' 6 4).toInt ∧ (M' 6 4).toInt ≤ 999) : zInv n t M' := by
  obtain ⟨hc, hn, hP, h500, hF, hW, hS, hsum, ⟨hu, hv, ht0, ht2, ht3, hT⟩, hsz, hrun, hneed, hpow, hlast⟩ := h
  have k0 : ∀ q, M' 0 q = M 0 q := fun q => fr _ _ (by omega) (by omega) (by omega)
  have z10 : zc10 M' = zc10 M := by unfold zc10; rw [k0]
  have z11 : zc11 M' = zc11 M := by unfold zc11; rw [k0]
  have z12 : zc12 M' = zc12 M := by unfold zc12; rw [k0]
  have z13 : zc13 M' = zc13 M := by unfold zc13; rw [k0]
  have P := hP.same (M' := M') hn (fun i q hi => fr i q (by omega) (by omega) (by omega))
  unfold zInv
  rw [z10, z11, z12, z13, P.2 0 (by decide), P.2 2 (by decide), P.2 3 (by decide), fr 5 0 (by omega) (by omega) (by omega), fr 13 0 (by omega) (by omega) (by omega), fr 7 3 (by omega) (by omega) (by omega), fr 7 4 (by omega) (by omega) (by omega), fr 11 0 (by omega) (by omega) (by omega), fr 11 2 (by omega) (by omega) (by omega), fr 11 3 (by omega) (by omega) (by omega), fr 6 3 (by omega) (by omega) (by omega), fr 6 2 (by omega) (by omega) (by omega)]
  refine ⟨hc, hn, P.1, h500, fun f hf => (hF f hf).of (fun q _ => fr _ _ (by omega) (by omega) (by omega)), fun w hw' => ⟨hw w hw', ?_⟩, fun s hs => (hS s hs).of (fun q _ => fr _ _ (by omega) (by omega) (by omega)), ?_, ⟨hu, hv, ht0, ht2, ht3, hT⟩, h0, h1, h4, hpow, ?_⟩
  · have := (hW w hw').2
    unfold zWd at this ⊢
    rw [fr _ 5 (by omega) (by omega) (by omega), fr _ 6 (by omega) (by omega) (by omega), fr _ 7 (by omega) (by omega) (by omega), fr _ 8 (by omega) (by omega) (by omega)]
    exact this
  · rw [← hsum]
    exact zS_congr (fun s hs => by rw [fr _ _ (by omega) (by omega) (by omega)])
  · have : zS (fun w => (M' (60 + w) 6).toInt) (zc12 M) = zS (fun w => (M (60 + w) 6).toInt) (zc12 M) := zS_congr (fun w hw => by rw [fr _ _ (by omega) (by omega) (by omega)])
    rw [this]
    exact hlast
/-- what the law knows of the field behind t calls -/
abbrev zLi (nb nw ns t : Nat) (td si pw nd : Int32) (M : zM) : Prop := z_Ok M ∧ zInv nb (t : Int) M ∧ zc12 M = nw ∧ zc13 M = ns ∧ M 11 0 = td ∧ M 6 0 = si ∧ M 6 3 = pw ∧ M 6 4 = nd ∧ (M 11 3).toInt ≤ 50 * (t : Int)
section LI
variable {nb nw ns t : Nat} {td si pw nd : Int32} {M : zM}
theorem zLi.ok (h : zLi nb nw ns t td si pw nd M) : z_Ok M := h.1
theorem zLi.inv (h : zLi nb nw ns t td si pw nd M) : zInv nb (t : Int) M := h.2.1
theorem zLi.c12 (h : zLi nb nw ns t td si pw nd M) : zc12 M = nw := h.2.2.1
theorem zLi.c13 (h : zLi nb nw ns t td si pw nd M) : zc13 M = ns := h.2.2.2.1
theorem zLi.told (h : zLi nb nw ns t td si pw nd M) : M 11 0 = td := h.2.2.2.2.1
theorem zLi.size (h : zLi nb nw ns t td si pw nd M) : M 6 0 = si := h.2.2.2.2.2.1
theorem zLi.pow (h : zLi nb nw ns t td si pw nd M) : M 6 3 = pw := h.2.2.2.2.2.2.1
theorem zLi.need (h : zLi nb nw ns t td si pw nd M) : M 6 4 = nd := h.2.2.2.2.2.2.2.1
theorem zLi.tr (h : zLi nb nw ns t td si pw nd M) : (M 11 3).toInt ≤ 50 * (t : Int) := h.2.2.2.2.2.2.2.2
theorem zLi.nw6 (h : zLi nb nw ns t td si pw nd M) : nw ≤ 6 := by rw [← h.c12]; exact h.ok.n12
theorem zLi.c10 (h : zLi nb nw ns t td si pw nd M) : zc10 M = nb := h.inv.1
theorem zLi.next (h : zLi nb nw ns t td si pw nd M) : zLi nb nw ns (t + 1) td si pw nd M := ⟨h.ok, h.inv.mono (by omega), h.c12, h.c13, h.told, h.size, h.pow, h.need, by have := h.tr; omega⟩
theorem zLi.well (h : zLi nb nw ns t td si pw nd M) {k : Nat} (hk : k < nw) : zWl nb M k := (h.inv.2.2.2.2.2.1 k (by rw [h.c12]; exact hk)).1
end LI
theorem zB_nn (q : Nat) : 0 ≤ zB q := by
  unfold zB
  by_cases h0 : q = 0
  · rw [if_pos h0]; decide
  · rw [if_neg h0]
    by_cases h1 : q = 1
    · rw [if_pos h1]; decide
    · rw [if_neg h1]
      by_cases h2 : q = 2
      · rw [if_pos h2]; decide
      · rw [if_neg h2]; decide
theorem zOf.li {nb nf nw ns : Nat} {M : zM} (h : zOf nb nf nw ns M) (hn : 1 ≤ nb) : zLi nb nw ns 0 (M 11 0) 20 0 0 M := by
  have lb := h.lb
  have lf := h.lf
  have lw := h.lw
  have ls := h.ls
  have r : ∀ i k, i ≠ 0 → i ≠ 11 → i < 20 → M i k = zMi i k := fun i k h0 h1 h2 => h.rest i k h0 h1 (by omega) (by omega) (by omega) (by omega) (by omega)
  have r0 : ∀ i k, i ≠ 0 → i ≠ 11 → i ≠ 6 → i ≠ 8 → i < 20 → (M i k).toInt = 0 := fun i k h0 h1 h6 h8 h2 => by rw [r i k h0 h1 h2, zMi_0 h6 h8]; rfl
  have r6 : M 6 0 = 20 ∧ M 6 1 = 1 ∧ M 6 2 = 0 ∧ M 6 3 = 0 ∧ M 6 4 = 0 := by
    rw [r 6 0 (by omega) (by omega) (by omega), r 6 1 (by omega) (by omega) (by omega), r 6 2 (by omega) (by omega) (by omega), r 6 3 (by omega) (by omega) (by omega), r 6 4 (by omega) (by omega) (by omega)]
    exact ⟨zMi_6.1, zMi_6.2.1, zMi_6.2.2 2 (by decide), zMi_6.2.2 3 (by decide), zMi_6.2.2 4 (by decide)⟩
  have tq : ∀ q, q < 4 → zTot nb q M = (M 11 q).toInt := fun q hq => by
    unfold zTot
    rw [h.told q hq, r0 5 q (by omega) (by omega) (by omega) (by omega) (by omega), r0 12 q (by omega) (by omega) (by omega) (by omega) (by omega), r0 13 q (by omega) (by omega) (by omega) (by omega) (by omega)]
    split <;> omega
  have bq : ∀ q, q < 4 → ∀ b, b < nb → 0 ≤ (M (30 + b) q).toInt ∧ 5 * (M (30 + b) q).toInt ≤ zB q := fun q hq b hb => by
    obtain ⟨-, z1, z2, z3, z4⟩ := h.bl b hb
    rcases (show q = 0 ∨ q = 1 ∨ q = 2 ∨ q = 3 by omega) with e | e | e | e <;> subst e <;> unfold zB
    · rw [if_pos rfl]; omega
    · rw [if_neg (by decide), if_pos rfl]; omega
    · rw [if_neg (by decide), if_neg (by decide), if_pos rfl]; omega
    · rw [if_neg (by decide), if_neg (by decide), if_neg (by decide), z4]
      exact ⟨by decide, by decide⟩
  have hB : ∀ q, q < 4 → 0 ≤ zS (fun b => (M (30 + b) q).toInt) nb ∧ zS (fun b => (M (30 + b) q).toInt) nb ≤ zB q := fun q hq => by
    refine ⟨zS_nn (fun b hb => (bq q hq b hb).1), ?_⟩
    have h2 := zS_bnd (f := fun b => 5 * (M (30 + b) q).toInt) (A := 0) (B := zB q) (n := nb) (fun b hb => ⟨by have := (bq q hq b hb).1; omega, (bq q hq b hb).2⟩)
    have h3 : zS (fun b => 5 * (M (30 + b) q).toInt) nb = 5 * zS (fun b => (M (30 + b) q).toInt) nb := by
      have : ∀ n, zS (fun b => 5 * (M (30 + b) q).toInt) n = 5 * zS (fun b => (M (30 + b) q).toInt) n := by
        intro n
        induction n with
        | zero => rfl
        | succ n ih => rw [zS, zS, ih, Int.mul_add]
      exact this nb
    have h4 : zB q * (nb : Int) ≤ zB q * 5 := Int.mul_le_mul_of_nonneg_left (by omega) (zB_nn q)
    rw [h3] at h2
    omega
  have hP : zPh nb M := by
    refine ⟨fun b hb => (h.bl b hb).1, fun b hb q hq => (bq q hq b hb).1, fun q _ => by rw [r0 5 q (by omega) (by omega) (by omega) (by omega) (by omega)]; exact Int.le_refl _, fun q _ _ => by rw [r0 12 q (by omega) (by omega) (by omega) (by omega) (by omega), r0 13 q (by omega) (by omega) (by omega) (by omega) (by omega)]; exact ⟨Int.le_refl _, Int.le_refl _⟩, fun q hq => ?_⟩
    rw [tq q hq, h.told q hq]
    exact (hB q hq).2
  have i0 : (0 : Int32).toInt = 0 := rfl
  have tr0 : (M 11 3).toInt = 0 := by
    rw [h.told 3 (by decide)]
    have : zS (fun b => (M (30 + b) 3).toInt) nb = zS (fun _ => 0) nb := zS_congr (fun b hb => by rw [(h.bl b hb).2.2.2.2]; rfl)
    rw [this]
    have : ∀ n, zS (fun _ => 0) n = 0 := by
      intro n
      induction n with
      | zero => rfl
      | succ n ih => rw [zS, ih]; rfl
    exact this nb
  have bnd0 : (M 11 0).toInt ≤ 10000 := by
    rw [h.told 0 (by decide)]
    exact (hB 0 (by decide)).2
  have hwz : ∀ w, w < nw → zWd 0 M w := fun w hw => by
    have z := (h.we w hw).2
    unfold zWd
    rw [z 5 (by omega) (by omega), z 6 (by omega) (by omega), z 7 (by omega) (by omega), z 8 (by omega) (by omega)]
    rw [i0]
    omega
  have zz : ∀ {g : Nat → Int} {n : Nat}, (∀ k, k < n → g k = 0) → zS g n = 0 := by
    intro g n hg
    induction n with
    | zero => rfl
    | succ n ih => rw [zS, ih (fun k hk => hg k (by omega)), hg n (by omega)]; rfl
  refine ⟨h.ok, ⟨h.k10, by omega, hP, ?_, ?_, ?_, ?_, ?_, ⟨?_, ?_, ?_, ?_, ?_, bnd0⟩, ?_, ?_, ?_, ?_, ?_⟩, h.k12, h.k13, rfl, r6.1, r6.2.2.2.1, r6.2.2.2.2, by rw [tr0]; exact Int.le_refl _⟩
  · rw [r0 5 0 (by omega) (by omega) (by omega) (by omega) (by omega)]; decide
  · rw [h.k11]; exact h.fa
  · rw [h.k12]; exact fun w hw => ⟨(h.we w hw).1, hwz w hw⟩
  · rw [h.k13]
    intro s hs
    obtain ⟨s0, s1, s2, s3, s4, s5⟩ := h.sp s hs
    unfold zSp
    rw [s3, s4, s5, i0]
    exact ⟨s0, s1, s2, by omega, by omega, by omega⟩
  · rw [h.k13, r0 13 0 (by omega) (by omega) (by omega) (by omega) (by omega)]
    exact zz (fun s hs => by rw [(h.sp s hs).2.2.2.2.2]; rfl)
  · rw [r0 7 3 (by omega) (by omega) (by omega) (by omega) (by omega)]; exact Int.le_refl _
  · rw [r0 7 4 (by omega) (by omega) (by omega) (by omega) (by omega)]; exact Int.le_refl _
  · rw [tq 0 (by decide), r0 7 3 (by omega) (by omega) (by omega) (by omega) (by omega), r0 7 4 (by omega) (by omega) (by omega) (by omega) (by omega)]; omega
  · exact tq 2 (by decide)
  · exact tq 3 (by decide)
  · rw [r6.1]; decide
  · exact Or.inr r6.2.1
  · rw [r6.2.2.2.2]; decide
  · rw [r6.2.2.2.1, r0 7 3 (by omega) (by omega) (by omega) (by omega) (by omega)]; rfl
  · rw [r6.2.2.1, h.k12, zz (fun w hw => by rw [(h.we w hw).2 6 (by omega) (by omega)]; rfl)]; decide
section LI2
variable {nb nw ns t : Nat} {td si pw nd : Int32} {M : zM}
theorem zLi.dry {M' : zM} (h : zLi nb nw ns t td si pw nd M) (hok : z_Ok M') (fr : ∀ i q, ¬ (60 ≤ i ∧ i < 66 ∧ (q = 2 ∨ q = 3 ∨ q = 4)) → i ≠ 8 → ¬ (i = 6 ∧ (q = 0 ∨ q = 1 ∨ q = 4)) → M' i q = M i q) (hw : ∀ w, w < nw → zWl nb M' w) (h0 : 0 ≤ (M' 6 0).toInt ∧ (M' 6 0).toInt ≤ 99) (h1 : M' 6 1 = 0 ∨ M' 6 1 = 1) (h4 : 0 ≤ (M' 6 4).toInt ∧ (M' 6 4).toInt ≤ 999) : zLi nb nw ns (t + 1) td (M' 6 0) pw (M' 6 4) M' := by
  have k0 : ∀ q, M' 0 q = M 0 q := fun q => fr _ _ (by omega) (by omega) (by omega)
  refine ⟨hok, (h.inv.dry h.ok.n12 h.ok.n11 h.ok.n13 fr (by rw [h.c12]; exact hw) h0 h1 h4).mono (by omega), ?_, ?_, ?_, rfl, ?_, rfl, ?_⟩
  · rw [← h.c12]; unfold zc12; rw [k0]
  · rw [← h.c13]; unfold zc13; rw [k0]
  · rw [fr _ _ (by omega) (by omega) (by omega)]; exact h.told
  · rw [fr _ _ (by omega) (by omega) (by omega)]; exact h.pow
  · rw [fr _ _ (by omega) (by omega) (by omega)]; have := h.tr; omega
theorem zLi.s6 (h : zLi nb nw ns t td si pw nd M) : (0 ≤ (M 6 0).toInt ∧ (M 6 0).toInt ≤ 99) ∧ (M 6 1 = 0 ∨ M 6 1 = 1) ∧ (0 ≤ (M 6 4).toInt ∧ (M 6 4).toInt ≤ 999) := by
  obtain ⟨hc, hn, hP, h500, hF, hW, hS, hsum, -, hsz, hrun, hneed, -, -⟩ := h.inv
  exact ⟨hsz, hrun, hneed⟩
theorem zLi.dry0 {M' : zM} (h : zLi nb nw ns t td si pw nd M) (hok : z_Ok M') (fr : ∀ i q, ¬ (60 ≤ i ∧ i < 66 ∧ (q = 2 ∨ q = 3 ∨ q = 4)) → i ≠ 8 → M' i q = M i q) (hw : ∀ w, w < nw → zWl nb M' w) : zLi nb nw ns (t + 1) td si pw nd M' := by
  have s := h.s6
  have e0 : M' 6 0 = M 6 0 := fr _ _ (by omega) (by omega)
  have e1 : M' 6 1 = M 6 1 := fr _ _ (by omega) (by omega)
  have e4 : M' 6 4 = M 6 4 := fr _ _ (by omega) (by omega)
  have := h.dry hok (fun i q a b _ => fr i q a b) hw (by rw [e0]; exact s.1) (by rw [e1]; exact s.2.1) (by rw [e4]; exact s.2.2)
  rw [e0, e4, h.size, h.need] at this
  exact this
theorem zLi.valve (h : zLi nb nw ns t td si pw nd M) (N : zM) {k : Nat} (hk : k < nw) {a0 a1 : Int32} (e0 : a0 = nI k) (r1 : z_rg a1 0 9) (hok : z_Ok (fX8_valve M N a0 a1)) : zLi nb nw ns (t + 1) td si pw nd (fX8_valve M N a0 a1) ∧ ¬ (9 : Int32) < rX8_valve M N a0 a1 := by
  have l6 := h.nw6
  obtain ⟨x1, e1, x2, e2, M3, e3, eF, eR⟩ := e_X8_valve M N a0 a1
  rw [eF] at hok ⊢
  rw [eR]
  clear eF eR
  subst e0
  rw [q_nIn (by omega)] at e3 e2
  have g := h.well hk
  have h1 : (0 : Int) ≤ a1.toInt ∧ a1.toInt ≤ 9 := q_rg.mp r1
  have fr : ∀ i q, ¬ (i = 60 + k ∧ q = 2) → M3 i q = M i q := fun i q n1 => by rw [e3, zu, if_neg n1]
  have v2 : M3 (60 + k) 2 = a1 := by rw [e3, zu_self]
  refine ⟨h.dry0 hok (fun i q n1 n2 => fr i q (by omega)) (fun w hw => ?_), ?_⟩
  · by_cases e : w = k
    · subst e
      unfold zWl
      rw [v2, fr _ _ (by omega), fr _ _ (by omega), fr _ _ (by omega), fr _ _ (by omega)]
      exact ⟨g.1, g.2.1, h1, g.2.2.2⟩
    · exact (h.well hw).of (fun q _ => fr _ _ (by omega))
  · rw [e2, Int32.lt_iff_toInt_lt]
    have h9 : (9 : Int32).toInt = 9 := rfl
    have := g.2.2.1.2
    omega
theorem zLi.turbine (h : zLi nb nw ns t td si pw nd M) (N : zM) {a0 : Int32} (r0 : z_rg a0 0 99) : zLi nb nw ns (t + 1) td a0 pw nd (fX8_turbine M N a0) ∧ rX8_turbine M N a0 = si ∧ rX8_many (fX8_turbine M N a0) N 7 = 1 := by
  have h1 : (0 : Int) ≤ a0.toInt ∧ a0.toInt ≤ 99 := q_rg.mp r0
  have fr : ∀ i q, ¬ (i = 6 ∧ (q = 0 ∨ q = 1)) → fX8_turbine M N a0 i q = M i q := fun i q n => by
    unfold fX8_turbine
    rw [zu, if_neg (by omega), zu, if_neg (by omega)]
  have v0 : fX8_turbine M N a0 6 0 = a0 := by
    unfold fX8_turbine
    rw [zu, if_neg (by omega), zu_self]
  have v1 : fX8_turbine M N a0 6 1 = 1 := by
    unfold fX8_turbine
    rw [zu_self]
  have e4 : fX8_turbine M N a0 6 4 = M 6 4 := fr _ _ (by omega)
  have s := h.s6
  have := h.dry (h.ok.fr (fun i q hi => fr i q (by omega))) (fun i q n1 n2 n3 => fr i q (by omega)) (fun w hw => (h.well hw).of (fun q _ => fr _ _ (by omega))) (by rw [v0]; exact h1) (Or.inr v1) (by rw [e4]; exact s.2.2)
  rw [v0, e4, h.need] at this
  refine ⟨this, h.size, ?_⟩
  rw [(q_mn _ _).2.2.2.2.2.2.1, v1]
  rfl
theorem zLi.town (h : zLi nb nw ns t td si pw nd M) (N : zM) {a0 : Int32} (r0 : z_rg a0 0 999) : zLi nb nw ns (t + 1) td si pw a0 (fX8_town M N a0) ∧ rX8_town M N a0 = nd := by
  have h1 : (0 : Int) ≤ a0.toInt ∧ a0.toInt ≤ 999 := q_rg.mp r0
  have fr : ∀ i q, ¬ (i = 6 ∧ q = 4) → fX8_town M N a0 i q = M i q := fun i q n => by
    unfold fX8_town
    rw [zu, if_neg (by omega)]
  have v4 : fX8_town M N a0 6 4 = a0 := by
    unfold fX8_town
    rw [zu_self]
  have e0 : fX8_town M N a0 6 0 = M 6 0 := fr _ _ (by omega)
  have e1 : fX8_town M N a0 6 1 = M 6 1 := fr _ _ (by omega)
  have s := h.s6
  have := h.dry (h.ok.fr (fun i q hi => fr i q (by omega))) (fun i q n1 n2 n3 => fr i q (by omega)) (fun w hw => (h.well hw).of (fun q _ => fr _ _ (by omega))) (by rw [e0]; exact s.1) (by rw [e1]; exact s.2.1) (by rw [v4]; exact h1)
  rw [v4, e0, h.size] at this
  exact ⟨this, h.need⟩
end LI2
