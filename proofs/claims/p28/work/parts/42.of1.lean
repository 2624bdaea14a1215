/-! ===== what a field by numbers holds while it is told ===== -/
theorem q_rg {x lo hi : Int32} : z_rg x lo hi ↔ lo.toInt ≤ x.toInt ∧ x.toInt ≤ hi.toInt := by
  unfold z_rg
  rw [Int32.lt_iff_toInt_lt, Int32.lt_iff_toInt_lt]
  omega
theorem q_rgk {x : Int32} {lo hi : Int32} (a b : Int) (ha : lo.toInt = a) (hb : hi.toInt = b) (h1 : a ≤ x.toInt) (h2 : x.toInt ≤ b) : z_rg x lo hi := q_rg.mpr ⟨by omega, by omega⟩
theorem q_nIn {k : Nat} (h : k < 2 ^ 31) : (nI k).toNatClampNeg = k := zx_n rfl h
theorem q_ixk {k N : Nat} (h : k < N) (hN : N < 2 ^ 31) : z_ix (nI k) N := ⟨k, h, by omega, rfl⟩
def zOb (M : zM) (b : Nat) : Prop := (10 ≤ (M (20 + b) 1).toInt ∧ (M (20 + b) 1).toInt ≤ 99) ∧ (0 ≤ (M (30 + b) 0).toInt ∧ (M (30 + b) 0).toInt ≤ 2000) ∧ (0 ≤ (M (30 + b) 1).toInt ∧ (M (30 + b) 1).toInt ≤ 839600) ∧ (0 ≤ (M (30 + b) 2).toInt ∧ (M (30 + b) 2).toInt ≤ 9999) ∧ M (30 + b) 3 = 0
def zOs (n : Nat) (M : zM) (s : Nat) : Prop := (M (70 + s) 0).toNatClampNeg < n ∧ (0 ≤ (M (70 + s) 1).toInt ∧ (M (70 + s) 1).toInt ≤ 300) ∧ (0 ≤ (M (70 + s) 2).toInt ∧ (M (70 + s) 2).toInt ≤ 50) ∧ M (70 + s) 3 = 0 ∧ M (70 + s) 4 = 0 ∧ M (70 + s) 5 = 0
abbrev zOf (nb nf nw ns : Nat) (M : zM) : Prop :=
  (z_Ok M) ∧
  (M 0 10 = nI nb) ∧
  (M 0 11 = nI nf) ∧
  (M 0 12 = nI nw) ∧
  (M 0 13 = nI ns) ∧
  (nb ≤ 5) ∧
  (nf ≤ 6) ∧
  (nw ≤ 6) ∧
  (ns ≤ 3) ∧
  (∀ b, b < nb → zOb M b) ∧
  (∀ f, f < nf → zFa nb M f) ∧
  (∀ w, w < nw → zWl nb M w ∧ ∀ q, 5 ≤ q → q < 9 → M (60 + w) q = 0) ∧
  (∀ s, s < ns → zOs nb M s) ∧
  (∀ q, q < 4 → (M 11 q).toInt = zS (fun b => (M (30 + b) q).toInt) nb) ∧
  (∀ i k, i ≠ 0 → i ≠ 11 → ¬ (20 ≤ i ∧ i < 20 + nb) → ¬ (30 ≤ i ∧ i < 30 + nb) → ¬ (40 ≤ i ∧ i < 40 + nf) → ¬ (60 ≤ i ∧ i < 60 + nw) → ¬ (70 ≤ i ∧ i < 70 + ns) → M i k = zMi i k)
theorem zOf.ok {nb nf nw ns : Nat} {M : zM} (h : zOf nb nf nw ns M) : z_Ok M := h.1
theorem zOf.c10 {nb nf nw ns : Nat} {M : zM} (h : zOf nb nf nw ns M) : M 0 10 = nI nb := h.2.1
theorem zOf.c11 {nb nf nw ns : Nat} {M : zM} (h : zOf nb nf nw ns M) : M 0 11 = nI nf := h.2.2.1
theorem zOf.c12 {nb nf nw ns : Nat} {M : zM} (h : zOf nb nf nw ns M) : M 0 12 = nI nw := h.2.2.2.1
theorem zOf.c13 {nb nf nw ns : Nat} {M : zM} (h : zOf nb nf nw ns M) : M 0 13 = nI ns := h.2.2.2.2.1
theorem zOf.lb {nb nf nw ns : Nat} {M : zM} (h : zOf nb nf nw ns M) : nb ≤ 5 := h.2.2.2.2.2.1
theorem zOf.lf {nb nf nw ns : Nat} {M : zM} (h : zOf nb nf nw ns M) : nf ≤ 6 := h.2.2.2.2.2.2.1
theorem zOf.lw {nb nf nw ns : Nat} {M : zM} (h : zOf nb nf nw ns M) : nw ≤ 6 := h.2.2.2.2.2.2.2.1
theorem zOf.ls {nb nf nw ns : Nat} {M : zM} (h : zOf nb nf nw ns M) : ns ≤ 3 := h.2.2.2.2.2.2.2.2.1
theorem zOf.bl {nb nf nw ns : Nat} {M : zM} (h : zOf nb nf nw ns M) : ∀ b, b < nb → zOb M b := h.2.2.2.2.2.2.2.2.2.1
theorem zOf.fa {nb nf nw ns : Nat} {M : zM} (h : zOf nb nf nw ns M) : ∀ f, f < nf → zFa nb M f := h.2.2.2.2.2.2.2.2.2.2.1
theorem zOf.we {nb nf nw ns : Nat} {M : zM} (h : zOf nb nf nw ns M) : ∀ w, w < nw → zWl nb M w ∧ ∀ q, 5 ≤ q → q < 9 → M (60 + w) q = 0 := h.2.2.2.2.2.2.2.2.2.2.2.1
theorem zOf.sp {nb nf nw ns : Nat} {M : zM} (h : zOf nb nf nw ns M) : ∀ s, s < ns → zOs nb M s := h.2.2.2.2.2.2.2.2.2.2.2.2.1
theorem zOf.told {nb nf nw ns : Nat} {M : zM} (h : zOf nb nf nw ns M) : ∀ q, q < 4 → (M 11 q).toInt = zS (fun b => (M (30 + b) q).toInt) nb := h.2.2.2.2.2.2.2.2.2.2.2.2.2.1
theorem zOf.rest {nb nf nw ns : Nat} {M : zM} (h : zOf nb nf nw ns M) : ∀ i k, i ≠ 0 → i ≠ 11 → ¬ (20 ≤ i ∧ i < 20 + nb) → ¬ (30 ≤ i ∧ i < 30 + nb) → ¬ (40 ≤ i ∧ i < 40 + nf) → ¬ (60 ≤ i ∧ i < 60 + nw) → ¬ (70 ≤ i ∧ i < 70 + ns) → M i k = zMi i k := h.2.2.2.2.2.2.2.2.2.2.2.2.2.2
theorem zMi_0 {i k : Nat} (h : i ≠ 6) (h8 : i ≠ 8) : zMi i k = 0 := by
  unfold zMi
  rw [zu, if_neg (by omega), zu, if_neg (by omega)]
  exact zMp_0 h k
theorem zMi_6 : zMi 6 0 = 20 ∧ zMi 6 1 = 1 ∧ (∀ k, 2 ≤ k → zMi 6 k = 0) := ⟨rfl, rfl, fun k hk => by
  unfold zMi
  rw [zu, if_neg (by omega), zu, if_neg (by omega)]
  unfold zMp
  rw [zu, if_neg (by omega), zu, if_neg (by omega)]
  rfl⟩
theorem z_ix0 {N : Nat} (h : 0 < N) (hN : N < 2 ^ 31) : z_ix 0 N := ⟨0, h, by omega, rfl⟩
theorem zOf_0 : zOf 0 0 0 0 zMi := by
  have h0 : ∀ i k, i ≠ 6 → i ≠ 8 → zMi i k = 0 := fun i k h1 h2 => zMi_0 h1 h2
  refine ⟨⟨⟨?_, ?_, ?_, ?_⟩, ?_, ?_, ?_, ?_, ?_, ?_⟩, h0 _ _ (by decide) (by decide), h0 _ _ (by decide) (by decide), h0 _ _ (by decide) (by decide), h0 _ _ (by decide) (by decide), by decide, by decide, by decide, by decide, fun b h => absurd h (by omega), fun b h => absurd h (by omega), fun b h => absurd h (by omega), fun b h => absurd h (by omega), fun q _ => ?_, fun i k _ _ _ _ _ _ _ => rfl⟩
  · rw [h0 _ _ (by decide) (by decide)]; exact z_ix0 (by decide) (by decide)
  · rw [h0 _ _ (by decide) (by decide)]; exact z_ix0 (by decide) (by decide)
  · rw [h0 _ _ (by decide) (by decide)]; exact z_ix0 (by decide) (by decide)
  · rw [h0 _ _ (by decide) (by decide)]; exact z_ix0 (by decide) (by decide)
  · intro f hf; rw [h0 _ _ (by omega) (by omega)]; exact z_ix0 (by decide) (by decide)
  · intro f hf; rw [h0 _ _ (by omega) (by omega)]; exact z_ix0 (by decide) (by decide)
  · intro f hf; rw [h0 _ _ (by omega) (by omega)]; exact z_ix0 (by decide) (by decide)
  · intro f hf; rw [h0 _ _ (by omega) (by omega)]; exact z_ix0 (by decide) (by decide)
  · intro f hf; rw [h0 _ _ (by omega) (by omega)]; exact z_ix0 (by decide) (by decide)
  · intro f hf; exact Or.inl (h0 _ _ (by omega) (by omega))
  · rw [h0 _ _ (by decide) (by decide)]; rfl
theorem zOf.k10 {nb nf nw ns : Nat} {M : zM} (h : zOf nb nf nw ns M) : zc10 M = nb := by unfold zc10; rw [h.c10]; exact q_nIn (by have := h.lb; omega)
theorem zOf.k11 {nb nf nw ns : Nat} {M : zM} (h : zOf nb nf nw ns M) : zc11 M = nf := by unfold zc11; rw [h.c11]; exact q_nIn (by have := h.lf; omega)
theorem zOf.k12 {nb nf nw ns : Nat} {M : zM} (h : zOf nb nf nw ns M) : zc12 M = nw := by unfold zc12; rw [h.c12]; exact q_nIn (by have := h.lw; omega)
theorem zOf.k13 {nb nf nw ns : Nat} {M : zM} (h : zOf nb nf nw ns M) : zc13 M = ns := by unfold zc13; rw [h.c13]; exact q_nIn (by have := h.ls; omega)
theorem q_nI1 (k : Nat) : nI k + 1 = nI (k + 1) := (nI_succ k).symm
set_option maxHeartbeats 4000000 in
theorem zOf.block {nb : Nat} {M : zM} (h : zOf nb 0 0 0 M) (N : zM) (hn : nb < 5) {a0 a1 a2 a3 a4 : Int32} (r0 : z_rg a0 10 99) (r1 : z_rg a1 0 1) (r2 : z_rg a2 0 2000) (r3 : z_rg a3 0 400) (r4 : z_rg a4 0 9999) : zOf (nb + 1) 0 0 0 (fX8_block M N a0 a1 a2 a3 a4) := by
  obtain ⟨x1, e1, x2, e2, M3, e3, M4, e4, M5, e5, x6, e6, x7, e7, M8, e8, M9, e9, M10, e10, x11, e11, M12, e12, eF, -⟩ := e_X8_block M N a0 a1 a2 a3 a4
  rw [eF]
  clear eF
  rw [h.c10] at e2
  subst e2
  rw [q_nIn (by omega)] at e3 e4 e5 e8 e9 e10
  have h0 : (10 : Int) ≤ a0.toInt ∧ a0.toInt ≤ 99 := q_rg.mp r0
  have h1 : (0 : Int) ≤ a1.toInt ∧ a1.toInt ≤ 1 := q_rg.mp r1
  have h2 : (0 : Int) ≤ a2.toInt ∧ a2.toInt ≤ 2000 := q_rg.mp r2
  have h3 : (0 : Int) ≤ a3.toInt ∧ a3.toInt ≤ 400 := q_rg.mp r3
  have h4 : (0 : Int) ≤ a4.toInt ∧ a4.toInt ≤ 9999 := q_rg.mp r4
  have i6 : x6.toInt = a0.toInt + a2.toInt := by rw [e6, fb_addI (by omega) (by omega)]
  have b7 := q_mul_b (A := 400) (B := 2099) h3.1 h3.2 (show 0 ≤ x6.toInt by omega) (by omega)
  have i7 : x7.toInt = a3.toInt * x6.toInt := by rw [e7, fb_mulI (by omega) (by omega)]
  have z0 : ∀ q, M (30 + nb) q = 0 := fun q => by rw [h.rest _ _ (by omega) (by omega) (by omega) (by omega) (by omega) (by omega) (by omega)]; exact zMi_0 (by omega) (by omega)
  -- what M9 is
  have f9 : ∀ i q, ¬ (i = 20 + nb ∧ (q = 1 ∨ q = 2)) → ¬ (i = 30 + nb ∧ q < 3) → M9 i q = M i q := fun i q n1 n2 => by
    rw [e9, zu, if_neg (by omega), e8, zu, if_neg (by omega), e5, zu, if_neg (by omega), e4, zu, if_neg (by omega), e3, zu, if_neg (by omega)]
  have v1 : M9 (20 + nb) 1 = a0 := by
    rw [e9, zu, if_neg (by omega), e8, zu, if_neg (by omega), e5, zu, if_neg (by omega), e4, zu, if_neg (by omega), e3, zu_self]
  have v2 : M9 (20 + nb) 2 = a1 := by
    rw [e9, zu, if_neg (by omega), e8, zu, if_neg (by omega), e5, zu, if_neg (by omega), e4, zu_self]
  have w0 : M9 (30 + nb) 0 = a2 := by
    rw [e9, zu, if_neg (by omega), e8, zu, if_neg (by omega), e5, zu_self]
  have w1 : M9 (30 + nb) 1 = x7 := by
    rw [e9, zu, if_neg (by omega), e8, zu_self]
  have w2 : M9 (30 + nb) 2 = a4 := by rw [e9, zu_self]
  have w3 : M9 (30 + nb) 3 = 0 := by rw [f9 _ _ (by omega) (by omega)]; exact z0 3
  obtain ⟨A1, A2⟩ := q_add M9 (i := 11) (j := 30 + nb) (by omega)
  rw [← e10] at A1 A2
  have g : ∀ i q, ¬ (i = 0 ∧ q = 10) → i ≠ 11 → M12 i q = M9 i q := fun i q n1 n2 => by rw [e12, zu, if_neg n1, A2 i q n2]
  have g11 : ∀ q, M12 11 q = M10 11 q := fun q => by rw [e12, zu, if_neg (by omega)]
  have c10 : M12 0 10 = nI (nb + 1) := by rw [e12, zu_self, e11, q_nI1]
  have fr : ∀ i q, ¬ (i = 0 ∧ q = 10) → i ≠ 11 → ¬ (i = 20 + nb) → ¬ (i = 30 + nb) → M12 i q = M i q := fun i q n1 n2 n3 n4 => by rw [g i q n1 n2, f9 i q (by omega) (by omega)]
  have k0 : ∀ q, M12 0 (11 + q) = M 0 (11 + q) := fun q => fr _ _ (by omega) (by omega) (by omega) (by omega)
  obtain ⟨⟨o1, o2, o3, o4⟩, p1, p2, p3, p4, p5, p6⟩ := h.ok
  have row : ∀ b, b < nb → ∀ q, M12 (20 + b) q = M (20 + b) q ∧ M12 (30 + b) q = M (30 + b) q := fun b hb q => ⟨fr _ _ (by omega) (by omega) (by omega) (by omega), fr _ _ (by omega) (by omega) (by omega) (by omega)⟩
  have hnew : zOb M12 nb := by
    unfold zOb
    rw [g (20 + nb) 1 (by omega) (by omega), g (30 + nb) 0 (by omega) (by omega), g (30 + nb) 1 (by omega) (by omega), g (30 + nb) 2 (by omega) (by omega), g (30 + nb) 3 (by omega) (by omega), v1, w0, w1, w2, w3]
    exact ⟨h0, h2, ⟨by omega, by omega⟩, h4, rfl⟩
  refine ⟨⟨⟨?_, by rw [k0 0]; exact o2, by rw [k0 1]; exact o3, by rw [k0 2]; exact o4⟩, ?_, ?_, ?_, ?_, ?_, ?_⟩, c10, by rw [k0 0]; exact h.c11, by rw [k0 1]; exact h.c12, by rw [k0 2]; exact h.c13, by omega, by omega, by omega, by omega, ?_, fun f hf => absurd hf (by omega), fun f hf => absurd hf (by omega), fun f hf => absurd hf (by omega), ?_, ?_⟩
  · rw [c10]; exact q_ixk (by omega) (by decide)
  · intro f hf; rw [fr _ _ (by omega) (by omega) (by omega) (by omega)]; exact p1 f hf
  · intro f hf; rw [fr _ _ (by omega) (by omega) (by omega) (by omega)]; exact p2 f hf
  · intro f hf; rw [fr _ _ (by omega) (by omega) (by omega) (by omega)]; exact p3 f hf
  · intro f hf; rw [fr _ _ (by omega) (by omega) (by omega) (by omega)]; exact p4 f hf
  · intro b hb
    by_cases e : b = nb
    · subst e
      rw [g _ _ (by omega) (by omega), v2]
      refine ⟨a1.toInt.toNat, by omega, by omega, Int32.toInt_inj.mp ?_⟩
      rw [nI_toInt (by omega)]
      omega
    · rw [fr _ _ (by omega) (by omega) (by omega) (by omega)]; exact p5 b hb
  · intro f hf; rw [fr _ _ (by omega) (by omega) (by omega) (by omega)]; exact p6 f hf
  · intro b hb
    by_cases e : b = nb
    · subst e; exact hnew
    · have hb' : b < nb := by omega
      unfold zOb
      rw [(row b hb' 1).1, (row b hb' 0).2, (row b hb' 1).2, (row b hb' 2).2, (row b hb' 3).2]
      exact h.bl b hb'
  · intro q hq
    have hs : zS (fun b => (M12 (30 + b) q).toInt) nb = zS (fun b => (M (30 + b) q).toInt) nb := zS_congr (fun b hb => by rw [(row b hb q).2])
    have ht := h.told q hq
    have hb : 0 * (nb : Int) ≤ zS (fun b => (M (30 + b) q).toInt) nb ∧ zS (fun b => (M (30 + b) q).toInt) nb ≤ 839600 * (nb : Int) := zS_bnd (A := 0) (B := 839600) (fun b hb => by
      obtain ⟨-, z1, z2, z3, z4⟩ := h.bl b hb
      rcases (show q = 0 ∨ q = 1 ∨ q = 2 ∨ q = 3 by omega) with e | e | e | e <;> subst e
      · omega
      · omega
      · omega
      · rw [z4]; exact ⟨by decide, by decide⟩)
    have hw : 0 ≤ (M9 (30 + nb) q).toInt ∧ (M9 (30 + nb) q).toInt ≤ 839600 := by
      rcases (show q = 0 ∨ q = 1 ∨ q = 2 ∨ q = 3 by omega) with e | e | e | e <;> subst e
      · rw [w0]; omega
      · rw [w1]; omega
      · rw [w2]; omega
      · rw [w3]; exact ⟨by decide, by decide⟩
    rw [zS, hs, ← ht, g11 q, A1 q hq, f9 11 q (by omega) (by omega), g (30 + nb) q (by omega) (by omega)]
    exact fb_addI (by omega) (by omega)
  · intro i k n0 n1 n2 n3 n4 n5 n6
    rw [fr i k (by omega) (by omega) (by omega) (by omega)]
    exact h.rest i k n0 n1 (by omega) (by omega) (by omega) (by omega) (by omega)
set_option maxHeartbeats 4000000 in
theorem zOf.face {nb nf : Nat} {M : zM} (h : zOf nb nf 0 0 M) (N : zM) (hn : nf < 6) {a0 a1 a2 : Int32} (r0 : z_ix a0 nb) (r1 : z_ix a1 nb) (hne : ¬ a0 = a1) (r2 : z_rg a2 1 9) : zOf nb (nf + 1) 0 0 (fX8_face M N a0 a1 a2) := by
  obtain ⟨x1, e1, x2, e2, x4, e4, x5, e5, M6, e6, M7, e7, M8, e8, x9, e9, M10, e10, eF, -⟩ := e_X8_face M N a0 a1 a2
  rw [eF]
  clear eF
  rw [h.c11] at e5
  subst e5
  rw [q_nIn (by omega)] at e6 e7 e8
  have h2 : (1 : Int) ≤ a2.toInt ∧ a2.toInt ≤ 9 := q_rg.mp r2
  have lb := h.lb
  have fr : ∀ i q, ¬ (i = 0 ∧ q = 11) → ¬ (i = 40 + nf) → M10 i q = M i q := fun i q n1 n2 => by
    rw [e10, zu, if_neg n1, e8, zu, if_neg (by omega), e7, zu, if_neg (by omega), e6, zu, if_neg (by omega)]
  have v0 : M10 (40 + nf) 0 = a0 := by rw [e10, zu, if_neg (by omega), e8, zu, if_neg (by omega), e7, zu, if_neg (by omega), e6, zu_self]
  have v1 : M10 (40 + nf) 1 = a1 := by rw [e10, zu, if_neg (by omega), e8, zu, if_neg (by omega), e7, zu_self]
  have v2 : M10 (40 + nf) 2 = a2 := by rw [e10, zu, if_neg (by omega), e8, zu_self]
  have c11 : M10 0 11 = nI (nf + 1) := by rw [e10, zu_self, e9, q_nI1]
  obtain ⟨⟨o1, o2, o3, o4⟩, p1, p2, p3, p4, p5, p6⟩ := h.ok
  refine ⟨⟨⟨?_, by rw [c11]; exact q_ixk (by omega) (by decide), ?_, ?_⟩, ?_, ?_, ?_, ?_, ?_, ?_⟩, by rw [fr _ _ (by omega) (by omega)]; exact h.c10, c11, by rw [fr _ _ (by omega) (by omega)]; exact h.c12, by rw [fr _ _ (by omega) (by omega)]; exact h.c13, h.lb, by omega, by omega, by omega, ?_, ?_, fun f hf => absurd hf (by omega), fun f hf => absurd hf (by omega), ?_, ?_⟩
  · rw [fr _ _ (by omega) (by omega)]; exact o1
  · rw [fr _ _ (by omega) (by omega)]; exact o3
  · rw [fr _ _ (by omega) (by omega)]; exact o4
  · intro f hf
    by_cases e : f = nf
    · subst e; rw [v0]; exact r0.mono (by omega)
    · rw [fr _ _ (by omega) (by omega)]; exact p1 f hf
  · intro f hf
    by_cases e : f = nf
    · subst e; rw [v1]; exact r1.mono (by omega)
    · rw [fr _ _ (by omega) (by omega)]; exact p2 f hf
  · intro f hf; rw [fr _ _ (by omega) (by omega)]; exact p3 f hf
  · intro f hf; rw [fr _ _ (by omega) (by omega)]; exact p4 f hf
  · intro f hf; rw [fr _ _ (by omega) (by omega)]; exact p5 f hf
  · intro f hf; rw [fr _ _ (by omega) (by omega)]; exact p6 f hf
  · intro b hb
    unfold zOb
    rw [fr _ _ (by omega) (by omega), fr _ _ (by omega) (by omega), fr _ _ (by omega) (by omega), fr _ _ (by omega) (by omega), fr _ _ (by omega) (by omega)]
    exact h.bl b hb
  · intro f hf
    by_cases e : f = nf
    · subst e
      unfold zFa
      rw [v0, v1, v2]
      refine ⟨r0.lt, r1.lt, fun z => hne ?_, h2⟩
      rw [r0.eq, r1.eq, z]
    · exact (h.fa f (by omega)).of (fun q _ => fr _ _ (by omega) (by omega))
  · intro q hq
    rw [fr _ _ (by omega) (by omega), h.told q hq]
    exact zS_congr (fun b hb => by rw [fr _ _ (by omega) (by omega)])
  · intro i k n0 n1 n2 n3 n4 n5 n6
    rw [fr i k (by omega) (by omega)]
    exact h.rest i k n0 n1 (by omega) (by omega) (by omega) (by omega) (by omega)
set_option maxHeartbeats 4000000 in
theorem zOf.well {nb nf nw : Nat} {M : zM} (h : zOf nb nf nw 0 M) (N : zM) (hn : nw < 6) {a0 a1 : Int32} (r0 : z_ix a0 nb) (r1 : a1 = 0 ∨ a1 = 1) : zOf nb nf (nw + 1) 0 (fX8_well M N a0 a1) := by
  obtain ⟨x1, e1, x2, e2, x3, e3, M4, e4, M5, e5, x6, e6, M7, e7, eF, -⟩ := e_X8_well M N a0 a1
  rw [eF]
  clear eF
  rw [h.c12] at e3
  subst e3
  rw [q_nIn (by omega)] at e4 e5
  have lb := h.lb
  have lf := h.lf
  have fr : ∀ i q, ¬ (i = 0 ∧ q = 12) → ¬ (i = 60 + nw ∧ q < 2) → M7 i q = M i q := fun i q n1 n2 => by
    rw [e7, zu, if_neg n1, e5, zu, if_neg (by omega), e4, zu, if_neg (by omega)]
  have v0 : M7 (60 + nw) 0 = a0 := by rw [e7, zu, if_neg (by omega), e5, zu, if_neg (by omega), e4, zu_self]
  have v1 : M7 (60 + nw) 1 = a1 := by rw [e7, zu, if_neg (by omega), e5, zu_self]
  have z0 : ∀ q, 2 ≤ q → M7 (60 + nw) q = 0 := fun q hq => by rw [fr _ _ (by omega) (by omega), h.rest _ _ (by omega) (by omega) (by omega) (by omega) (by omega) (by omega) (by omega)]; exact zMi_0 (by omega) (by omega)
  have c12 : M7 0 12 = nI (nw + 1) := by rw [e7, zu_self, e6, q_nI1]
  obtain ⟨⟨o1, o2, o3, o4⟩, p1, p2, p3, p4, p5, p6⟩ := h.ok
  refine ⟨⟨⟨?_, ?_, by rw [c12]; exact q_ixk (by omega) (by decide), ?_⟩, ?_, ?_, ?_, ?_, ?_, ?_⟩, by rw [fr _ _ (by omega) (by omega)]; exact h.c10, by rw [fr _ _ (by omega) (by omega)]; exact h.c11, c12, by rw [fr _ _ (by omega) (by omega)]; exact h.c13, h.lb, h.lf, by omega, by omega, ?_, ?_, ?_, fun f hf => absurd hf (by omega), ?_, ?_⟩
  · rw [fr _ _ (by omega) (by omega)]; exact o1
  · rw [fr _ _ (by omega) (by omega)]; exact o2
  · rw [fr _ _ (by omega) (by omega)]; exact o4
  · intro f hf; rw [fr _ _ (by omega) (by omega)]; exact p1 f hf
  · intro f hf; rw [fr _ _ (by omega) (by omega)]; exact p2 f hf
  · intro f hf
    by_cases e : f = nw
    · subst e; rw [v0]; exact r0.mono (by omega)
    · rw [fr _ _ (by omega) (by omega)]; exact p3 f hf
  · intro f hf; rw [fr _ _ (by omega) (by omega)]; exact p4 f hf
  · intro f hf; rw [fr _ _ (by omega) (by omega)]; exact p5 f hf
  · intro f hf
    by_cases e : f = nw
    · subst e; rw [v1]; exact r1
    · rw [fr _ _ (by omega) (by omega)]; exact p6 f hf
  · intro b hb
    unfold zOb
    rw [fr _ _ (by omega) (by omega), fr _ _ (by omega) (by omega), fr _ _ (by omega) (by omega), fr _ _ (by omega) (by omega), fr _ _ (by omega) (by omega)]
    exact h.bl b hb
  · intro f hf
    exact (h.fa f (by omega)).of (fun q _ => fr _ _ (by omega) (by omega))
  · intro w hw
    by_cases e : w = nw
    · subst e
      unfold zWl
      rw [v0, v1, z0 2 (by omega), z0 3 (by omega), z0 4 (by omega)]
      exact ⟨⟨r0.lt, r1, ⟨by decide, by decide⟩, ⟨by decide, by decide⟩, ⟨by decide, by decide⟩⟩, fun q h1 h2 => z0 q (by omega)⟩
    · obtain ⟨g1, g2⟩ := h.we w (by omega)
      exact ⟨g1.of (fun q _ => fr _ _ (by omega) (by omega)), fun q h1 h2 => by rw [fr _ _ (by omega) (by omega)]; exact g2 q h1 h2⟩
  · intro q hq
    rw [fr _ _ (by omega) (by omega), h.told q hq]
    exact zS_congr (fun b hb => by rw [fr _ _ (by omega) (by omega)])
  · intro i k n0 n1 n2 n3 n4 n5 n6
    rw [fr i k (by omega) (by omega)]
    exact h.rest i k n0 n1 (by omega) (by omega) (by omega) (by omega) (by omega)
set_option maxHeartbeats 4000000 in
theorem zOf.valve {nb nf nw : Nat} {M : zM} (h : zOf nb nf nw 0 M) (N : zM) {k : Nat} (hk : k < nw) {a0 a1 : Int32} (e0 : a0 = nI k) (r1 : z_rg a1 0 9) : zOf nb nf nw 0 (fX8_valve M N a0 a1) := by
  obtain ⟨x1, e1, x2, e2, M3, e3, eF, -⟩ := e_X8_valve M N a0 a1
  rw [eF]
  clear eF
  have lw := h.lw
  have lb := h.lb
  have lf := h.lf
  subst e0
  rw [q_nIn (by omega)] at e3
  have h1 : (0 : Int) ≤ a1.toInt ∧ a1.toInt ≤ 9 := q_rg.mp r1
  have fr : ∀ i q, ¬ (i = 60 + k ∧ q = 2) → M3 i q = M i q := fun i q n1 => by rw [e3, zu, if_neg n1]
  have v2 : M3 (60 + k) 2 = a1 := by rw [e3, zu_self]
  obtain ⟨⟨o1, o2, o3, o4⟩, p1, p2, p3, p4, p5, p6⟩ := h.ok
  refine ⟨⟨⟨?_, ?_, ?_, ?_⟩, ?_, ?_, ?_, ?_, ?_, ?_⟩, by rw [fr _ _ (by omega)]; exact h.c10, by rw [fr _ _ (by omega)]; exact h.c11, by rw [fr _ _ (by omega)]; exact h.c12, by rw [fr _ _ (by omega)]; exact h.c13, h.lb, h.lf, h.lw, h.ls, ?_, ?_, ?_, fun f hf => absurd hf (by omega), ?_, ?_⟩
  · rw [fr _ _ (by omega)]; exact o1
  · rw [fr _ _ (by omega)]; exact o2
  · rw [fr _ _ (by omega)]; exact o3
  · rw [fr _ _ (by omega)]; exact o4
  · intro f hf; rw [fr _ _ (by omega)]; exact p1 f hf
  · intro f hf; rw [fr _ _ (by omega)]; exact p2 f hf
  · intro f hf; rw [fr _ _ (by omega)]; exact p3 f hf
  · intro f hf; rw [fr _ _ (by omega)]; exact p4 f hf
  · intro f hf; rw [fr _ _ (by omega)]; exact p5 f hf
  · intro f hf; rw [fr _ _ (by omega)]; exact p6 f hf
  · intro b hb
    unfold zOb
    rw [fr _ _ (by omega), fr _ _ (by omega), fr _ _ (by omega), fr _ _ (by omega), fr _ _ (by omega)]
    exact h.bl b hb
  · intro f hf
    exact (h.fa f (by omega)).of (fun q _ => fr _ _ (by omega))
  · intro w hw
    obtain ⟨g1, g2⟩ := h.we w hw
    refine ⟨?_, fun q n1 n2 => by rw [fr _ _ (by omega)]; exact g2 q n1 n2⟩
    by_cases e : w = k
    · subst e
      unfold zWl
      rw [v2, fr _ _ (by omega), fr _ _ (by omega), fr _ _ (by omega), fr _ _ (by omega)]
      exact ⟨g1.1, g1.2.1, h1, g1.2.2.2⟩
    · exact g1.of (fun q _ => fr _ _ (by omega))
  · intro q hq
    rw [fr _ _ (by omega), h.told q hq]
    exact zS_congr (fun b hb => by rw [fr _ _ (by omega)])
  · intro i q n0 n1 n2 n3 n4 n5 n6
    rw [fr i q (by omega)]
    exact h.rest i q n0 n1 (by omega) (by omega) (by omega) (by omega) (by omega)
set_option maxHeartbeats 4000000 in
theorem zOf.spring {nb nf nw ns : Nat} {M : zM} (h : zOf nb nf nw ns M) (N : zM) (hn : ns < 3) {a0 a1 a2 : Int32} (r0 : z_ix a0 nb) (r1 : z_rg a1 0 300) (r2 : z_rg a2 0 50) : zOf nb nf nw (ns + 1) (fX8_spring M N a0 a1 a2) := by
  obtain ⟨x1, e1, x2, e2, x3, e3, M4, e4, M5, e5, M6, e6, x7, e7, M8, e8, eF, -⟩ := e_X8_spring M N a0 a1 a2
  rw [eF]
  clear eF
  rw [h.c13] at e3
  subst e3
  rw [q_nIn (by omega)] at e4 e5 e6
  have lb := h.lb
  have lf := h.lf
  have lw := h.lw
  have h1 : (0 : Int) ≤ a1.toInt ∧ a1.toInt ≤ 300 := q_rg.mp r1
  have h2 : (0 : Int) ≤ a2.toInt ∧ a2.toInt ≤ 50 := q_rg.mp r2
  have fr : ∀ i q, ¬ (i = 0 ∧ q = 13) → ¬ (i = 70 + ns ∧ q < 3) → M8 i q = M i q := fun i q n1 n2 => by
    rw [e8, zu, if_neg n1, e6, zu, if_neg (by omega), e5, zu, if_neg (by omega), e4, zu, if_neg (by omega)]
  have v0 : M8 (70 + ns) 0 = a0 := by rw [e8, zu, if_neg (by omega), e6, zu, if_neg (by omega), e5, zu, if_neg (by omega), e4, zu_self]
  have v1 : M8 (70 + ns) 1 = a1 := by rw [e8, zu, if_neg (by omega), e6, zu, if_neg (by omega), e5, zu_self]
  have v2 : M8 (70 + ns) 2 = a2 := by rw [e8, zu, if_neg (by omega), e6, zu_self]
  have z0 : ∀ q, 3 ≤ q → M8 (70 + ns) q = 0 := fun q hq => by rw [fr _ _ (by omega) (by omega), h.rest _ _ (by omega) (by omega) (by omega) (by omega) (by omega) (by omega) (by omega)]; exact zMi_0 (by omega) (by omega)
  have c13 : M8 0 13 = nI (ns + 1) := by rw [e8, zu_self, e7, q_nI1]
  obtain ⟨⟨o1, o2, o3, o4⟩, p1, p2, p3, p4, p5, p6⟩ := h.ok
  refine ⟨⟨⟨?_, ?_, ?_, by rw [c13]; exact q_ixk (by omega) (by decide)⟩, ?_, ?_, ?_, ?_, ?_, ?_⟩, by rw [fr _ _ (by omega) (by omega)]; exact h.c10, by rw [fr _ _ (by omega) (by omega)]; exact h.c11, by rw [fr _ _ (by omega) (by omega)]; exact h.c12, c13, h.lb, h.lf, h.lw, by omega, ?_, ?_, ?_, ?_, ?_, ?_⟩
  · rw [fr _ _ (by omega) (by omega)]; exact o1
  · rw [fr _ _ (by omega) (by omega)]; exact o2
  · rw [fr _ _ (by omega) (by omega)]; exact o3
  · intro f hf; rw [fr _ _ (by omega) (by omega)]; exact p1 f hf
  · intro f hf; rw [fr _ _ (by omega) (by omega)]; exact p2 f hf
  · intro f hf; rw [fr _ _ (by omega) (by omega)]; exact p3 f hf
  · intro f hf
    by_cases e : f = ns
    · subst e; rw [v0]; exact r0.mono (by omega)
    · rw [fr _ _ (by omega) (by omega)]; exact p4 f hf
  · intro f hf; rw [fr _ _ (by omega) (by omega)]; exact p5 f hf
  · intro f hf; rw [fr _ _ (by omega) (by omega)]; exact p6 f hf
  · intro b hb
    unfold zOb
    rw [fr _ _ (by omega) (by omega), fr _ _ (by omega) (by omega), fr _ _ (by omega) (by omega), fr _ _ (by omega) (by omega), fr _ _ (by omega) (by omega)]
    exact h.bl b hb
  · intro f hf
    exact (h.fa f (by omega)).of (fun q _ => fr _ _ (by omega) (by omega))
  · intro w hw
    obtain ⟨g1, g2⟩ := h.we w hw
    exact ⟨g1.of (fun q _ => fr _ _ (by omega) (by omega)), fun q n1 n2 => by rw [fr _ _ (by omega) (by omega)]; exact g2 q n1 n2⟩
  · intro s hs
    by_cases e : s = ns
    · subst e
      unfold zOs
      rw [v0, v1, v2, z0 3 (by omega), z0 4 (by omega), z0 5 (by omega)]
      exact ⟨r0.lt, h1, h2, rfl, rfl, rfl⟩
    · unfold zOs
      rw [fr _ _ (by omega) (by omega), fr _ _ (by omega) (by omega), fr _ _ (by omega) (by omega), fr _ _ (by omega) (by omega), fr _ _ (by omega) (by omega), fr _ _ (by omega) (by omega)]
      exact h.sp s (by omega)
  · intro q hq
    rw [fr _ _ (by omega) (by omega), h.told q hq]
    exact zS_congr (fun b hb => by rw [fr _ _ (by omega) (by omega)])
  · intro i q n0 n1 n2 n3 n4 n5 n6
    rw [fr i q (by omega) (by omega)]
    exact h.rest i q n0 n1 (by omega) (by omega) (by omega) (by omega) (by omega)
