/-! ===== what copying a land does, in words: all ints but the load's ===== -/
def z_cq (N : zM) (P : Nat → Nat → Prop) (X : zM → zM) : Prop := ∀ M a q, (X M a q = N a q ∨ X M a q = M a q) ∧ (P a q → X M a q = N a q)
theorem z_cq.u {N : zM} (i k : Nat) : z_cq N (fun a q => a = i ∧ q = k) (fun M => zu M i k (N i k)) := by
  intro M a q
  by_cases h : a = i ∧ q = k
  · obtain ⟨rfl, rfl⟩ := h
    simp [zu]
  · simp [zu, h]
theorem z_cq.c {N : zM} {P P' : Nat → Nat → Prop} {X Y : zM → zM} (h : z_cq N P X) (h' : z_cq N P' Y) : z_cq N (fun a q => P a q ∨ P' a q) (fun M => Y (X M)) := by
  intro M a q
  obtain ⟨h1, h2⟩ := h M a q
  obtain ⟨h3, h4⟩ := h' (X M) a q
  refine ⟨?_, ?_⟩
  · rcases h3 with h3 | h3
    · exact Or.inl h3
    · rcases h1 with h1 | h1
      · exact Or.inl (h3.trans h1)
      · exact Or.inr (h3.trans h1)
  · rintro (h5 | h5)
    · rcases h3 with h3 | h3
      · exact h3
      · exact h3.trans (h2 h5)
    · exact h4 h5
theorem z_cq.w {N : zM} {P P' : Nat → Nat → Prop} {X : zM → zM} (h : z_cq N P X) (hp : ∀ a q, P' a q → P a q) : z_cq N P' X := fun M a q => ⟨(h M a q).1, fun hq => (h M a q).2 (hp a q hq)⟩
theorem z_cq.id {N : zM} : z_cq N (fun _ _ => False) (fun M => M) := fun _ _ _ => ⟨Or.inr rfl, fun h => h.elim⟩
theorem z_cq.it {N : zM} {P : Nat → Nat → Nat → Prop} {f : Nat → zM → zM} (h : ∀ k, z_cq N (P k) (f k)) : ∀ n, z_cq N (fun a q => ∃ k, k < n ∧ P k a q) (zit f n)
  | 0 => fun M a q => ⟨Or.inr (by rw [zit_0]), fun ⟨k, hk, _⟩ => absurd hk (Nat.not_lt_zero k)⟩
  | n + 1 => by
    have e : zit f (n + 1) = fun M => f n (zit f n M) := by funext M; exact zit_s f n M
    rw [e]
    exact (((z_cq.it h n).c (h n)).w (fun a q ⟨k, hk, hp⟩ => by
      by_cases e : k = n
      · subst e
        exact Or.inr hp
      · exact Or.inl ⟨k, by omega, hp⟩))
theorem z_cq.row {N : zM} (i n : Nat) : z_cq N (fun a q => a = i ∧ q < n) (fun M => zrow M i (va_cpy (N i) (M i) 0 0 n)) := by
  intro M a q
  by_cases h : a = i
  · subst h
    by_cases hq : q < n
    · simp [zrow, va_cpy, hq]
    · simp [zrow, va_cpy, hq]
  · simp [zrow, h]
theorem cq_6 {N : zM} (i : Nat) : z_cq N (fun a q => a = i ∧ q < 4) (fun M => fX6_copyFrom M N i i) :=
  ((((z_cq.u i 0).c (z_cq.u i 1)).c (z_cq.u i 2)).c (z_cq.u i 3)).w (fun a q h => by omega)
theorem cq_0 {N : zM} (b : Nat) : z_cq N (fun a q => (a = 30 + b ∧ q < 4) ∨ (a = 20 + b ∧ (q = 1 ∨ q = 2))) (fun M => fX0_copyFrom M N b b) :=
  (((cq_6 (30 + b)).c (z_cq.u (20 + b) 1)).c (z_cq.u (20 + b) 2)).w (fun a q h => by omega)
theorem cq_2 {N : zM} (b : Nat) : z_cq N (fun a q => a = 40 + b ∧ q < 4) (fun M => fX2_copyFrom M N b b) :=
  ((((z_cq.u (40 + b) 0).c (z_cq.u (40 + b) 1)).c (z_cq.u (40 + b) 2)).c (z_cq.u (40 + b) 3)).w (fun a q h => by omega)
theorem cq_7 {N : zM} (b : Nat) : z_cq N (fun a q => a = 60 + b ∧ q < 9) (fun M => fX7_copyFrom M N b b) :=
  (((((((((z_cq.u (60 + b) 0).c (z_cq.u (60 + b) 1)).c (z_cq.u (60 + b) 2)).c (z_cq.u (60 + b) 3)).c (z_cq.u (60 + b) 4)).c (z_cq.u (60 + b) 5)).c (z_cq.u (60 + b) 6)).c (z_cq.u (60 + b) 7)).c (z_cq.u (60 + b) 8)).w (fun a q h => by omega)
theorem cq_5 {N : zM} (b : Nat) : z_cq N (fun a q => a = 70 + b ∧ q < 7) (fun M => fX5_copyFrom M N b b) :=
  (((((((z_cq.u (70 + b) 0).c (z_cq.u (70 + b) 1)).c (z_cq.u (70 + b) 2)).c (z_cq.u (70 + b) 3)).c (z_cq.u (70 + b) 4)).c (z_cq.u (70 + b) 5)).c (z_cq.u (70 + b) 6)).w (fun a q h => by omega)
theorem cq_4 {N : zM} : z_cq N (fun a q => a = 6 ∧ q < 6) (fun M => fX4_copyFrom M N) :=
  ((((((z_cq.u 6 0).c (z_cq.u 6 1)).c (z_cq.u 6 2)).c (z_cq.u 6 3)).c (z_cq.u 6 4)).c (z_cq.u 6 5)).w (fun a q h => by omega)
theorem cq_1 {N : zM} : z_cq N (fun a q => ((a = 11 ∨ a = 12 ∨ a = 13) ∧ q < 4) ∨ (a = 7 ∧ (q = 3 ∨ q = 4))) (fun M => fX1_copyFrom M N) :=
  (((((cq_6 11).c (cq_6 12)).c (cq_6 13)).c (z_cq.u 7 3)).c (z_cq.u 7 4)).w (fun a q h => by omega)
/-- the places that hold ints -/
def z_int (a q : Nat) : Prop := (zk a < 100 ∧ (zf (zk a))[q]? = some false) ∨ (zk a = 100 ∧ q < zn a)
theorem zf_len (k : Nat) : (zf k).length ≤ 15 := by
  unfold zf
  split <;> decide
theorem zk_out {a : Nat} (h : 73 ≤ a) : zk a = 999 := by
  unfold zk
  repeat rw [if_neg (by omega)]
theorem zn_le (a : Nat) : zn a ≤ 12 := by
  unfold zn
  repeat (split; decide)
  decide
def z_ints (a q : Nat) : Prop := ((((((((((((a = 0 ∧ 10 ≤ q ∧ q < 15) ∨ (a = 5 ∧ q < 4)) ∨ (a = 6 ∧ q < 6)) ∨ (a = 7 ∧ (q = 3 ∨ q = 4))) ∨ (a = 8 ∧ q < 2)) ∨ (a = 9 ∧ q < 4)) ∨ (10 ≤ a ∧ a < 14 ∧ q < 4)) ∨ (20 ≤ a ∧ a < 28 ∧ (q = 1 ∨ q = 2))) ∨ (30 ≤ a ∧ a < 38 ∧ q < 4)) ∨ (40 ≤ a ∧ a < 52 ∧ q < 4)) ∨ (60 ≤ a ∧ a < 66 ∧ q < 9)) ∨ (70 ≤ a ∧ a < 73 ∧ q < 7))
theorem z_int_tab : (List.range 73).all (fun a => (List.range 15).all (fun q => !(decide (zk a < 100) && decide ((zf (zk a))[q]? = some false) || decide (zk a = 100) && decide (q < zn a)) || (decide (a = 0 ∧ 10 ≤ q ∧ q < 15) || decide (a = 5 ∧ q < 4) || decide (a = 6 ∧ q < 6) || decide (a = 7 ∧ (q = 3 ∨ q = 4)) || decide (a = 8 ∧ q < 2) || decide (a = 9 ∧ q < 4) || decide (10 ≤ a ∧ a < 14 ∧ q < 4) || decide (20 ≤ a ∧ a < 28 ∧ (q = 1 ∨ q = 2)) || decide (30 ≤ a ∧ a < 38 ∧ q < 4) || decide (40 ≤ a ∧ a < 52 ∧ q < 4) || decide (60 ≤ a ∧ a < 66 ∧ q < 9) || decide (70 ≤ a ∧ a < 73 ∧ q < 7)))) = true := by decide +kernel
theorem z_int_c {a q : Nat} (h : z_int a q) : z_ints a q := by
  have ha : a < 73 := by
    rcases Nat.lt_or_ge a 73 with h1 | h1
    · exact h1
    · have := zk_out h1
      rcases h with ⟨h2, -⟩ | ⟨h2, -⟩ <;> omega
  have hq : q < 15 := by
    rcases h with ⟨-, h2⟩ | ⟨-, h2⟩
    · have := (List.getElem?_eq_some_iff.mp h2).1
      exact Nat.lt_of_lt_of_le this (zf_len _)
    · have := zn_le a
      omega
  have h1 := List.all_eq_true.mp (List.all_eq_true.mp z_int_tab a (List.mem_range.mpr ha)) q (List.mem_range.mpr hq)
  have h2 : (decide (zk a < 100) && decide ((zf (zk a))[q]? = some false) || decide (zk a = 100) && decide (q < zn a)) = true := by
    rcases h with ⟨h2, h3⟩ | ⟨h2, h3⟩
    · simp [h2, h3]
    · simp [h2, h3]
  rw [h2] at h1
  simp only [Bool.not_true, Bool.false_or, Bool.or_eq_true, decide_eq_true_eq] at h1
  exact h1
/-- the same ints, but for the load -/
def z_eq10 (M' M : zM) : Prop := ∀ a q, a ≠ 10 → z_int a q → M' a q = M a q
theorem cp_X3 (M N : zM) : z_eq10 (fX3_copyFrom M N) N := by
  have h := (((((((((((((((z_cq.it (N := N) (f := bX3_copyFrom_2 N) cq_0 8).c (z_cq.it (f := bX3_copyFrom_31 N) cq_2 12)).c (z_cq.it (f := bX3_copyFrom_60 N) cq_7 6)).c (z_cq.it (f := bX3_copyFrom_89 N) cq_5 3)).c (cq_6 5)).c cq_4).c cq_1).c (z_cq.row 8 2)).c (z_cq.row 9 4)).c (z_cq.u 0 10)).c (z_cq.u 0 11)).c (z_cq.u 0 12)).c (z_cq.u 0 13)).c (z_cq.u 0 14)))
  intro a q ha hq
  refine (h M a q).2 ?_
  have hc := z_int_c hq
  unfold z_ints at hc
  rcases hc with ((((((((((hc | hc) | hc) | hc) | hc) | hc) | hc) | hc) | hc) | hc) | hc) | hc
  · obtain ⟨h1, h2, h3⟩ := hc
    subst h1
    rcases (show q = 10 ∨ q = 11 ∨ q = 12 ∨ q = 13 ∨ q = 14 by omega) with h | h | h | h | h <;> subst h
    · exact Or.inl (Or.inl (Or.inl (Or.inl (Or.inr ⟨rfl, rfl⟩))))
    · exact Or.inl (Or.inl (Or.inl (Or.inr ⟨rfl, rfl⟩)))
    · exact Or.inl (Or.inl (Or.inr ⟨rfl, rfl⟩))
    · exact Or.inl (Or.inr ⟨rfl, rfl⟩)
    · exact Or.inr ⟨rfl, rfl⟩
  · exact Or.inl (Or.inl (Or.inl (Or.inl (Or.inl (Or.inl (Or.inl (Or.inl (Or.inl (Or.inr hc)))))))))
  · exact Or.inl (Or.inl (Or.inl (Or.inl (Or.inl (Or.inl (Or.inl (Or.inl (Or.inr hc))))))))
  · exact Or.inl (Or.inl (Or.inl (Or.inl (Or.inl (Or.inl (Or.inl (Or.inr (Or.inr hc))))))))
  · exact Or.inl (Or.inl (Or.inl (Or.inl (Or.inl (Or.inl (Or.inr hc))))))
  · exact Or.inl (Or.inl (Or.inl (Or.inl (Or.inl (Or.inr hc)))))
  · exact Or.inl (Or.inl (Or.inl (Or.inl (Or.inl (Or.inl (Or.inl (Or.inr (Or.inl ⟨by omega, hc.2.2⟩))))))))
  · exact Or.inl (Or.inl (Or.inl (Or.inl (Or.inl (Or.inl (Or.inl (Or.inl (Or.inl (Or.inl (Or.inl (Or.inl (Or.inl (⟨a - 20, by omega, Or.inr ⟨by omega, hc.2.2⟩⟩)))))))))))))
  · exact Or.inl (Or.inl (Or.inl (Or.inl (Or.inl (Or.inl (Or.inl (Or.inl (Or.inl (Or.inl (Or.inl (Or.inl (Or.inl (⟨a - 30, by omega, Or.inl ⟨by omega, hc.2.2⟩⟩)))))))))))))
  · exact Or.inl (Or.inl (Or.inl (Or.inl (Or.inl (Or.inl (Or.inl (Or.inl (Or.inl (Or.inl (Or.inl (Or.inl (Or.inr ⟨a - 40, by omega, by omega, hc.2.2⟩))))))))))))
  · exact Or.inl (Or.inl (Or.inl (Or.inl (Or.inl (Or.inl (Or.inl (Or.inl (Or.inl (Or.inl (Or.inl (Or.inr ⟨a - 60, by omega, by omega, hc.2.2⟩)))))))))))
  · exact Or.inl (Or.inl (Or.inl (Or.inl (Or.inl (Or.inl (Or.inl (Or.inl (Or.inl (Or.inl (Or.inr ⟨a - 70, by omega, by omega, hc.2.2⟩))))))))))
theorem z_int_o {a q c : Nat} (h : zk a = c) (hc : c < 100) (hf : (zf c)[q]? = some false) : z_int a q := Or.inl ⟨by rw [h]; exact hc, by rw [h]; exact hf⟩
theorem z_Ok.e10 {M M' : zM} (h : z_Ok M) (hf : z_eq10 M' M) : z_Ok M' := by
  obtain ⟨⟨a1, a2, a3, a4⟩, b1, b2, b3, b4, b5, b6⟩ := h
  refine ⟨⟨?_, ?_, ?_, ?_⟩, ?_, ?_, ?_, ?_, ?_, ?_⟩
  · rw [hf 0 10 (by decide) (z_int_o zk_0 (by decide) rfl)]; exact a1
  · rw [hf 0 11 (by decide) (z_int_o zk_0 (by decide) rfl)]; exact a2
  · rw [hf 0 12 (by decide) (z_int_o zk_0 (by decide) rfl)]; exact a3
  · rw [hf 0 13 (by decide) (z_int_o zk_0 (by decide) rfl)]; exact a4
  · intro f h; rw [hf (40 + f) 0 (by omega) (z_int_o (zk_f h) (by decide) rfl)]; exact b1 f h
  · intro f h; rw [hf (40 + f) 1 (by omega) (z_int_o (zk_f h) (by decide) rfl)]; exact b2 f h
  · intro f h; rw [hf (60 + f) 0 (by omega) (z_int_o (zk_v h) (by decide) rfl)]; exact b3 f h
  · intro f h; rw [hf (70 + f) 0 (by omega) (z_int_o (zk_s h) (by decide) rfl)]; exact b4 f h
  · intro f h; rw [hf (20 + f) 2 (by omega) (z_int_o (zk_b h) (by decide) rfl)]; exact b5 f h
  · intro f h; rw [hf (60 + f) 1 (by omega) (z_int_o (zk_v h) (by decide) rfl)]; exact b6 f h
theorem ok_X3_copyFrom (M N : zM) (h : z_Ok N) : z_Ok (fX3_copyFrom M N) := h.e10 (cp_X3 M N)
