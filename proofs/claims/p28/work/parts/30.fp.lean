/-! ===== doubles: a quotient of whole numbers against whole numbers ===== -/
theorem fq_n64 {a : UInt64} (h : FP.Core.val64 a ≠ .nan) : vf_n64 a := by
  have h1 := (FP.Core.ne_nan a).mp h
  unfold vf_n64
  rw [UInt64.le_iff_toNat_le, UInt64.toNat_and]
  rw [show (0x7fffffffffffffff : UInt64).toNat = 2 ^ 63 - 1 from rfl, Nat.and_two_pow_sub_one_eq_mod]
  exact h1
theorem fq_pow {S V h c d k K a1 a2 b1 b2 : Nat} (hx : c * 2 ^ a1 = S * 2 ^ a2) (hy : d * 2 ^ b1 = V * 2 ^ b2) (hk : k + a2 + b1 = a1 + b2 + K) : (S ≤ h * V → c * 2 ^ k ≤ h * 2 ^ K * d) ∧ (h * V ≤ S → h * 2 ^ K * d ≤ c * 2 ^ k) := by
  have e1 : c * 2 ^ k * (2 ^ a2 * 2 ^ b1) = S * (2 ^ a2 * 2 ^ b2 * 2 ^ K) := by
    have : c * 2 ^ k * (2 ^ a2 * 2 ^ b1) = c * 2 ^ (k + a2 + b1) := by
      rw [Nat.pow_add, Nat.pow_add]
      ac_rfl
    rw [this, hk, Nat.pow_add, Nat.pow_add]
    have : c * (2 ^ a1 * 2 ^ b2 * 2 ^ K) = (c * 2 ^ a1) * (2 ^ b2 * 2 ^ K) := by ac_rfl
    rw [this, hx]
    ac_rfl
  have e2 : h * 2 ^ K * d * (2 ^ a2 * 2 ^ b1) = h * V * (2 ^ a2 * 2 ^ b2 * 2 ^ K) := by
    have : h * 2 ^ K * d * (2 ^ a2 * 2 ^ b1) = (d * 2 ^ b1) * (h * 2 ^ K * 2 ^ a2) := by ac_rfl
    rw [this, hy]
    ac_rfl
  have hp : 0 < 2 ^ a2 * 2 ^ b1 := Nat.mul_pos (Nat.two_pow_pos _) (Nat.two_pow_pos _)
  refine ⟨fun hs => Nat.le_of_mul_le_mul_right ?_ hp, fun hs => Nat.le_of_mul_le_mul_right ?_ hp⟩
  · rw [e1, e2]
    exact Nat.mul_le_mul_right _ hs
  · rw [e1, e2]
    exact Nat.mul_le_mul_right _ hs
theorem fq_signed_false (m : Nat) : FP.Core.signed false m = (m : Int) := rfl
theorem fq_whole {S c : Nat} {s : Bool} {q : Int} (hs : s = false) (h : FP.Core.Whole (S : Int) (.fin s c q)) : c * 2 ^ q.toNat = S * 2 ^ (-q).toNat := by
  subst hs
  have h1 : ((c * 2 ^ q.toNat : Nat) : Int) = (S : Int) * ((2 ^ (-q).toNat : Nat) : Int) := h
  rw [← Int.natCast_mul] at h1
  exact Int.ofNat_inj.mp h1
theorem fq_sign {V d : Nat} {t : Bool} {r : Int} (hV : 0 < V) (h : FP.Core.Whole (V : Int) (.fin t d r)) : t = false ∧ 0 < d := by
  have h1 : FP.Core.signed t (d * 2 ^ r.toNat) = (V : Int) * ((2 ^ (-r).toNat : Nat) : Int) := h
  have h2 : (0 : Int) < (V : Int) * ((2 ^ (-r).toNat : Nat) : Int) := Int.mul_pos (by omega) (by have := Nat.two_pow_pos (-r).toNat; omega)
  cases t with
  | true =>
    rw [show FP.Core.signed true (d * 2 ^ r.toNat) = -((d * 2 ^ r.toNat : Nat) : Int) from rfl] at h1
    omega
  | false =>
    refine ⟨rfl, Nat.pos_of_ne_zero fun e => ?_⟩
    subst e
    rw [Nat.zero_mul, show FP.Core.signed false 0 = 0 from rfl] at h1
    omega
theorem fq_quot {S V h : Nat} {x y D : UInt64} (hx : FP.Core.DInt (S : Int) x) (sx : FP.Core.sgn (FP.Core.val64 x) = false) (hy : FP.Core.DInt (V : Int) y) (hV : 0 < V) (hD : FP.Core.DInt (h : Int) D) :
    FP.Core.val64 (FP.Core.ddiv x y) ≠ .nan ∧ (S ≤ h * V → FP.Core.zval FP.Core.b64 (FP.Core.val64 (FP.Core.ddiv x y)) ≤ FP.Core.zval FP.Core.b64 (FP.Core.val64 D)) ∧ (h * V ≤ S → FP.Core.zval FP.Core.b64 (FP.Core.val64 D) ≤ FP.Core.zval FP.Core.b64 (FP.Core.val64 (FP.Core.ddiv x y))) := by
  have fx := FP.Core.val64_fits x
  have fy := FP.Core.val64_fits y
  have hzD := FP.Core.DInt_zval hD
  have hmD : FP.Core.zmag FP.Core.b64 (FP.Core.val64 D) = h * FP.Core.one64 := by
    have h1 := congrArg Int.natAbs hzD
    unfold FP.Core.zval at h1
    rw [FP.Core.natAbs_signed, ← Int.natCast_mul, Int.natAbs_natCast] at h1
    exact h1
  rw [FP.Core.val64_ddiv]
  unfold FP.Core.DInt at hx hy
  cases hvx : FP.Core.val64 x with
  | nan => rw [hvx] at hx; exact hx.elim
  | inf => rw [hvx] at hx; exact hx.elim
  | fin s c q =>
    cases hvy : FP.Core.val64 y with
    | nan => rw [hvy] at hy; exact hy.elim
    | inf => rw [hvy] at hy; exact hy.elim
    | fin t d r =>
      rw [hvx] at hx fx sx
      rw [hvy] at hy fy
      have hs : s = false := sx
      obtain ⟨ht, hd⟩ := fq_sign hV hy
      have ex := fq_whole hs hx
      have ey := fq_whole ht hy
      subst hs ht
      obtain ⟨-, q1, q2, -⟩ := fx
      obtain ⟨-, r1, r2, -⟩ := fy
      have m1 : FP.Core.b64.qmin = -1074 := by decide
      have m2 : FP.Core.b64.qmax = 971 := by decide
      have hR : FP.Core.quotient FP.Core.b64 (.fin false c q) (.fin false d r) = FP.Core.roundRatio FP.Core.b64 false c d (q - r) := by
        show (if d = 0 then _ else _) = _
        rw [if_neg (by omega)]
        rfl
      rw [hR]
      have hz : FP.Core.zval FP.Core.b64 (FP.Core.roundRatio FP.Core.b64 false c d (q - r)) = ((FP.Core.zmag FP.Core.b64 (FP.Core.roundRatio FP.Core.b64 false c d (q - r)) : Nat) : Int) := by
        unfold FP.Core.zval
        rw [FP.Core.sgn_roundRatio]
        rfl
      have hzD2 : FP.Core.zval FP.Core.b64 (FP.Core.val64 D) = ((h * FP.Core.one64 : Nat) : Int) := by rw [hzD, Int.natCast_mul]
      have hP := fq_pow (h := h) (k := (q - r + 5000).toNat) (K := 5000) ex ey (by omega)
      have hu : FP.Core.inUnits c (q - r) (-5000) = c * 2 ^ (q - r + 5000).toNat := by
        unfold FP.Core.inUnits
        rw [show (q - r - -5000 : Int) = q - r + 5000 by omega]
      have hw : h * FP.Core.one64 * 2 ^ (FP.Core.b64.qmin - (-5000)).toNat * d = h * 2 ^ 5000 * d := by
        rw [m1, show ((-1074 : Int) - (-5000)).toNat = 3926 from rfl]
        unfold FP.Core.one64
        rw [Nat.mul_assoc h, ← Nat.pow_add]
      refine ⟨FP.Core.roundRatio_ne_nan _ _ _ _ _, fun hS => ?_, fun hS => ?_⟩
      · rw [hz, hzD2]
        have h1 := FP.Core.zmag_roundRatio_le FP.Core.good_b64 (s := false) (A := c) (B := d) (e := q - r) (e0 := -5000) (V := FP.Core.val64 D) hd (FP.Core.val64_fits D) (FP.Core.DInt_ne_nan hD) (by omega) (by omega) (by rw [hmD, hu, hw]; exact hP.1 hS)
        rw [hmD] at h1
        exact Int.ofNat_le.mpr h1
      · rw [hz, hzD2]
        have h1 := FP.Core.zmag_roundRatio_ge FP.Core.good_b64 (s := false) (A := c) (B := d) (e := q - r) (e0 := -5000) (V := FP.Core.val64 D) hd (FP.Core.val64_fits D) (by omega) (by omega) (by rw [hmD, hu, hw]; exact hP.2 hS)
        rw [hmD] at h1
        exact Int.ofNat_le.mpr h1
theorem fq_cmp_gt {a b : Int} (h : b < a) : compare a b = .gt := by
  simp only [compare, compareOfLessAndEq]
  rw [if_neg (by omega), if_neg (by omega)]
theorem fq_cmp_lt {a b : Int} (h : a < b) : compare a b = .lt := by
  simp only [compare, compareOfLessAndEq]
  rw [if_pos h]
theorem fq_dcmp {x y : UInt64} (nx : FP.Core.val64 x ≠ .nan) (ny : FP.Core.val64 y ≠ .nan) : FP.Core.dcmp x y = some (compare (FP.Core.zval FP.Core.b64 (FP.Core.val64 x)) (FP.Core.zval FP.Core.b64 (FP.Core.val64 y))) :=
  FP.Core.order_zval FP.Core.good_b64 (FP.Core.val64_fits x) (FP.Core.val64_fits y) nx ny
abbrev fq_c : UInt64 := 4562254508917369340
theorem fq_low : ∀ n, n < 401 → FP.Core.val64 (FP.Core.dsub (FP.Core.i2d (nI n)) fq_c) ≠ .nan ∧ FP.Core.zval FP.Core.b64 (FP.Core.val64 (FP.Core.dsub (FP.Core.i2d (nI n)) fq_c)) < ((n * FP.Core.one64 : Nat) : Int) := by decide +kernel
theorem fq_V (N : Nat) (h0 : 0 < N) (h : N < 2 ^ 53) : ∃ V : FP.Core.Datum, FP.Core.fits FP.Core.b64 V ∧ V ≠ .nan ∧ FP.Core.zval FP.Core.b64 V = ((N * 2 ^ 1062 : Nat) : Int) := by
  have hN : N ≠ 0 := by omega
  have l1 := Nat.log2_self_le hN
  have l2 : N < 2 ^ (N.log2 + 1) := Nat.lt_log2_self
  have l3 : N.log2 < 53 := (Nat.log2_lt hN).mpr h
  obtain ⟨k, hk⟩ : ∃ k, k + N.log2 = 52 := ⟨52 - N.log2, by omega⟩
  have c1 : 2 ^ 52 ≤ N * 2 ^ k := by
    rw [← hk, Nat.pow_add, Nat.mul_comm]
    exact Nat.mul_le_mul_right _ l1
  have c2 : N * 2 ^ k < 2 ^ 53 := by
    have : 2 ^ 53 = 2 ^ (N.log2 + 1) * 2 ^ k := by rw [← Nat.pow_add]; congr 1; omega
    rw [this]
    exact Nat.mul_lt_mul_of_pos_right l2 (Nat.two_pow_pos _)
  have m1 : FP.Core.b64.qmin = -1074 := by decide
  have m2 : FP.Core.b64.qmax = 971 := by decide
  have m3 : FP.Core.b64.tails = 2 ^ 52 := by decide
  refine ⟨.fin false (N * 2 ^ k) (-12 - (k : Int)), ⟨c2, by omega, by omega, Or.inr (by rw [m3]; exact c1)⟩, (fun e => by cases e), ?_⟩
  show ((FP.Core.inUnits (N * 2 ^ k) (-12 - (k : Int)) FP.Core.b64.qmin : Nat) : Int) = _
  unfold FP.Core.inUnits
  rw [m1, show (-12 - (k : Int) - -1074).toNat = 1062 - k by omega, Nat.mul_assoc, ← Nat.pow_add, show k + (1062 - k) = 1062 by omega]
theorem fq_c_val : FP.Core.val64 fq_c ≠ .nan ∧ ((2 ^ 1062 : Nat) : Int) ≤ FP.Core.zval FP.Core.b64 (FP.Core.val64 fq_c) ∧ (∃ s c q, FP.Core.val64 fq_c = .fin s c q) := by
  refine ⟨by decide +kernel, by decide +kernel, ?_⟩
  cases h : FP.Core.val64 fq_c with
  | nan => exact absurd h (by decide +kernel)
  | inf s => exact absurd h (by cases s <;> decide +kernel)
  | fin s c q => exact ⟨s, c, q, rfl⟩
theorem fq_fin {i : Int} {x : UInt64} (h : FP.Core.DInt i x) : ∃ s c q, FP.Core.val64 x = .fin s c q := by
  unfold FP.Core.DInt at h
  cases hv : FP.Core.val64 x with
  | nan => rw [hv] at h; exact h.elim
  | inf => rw [hv] at h; exact h.elim
  | fin s c q => exact ⟨s, c, q, rfl⟩
theorem fq_high (n : Nat) (hn : n ≤ 500000) {x : UInt64} (hx : FP.Core.DInt (n : Int) x) : FP.Core.val64 (FP.Core.dadd x fq_c) ≠ .nan ∧ FP.Core.zval FP.Core.b64 (FP.Core.val64 x) < FP.Core.zval FP.Core.b64 (FP.Core.val64 (FP.Core.dadd x fq_c)) := by
  obtain ⟨V, v1, v2, v3⟩ := fq_V (4096 * n + 1) (by omega) (by omega)
  have hzx := FP.Core.DInt_zval hx
  obtain ⟨-, c2, c3⟩ := fq_c_val
  have ho : (FP.Core.one64 : Int) = 4096 * ((2 ^ 1062 : Nat) : Int) := by
    unfold FP.Core.one64
    rw [show (1074 : Nat) = 12 + 1062 from rfl, Nat.pow_add, Int.natCast_mul]
    rfl
  have hv : ((((4096 * n + 1) * 2 ^ 1062 : Nat)) : Int) = 4096 * ((n : Int) * ((2 ^ 1062 : Nat) : Int)) + ((2 ^ 1062 : Nat) : Int) := by
    rw [Int.natCast_mul]
    generalize ((2 ^ 1062 : Nat) : Int) = P
    rw [show ((4096 * n + 1 : Nat) : Int) = 4096 * (n : Int) + 1 by omega, Int.add_mul, Int.one_mul, Int.mul_assoc]
  have hpos : (0 : Int) < ((2 ^ 1062 : Nat) : Int) := by
    have := Nat.two_pow_pos 1062
    generalize 2 ^ 1062 = P at this ⊢
    omega
  rw [ho] at hzx
  have hx2 : FP.Core.zval FP.Core.b64 (FP.Core.val64 x) = 4096 * ((n : Int) * ((2 ^ 1062 : Nat) : Int)) := by
    rw [hzx]
    generalize ((2 ^ 1062 : Nat) : Int) = P
    rw [← Int.mul_assoc, ← Int.mul_assoc, Int.mul_comm (n : Int)]
  rw [hv] at v3
  rw [FP.Core.val64_dadd]
  have hs := FP.Core.sum_ge FP.Core.good_b64 (fq_fin hx) c3 (FP.Core.val64_fits x) (FP.Core.val64_fits fq_c) v1 v2 (by
    rw [v3, hx2]
    generalize ((2 ^ 1062 : Nat) : Int) = P at *
    omega)
  refine ⟨?_, ?_⟩
  · obtain ⟨s, c, q, h1⟩ := fq_fin hx
    obtain ⟨t, d, r, h2⟩ := c3
    rw [h1, h2]
    exact FP.Core.roundRatio_ne_nan _ _ _ _ _
  · rw [v3] at hs
    rw [hx2]
    generalize ((2 ^ 1062 : Nat) : Int) = P at *
    omega
/-- the mean is above what is less than the least, and below what is more than the greatest -/
theorem fq_mean {S V : Int64} (hS : 0 ≤ S.toInt ∧ S.toInt ≤ 9007199254740992) (hV : 0 < V.toInt ∧ V.toInt ≤ 9007199254740992) :
    vf_n64 (FP.ddiv (FP.l2d S) (FP.l2d V)) ∧
    (∀ n : Int32, 0 ≤ n.toInt → n.toInt ≤ 400 → n.toInt * V.toInt ≤ S.toInt → vf_n64 (FP.dsub (FP.i2d n) fq_c) ∧ FP.dcmp (FP.ddiv (FP.l2d S) (FP.l2d V)) (FP.dsub (FP.i2d n) fq_c) = some .gt) ∧
    (∀ n : Int32, 0 ≤ n.toInt → n.toInt ≤ 500000 → S.toInt ≤ n.toInt * V.toInt → vf_n64 (FP.dadd (FP.i2d n) fq_c) ∧ FP.dcmp (FP.ddiv (FP.l2d S) (FP.l2d V)) (FP.dadd (FP.i2d n) fq_c) = some .lt) := by
  obtain ⟨s, hs⟩ := Int.eq_ofNat_of_zero_le hS.1
  obtain ⟨v, hv⟩ := Int.eq_ofNat_of_zero_le (Int.le_of_lt hV.1)
  have hx : FP.Core.DInt (s : Int) (FP.Core.l2d S) := by rw [← hs]; exact FP.Core.l2d_int (by omega)
  have hy : FP.Core.DInt (v : Int) (FP.Core.l2d V) := by rw [← hv]; exact FP.Core.l2d_int (by omega)
  have sx : FP.Core.sgn (FP.Core.val64 (FP.Core.l2d S)) = false := by
    rw [FP.Core.val64_l2d]
    show FP.Core.sgn (FP.Core.roundRatio FP.Core.b64 (decide (S.toInt < 0)) _ 1 0) = false
    rw [FP.Core.sgn_roundRatio, decide_eq_false (by omega)]
  refine ⟨fq_n64 (fq_quot (h := 0) (D := FP.Core.i2d 0) hx sx hy (by omega) (FP.Core.i2d_int 0)).1, fun n n0 n4 hn => ?_, fun n n0 n5 hn => ?_⟩
  · obtain ⟨k, hk⟩ := Int.eq_ofNat_of_zero_le n0
    have e : n = nI k := by
      apply Int32.toInt_inj.mp
      rw [nI_toInt (by omega)]
      exact hk
    have hD : FP.Core.DInt (k : Int) (FP.Core.i2d n) := by rw [← hk]; exact FP.Core.i2d_int n
    obtain ⟨q1, -, q3⟩ := fq_quot hx sx hy (by omega) hD
    rw [hk, hv, hs, ← Int.natCast_mul] at hn
    have q3 := q3 (Int.ofNat_le.mp hn)
    obtain ⟨l1, l2⟩ := fq_low k (by omega)
    rw [← e] at l1 l2
    rw [FP.Core.DInt_zval hD, ← Int.natCast_mul] at q3
    refine ⟨fq_n64 l1, ?_⟩
    refine (fq_dcmp q1 l1).trans ?_
    rw [fq_cmp_gt (by omega)]
  · obtain ⟨k, hk⟩ := Int.eq_ofNat_of_zero_le n0
    have hD : FP.Core.DInt (k : Int) (FP.Core.i2d n) := by rw [← hk]; exact FP.Core.i2d_int n
    obtain ⟨q1, q2, -⟩ := fq_quot hx sx hy (by omega) hD
    rw [hk, hv, hs, ← Int.natCast_mul] at hn
    have q2 := q2 (Int.ofNat_le.mp hn)
    obtain ⟨l1, l2⟩ := fq_high k (by omega) hD
    refine ⟨fq_n64 l1, ?_⟩
    refine (fq_dcmp q1 l1).trans ?_
    rw [fq_cmp_lt (by omega)]
